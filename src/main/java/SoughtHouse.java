import java.util.Arrays;

/** A house whose lodgers may sleep there only while they are looked for elsewhere; README.md tells how to use it. */
public final class SoughtHouse {
    public static final int NONE = -1;

    private static final int ABSENT = -2;
    private static final int REFUSED = -3;

    private static final int MOST_BYTES = 400;
    private static final int FED_BYTES = 20;
    private static final int MOST_LODGERS = 6;
    private static final int MOST_RULES = 6;
    private static final int MOST_IMAGES = 4;
    private static final int MOST_NOTES = 10;
    private static final int MOST_ACTS = 20;
    private static final int MOST_TORCHES = 7;
    private static final int DAY = 12;
    private static final int LAST_HOUR = 999;
    private static final int MOST_TIRED = 99;
    private static final int MOST_PENCE = 999;

    private static final int MOST_AHEAD = 100;
    private static final int RESTED_HOURS = 200;
    private static final int TOO_TIRED = 40;
    private static final int NOTED_HOURS = 60;
    private static final int SEEN_HOURS = NOTED_HOURS + 1;

    // The words that are VALUES come first, so that a word's number is also the place of its value in a Walk's row.
    private static final String WORDS =
            "lodger other tired othertired pence otherpence dear back seekers inside torches clock hour house count seek if and or not ";
    private static final int LODGER_WORD = 0;
    private static final int OTHER_WORD = 1;
    private static final int TIRED_WORD = 2;
    private static final int OTHERTIRED_WORD = 3;
    private static final int PENCE_WORD = 4;
    private static final int OTHERPENCE_WORD = 5;
    private static final int DEAR_WORD = 6;
    private static final int BACK_WORD = 7;
    private static final int SEEKERS_WORD = 8;
    private static final int INSIDE_WORD = 9;
    private static final int TORCHES_WORD = 10;
    private static final int CLOCK_WORD = 11;
    private static final int HOUR_WORD = 12;
    private static final int VALUE_WORDS = 13;
    private static final int HOUSE_WORD = 13;
    private static final int COUNT_WORD = 14;
    private static final int SEEK_WORD = 15;
    private static final int IF_WORD = 16;
    private static final int AND_WORD = 17;
    private static final int OR_WORD = 18;
    private static final int NOT_WORD = 19;

    // A sign's number is also its operation in a Rule's code; numbers are kept there above all of these.
    private static final int ADD = 20;
    private static final int SUBTRACT = 21;
    private static final int MULTIPLY = 22;
    private static final int DIVIDE = 23;
    private static final int REST = 24;
    private static final int BELOW = 25;
    private static final int AT_MOST = 26;
    private static final int SAME = 27;
    private static final int AT_LEAST = 28;
    private static final int ABOVE = 29;
    private static final int NOT = 30;
    private static final int AND = 31;
    private static final int OR = 32;
    private static final int ANSWER = 33;
    private static final int ANSWER_IF = 34;
    private static final int OPEN = 35;
    private static final int CLOSE = 36;
    private static final int SEMICOLON = 37;
    private static final int STRANGE = 38;
    private static final int NUMBERS = 40;

    private final Tape tape;
    private final Reader reader;
    private final House told;
    /** The first stands for no RULE; RULE k is at k + 1. */
    private final Rule[] rules;
    private int ruleCount;
    private final World world;
    private final World[] images;
    private final boolean[] made;
    private final Acts acts;
    private final Walk walk;
    /** Whom each lodger seeks in the best row. */
    private final int[] row;
    /** How tired two are behind each of their games. */
    private final int[] games;
    /** What was seen at each hour, by each of the rules. */
    private final int[] seen;

    public SoughtHouse() {
        tape = new Tape();
        reader = new Reader(tape);
        told = new House();
        rules = new Rule[MOST_RULES + 1];
        for (int k = 0; k <= MOST_RULES; k++) {
            rules[k] = new Rule();
        }
        // Without a RULE lodgers seek just as they would by this one.
        rules[0].add(OTHERTIRED_WORD);
        rules[0].add(ANSWER);
        ruleCount = 0;
        world = new World();
        images = new World[MOST_IMAGES];
        for (int k = 0; k < MOST_IMAGES; k++) {
            images[k] = new World();
        }
        made = new boolean[MOST_IMAGES];
        acts = new Acts();
        walk = new Walk(world.house, rules[0]);
        row = new int[MOST_LODGERS];
        games = new int[MOST_LODGERS * MOST_LODGERS * 2];
        seen = new int[(MOST_RULES + 1) * SEEN_HOURS];
    }

    // ---- texts

    public int feed(int a, int b, int c, int d, int e) {
        if (tape.length + FED_BYTES > MOST_BYTES) {
            return NONE;
        }
        tape.addNumber(a);
        tape.addNumber(b);
        tape.addNumber(c);
        tape.addNumber(d);
        tape.addNumber(e);
        return tape.length;
    }

    public int end(int n) {
        if (n < 0 || n > tape.length) {
            return NONE;
        }
        tape.length = n;
        return n;
    }

    public int house() {
        reader.readHouse(told);
        tape.length = 0;
        if (reader.fault != 0) {
            return ABSENT - reader.fault;
        }
        world.house.take(told);
        world.night.begin(told);
        world.notes.size = 0;
        acts.forget();
        return told.lodgers;
    }

    public int rule() {
        if (ruleCount >= MOST_RULES) {
            return NONE;
        }
        reader.readRule(rules[ruleCount + 1]);
        tape.length = 0;
        if (reader.fault != 0) {
            return ABSENT - reader.fault;
        }
        ruleCount++;
        return ruleCount - 1;
    }

    public int force(int rule) {
        if (rule < NONE || rule >= ruleCount) {
            return ABSENT;
        }
        int before = world.force;
        world.force = rule;
        return before;
    }

    // ---- what is

    public int lodger(int lodger, int what) {
        if (!isLodger(lodger)) {
            return ABSENT;
        }
        Night night = world.night;
        switch (what) {
            case 0:
                return night.tired[lodger];
            case 1:
                return night.pence[lodger];
            case 2:
                return night.isIn(lodger) ? 1 : 0;
            case 3:
                return night.seeks[lodger];
            case 4:
                return night.slept[lodger];
            default:
                return ABSENT;
        }
    }

    public int dear(int lodger, int other) {
        if (!areUnlike(lodger, other)) {
            return NONE;
        }
        return world.house.dearness(lodger, other);
    }

    public int count(int what) {
        switch (what) {
            case 0:
                return world.house.sleep;
            case 1:
                return world.house.torches;
            case 2:
                return world.house.lodgers;
            case 3:
                return ruleCount;
            case 4:
                return world.force;
            case 5:
                return world.night.hours;
            case 6:
                return world.night.inside;
            case 7:
                return world.house.countsAt(world.night.hours) ? 1 : 0;
            case 8:
                return sum(world.night.tired);
            case 9:
                return sum(world.night.slept);
            case 10:
                return world.notes.size;
            case 11:
                return acts.size;
            case 12:
                return world.x;
            case 13:
                return tape.length;
            default:
                return NONE;
        }
    }

    // ---- acts

    public int hour() {
        if (!world.house.stands || world.night.hours >= LAST_HOUR) {
            return NONE;
        }
        acts.keep(world.night);
        walkFromNow();
        walk.passHours(1);
        world.night.take(walk.night);
        return world.night.inside;
    }

    public int bid(int lodger, int other) {
        if (!isLodger(lodger) || (other != NONE && !isLodger(other)) || other == lodger) {
            return ABSENT;
        }
        int before = world.night.seeks[lodger];
        if (other == before || world.night.isIn(lodger)) {
            return ABSENT;
        }
        acts.keep(world.night);
        world.night.seeks[lodger] = other;
        return before;
    }

    public int call(int lodger) {
        if (!isLodger(lodger) || !world.night.isIn(lodger)) {
            return NONE;
        }
        acts.keep(world.night);
        world.night.inside &= ~(1 << lodger);
        return world.night.inside;
    }

    public int pay(int lodger, int other, int pence) {
        if (!areUnlike(lodger, other) || pence < 1 || pence > 99 || pence > world.night.pence[lodger]) {
            return NONE;
        }
        acts.keep(world.night);
        world.night.give(lodger, other, pence);
        return world.night.pence[lodger];
    }

    public int tire(int lodger, int much) {
        if (!isLodger(lodger) || much < 1 || much > 20) {
            return NONE;
        }
        acts.keep(world.night);
        world.night.tireBy(lodger, much);
        return world.night.tired[lodger];
    }

    public int undo() {
        if (acts.size <= 0) {
            return NONE;
        }
        acts.putBack(world.night);
        return acts.size;
    }

    // ---- what is asked

    public int ahead(int lodger, int n, int what) {
        if (!isLodger(lodger) || n < 0 || n > MOST_AHEAD || what < 0 || what > 2) {
            return NONE;
        }
        walkFromNow();
        walk.passHours(n);
        if (what == 0) {
            return walk.night.tired[lodger];
        }
        return what == 1 ? walk.night.pence[lodger] : walk.night.slept[lodger];
    }

    public int rested(int lodger) {
        if (!isLodger(lodger)) {
            return NONE;
        }
        walkFromNow();
        for (int k = 0; k < RESTED_HOURS; k++) {
            if (walk.night.tired[lodger] == 0) {
                return walk.night.hours;
            }
            walk.passHours(1);
        }
        return ABSENT;
    }

    public int chain(int lodger, int what) {
        if (!isLodger(lodger) || what < 0 || what > 1) {
            return NONE;
        }
        int on = 0;
        int length = 0;
        int next = lodger;
        for (int k = 0; k < MOST_LODGERS && isLodger(next) && (on >> next & 1) == 0; k++) {
            on |= 1 << next;
            length++;
            next = world.night.seeks[next];
        }
        if (what == 0) {
            return length;
        }
        return next == lodger ? 1 : 0;
    }

    public int lonely() {
        if (!world.house.stands) {
            return NONE;
        }
        return everybody() & ~world.night.sought();
    }

    public int bestRow(int what) {
        if (!world.house.stands || what < NONE || what >= MOST_LODGERS) {
            return REFUSED;
        }
        int lodgers = world.house.lodgers;
        int outside = Integer.bitCount(everybody() & ~world.night.inside);
        // Each of two or more can seek one whom no other one seeks: so all who are out do, as far as torches go.
        int seekers = lodgers < 2 ? 0 : Math.min(outside, world.house.torches);
        if (what == NONE) {
            return seekers;
        }
        if (what >= lodgers) {
            return ABSENT;
        }
        fillRow(seekers);
        return row[what];
    }

    /** Those of greatest numbers seek, as a row with nobody is ahead of one with somebody. */
    private void fillRow(int seekers) {
        int outside = everybody() & ~world.night.inside;
        int free = everybody();
        int left = seekers;
        for (int lodger = 0; lodger < world.house.lodgers; lodger++) {
            int later = outside & -(2 << lodger);
            row[lodger] = NONE;
            if (left > Integer.bitCount(later)) {
                int other = leastOther(lodger, free, later);
                row[lodger] = other;
                left--;
                if (other >= 0) {
                    free &= ~(1 << other);
                }
            }
        }
    }

    /** Leaves another one than themselves to the last who seeks; more of them always find one each. */
    private int leastOther(int lodger, int free, int later) {
        for (int other = 0; other < world.house.lodgers; other++) {
            boolean isFree = other != lodger && (free >> other & 1) == 1;
            boolean strandsLast = Integer.bitCount(later) == 1 && (free & ~(1 << other)) == later;
            if (isFree && !strandsLast) {
                return other;
            }
        }
        return NONE;
    }

    public int forOne(int lodger, int other, int n, int what) {
        if (!areUnlike(lodger, other) || world.night.isIn(other) || n < 1 || n > 30 || what < 0 || what > 1) {
            return ABSENT;
        }
        int best = NONE;
        int longest = NONE;
        for (int whom = NONE; whom < world.house.lodgers; whom++) {
            if (whom != other) {
                walkFromNow();
                walk.night.seeks[other] = whom;
                walk.passHours(n);
                int slept = walk.night.slept[lodger] - world.night.slept[lodger];
                if (slept > longest) {
                    longest = slept;
                    best = whom;
                }
            }
        }
        return what == 0 ? best : longest;
    }

    public int torches(int n) {
        if (!world.house.stands || n < 1 || n > 60) {
            return NONE;
        }
        for (int torches = 0; torches <= MOST_TORCHES; torches++) {
            if (suffice(torches, n)) {
                return torches;
            }
        }
        return ABSENT;
    }

    private boolean suffice(int torches, int n) {
        walkFromNow();
        walk.torches = torches;
        for (int k = 0; k < n; k++) {
            walk.passHours(1);
            for (int lodger = 0; lodger < world.house.lodgers; lodger++) {
                if (walk.night.tired[lodger] > TOO_TIRED) {
                    return false;
                }
            }
        }
        return true;
    }

    public int out(int n, int what) {
        if (!world.house.stands || n < 1 || n > 30 || what < 0 || what > 1) {
            return ABSENT;
        }
        int best = NONE;
        int longest = NONE;
        for (int never = NONE; never < world.house.lodgers; never++) {
            walkFromNow();
            walk.never = never;
            walk.passHours(n);
            int slept = sum(walk.night.slept) - sum(world.night.slept);
            if (slept > longest) {
                longest = slept;
                best = never;
            }
        }
        return what == 0 ? best : longest;
    }

    public int sleeps(int n, int what) {
        if (!world.house.stands || n < 1 || n > 100 || what < 0 || what > 1) {
            return NONE;
        }
        walkFromNow();
        walk.passHours(n);
        int best = ABSENT;
        int longest = NONE;
        for (int lodger = 0; lodger < world.house.lodgers; lodger++) {
            int slept = walk.night.slept[lodger] - world.night.slept[lodger];
            if (slept > longest) {
                longest = slept;
                best = lodger;
            }
        }
        return what == 0 ? best : Math.max(longest, 0);
    }

    public int ring(int what) {
        if (!world.house.stands || what < 0 || what > 1) {
            return NONE;
        }
        walkFromNow();
        for (int k = 0; k < SEEN_HOURS; k++) {
            seen[k] = walk.night.figure();
            walk.passHours(1);
        }
        for (int first = 0; first < SEEN_HOURS; first++) {
            // Only whole days later is HOUR % 12 the same.
            for (int later = first + DAY; later < SEEN_HOURS; later += DAY) {
                if (seen[first] == seen[later]) {
                    return what == 0 ? world.night.hours + first : later - first;
                }
            }
        }
        return ABSENT;
    }

    public int pennies(int much, int lodger) {
        if (!isLodger(lodger) || much < 0 || much > 9999) {
            return NONE;
        }
        int[] slept = world.night.slept;
        int all = sum(slept);
        if (all <= 0) {
            return 0;
        }
        int left = much;
        int ahead = 0;
        int lost = much * slept[lodger] % all;
        for (int k = 0; k < world.house.lodgers; k++) {
            left -= much * slept[k] / all;
            int lostToo = much * slept[k] % all;
            if (lostToo > lost || (lostToo == lost && k < lodger)) {
                ahead++;
            }
        }
        return much * slept[lodger] / all + (ahead < left ? 1 : 0);
    }

    public int rests(int one, int other, int n, int what) {
        if (!areUnlike(one, other) || n < 1 || n > 20 || what < 0 || what > 2) {
            return NONE;
        }
        playAll(one, other, n);
        int found = 0;
        int first = ABSENT;
        int second = ABSENT;
        for (int a = 0; a < world.house.lodgers; a++) {
            for (int b = 0; b < world.house.lodgers; b++) {
                if (a != one && b != other && isSettled(one, other, a, b)) {
                    if (found == 0) {
                        first = a;
                        second = b;
                    }
                    found++;
                }
            }
        }
        if (what == 0) {
            return found;
        }
        return what == 1 ? first : second;
    }

    /** Lays into the games, for each two of whom they seek, how tired the two are then. */
    private void playAll(int one, int other, int n) {
        for (int a = 0; a < world.house.lodgers; a++) {
            for (int b = 0; b < world.house.lodgers; b++) {
                if (a != one && b != other) {
                    walkFromNow();
                    walk.always[one] = a;
                    walk.always[other] = b;
                    walk.passHours(n);
                    games[gameAt(a, b)] = walk.night.tired[one];
                    games[gameAt(a, b) + 1] = walk.night.tired[other];
                }
            }
        }
    }

    private boolean isSettled(int one, int other, int a, int b) {
        for (int k = 0; k < world.house.lodgers; k++) {
            if (k != one && games[gameAt(k, b)] < games[gameAt(a, b)]) {
                return false;
            }
            if (k != other && games[gameAt(a, k) + 1] < games[gameAt(a, b) + 1]) {
                return false;
            }
        }
        return true;
    }

    private static int gameAt(int a, int b) {
        return (a * MOST_LODGERS + b) * 2;
    }

    public int stays(int n) {
        if (!world.house.stands || n < 0 || n > 60) {
            return NONE;
        }
        walkFromNow();
        walk.passHours(n);
        int stay = walk.night.inside;
        for (int k = 0; k < 2; k++) {
            walk.passHours(1);
            stay &= walk.night.inside;
        }
        return stay;
    }

    // ---- notes

    public int note(int n, int lodger, int in) {
        if (n == NONE) {
            world.notes.size = 0;
            return 0;
        }
        if (n < 0 || n > NOTED_HOURS || !isLodger(lodger) || in < 0 || in > 1 || world.notes.size >= MOST_NOTES) {
            return ABSENT;
        }
        world.notes.add(n, lodger, in);
        return world.notes.size;
    }

    public int ruled(int what) {
        if (!world.house.stands || what < 0 || what > 1) {
            return REFUSED;
        }
        int fitting = fittingRules();
        if (what == 0) {
            return Integer.bitCount(fitting);
        }
        return fitting == 0 ? ABSENT : Integer.numberOfTrailingZeros(fitting) - 1;
    }

    public int look(int what) {
        if (!world.house.stands || what < 0 || what > 1) {
            return NONE;
        }
        int fitting = fittingRules();
        if (fitting == 0) {
            return ABSENT;
        }
        int best = 0;
        int fewest = MOST_RULES + 2;
        for (int at = 0; at < SEEN_HOURS; at++) {
            int alike = mostAlike(fitting, at);
            if (alike < fewest) {
                fewest = alike;
                best = at;
            }
        }
        return what == 0 ? best : fewest;
    }

    /** By places among the rules, as bits; lays who is in behind each HOUR by each of the rules into what is seen. */
    private int fittingRules() {
        int fitting = 0;
        for (int k = 0; k <= ruleCount; k++) {
            int from = k * SEEN_HOURS;
            walk.beginAsTold(rules[k]);
            for (int at = 0; at < SEEN_HOURS; at++) {
                // Behind HOUR 0 the first of all is over.
                walk.passHours(1);
                seen[from + at] = walk.night.inside;
            }
            if (world.notes.areSo(seen, from)) {
                fitting |= 1 << k;
            }
        }
        return fitting;
    }

    private int mostAlike(int fitting, int at) {
        int most = 0;
        for (int k = 0; k <= ruleCount; k++) {
            int alike = 0;
            for (int other = 0; other <= ruleCount; other++) {
                boolean both = (fitting >> k & 1) == 1 && (fitting >> other & 1) == 1;
                if (both && seen[k * SEEN_HOURS + at] == seen[other * SEEN_HOURS + at]) {
                    alike++;
                }
            }
            most = Math.max(most, alike);
        }
        return most;
    }

    // ---- strangers

    public int seed(int x) {
        if (x < 0) {
            return NONE;
        }
        int before = world.x;
        world.x = x;
        return before;
    }

    public int strangers(int m, int n, int p, int what) {
        if (!world.house.stands || m < 1 || m > 10 || n < 1 || n > 60 || p < 0 || p > 100 || what < 0 || what > 1) {
            return NONE;
        }
        int slept = 0;
        int tired = 0;
        walk.x = world.x;
        for (int k = 0; k < m; k++) {
            walkFromNow();
            for (int h = 0; h < n; h++) {
                walk.drawStranger(p);
                walk.passHours(1);
            }
            slept += sum(walk.night.slept) - sum(world.night.slept);
            tired += sum(walk.night.tired);
        }
        return what == 0 ? slept : tired;
    }

    // ---- images

    public int image(int k) {
        if (k < 0 || k >= MOST_IMAGES) {
            return NONE;
        }
        images[k].take(world);
        made[k] = true;
        return world.night.hours;
    }

    public int back(int k) {
        if (k < 0 || k >= MOST_IMAGES || !made[k]) {
            return NONE;
        }
        world.take(images[k]);
        acts.forget();
        return world.night.hours;
    }

    // ---- what many of these use

    private boolean isLodger(int lodger) {
        return lodger >= 0 && lodger < world.house.lodgers;
    }

    private boolean areUnlike(int lodger, int other) {
        return isLodger(lodger) && isLodger(other) && lodger != other;
    }

    private int everybody() {
        return (1 << world.house.lodgers) - 1;
    }

    private void walkFromNow() {
        walk.begin(rules[world.force + 1], world.night);
    }

    private static int sum(int[] numbers) {
        int all = 0;
        for (int k = 0; k < numbers.length; k++) {
            all += numbers[k];
        }
        return all;
    }

    /** The bytes that were fed and have not become a text yet. */
    private static final class Tape {
        final byte[] bytes = new byte[MOST_BYTES];
        int length;

        void addNumber(int number) {
            for (int shift = 24; shift >= 0; shift -= 8) {
                if (length < MOST_BYTES) {
                    bytes[length] = (byte) (number >> shift);
                    length++;
                }
            }
        }
    }

    /** What a text told of the house. */
    private static final class House {
        boolean stands;
        int sleep;
        int torches;
        int lodgers;
        /** The hours of the day at which heads are counted, as bits. */
        int counted;
        final int[] tired = new int[MOST_LODGERS];
        final int[] pence = new int[MOST_LODGERS];
        final int[] dear = new int[MOST_LODGERS * MOST_LODGERS];

        void empty() {
            stands = false;
            sleep = 0;
            torches = 0;
            lodgers = 0;
            counted = 0;
            Arrays.fill(tired, 0);
            Arrays.fill(pence, 0);
            Arrays.fill(dear, 0);
        }

        void take(House from) {
            stands = from.stands;
            sleep = from.sleep;
            torches = from.torches;
            lodgers = from.lodgers;
            counted = from.counted;
            System.arraycopy(from.tired, 0, tired, 0, MOST_LODGERS);
            System.arraycopy(from.pence, 0, pence, 0, MOST_LODGERS);
            System.arraycopy(from.dear, 0, dear, 0, MOST_LODGERS * MOST_LODGERS);
        }

        void addLodger(int howTired, int howManyPence) {
            if (lodgers < MOST_LODGERS) {
                tired[lodgers] = howTired;
                pence[lodgers] = howManyPence;
                lodgers++;
            }
        }

        void setDearness(int lodger, int other, int much) {
            int place = lodger * MOST_LODGERS + other;
            if (place >= 0 && place < dear.length) {
                dear[place] = much;
            }
        }

        int dearness(int lodger, int other) {
            int place = lodger * MOST_LODGERS + other;
            return place >= 0 && place < dear.length ? dear[place] : 0;
        }

        boolean countsAt(int hours) {
            return (counted >> hours % DAY & 1) == 1;
        }
    }

    /** How it stands with the lodgers as an hour begins. */
    private static final class Night {
        int hours;
        /** Who is in, as bits. */
        int inside;
        final int[] tired = new int[MOST_LODGERS];
        final int[] pence = new int[MOST_LODGERS];
        final int[] seeks = new int[MOST_LODGERS];
        final int[] slept = new int[MOST_LODGERS];

        Night() {
            Arrays.fill(seeks, NONE);
        }

        void begin(House house) {
            hours = 0;
            inside = 0;
            System.arraycopy(house.tired, 0, tired, 0, MOST_LODGERS);
            System.arraycopy(house.pence, 0, pence, 0, MOST_LODGERS);
            Arrays.fill(seeks, NONE);
            Arrays.fill(slept, 0);
        }

        void take(Night from) {
            hours = from.hours;
            inside = from.inside;
            System.arraycopy(from.tired, 0, tired, 0, MOST_LODGERS);
            System.arraycopy(from.pence, 0, pence, 0, MOST_LODGERS);
            System.arraycopy(from.seeks, 0, seeks, 0, MOST_LODGERS);
            System.arraycopy(from.slept, 0, slept, 0, MOST_LODGERS);
        }

        boolean isIn(int lodger) {
            return (inside >> lodger & 1) == 1;
        }

        /** Whom somebody seeks, as bits. */
        int sought() {
            int bits = 0;
            for (int lodger = 0; lodger < MOST_LODGERS; lodger++) {
                if (seeks[lodger] >= 0) {
                    bits |= 1 << seeks[lodger];
                }
            }
            return bits;
        }

        /** Who is in and whom each seeks, as one number. */
        int figure() {
            int number = inside;
            for (int lodger = 0; lodger < MOST_LODGERS; lodger++) {
                number = number * 8 + seeks[lodger] + 1;
            }
            return number;
        }

        void tireBy(int lodger, int much) {
            tired[lodger] = Math.min(tired[lodger] + much, MOST_TIRED);
        }

        void give(int lodger, int other, int much) {
            pence[lodger] -= much;
            pence[other] = Math.min(pence[other] + much, MOST_PENCE);
        }
    }

    /** What was told of nights that were. */
    private static final class Notes {
        int size;
        final int[] at = new int[MOST_NOTES];
        final int[] lodger = new int[MOST_NOTES];
        final int[] in = new int[MOST_NOTES];

        void take(Notes from) {
            size = from.size;
            System.arraycopy(from.at, 0, at, 0, MOST_NOTES);
            System.arraycopy(from.lodger, 0, lodger, 0, MOST_NOTES);
            System.arraycopy(from.in, 0, in, 0, MOST_NOTES);
        }

        void add(int hour, int who, int whetherIn) {
            if (size < MOST_NOTES) {
                at[size] = hour;
                lodger[size] = who;
                in[size] = whetherIn;
                size++;
            }
        }

        boolean areSo(int[] seen, int from) {
            for (int k = 0; k < size; k++) {
                int place = from + at[k];
                if (place < 0 || place >= seen.length || (seen[place] >> lodger[k] & 1) != in[k]) {
                    return false;
                }
            }
            return true;
        }
    }

    /** All that an image holds. */
    private static final class World {
        final House house = new House();
        final Night night = new Night();
        final Notes notes = new Notes();
        int force = NONE;
        int x;

        void take(World from) {
            house.take(from.house);
            night.take(from.night);
            notes.take(from.notes);
            force = from.force;
            x = from.x;
        }
    }

    /** How it stood ahead of each of the last acts, in a ring. */
    private static final class Acts {
        final Night[] before = new Night[MOST_ACTS];
        int next;
        int size;

        Acts() {
            for (int k = 0; k < MOST_ACTS; k++) {
                before[k] = new Night();
            }
        }

        void forget() {
            size = 0;
        }

        void keep(Night night) {
            before[next].take(night);
            next = (next + 1) % MOST_ACTS;
            size = Math.min(size + 1, MOST_ACTS);
        }

        void putBack(Night night) {
            next = (next + MOST_ACTS - 1) % MOST_ACTS;
            night.take(before[next]);
            size = Math.max(size - 1, 0);
        }
    }

    /** A rule's clauses, in which an operation comes behind what it joins, and what answers behind a sum and its test. */
    private static final class Rule {
        final int[] code = new int[MOST_BYTES];
        int length;

        void add(int operation) {
            if (length < code.length) {
                code[length] = operation;
                length++;
            }
        }
    }

    /** Cuts the tape's text into words, numbers and signs and reads these up to the first fault. */
    private static final class Reader {
        static final int MOST_HOUSE_CLAUSES = 40;
        static final int MOST_RULE_CLAUSES = 12;
        static final int MOST_DEEP = 10;
        static final int MOST_PARTS = 60;
        static final int MOST_DIGITS = 5;

        static final int END = 0;
        static final int WORD = 1;
        static final int NUMBER = 2;
        static final int SIGN = 3;

        static final int MISPLACED = 0;
        static final int WRONG_NUMBER = 1;
        static final int TOO_DEEP = 2;
        static final int TOO_MANY_PARTS = 3;
        static final int WRONG_CLAUSE = 4;

        final Tape tape;
        final int[] kinds = new int[MOST_BYTES + 1];
        final int[] values = new int[MOST_BYTES + 1];
        final int[] places = new int[MOST_BYTES + 1];
        int pieces;
        /** Of the piece that is read now; a word of none that are known and a number of too many digits have the value NONE. */
        int piece;
        int kind;
        int value;
        int place;
        int fault;
        /** How many values and facts there were. */
        int parts;

        Reader(Tape tape) {
            this.tape = tape;
        }

        void begin() {
            cut();
            fault = 0;
            parts = 0;
            piece = NONE;
            step();
        }

        void step() {
            if (piece + 1 < pieces) {
                piece++;
                kind = kinds[piece];
                value = values[piece];
                place = places[piece];
            }
        }

        void fail(int why) {
            if (fault == 0) {
                fault = 1 + 8 * place + why;
            }
        }

        boolean isWord(int word) {
            return kind == WORD && value == word;
        }

        boolean isSign(int sign) {
            return kind == SIGN && value == sign;
        }

        // ---- words, numbers, signs

        void cut() {
            pieces = 0;
            int at = 0;
            for (int k = 0; k < MOST_BYTES && at < tape.length; k++) {
                int to = at + 1;
                if (isLetter(at)) {
                    to = wordEnd(at);
                    addPiece(WORD, wordOf(at, to), at);
                } else if (isDigit(at)) {
                    to = numberEnd(at);
                    addPiece(NUMBER, numberOf(at, to), at);
                } else if (tape.bytes[at] != ' ') {
                    to = signEnd(at);
                    addPiece(SIGN, signOf(tape.bytes[at], to - at), at);
                }
                at = to;
            }
            addPiece(END, NONE, tape.length);
        }

        void addPiece(int what, int number, int where) {
            if (pieces <= MOST_BYTES) {
                kinds[pieces] = what;
                values[pieces] = number;
                places[pieces] = where;
                pieces++;
            }
        }

        boolean isLetter(int at) {
            return tape.bytes[at] >= 'a' && tape.bytes[at] <= 'z';
        }

        boolean isDigit(int at) {
            return tape.bytes[at] >= '0' && tape.bytes[at] <= '9';
        }

        int wordEnd(int from) {
            int at = from + 1;
            while (at < tape.length && isLetter(at)) {
                at++;
            }
            return at;
        }

        int numberEnd(int from) {
            int at = from + 1;
            while (at < tape.length && isDigit(at)) {
                at++;
            }
            return at;
        }

        int signEnd(int from) {
            boolean goesOn = tape.bytes[from] == '<' || tape.bytes[from] == '>';
            return goesOn && from + 1 < tape.length && tape.bytes[from + 1] == '=' ? from + 2 : from + 1;
        }

        int wordOf(int from, int to) {
            int word = 0;
            int at = from;
            boolean same = true;
            for (int k = 0; k < WORDS.length(); k++) {
                char letter = WORDS.charAt(k);
                if (letter != ' ') {
                    same = same && at < to && tape.bytes[at] == letter;
                    at++;
                } else if (same && at == to) {
                    return word;
                } else {
                    word++;
                    at = from;
                    same = true;
                }
            }
            return NONE;
        }

        int numberOf(int from, int to) {
            if (to - from > MOST_DIGITS) {
                return NONE;
            }
            int number = 0;
            for (int at = from; at < to; at++) {
                number = number * 10 + tape.bytes[at] - '0';
            }
            return number;
        }

        static int signOf(int sign, int length) {
            switch (sign) {
                case '+':
                    return ADD;
                case '-':
                    return SUBTRACT;
                case '*':
                    return MULTIPLY;
                case '/':
                    return DIVIDE;
                case '%':
                    return REST;
                case '<':
                    return length == 1 ? BELOW : AT_MOST;
                case '=':
                    return SAME;
                case '>':
                    return length == 1 ? ABOVE : AT_LEAST;
                case '[':
                    return OPEN;
                case ']':
                    return CLOSE;
                case ';':
                    return SEMICOLON;
                default:
                    return STRANGE;
            }
        }

        // ---- houses

        void readHouse(House house) {
            house.empty();
            begin();
            for (int clause = 0; clause <= MOST_HOUSE_CLAUSES && fault == 0; clause++) {
                readHouseClause(house, clause);
                if (fault == 0 && kind == END) {
                    house.stands = true;
                    return;
                }
                if (isSign(SEMICOLON)) {
                    step();
                } else {
                    fail(MISPLACED);
                }
            }
        }

        void readHouseClause(House house, int clause) {
            boolean isHouse = isWord(HOUSE_WORD);
            boolean isLodger = isWord(LODGER_WORD);
            boolean isDear = isWord(DEAR_WORD);
            if (!isHouse && !isLodger && !isDear && !isWord(COUNT_WORD)) {
                fail(MISPLACED);
                return;
            }
            boolean isFirst = clause == 0;
            if (clause >= MOST_HOUSE_CLAUSES || isHouse != isFirst || (isLodger && house.lodgers >= MOST_LODGERS)) {
                fail(WRONG_CLAUSE);
                return;
            }
            step();
            if (isHouse) {
                house.sleep = readNumber(1, 9, NONE);
                house.torches = readNumber(0, MOST_TORCHES, NONE);
            } else if (isLodger) {
                int tired = readNumber(0, 60, NONE);
                house.addLodger(tired, readNumber(0, 99, NONE));
            } else if (isDear) {
                int one = readNumber(0, house.lodgers - 1, NONE);
                int other = readNumber(0, house.lodgers - 1, one);
                house.setDearness(one, other, readNumber(0, 9, NONE));
            } else {
                house.counted |= 1 << readNumber(0, DAY - 1, NONE);
            }
        }

        int readNumber(int least, int most, int but) {
            if (fault != 0) {
                return 0;
            }
            int number = value;
            if (kind != NUMBER) {
                fail(MISPLACED);
                return 0;
            }
            if (number < least || number > most || number == but) {
                fail(WRONG_NUMBER);
                return 0;
            }
            step();
            return number;
        }

        // ---- rules

        void readRule(Rule rule) {
            rule.length = 0;
            begin();
            for (int clause = 0; clause <= MOST_RULE_CLAUSES && fault == 0; clause++) {
                if (!isWord(SEEK_WORD)) {
                    fail(MISPLACED);
                } else if (clause >= MOST_RULE_CLAUSES) {
                    fail(WRONG_CLAUSE);
                }
                step();
                readSum(rule);
                if (isWord(IF_WORD)) {
                    step();
                    readTest(rule, 0);
                    rule.add(ANSWER_IF);
                } else {
                    rule.add(ANSWER);
                }
                if (kind == END) {
                    return;
                }
                if (!isSign(SEMICOLON)) {
                    fail(MISPLACED);
                }
                step();
            }
        }

        /** The depth is that of the brackets and nots around; and, or wait till both sides are read. */
        private void readTest(Rule rule, int depth) {
            boolean andWaits = false;
            boolean orWaits = false;
            for (int k = 0; k < MOST_BYTES && fault == 0; k++) {
                readFact(rule, depth);
                if (andWaits) {
                    rule.add(AND);
                }
                andWaits = isWord(AND_WORD);
                if (!andWaits) {
                    if (orWaits) {
                        rule.add(OR);
                    }
                    if (!isWord(OR_WORD)) {
                        return;
                    }
                    orWaits = true;
                }
                step();
            }
        }

        private void readFact(Rule rule, int depth) {
            boolean isNot = isWord(NOT_WORD);
            boolean opens = isSign(OPEN);
            if ((isNot || opens) && depth >= MOST_DEEP) {
                fail(TOO_DEEP);
            } else if (isNot) {
                step();
                readFact(rule, depth + 1);
                rule.add(NOT);
            } else if (opens) {
                step();
                readTest(rule, depth + 1);
                if (!isSign(CLOSE)) {
                    fail(MISPLACED);
                }
                step();
            } else {
                readSum(rule);
                int sign = value;
                if (kind != SIGN || sign < BELOW || sign > ABOVE) {
                    fail(MISPLACED);
                }
                countPart();
                step();
                readSum(rule);
                rule.add(sign);
            }
        }

        void readSum(Rule rule) {
            int addWaits = NONE;
            int multiplyWaits = NONE;
            for (int k = 0; k < MOST_BYTES && fault == 0; k++) {
                readValue(rule);
                if (multiplyWaits != NONE) {
                    rule.add(multiplyWaits);
                    multiplyWaits = NONE;
                }
                if (kind == SIGN && value >= MULTIPLY && value <= REST) {
                    multiplyWaits = value;
                } else {
                    if (addWaits != NONE) {
                        rule.add(addWaits);
                    }
                    if (!isSign(ADD) && !isSign(SUBTRACT)) {
                        return;
                    }
                    addWaits = value;
                }
                step();
            }
        }

        void readValue(Rule rule) {
            boolean isValueWord = kind == WORD && value >= 0 && value < VALUE_WORDS;
            if (kind != NUMBER && !isValueWord) {
                fail(MISPLACED);
            } else if (value < 0) {
                fail(WRONG_NUMBER);
            }
            countPart();
            rule.add(kind == NUMBER ? NUMBERS + value : value);
            step();
        }

        void countPart() {
            parts++;
            if (parts > MOST_PARTS) {
                fail(TOO_MANY_PARTS);
            }
        }
    }

    /** Lets hours pass on a night of its own. */
    private static final class Walk {
        static final int MOST_STACKED = 48;

        final House house;
        final Night night = new Night();
        Rule rule;
        int torches;
        /** Who is never in. */
        int never;
        /** Whom a stranger seeks in the hour that comes. */
        int stranger;
        /** Whom one always seeks, without a torch. */
        final int[] always = new int[MOST_LODGERS];
        int x;
        /** Whom each sought as the hour began. */
        final int[] sought = new int[MOST_LODGERS];
        /** How many seek each by now. */
        final int[] seekers = new int[MOST_LODGERS];
        final long[] words = new long[VALUE_WORDS];
        final long[] stack = new long[MOST_STACKED];

        Walk(House house, Rule rule) {
            this.house = house;
            this.rule = rule;
        }

        void begin(Rule inForce, Night from) {
            rule = inForce;
            night.take(from);
            torches = house.torches;
            never = NONE;
            stranger = NONE;
            Arrays.fill(always, NONE);
        }

        void beginAsTold(Rule inForce) {
            night.begin(house);
            begin(inForce, night);
        }

        void passHours(int n) {
            for (int k = 0; k < n; k++) {
                goIn();
                lookForOthers();
                sleepOrTire();
                payTheSeekers();
                night.hours++;
            }
        }

        void drawStranger(int percent) {
            stranger = NONE;
            if (nextDraw() % 100 < percent && house.lodgers > 0) {
                stranger = nextDraw() % house.lodgers;
            }
        }

        int nextDraw() {
            x = (int) ((x * 1103515245L + 12345L) & 2147483647L);
            return x / 65536;
        }

        void goIn() {
            int inside = night.sought();
            if (stranger >= 0) {
                inside |= 1 << stranger;
            }
            if (never >= 0) {
                inside &= ~(1 << never);
            }
            night.inside = house.countsAt(night.hours) ? 0 : inside;
        }

        void lookForOthers() {
            System.arraycopy(night.seeks, 0, sought, 0, MOST_LODGERS);
            Arrays.fill(seekers, 0);
            int left = torches;
            for (int lodger = 0; lodger < house.lodgers; lodger++) {
                int whom = NONE;
                if (!night.isIn(lodger)) {
                    whom = always[lodger];
                    if (whom == NONE && left > 0) {
                        whom = bestOther(lodger, left);
                        left -= whom == NONE ? 0 : 1;
                    }
                }
                night.seeks[lodger] = whom;
                if (whom >= 0) {
                    seekers[whom]++;
                }
            }
        }

        int bestOther(int lodger, int left) {
            words[LODGER_WORD] = lodger;
            words[TIRED_WORD] = night.tired[lodger];
            words[PENCE_WORD] = night.pence[lodger];
            words[INSIDE_WORD] = Integer.bitCount(night.inside);
            words[TORCHES_WORD] = left;
            words[CLOCK_WORD] = night.hours % DAY;
            words[HOUR_WORD] = night.hours;
            int best = NONE;
            long greatest = 0;
            for (int other = 0; other < house.lodgers; other++) {
                if (other != lodger) {
                    words[OTHER_WORD] = other;
                    words[OTHERTIRED_WORD] = night.tired[other];
                    words[OTHERPENCE_WORD] = night.pence[other];
                    words[DEAR_WORD] = house.dearness(lodger, other);
                    words[BACK_WORD] = sought[other] == lodger ? 1 : 0;
                    words[SEEKERS_WORD] = seekers[other];
                    long worth = worthByRule();
                    if (worth > greatest) {
                        greatest = worth;
                        best = other;
                    }
                }
            }
            return best;
        }

        long worthByRule() {
            int top = 0;
            for (int k = 0; k < rule.length && k < rule.code.length; k++) {
                int operation = rule.code[k];
                if (operation >= NUMBERS && top < MOST_STACKED) {
                    stack[top] = operation - NUMBERS;
                    top++;
                } else if (operation >= 0 && operation < VALUE_WORDS && top < MOST_STACKED) {
                    stack[top] = words[operation];
                    top++;
                } else if (operation == ANSWER && top >= 1) {
                    return stack[top - 1];
                } else if (operation == ANSWER_IF && top >= 2) {
                    top -= 2;
                    if (stack[top + 1] != 0) {
                        return stack[top];
                    }
                } else if (operation == NOT && top >= 1) {
                    stack[top - 1] = 1 - stack[top - 1];
                } else if (top >= 2) {
                    top--;
                    stack[top - 1] = joined(operation, stack[top - 1], stack[top]);
                }
            }
            return 0;
        }

        static long joined(int operation, long a, long b) {
            switch (operation) {
                case ADD:
                    return a + b;
                case SUBTRACT:
                    return a - b;
                case MULTIPLY:
                    return a * b;
                case DIVIDE:
                    return b == 0 ? 0 : a / b;
                case REST:
                    return b == 0 ? 0 : a % b;
                case BELOW:
                    return a < b ? 1 : 0;
                case AT_MOST:
                    return a <= b ? 1 : 0;
                case SAME:
                    return a == b ? 1 : 0;
                case AT_LEAST:
                    return a >= b ? 1 : 0;
                case ABOVE:
                    return a > b ? 1 : 0;
                case AND:
                    return a & b;
                default:
                    return a | b;
            }
        }

        void sleepOrTire() {
            for (int lodger = 0; lodger < house.lodgers; lodger++) {
                if (night.isIn(lodger)) {
                    night.tired[lodger] = Math.max(night.tired[lodger] - house.sleep, 0);
                    night.slept[lodger]++;
                } else {
                    night.tireBy(lodger, 1);
                }
            }
        }

        void payTheSeekers() {
            for (int lodger = 0; lodger < house.lodgers; lodger++) {
                if (night.isIn(lodger) && night.pence[lodger] > 0) {
                    int seeker = firstSeeker(lodger);
                    if (seeker >= 0) {
                        night.give(lodger, seeker, 1);
                    }
                }
            }
        }

        int firstSeeker(int lodger) {
            for (int other = 0; other < house.lodgers; other++) {
                if (night.seeks[other] == lodger) {
                    return other;
                }
            }
            return NONE;
        }
    }
}
