import java.util.ArrayDeque;
import java.util.ArrayList;
import java.util.Arrays;
import java.util.Deque;
import java.util.HashMap;
import java.util.List;
import java.util.Map;

/** The document once more, told as plainly as can be with the whole library, to hold the class against. */
final class Model {
    static final class Fault extends RuntimeException {
        final int number;

        Fault(int place, int kind) {
            super(null, null, false, false);
            number = 1 + 8 * place + kind;
        }
    }

    interface Term {
        long of(Map<String, Long> words);
    }

    interface Fact {
        boolean of(Map<String, Long> words);
    }

    record Clause(Term sum, Fact test) { }

    /** All that passes as hours pass. */
    static final class State {
        int hour;
        int[] tired;
        int[] pence;
        int[] seek;
        int[] slept;
        boolean[] in;

        State(int lodgers) {
            tired = new int[lodgers];
            pence = new int[lodgers];
            seek = new int[lodgers];
            Arrays.fill(seek, -1);
            slept = new int[lodgers];
            in = new boolean[lodgers];
        }

        State copy() {
            State s = new State(0);
            s.hour = hour;
            s.tired = tired.clone();
            s.pence = pence.clone();
            s.seek = seek.clone();
            s.slept = slept.clone();
            s.in = in.clone();
            return s;
        }

        int bits() {
            int b = 0;
            for (int i = 0; i < in.length; i++) {
                if (in[i]) {
                    b += 1 << i;
                }
            }
            return b;
        }
    }

    static final class HouseText {
        int sleep;
        int torches;
        List<int[]> lodgers = new ArrayList<>();
        int[][] dear = new int[6][6];
        boolean[] counted = new boolean[12];
    }

    /** What may differ in hours that are asked. */
    static final class Wish {
        int torches = -1;
        int never = -1;
        int stranger = -1;
        Map<Integer, Integer> always = new HashMap<>();
    }

    record Note(int n, int lodger, int in) { }

    record Whole(HouseText house, State state, List<Note> notes, int force, long x) { }

    private byte[] tape = new byte[0];
    private final List<List<Clause>> rules = new ArrayList<>();
    private HouseText house;
    private State state = new State(0);
    private List<Note> notes = new ArrayList<>();
    private int force = -1;
    private long x;
    private final Deque<State> undo = new ArrayDeque<>();
    private final Whole[] images = new Whole[4];

    // ---------------------------------------------------------------- reading

    private int at;
    private int parts;

    private int peek() {
        while (at < tape.length && tape[at] == 32) {
            at++;
        }
        return at < tape.length ? tape[at] & 255 : -1;
    }

    private String peekWord() {
        peek();
        int to = at;
        while (to < tape.length && tape[to] >= 'a' && tape[to] <= 'z') {
            to++;
        }
        return new String(tape, at, to - at, java.nio.charset.StandardCharsets.ISO_8859_1);
    }

    private boolean takeWord(String word) {
        if (!peekWord().equals(word)) {
            return false;
        }
        at += word.length();
        return true;
    }

    private boolean takeByte(int b) {
        if (peek() != b) {
            return false;
        }
        at++;
        return true;
    }

    private boolean digitNext() {
        int b = peek();
        return b >= '0' && b <= '9';
    }

    /** Of a number that is told wrong. */
    private int takeNumber(int least, int most) {
        if (!digitNext()) {
            throw new Fault(at, 0);
        }
        int place = at;
        StringBuilder digits = new StringBuilder();
        while (at < tape.length && tape[at] >= '0' && tape[at] <= '9') {
            digits.append((char) tape[at++]);
        }
        if (digits.length() > 5) {
            throw new Fault(place, 1);
        }
        int n = Integer.parseInt(digits.toString());
        if (n < least || n > most) {
            throw new Fault(place, 1);
        }
        return n;
    }

    private HouseText readHouse() {
        HouseText h = new HouseText();
        at = 0;
        int clauses = 0;
        do {
            String word = peekWord();
            int place = at;
            if (!List.of("house", "lodger", "dear", "count").contains(word)) {
                throw new Fault(place, 0);
            }
            clauses++;
            if (clauses > 40 || (clauses == 1) != word.equals("house") || word.equals("lodger") && h.lodgers.size() == 6) {
                throw new Fault(place, 4);
            }
            at += word.length();
            switch (word) {
                case "house" -> {
                    h.sleep = takeNumber(1, 9);
                    h.torches = takeNumber(0, 7);
                }
                case "lodger" -> h.lodgers.add(new int[] {takeNumber(0, 60), takeNumber(0, 99)});
                case "dear" -> {
                    int a = takeNumber(0, h.lodgers.size() - 1);
                    peek();
                    int second = at;
                    int b = takeNumber(0, h.lodgers.size() - 1);
                    if (a == b) {
                        throw new Fault(second, 1);
                    }
                    h.dear[a][b] = takeNumber(0, 9);
                }
                default -> h.counted[takeNumber(0, 11)] = true;
            }
        } while (takeByte(';'));
        if (peek() != -1) {
            throw new Fault(at, 0);
        }
        return h;
    }

    private List<Clause> readRule() {
        List<Clause> clauses = new ArrayList<>();
        at = 0;
        parts = 0;
        do {
            peek();
            int place = at;
            if (!takeWord("seek")) {
                throw new Fault(place, 0);
            }
            if (clauses.size() == 12) {
                throw new Fault(place, 4);
            }
            Term sum = readSum();
            Fact test = takeWord("if") ? readTest(0) : null;
            clauses.add(new Clause(sum, test));
        } while (takeByte(';'));
        if (peek() != -1) {
            throw new Fault(at, 0);
        }
        return clauses;
    }

    private Fact readTest(int deep) {
        Fact a = readPart(deep);
        while (takeWord("or")) {
            Fact l = a;
            Fact r = readPart(deep);
            a = w -> l.of(w) || r.of(w);
        }
        return a;
    }

    private Fact readPart(int deep) {
        Fact a = readFact(deep);
        while (takeWord("and")) {
            Fact l = a;
            Fact r = readFact(deep);
            a = w -> l.of(w) && r.of(w);
        }
        return a;
    }

    private Fact readFact(int deep) {
        peek();
        int place = at;
        if (takeWord("not")) {
            if (deep == 10) {
                throw new Fault(place, 2);
            }
            Fact f = readFact(deep + 1);
            return w -> !f.of(w);
        }
        if (takeByte('[')) {
            if (deep == 10) {
                throw new Fault(place, 2);
            }
            Fact f = readTest(deep + 1);
            if (!takeByte(']')) {
                throw new Fault(at, 0);
            }
            return f;
        }
        Term l = readSum();
        int sign = peek();
        place = at;
        if (sign != '<' && sign != '=' && sign != '>') {
            throw new Fault(place, 0);
        }
        if (++parts > 60) {
            throw new Fault(place, 3);
        }
        at++;
        boolean orSame = sign != '=' && at < tape.length && tape[at] == '=';
        if (orSame) {
            at++;
        }
        Term r = readSum();
        return w -> {
            int c = Long.compare(l.of(w), r.of(w));
            return c == 0 ? sign == '=' || orSame : sign == (c < 0 ? '<' : '>');
        };
    }

    private Term readSum() {
        Term a = readTerm();
        while (true) {
            Term l = a;
            if (takeByte('+')) {
                Term r = readTerm();
                a = w -> l.of(w) + r.of(w);
            } else if (takeByte('-')) {
                Term r = readTerm();
                a = w -> l.of(w) - r.of(w);
            } else {
                return a;
            }
        }
    }

    private Term readTerm() {
        Term a = readValue();
        while (true) {
            Term l = a;
            if (takeByte('*')) {
                Term r = readValue();
                a = w -> l.of(w) * r.of(w);
            } else if (takeByte('/')) {
                Term r = readValue();
                a = w -> r.of(w) == 0 ? 0 : l.of(w) / r.of(w);
            } else if (takeByte('%')) {
                Term r = readValue();
                a = w -> r.of(w) == 0 ? 0 : l.of(w) % r.of(w);
            } else {
                return a;
            }
        }
    }

    private static final List<String> VALUES = List.of("lodger", "other", "tired", "othertired", "pence", "otherpence",
            "dear", "back", "seekers", "inside", "torches", "clock", "hour");

    private Term readValue() {
        peek();
        int place = at;
        Term value;
        if (digitNext()) {
            long n = takeNumber(0, 99999);
            value = w -> n;
        } else {
            String word = peekWord();
            if (!VALUES.contains(word)) {
                throw new Fault(place, 0);
            }
            at += word.length();
            value = w -> w.get(word);
        }
        if (++parts > 60) {
            throw new Fault(place, 3);
        }
        return value;
    }

    // ---------------------------------------------------------------- hours

    private int size() {
        return house == null ? 0 : house.lodgers.size();
    }

    private long worth(int rule, Map<String, Long> words) {
        if (rule == -1) {
            return words.get("othertired");
        }
        for (Clause c : rules.get(rule)) {
            if (c.test == null || c.test.of(words)) {
                return c.sum.of(words);
            }
        }
        return 0;
    }

    private Map<String, Long> words(State s, State began, int i, int j, int torches) {
        Map<String, Long> w = new HashMap<>();
        w.put("lodger", (long) i);
        w.put("other", (long) j);
        w.put("tired", (long) s.tired[i]);
        w.put("othertired", (long) s.tired[j]);
        w.put("pence", (long) s.pence[i]);
        w.put("otherpence", (long) s.pence[j]);
        w.put("dear", (long) house.dear[i][j]);
        w.put("back", began.seek[j] == i ? 1L : 0L);
        w.put("seekers", Arrays.stream(s.seek).filter(k -> k == j).count());
        w.put("inside", (long) Integer.bitCount(s.bits()));
        w.put("torches", (long) torches);
        w.put("clock", (long) (s.hour % 12));
        w.put("hour", (long) s.hour);
        return w;
    }

    private State pass(State began, int rule, Wish wish) {
        State s = began.copy();
        int n = size();
        // (1)
        for (int i = 0; i < n; i++) {
            int me = i;
            s.in[i] = (Arrays.stream(began.seek).anyMatch(k -> k == me) || wish.stranger == i)
                    && wish.never != i && !house.counted[s.hour % 12];
        }
        // (2)
        Arrays.fill(s.seek, -1);
        int left = wish.torches >= 0 ? wish.torches : house.torches;
        for (int i = 0; i < n; i++) {
            if (s.in[i]) {
                continue;
            }
            if (wish.always.containsKey(i)) {
                s.seek[i] = wish.always.get(i);
                continue;
            }
            if (left == 0) {
                continue;
            }
            long best = 0;
            int whom = -1;
            for (int j = 0; j < n; j++) {
                if (j != i) {
                    long worth = worth(rule, words(s, began, i, j, left));
                    if (worth > best) {
                        best = worth;
                        whom = j;
                    }
                }
            }
            if (whom != -1) {
                left--;
            }
            s.seek[i] = whom;
        }
        // (3)
        for (int i = 0; i < n; i++) {
            s.tired[i] = s.in[i] ? Math.max(0, s.tired[i] - house.sleep) : Math.min(99, s.tired[i] + 1);
            s.slept[i] += s.in[i] ? 1 : 0;
        }
        // (4)
        for (int i = 0; i < n; i++) {
            if (s.in[i] && s.pence[i] > 0) {
                for (int j = 0; j < n; j++) {
                    if (s.seek[j] == i) {
                        s.pence[i]--;
                        s.pence[j] = Math.min(999, s.pence[j] + 1);
                        break;
                    }
                }
            }
        }
        s.hour++;
        return s;
    }

    /** The states from one on, n hours long: n + 1 of them. */
    private List<State> run(State from, int n, Wish wish) {
        List<State> all = new ArrayList<>();
        all.add(from);
        for (int k = 0; k < n; k++) {
            all.add(pass(all.get(k), force, wish));
        }
        return all;
    }

    private State last(State from, int n, Wish wish) {
        return run(from, n, wish).get(n);
    }

    private boolean is(int lodger) {
        return lodger >= 0 && lodger < size();
    }

    private static boolean within(int n, int least, int most) {
        return n >= least && n <= most;
    }

    private static int total(int[] a) {
        return Arrays.stream(a).sum();
    }

    // ---------------------------------------------------------------- the face

    int feed(int a, int b, int c, int d, int e) {
        if (tape.length > 380) {
            return -1;
        }
        java.nio.ByteBuffer buffer = java.nio.ByteBuffer.allocate(tape.length + 20);
        buffer.put(tape).putInt(a).putInt(b).putInt(c).putInt(d).putInt(e);
        tape = buffer.array();
        return tape.length;
    }

    int end(int n) {
        if (n < 0 || n > tape.length) {
            return -1;
        }
        tape = Arrays.copyOf(tape, n);
        return n;
    }

    int house() {
        try {
            house = readHouse();
        } catch (Fault f) {
            return -2 - f.number;
        } finally {
            tape = new byte[0];
        }
        state = begin();
        notes = new ArrayList<>();
        undo.clear();
        return size();
    }

    private State begin() {
        State s = new State(size());
        for (int i = 0; i < size(); i++) {
            s.tired[i] = house.lodgers.get(i)[0];
            s.pence[i] = house.lodgers.get(i)[1];
        }
        return s;
    }

    int rule() {
        if (rules.size() == 6) {
            return -1;
        }
        try {
            rules.add(readRule());
        } catch (Fault f) {
            return -2 - f.number;
        } finally {
            tape = new byte[0];
        }
        return rules.size() - 1;
    }

    int force(int rule) {
        if (!within(rule, -1, rules.size() - 1)) {
            return -2;
        }
        int was = force;
        force = rule;
        return was;
    }

    int lodger(int lodger, int what) {
        if (!is(lodger) || !within(what, 0, 4)) {
            return -2;
        }
        return new int[] {state.tired[lodger], state.pence[lodger], state.in[lodger] ? 1 : 0, state.seek[lodger],
            state.slept[lodger]}[what];
    }

    int dear(int lodger, int other) {
        return is(lodger) && is(other) && lodger != other ? house.dear[lodger][other] : -1;
    }

    private void act() {
        undo.push(state.copy());
        if (undo.size() > 20) {
            undo.removeLast();
        }
    }

    int hour() {
        if (house == null || state.hour == 999) {
            return -1;
        }
        act();
        state = pass(state, force, new Wish());
        return state.bits();
    }

    int bid(int lodger, int other) {
        if (!is(lodger) || other != -1 && !is(other) || lodger == other || state.in[lodger] || state.seek[lodger] == other) {
            return -2;
        }
        act();
        int was = state.seek[lodger];
        state.seek[lodger] = other;
        return was;
    }

    int call(int lodger) {
        if (!is(lodger) || !state.in[lodger]) {
            return -1;
        }
        act();
        state.in[lodger] = false;
        return state.bits();
    }

    int pay(int lodger, int other, int pence) {
        if (!is(lodger) || !is(other) || lodger == other || !within(pence, 1, 99) || pence > state.pence[lodger]) {
            return -1;
        }
        act();
        state.pence[lodger] -= pence;
        state.pence[other] = Math.min(999, state.pence[other] + pence);
        return state.pence[lodger];
    }

    int tire(int lodger, int much) {
        if (!is(lodger) || !within(much, 1, 20)) {
            return -1;
        }
        act();
        state.tired[lodger] = Math.min(99, state.tired[lodger] + much);
        return state.tired[lodger];
    }

    int undo() {
        if (undo.isEmpty()) {
            return -1;
        }
        state = undo.pop();
        return undo.size();
    }

    int ahead(int lodger, int n, int what) {
        if (!is(lodger) || !within(n, 0, 100) || !within(what, 0, 2)) {
            return -1;
        }
        State s = last(state, n, new Wish());
        return new int[] {s.tired[lodger], s.pence[lodger], s.slept[lodger]}[what];
    }

    int rested(int lodger) {
        if (!is(lodger)) {
            return -1;
        }
        return run(state, 199, new Wish()).stream().filter(s -> s.tired[lodger] == 0).findFirst().map(s -> s.hour).orElse(-2);
    }

    int chain(int lodger, int what) {
        if (!is(lodger) || !within(what, 0, 1)) {
            return -1;
        }
        List<Integer> on = new ArrayList<>();
        int k = lodger;
        while (k != -1 && !on.contains(k)) {
            on.add(k);
            k = state.seek[k];
        }
        return what == 0 ? on.size() : k == lodger ? 1 : 0;
    }

    int lonely() {
        if (house == null) {
            return -1;
        }
        int bits = 0;
        for (int i = 0; i < size(); i++) {
            int me = i;
            if (Arrays.stream(state.seek).noneMatch(k -> k == me)) {
                bits |= 1 << i;
            }
        }
        return bits;
    }

    private int[] bestRow;
    private int bestIn;
    private int bestSeekers;

    private void tryRows(int[] row, int i) {
        if (i < row.length) {
            for (int k = -1; k < row.length; k++) {
                if (k == -1 || k != i && !state.in[i]) {
                    row[i] = k;
                    tryRows(row, i + 1);
                }
            }
            return;
        }
        int seekers = (int) Arrays.stream(row).filter(k -> k != -1).count();
        int in = (int) Arrays.stream(row).filter(k -> k != -1).distinct().count();
        boolean better = bestRow == null || in > bestIn || in == bestIn && seekers < bestSeekers;
        if (seekers <= house.torches && better) {
            bestRow = row.clone();
            bestIn = in;
            bestSeekers = seekers;
        }
    }

    int bestRow(int what) {
        if (house == null || !within(what, -1, 5)) {
            return -3;
        }
        bestRow = null;
        tryRows(new int[size()], 0);
        return what == -1 ? bestIn : what < size() ? bestRow[what] : -2;
    }

    int forOne(int lodger, int other, int n, int what) {
        if (!is(lodger) || !is(other) || lodger == other || state.in[other] || !within(n, 1, 30) || !within(what, 0, 1)) {
            return -2;
        }
        int best = -1;
        int whom = -1;
        for (int k = -1; k < size(); k++) {
            if (k == other) {
                continue;
            }
            State s = state.copy();
            s.seek[other] = k;
            int slept = last(s, n, new Wish()).slept[lodger] - state.slept[lodger];
            if (slept > best) {
                best = slept;
                whom = k;
            }
        }
        return what == 0 ? whom : best;
    }

    int torches(int n) {
        if (house == null || !within(n, 1, 60)) {
            return -1;
        }
        for (int t = 0; t <= 7; t++) {
            Wish wish = new Wish();
            wish.torches = t;
            if (run(state, n, wish).stream().skip(1).allMatch(s -> Arrays.stream(s.tired).allMatch(k -> k <= 40))) {
                return t;
            }
        }
        return -2;
    }

    int out(int n, int what) {
        if (house == null || !within(n, 1, 30) || !within(what, 0, 1)) {
            return -2;
        }
        int best = -1;
        int who = -1;
        for (int k = -1; k < size(); k++) {
            Wish wish = new Wish();
            wish.never = k;
            int slept = total(last(state, n, wish).slept) - total(state.slept);
            if (slept > best) {
                best = slept;
                who = k;
            }
        }
        return what == 0 ? who : best;
    }

    int sleeps(int n, int what) {
        if (house == null || !within(n, 1, 100) || !within(what, 0, 1)) {
            return -1;
        }
        State s = last(state, n, new Wish());
        int who = -2;
        int best = 0;
        for (int i = 0; i < size(); i++) {
            int slept = s.slept[i] - state.slept[i];
            if (i == 0 || slept > best) {
                who = i;
                best = slept;
            }
        }
        return what == 0 ? who : best;
    }

    int ring(int what) {
        if (house == null || !within(what, 0, 1)) {
            return -1;
        }
        List<State> all = run(state, 60, new Wish());
        for (int i = 0; i < 60; i++) {
            for (int j = i + 1; j <= 60; j++) {
                State a = all.get(i);
                State b = all.get(j);
                if (a.hour % 12 == b.hour % 12 && Arrays.equals(a.in, b.in) && Arrays.equals(a.seek, b.seek)) {
                    return what == 0 ? a.hour : j - i;
                }
            }
        }
        return -2;
    }

    int pennies(int much, int lodger) {
        if (!is(lodger) || !within(much, 0, 9999)) {
            return -1;
        }
        int all = total(state.slept);
        if (all == 0) {
            return 0;
        }
        int n = size();
        int[] part = new int[n];
        List<Integer> order = new ArrayList<>();
        int left = much;
        for (int i = 0; i < n; i++) {
            part[i] = much * state.slept[i] / all;
            left -= part[i];
            order.add(i);
        }
        order.sort((a, b) -> (much * state.slept[b] - part[b] * all) - (much * state.slept[a] - part[a] * all));
        for (int k = 0; k < left; k++) {
            part[order.get(k)]++;
        }
        return part[lodger];
    }

    int rests(int one, int other, int n, int what) {
        if (!is(one) || !is(other) || one == other || !within(n, 1, 20) || !within(what, 0, 2)) {
            return -1;
        }
        int[][][] then = new int[size()][size()][];
        for (int a = 0; a < size(); a++) {
            for (int b = 0; b < size(); b++) {
                if (a != one && b != other) {
                    Wish wish = new Wish();
                    wish.always.put(one, a);
                    wish.always.put(other, b);
                    State s = last(state, n, wish);
                    then[a][b] = new int[] {s.tired[one], s.tired[other]};
                }
            }
        }
        List<int[]> twos = new ArrayList<>();
        for (int a = 0; a < size(); a++) {
            for (int b = 0; b < size(); b++) {
                boolean stays = then[a][b] != null;
                for (int k = 0; k < size() && stays; k++) {
                    stays = (then[k][b] == null || then[k][b][0] >= then[a][b][0])
                            && (then[a][k] == null || then[a][k][1] >= then[a][b][1]);
                }
                if (stays) {
                    twos.add(new int[] {a, b});
                }
            }
        }
        return what == 0 ? twos.size() : twos.isEmpty() ? -2 : twos.get(0)[what - 1];
    }

    int stays(int n) {
        if (house == null || !within(n, 0, 60)) {
            return -1;
        }
        List<State> all = run(state, n + 2, new Wish());
        return all.get(n).bits() & all.get(n + 1).bits() & all.get(n + 2).bits();
    }

    int note(int n, int lodger, int in) {
        if (n == -1) {
            notes = new ArrayList<>();
            return 0;
        }
        if (!within(n, 0, 60) || !is(lodger) || !within(in, 0, 1) || notes.size() == 10) {
            return -2;
        }
        notes.add(new Note(n, lodger, in));
        return notes.size();
    }

    /** How it stands behind each of the HOURS 0 to 60. */
    private List<State> behindEach(int rule) {
        List<State> all = new ArrayList<>();
        State now = begin();
        for (int hour = 0; hour <= 60; hour++) {
            now = pass(now, rule, new Wish());
            all.add(now);
        }
        return all;
    }

    private List<Integer> fitting() {
        List<Integer> fit = new ArrayList<>();
        for (int r = -1; r < rules.size(); r++) {
            List<State> all = behindEach(r);
            if (notes.stream().allMatch(t -> all.get(t.n).in[t.lodger] == (t.in == 1))) {
                fit.add(r);
            }
        }
        return fit;
    }

    int ruled(int what) {
        if (house == null || !within(what, 0, 1)) {
            return -3;
        }
        List<Integer> fit = fitting();
        return what == 0 ? fit.size() : fit.isEmpty() ? -2 : fit.get(0);
    }

    int look(int what) {
        if (house == null || !within(what, 0, 1)) {
            return -1;
        }
        List<List<State>> nights = fitting().stream().map(this::behindEach).toList();
        if (nights.isEmpty()) {
            return -2;
        }
        int best = -1;
        int fewest = 99;
        for (int h = 0; h <= 60; h++) {
            Map<Integer, Integer> alike = new HashMap<>();
            for (List<State> night : nights) {
                alike.merge(night.get(h).bits(), 1, Integer::sum);
            }
            int most = alike.values().stream().mapToInt(k -> k).max().getAsInt();
            if (most < fewest) {
                fewest = most;
                best = h;
            }
        }
        return what == 0 ? best : fewest;
    }

    int seed(int n) {
        if (n < 0) {
            return -1;
        }
        int was = (int) x;
        x = n;
        return was;
    }

    private int draw() {
        x = (x * 1103515245L + 12345L) % 2147483648L;
        return (int) (x / 65536);
    }

    int strangers(int m, int n, int p, int what) {
        if (house == null || !within(m, 1, 10) || !within(n, 1, 60) || !within(p, 0, 100) || !within(what, 0, 1)) {
            return -1;
        }
        long kept = x;
        int slept = 0;
        int tired = 0;
        for (int k = 0; k < m; k++) {
            State s = state;
            for (int h = 0; h < n; h++) {
                Wish wish = new Wish();
                if (draw() % 100 < p && size() > 0) {
                    wish.stranger = draw() % size();
                }
                s = pass(s, force, wish);
            }
            slept += total(s.slept) - total(state.slept);
            tired += total(s.tired);
        }
        x = kept;
        return what == 0 ? slept : tired;
    }

    int count(int what) {
        return switch (what) {
            case 0 -> house == null ? 0 : house.sleep;
            case 1 -> house == null ? 0 : house.torches;
            case 2 -> size();
            case 3 -> rules.size();
            case 4 -> force;
            case 5 -> state.hour;
            case 6 -> state.bits();
            case 7 -> house != null && house.counted[state.hour % 12] ? 1 : 0;
            case 8 -> total(state.tired);
            case 9 -> total(state.slept);
            case 10 -> notes.size();
            case 11 -> undo.size();
            case 12 -> (int) x;
            case 13 -> tape.length;
            default -> -1;
        };
    }

    int image(int k) {
        if (!within(k, 0, 3)) {
            return -1;
        }
        images[k] = new Whole(house, state.copy(), new ArrayList<>(notes), force, x);
        return state.hour;
    }

    int back(int k) {
        if (!within(k, 0, 3) || images[k] == null) {
            return -1;
        }
        house = images[k].house;
        state = images[k].state.copy();
        notes = new ArrayList<>(images[k].notes);
        force = images[k].force;
        x = images[k].x;
        undo.clear();
        return state.hour;
    }
}
