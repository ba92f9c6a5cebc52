/** Edges of notes, strangers, counts and images: promises 28 to 35. */
final class NightEdges extends Edges {
    /** By no RULE 0 seeks 1 in HOUR 1 for the first time, so that 1 is IN behind HOUR 2. */
    private static final String PAIR = "house 1 1;lodger 0 0;lodger 0 0";
    private static final String ONE = "house 1 0;lodger 60 0";

    private NightEdges() { }

    private static SoughtHouse withRules(String house, String... rules) {
        SoughtHouse x = told(house);
        for (int k = 0; k < rules.length; k++) {
            due("rule '" + rules[k] + "'", Check.rule(x, rules[k]), k);
        }
        return x;
    }

    private static void dueRuled(SoughtHouse x, int many, int first) {
        due("ruled(0)", x.ruled(0), many);
        due("ruled(1)", x.ruled(1), first);
    }

    private static void dueLook(SoughtHouse x, int hour, int many) {
        due("look(0)", x.look(0), hour);
        due("look(1)", x.look(1), many);
    }

    // ---- 28: note

    static void promise28_withoutAHouse() {
        SoughtHouse x = new SoughtHouse();
        dueRefused(x, "note(0, 0, 0)", () -> x.note(0, 0, 0), -2);
    }

    static void promise28_withoutThatHour() {
        SoughtHouse x = told(PAIR);
        for (int n : new int[] {-2, 61, LEAST, MOST}) {
            dueRefused(x, "note(" + n + ", 0, 0)", () -> x.note(n, 0, 0), -2);
        }
    }

    static void promise28_hours0To60() {
        SoughtHouse x = told(PAIR);
        due("note(0, 0, 0)", x.note(0, 0, 0), 1);
        due("note(60, 0, 0)", x.note(60, 0, 0), 2);
    }

    static void promise28_withoutThatLodger() {
        SoughtHouse x = told(PAIR);
        for (int lodger : new int[] {-1, 2, 6, LEAST, MOST}) {
            dueRefused(x, "note(1, " + lodger + ", 0)", () -> x.note(1, lodger, 0), -2);
        }
    }

    static void promise28_inOrOut() {
        SoughtHouse x = told(PAIR);
        for (int in : new int[] {-1, 2, LEAST, MOST}) {
            dueRefused(x, "note(1, 0, " + in + ")", () -> x.note(1, 0, in), -2);
        }
        due("note(1, 0, 0)", x.note(1, 0, 0), 1);
        due("note(1, 0, 1)", x.note(1, 0, 1), 2);
    }

    static void promise28_tenNotes() {
        SoughtHouse x = told(PAIR);
        for (int k = 1; k <= 10; k++) {
            due("note(0, 0, 0)", x.note(0, 0, 0), k);
        }
        due("NOTES", x.count(10), 10);
    }

    static void promise28_noEleventh() {
        SoughtHouse x = told(PAIR);
        for (int k = 0; k < 10; k++) {
            x.note(0, 0, 0);
        }
        dueRefused(x, "note(0, 0, 1)", () -> x.note(0, 0, 1), -2);
        dueRuled(x, 1, NONE);
    }

    static void promise28_theTenthHoldsToo() {
        SoughtHouse x = told(PAIR);
        for (int k = 0; k < 9; k++) {
            x.note(0, 0, 0);
        }
        dueRuled(x, 1, NONE);
        due("note(0, 0, 1)", x.note(0, 0, 1), 10);
        dueRuled(x, 0, -2);
    }

    static void promise28_thereAreNoneThen() {
        SoughtHouse x = told(PAIR);
        x.note(0, 0, 1);
        dueRuled(x, 0, -2);
        due("note(NONE, 0, 0)", x.note(NONE, 0, 0), 0);
        due("NOTES", x.count(10), 0);
        dueRuled(x, 1, NONE);
        due("note(0, 0, 0)", x.note(0, 0, 0), 1);
    }

    static void promise28_noneWhateverElseIsTold() {
        SoughtHouse x = told(PAIR);
        for (int k = 0; k < 10; k++) {
            x.note(0, 0, 0);
        }
        due("note(NONE, 99, 99)", x.note(NONE, 99, 99), 0);
        due("NOTES", x.count(10), 0);
        due("note(NONE, -5, -5), none again", x.note(NONE, -5, -5), 0);
        due("without a HOUSE", new SoughtHouse().note(NONE, 0, 0), 0);
    }

    // ---- 29: ruled

    static void promise29_withoutAHouse() {
        due("ruled(0)", new SoughtHouse().ruled(0), -3);
        due("ruled(1)", new SoughtHouse().ruled(1), -3);
    }

    static void promise29_withoutThatWhat() {
        SoughtHouse x = told(PAIR);
        for (int what : new int[] {-1, 2, LEAST, MOST}) {
            due("ruled(" + what + ")", x.ruled(what), -3);
        }
    }

    static void promise29_withoutNotesAllAreSo() {
        SoughtHouse x = told(PAIR);
        for (int k = 0; k < 6; k++) {
            dueRuled(x, k + 1, NONE);
            Check.rule(x, "seek 0");
        }
        dueRuled(x, 7, NONE);
    }

    static void promise29_withoutLodgers() {
        dueRuled(withRules("house 1 1", "seek 1"), 2, NONE);
    }

    static void promise29_noneAheadOf0() {
        SoughtHouse x = withRules(PAIR, "seek 0", "seek 1 if lodger=0 and hour>0");
        x.note(2, 1, 1);
        dueRuled(x, 2, NONE);
    }

    static void promise29_theFirstOfTheRules() {
        SoughtHouse x = withRules(PAIR, "seek 1 if lodger=0", "seek 0", "seek 0");
        x.note(2, 1, 0);
        dueRuled(x, 2, 1);
    }

    static void promise29_theSixthAlone() {
        SoughtHouse x = withRules(PAIR, "seek 0", "seek 0", "seek 0", "seek 0", "seek 0", "seek 1 if lodger=0");
        x.note(1, 1, 1);
        dueRuled(x, 1, 5);
    }

    static void promise29_noneIsSo() {
        SoughtHouse x = withRules(PAIR, "seek 0", "seek 1 if lodger=0");
        x.note(1, 0, 1);
        dueRuled(x, 0, -2);
    }

    static void promise29_allNotes() {
        SoughtHouse x = withRules(PAIR, "seek 1 if lodger=0");
        x.note(1, 1, 1);
        dueRuled(x, 1, 0);
        x.note(1, 1, 0);
        dueRuled(x, 0, -2);
    }

    static void promise29_behindTheFirstHourOfAll() {
        SoughtHouse x = withRules(PAIR, "seek 1 if lodger=0");
        x.note(0, 0, 0);
        x.note(0, 1, 0);
        dueRuled(x, 2, NONE);
        x.note(1, 1, 1);
        dueRuled(x, 1, 0);
        x.note(0, 1, 1);
        dueRuled(x, 0, -2);
    }

    static void promise29_behindHour60() {
        SoughtHouse x = withRules(PAIR, "seek 0", "seek 1 if lodger=0 and hour=59", "seek 1 if lodger=0 and hour=60");
        x.note(2, 1, 0);
        dueRuled(x, 3, 0);
        x.note(60, 1, 1);
        dueRuled(x, 1, 1);
    }

    static void promise29_allAsTheTextToldIt() {
        SoughtHouse x = withRules(PAIR, "seek 1 if lodger=0");
        x.note(1, 1, 0);
        x.note(2, 1, 1);
        dueRuled(x, 1, NONE);
        x.tire(1, 20);
        dueRuled(x, 1, NONE);
        x.bid(1, 0);
        hours(x, 3);
        dueRuled(x, 1, NONE);
    }

    static void promise29_penceAsToldToo() {
        SoughtHouse x = withRules("house 1 1;lodger 0 5;lodger 0 5", "seek 1 if lodger=0 and otherpence=5");
        x.note(1, 1, 1);
        dueRuled(x, 1, 0);
        x.pay(1, 0, 5);
        dueRuled(x, 1, 0);
    }

    static void promise29_tiredAsToldToo() {
        SoughtHouse x = told("house 1 1;lodger 0 0;lodger 9 0");
        x.note(1, 1, 1);
        dueRuled(x, 1, NONE);
        x.image(0);
        Check.house(x, PAIR);
        x.note(1, 1, 1);
        dueRuled(x, 0, -2);
        x.back(0);
        dueRuled(x, 1, NONE);
    }

    static void promise29_whicheverIsInForce() {
        SoughtHouse x = withRules(PAIR, "seek 0", "seek 1 if lodger=0");
        x.note(1, 1, 1);
        for (int rule = NONE; rule < 2; rule++) {
            x.force(rule);
            dueRuled(x, 1, 1);
        }
    }

    static void promise29_headsAreCounted() {
        SoughtHouse x = withRules(PAIR + ";count 1", "seek 1 if lodger=0");
        x.note(1, 1, 1);
        dueRuled(x, 0, -2);
        x.note(NONE, 0, 0);
        x.note(13, 1, 0);
        x.note(12, 1, 1);
        due("the RULE is so", x.ruled(0) > 0 ? 1 : 0, 1);
    }

    // ---- 30: look

    static void promise30_withoutAHouse() {
        due("look(0)", new SoughtHouse().look(0), NONE);
        due("look(1)", new SoughtHouse().look(1), NONE);
    }

    static void promise30_withoutThatWhat() {
        SoughtHouse x = told(PAIR);
        for (int what : new int[] {-1, 2, LEAST, MOST}) {
            due("look(" + what + ")", x.look(what), NONE);
        }
    }

    static void promise30_noRuleIsSo() {
        SoughtHouse x = withRules(PAIR, "seek 0");
        x.note(0, 1, 1);
        dueLook(x, -2, -2);
    }

    static void promise30_oneAlone() {
        dueLook(told(PAIR), 0, 1);
        dueLook(told("house 1 1"), 0, 1);
    }

    static void promise30_nothingPartsThem() {
        SoughtHouse x = withRules(PAIR, "seek 0", "seek 1 if lodger=0 and hour=60", "seek 0-1");
        x.note(2, 1, 0);
        dueLook(x, 0, 3);
    }

    static void promise30_theLastHour() {
        SoughtHouse x = withRules(PAIR, "seek 0", "seek 1 if lodger=0 and hour=59", "seek 0");
        x.note(2, 1, 0);
        dueLook(x, 60, 2);
    }

    static void promise30_theFirstHourThatParts() {
        // Behind HOUR 0 nobody is IN by any.
        SoughtHouse x = withRules(PAIR, "seek 0", "seek 1 if lodger=0 and hour=0");
        x.note(2, 1, 0);
        dueLook(x, 1, 1);
    }

    static void promise30_ofSeveralTheLeast() {
        SoughtHouse x = withRules(PAIR, "seek 0", "seek 1 if lodger=0 and [hour=4 or hour=8]");
        x.note(2, 1, 0);
        dueLook(x, 5, 1);
    }

    static void promise30_theMostAlikeAreFewest() {
        SoughtHouse x = withRules(PAIR + ";lodger 0 0", "seek 0", "seek 1 if lodger=0 and other=1 and [hour=3 or hour=7]",
                "seek 1 if lodger=0 and other=2 and hour=7", "seek 0");
        x.note(2, 1, 0);
        // Behind HOUR 4 three are alike, behind HOUR 8 two.
        dueLook(x, 8, 2);
    }

    static void promise30_onlyThoseThatAreSo() {
        SoughtHouse x = withRules(PAIR, "seek 0", "seek 1 if lodger=0 and hour=4", "seek 1 if lodger=0 and hour=8");
        x.note(2, 1, 0);
        dueLook(x, 5, 2);
        x.note(5, 1, 0);
        dueLook(x, 9, 1);
        x.note(9, 1, 0);
        dueLook(x, 0, 1);
    }

    static void promise30_allSevenAlike() {
        SoughtHouse x = withRules("house 1 0;lodger 1 1;lodger 1 1", "seek 1", "seek 1", "seek 1", "seek 1", "seek 1", "seek 1");
        dueLook(x, 0, 7);
    }

    // ---- 31: seed

    static void promise31_zeroAtFirst() {
        due("seed(1)", new SoughtHouse().seed(1), 0);
    }

    static void promise31_below0() {
        SoughtHouse x = new SoughtHouse();
        x.seed(5);
        dueRefused(x, "seed(-1)", () -> x.seed(-1), NONE);
        dueRefused(x, "seed(LEAST)", () -> x.seed(LEAST), NONE);
    }

    static void promise31_zeroTo2147483647() {
        SoughtHouse x = new SoughtHouse();
        due("seed(MOST)", x.seed(MOST), 0);
        due("x", x.count(12), MOST);
        due("seed(0)", x.seed(0), MOST);
        due("x", x.count(12), 0);
        due("seed(0) again", x.seed(0), 0);
    }

    // ---- 32: strangers

    private static void dueStrangers(SoughtHouse x, int m, int n, int p, int slept, int tired) {
        String call = "strangers(" + m + ", " + n + ", " + p + ", ";
        due(call + "0)", x.strangers(m, n, p, 0), slept);
        due(call + "1)", x.strangers(m, n, p, 1), tired);
    }

    static void promise32_withoutAHouse() {
        dueStrangers(new SoughtHouse(), 1, 1, 50, NONE, NONE);
    }

    static void promise32_withoutLodgers() {
        dueStrangers(told("house 1 1"), 10, 60, 100, 0, 0);
    }

    static void promise32_withoutTheseTimes() {
        SoughtHouse x = told(ONE);
        for (int m : new int[] {0, -1, 11, LEAST, MOST}) {
            dueStrangers(x, m, 1, 50, NONE, NONE);
        }
    }

    static void promise32_withoutTheseHours() {
        SoughtHouse x = told(ONE);
        for (int n : new int[] {0, -1, 61, LEAST, MOST}) {
            dueStrangers(x, 1, n, 50, NONE, NONE);
        }
    }

    static void promise32_withoutThatPart() {
        SoughtHouse x = told(ONE);
        for (int p : new int[] {-1, 101, LEAST, MOST}) {
            dueStrangers(x, 1, 1, p, NONE, NONE);
        }
    }

    static void promise32_withoutThatWhat() {
        SoughtHouse x = told(ONE);
        for (int what : new int[] {-1, 2, LEAST, MOST}) {
            due("strangers(1, 1, 50, " + what + ")", x.strangers(1, 1, 50, what), NONE);
        }
    }

    static void promise32_onceOneHour() {
        dueStrangers(told(ONE), 1, 1, 100, 1, 59);
        dueStrangers(told(ONE), 1, 1, 0, 0, 61);
    }

    static void promise32_tenTimes60Hours() {
        dueStrangers(told(ONE), 10, 60, 100, 600, 0);
        dueStrangers(told(ONE), 1, 60, 100, 60, 0);
        dueStrangers(told(ONE), 10, 1, 100, 10, 590);
    }

    static void promise32_neverBelow0() {
        dueStrangers(told(ONE), 10, 60, 0, 0, 990);
        // The first DRAW from 0 on is 0.
        dueStrangers(told(ONE), 1, 1, 0, 0, 61);
        dueStrangers(told(ONE), 1, 1, 1, 1, 59);
    }

    static void promise32_aDrawBelowP() {
        SoughtHouse x = told(ONE);
        // 15929
        x.seed(MOST);
        dueStrangers(x, 1, 1, 29, 0, 61);
        dueStrangers(x, 1, 1, 30, 1, 59);
        // 16838
        x.seed(1);
        dueStrangers(x, 1, 1, 38, 0, 61);
        dueStrangers(x, 1, 1, 39, 1, 59);
        // 17747, from 1163074432
        x.seed(3);
        dueStrangers(x, 1, 1, 47, 0, 61);
        dueStrangers(x, 1, 1, 48, 1, 59);
    }

    static void promise32_aDrawModHowMany() {
        // 15929, 4409: 1 of 2, 2 of 3, 5 of 6
        SoughtHouse two = told("house 9 0;lodger 10 0;lodger 20 0");
        two.seed(MOST);
        dueStrangers(two, 1, 1, 30, 1, 11 + 11);
        two.tire(1, 20);
        two.tire(1, 10);
        dueStrangers(two, 1, 1, 30, 1, 11 + 41);
        SoughtHouse three = told("house 9 0;lodger 0 0;lodger 0 0;lodger 20 0");
        three.seed(MOST);
        dueStrangers(three, 1, 1, 30, 1, 1 + 1 + 11);
        SoughtHouse six = told("house 9 0" + times(";lodger 0 0", 5) + ";lodger 20 0");
        six.seed(MOST);
        dueStrangers(six, 1, 1, 30, 1, 5 + 11);
    }

    static void promise32_aSecondDrawOnlyIfBelowP() {
        // From 0 on DRAWS mod 100 are 0, 68, 88, 17, 98, 27: of HOURS 0, 68 and 98 are whom.
        dueStrangers(told(ONE), 1, 2, 50, 1, 60);
        dueStrangers(told(ONE), 1, 3, 50, 2, 59);
        dueStrangers(told(ONE), 1, 4, 50, 3, 58);
    }

    static void promise32_drawsGoOnFromTimeToTime() {
        dueStrangers(told(ONE), 2, 1, 50, 1, 59 + 61);
        dueStrangers(told(ONE), 3, 1, 50, 2, 59 + 61 + 59);
    }

    static void promise32_eachTimeFromNowOn() {
        dueStrangers(told(ONE), 2, 2, 100, 4, 58 + 58);
    }

    static void promise32_inOneHourAlone() {
        SoughtHouse x = told(ONE);
        due("slept in HOUR 0, not in HOUR 1", x.strangers(1, 2, 50, 0), 1);
    }

    static void promise32_headsAreCounted() {
        dueStrangers(told(ONE + ";count 0"), 1, 1, 100, 0, 61);
        dueStrangers(told(ONE + ";count 1"), 1, 3, 100, 2, 59);
    }

    static void promise32_whomLodgersSeekSleepToo() {
        SoughtHouse x = told(DARK_TWO);
        x.bid(0, 1);
        dueStrangers(x, 1, 1, 0, 1, 10 + 7);
        // 0 and 21468: the stranger seeks 0
        dueStrangers(x, 1, 1, 1, 2, 7 + 7);
    }

    static void promise32_inTheseAlone() {
        SoughtHouse x = told(DARK_TWO);
        x.bid(0, 1);
        x.hour();
        dueStrangers(x, 1, 1, 0, 0, 11 + 8);
    }

    static void promise32_nothingStays() {
        SoughtHouse x = told(DARK_THREE);
        x.seed(9);
        String was = figure(x);
        x.strangers(10, 60, 70, 0);
        dueSame("strangers", figure(x), was);
        due("x", x.count(12), 9);
        due("no stranger in an hour by hand", x.hour(), 0);
    }

    // ---- 33: count

    static void promise33_withoutThatWhat() {
        for (int what : new int[] {-1, 14, LEAST, MOST}) {
            due("count(" + what + ")", new SoughtHouse().count(what), NONE);
            due("count(" + what + ")", told(DARK_TWO).count(what), NONE);
        }
    }

    static void promise33_withoutAHouse() {
        int[] want = {0, 0, 0, 0, NONE, 0, 0, 0, 0, 0, 0, 0, 0, 0};
        for (int what = 0; what < WHATS; what++) {
            due("count(" + what + ")", new SoughtHouse().count(what), want[what]);
        }
    }

    static void promise33_each() {
        SoughtHouse x = ruled("house 3 2;lodger 10 5;lodger 20 0;lodger 15 7;count 2", "seek otherpence");
        x.seed(3);
        x.feed(0, 0, 0, 0, 0);
        hours(x, 2);
        x.note(1, 1, 1);
        int[] want = {3, 2, 3, 1, 0, 2, 4, 1, 47, 1, 1, 2, 3, 20};
        for (int what = 0; what < WHATS; what++) {
            due("count(" + what + ")", x.count(what), want[what]);
        }
    }

    static void promise33_mostOfEach() {
        SoughtHouse x = told("house 9 7" + times(";lodger 60 99", 6) + ";count 0");
        for (int k = 0; k < 6; k++) {
            Check.rule(x, "seek 1");
            x.note(0, 0, 0);
            x.tire(k, 20);
            x.tire(k, 20);
            x.tire(k, 20);
            x.bid(k, (k + 1) % 6);
        }
        x.force(5);
        x.seed(MOST);
        int[] want = {9, 7, 6, 6, 5, 0, 0, 1, 594, 0, 6, 20, MOST, 0};
        for (int what = 0; what < WHATS; what++) {
            due("count(" + what + ")", x.count(what), want[what]);
        }
        x.hour();
        due("nobody is IN as heads are COUNTED", x.count(6), 0);
        due("TIRED", x.count(8), 594);
        x.hour();
        due("IN by the RULE: 0 and 1", x.count(6), 3);
        due("slept", x.count(9), 2);
    }

    static void promise33_headsCountedAtHourMod12() {
        SoughtHouse x = told(PAIR + ";count 0;count 11");
        for (int hour = 0; hour < 26; hour++) {
            due("count(7) in HOUR " + hour, x.count(7), hour % 12 == 0 || hour % 12 == 11 ? 1 : 0);
            x.hour();
        }
    }

    // ---- 34: image

    static void promise34_withoutIt() {
        SoughtHouse x = told(DARK_TWO);
        for (int k : new int[] {-1, 4, LEAST, MOST}) {
            dueRefused(x, "image(" + k + ")", () -> x.image(k), NONE);
        }
        for (int k = 0; k < 4; k++) {
            due("back(" + k + ")", x.back(k), NONE);
        }
    }

    static void promise34_withoutAHouse() {
        SoughtHouse x = new SoughtHouse();
        due("image(3)", x.image(3), 0);
        Check.house(x, DARK_TWO);
        due("back(3)", x.back(3), 0);
        due("hour()", x.hour(), NONE);
        due("LODGERS", x.count(2), 0);
    }

    static void promise34_fourImages() {
        SoughtHouse x = told(DARK_TWO);
        for (int k = 0; k < 4; k++) {
            due("image(" + k + ")", x.image(k), k);
            x.hour();
        }
        for (int k = 3; k >= 0; k--) {
            due("back(" + k + ")", x.back(k), k);
            due("TIRED", x.lodger(0, 0), 9 + k);
        }
    }

    static void promise34_nothingElseChanges() {
        SoughtHouse x = told(DARK_TWO);
        hours(x, 3);
        String was = figure(x);
        due("image(0)", x.image(0), 3);
        dueSame("image(0)", figure(x), was);
        due("undo()", x.undo(), 2);
    }

    static void promise34_inPlaceOfTheOneThereWas() {
        SoughtHouse x = told(DARK_TWO);
        x.image(2);
        hours(x, 5);
        due("image(2)", x.image(2), 5);
        x.hour();
        due("back(2)", x.back(2), 5);
    }

    // ---- 35: back

    static void promise35_withoutIt() {
        SoughtHouse x = told(DARK_TWO);
        for (int k = 0; k < 4; k++) {
            x.image(k);
        }
        hours(x, 2);
        for (int k : new int[] {-1, 4, LEAST, MOST}) {
            dueRefused(x, "back(" + k + ")", () -> x.back(k), NONE);
        }
    }

    static void promise35_neverMade() {
        SoughtHouse x = told(DARK_TWO);
        x.image(1);
        hours(x, 2);
        for (int k : new int[] {0, 2, 3}) {
            dueRefused(x, "back(" + k + ")", () -> x.back(k), NONE);
        }
    }

    static void promise35_allIsAsInTheImage() {
        SoughtHouse x = ruled("house 3 2;lodger 10 5;lodger 20 6;lodger 15 7;dear 0 1 4;count 5", "seek otherpence");
        hours(x, 3);
        x.seed(6);
        x.note(1, 0, 0);
        x.bid(0, NONE);
        x.image(0);
        // Nothing can be UNDONE behind this, as behind the other one.
        x.back(0);
        String was = figure(x);
        Check.house(x, "house 9 7" + times(";lodger 60 99", 6) + ";dear 5 4 9;count 3");
        x.force(NONE);
        x.seed(1);
        hours(x, 4);
        x.note(0, 5, 1);
        due("back(0)", x.back(0), 3);
        dueSame("back(0)", figure(x), was);
    }

    static void promise35_notesToo() {
        SoughtHouse x = withRules(PAIR, "seek 1 if lodger=0", "seek 0");
        x.note(1, 1, 1);
        x.note(3, 0, 0);
        x.image(0);
        dueRuled(x, 1, 0);
        x.note(NONE, 0, 0);
        due("NOTES", x.count(10), 0);
        x.back(0);
        due("NOTES", x.count(10), 2);
        dueRuled(x, 1, 0);
        int[][] others = {{0, 1, 0}, {1, 0, 0}, {1, 1, 0}};
        for (int[] other : others) {
            x.note(NONE, 0, 0);
            x.note(other[0], other[1], other[2]);
            due("others are so", x.ruled(0) == 1 && x.ruled(1) == 0 ? 1 : 0, 0);
            x.back(0);
            due("NOTES", x.count(10), 2);
            dueRuled(x, 1, 0);
        }
    }

    static void promise35_theTapeStays() {
        SoughtHouse x = told(DARK_TWO);
        x.image(0);
        Check.tell(x, "seek 1");
        x.back(0);
        due("bytes", x.count(13), 6);
        due("rule()", x.rule(), 0);
    }

    static void promise35_theRulesStay() {
        SoughtHouse x = told(PAIR);
        x.image(0);
        Check.rule(x, "seek 1 if lodger=0");
        x.force(0);
        x.back(0);
        due("RULES", x.count(3), 1);
        due("IN FORCE", x.count(4), NONE);
        due("force(0)", x.force(0), NONE);
        x.hour();
        due("by the RULE", x.lodger(0, 3), 1);
    }

    static void promise35_theRuleInForceToo() {
        SoughtHouse x = ruled(PAIR, "seek 1 if lodger=0");
        x.image(0);
        x.force(NONE);
        x.back(0);
        due("IN FORCE", x.count(4), 0);
    }

    static void promise35_imagesStay() {
        SoughtHouse x = told(DARK_TWO);
        x.image(0);
        hours(x, 2);
        x.image(1);
        due("back(0)", x.back(0), 0);
        x.tire(0, 20);
        x.hour();
        due("back(0) again", x.back(0), 0);
        due("TIRED", x.lodger(0, 0), 9);
        due("back(1)", x.back(1), 2);
        due("TIRED", x.lodger(0, 0), 11);
    }

    static void promise35_nothingCanBeUndoneThen() {
        SoughtHouse x = told(DARK_TWO);
        hours(x, 3);
        x.image(0);
        hours(x, 2);
        x.back(0);
        due("ACTS", x.count(11), 0);
        dueRefused(x, "undo()", x::undo, NONE);
        x.hour();
        due("undo()", x.undo(), 0);
        due("HOUR", x.count(5), 3);
    }
}
