/** Edges of what is best: promises 19 to 22 and 26. */
final class BestEdges extends Edges {
    private BestEdges() { }

    // ---- 19: bestRow

    private static void dueRow(SoughtHouse x, int many, int... row) {
        due("bestRow(NONE)", x.bestRow(NONE), many);
        for (int k = 0; k < 6; k++) {
            due("bestRow(" + k + ")", x.bestRow(k), k < row.length ? row[k] : -2);
        }
    }

    static void promise19_withoutAHouse() {
        for (int what = -2; what < 7; what++) {
            due("bestRow(" + what + ")", new SoughtHouse().bestRow(what), -3);
        }
    }

    static void promise19_withoutThatWhat() {
        SoughtHouse x = told(DARK_SIX);
        for (int what : new int[] {-2, 6, 7, LEAST, MOST}) {
            due("bestRow(" + what + ")", x.bestRow(what), -3);
        }
    }

    static void promise19_thereIsNoneSuch() {
        dueRow(told("house 1 7"), 0);
        dueRow(told("house 1 7" + times(";lodger 1 1", 5)), 5, 1, 0, 3, 4, 2);
    }

    static void promise19_noTorches() {
        dueRow(told(DARK_THREE), 0, NONE, NONE, NONE);
    }

    static void promise19_oneLodger() {
        dueRow(told("house 1 7;lodger 1 1"), 0, NONE);
    }

    static void promise19_noMoreThanThereAreTorches() {
        String four = times(";lodger 1 1", 4);
        dueRow(told("house 1 1" + four), 1, NONE, NONE, NONE, 0);
        dueRow(told("house 1 2" + four), 2, NONE, NONE, 0, 1);
        dueRow(told("house 1 3" + four), 3, NONE, 0, 1, 2);
        dueRow(told("house 1 4" + four), 4, 1, 0, 3, 2);
    }

    static void promise19_moreTorchesThanLodgers() {
        dueRow(told("house 1 7;lodger 1 1;lodger 1 1"), 2, 1, 0);
        dueRow(told("house 1 7" + times(";lodger 1 1", 6)), 6, 1, 0, 3, 2, 5, 4);
    }

    static void promise19_nobodySeeksThemselves() {
        dueRow(told("house 1 3" + times(";lodger 1 1", 3)), 3, 1, 2, 0);
        dueRow(told("house 1 5" + times(";lodger 1 1", 5)), 5, 1, 0, 3, 4, 2);
    }

    static void promise19_headsAreNotCounted() {
        dueRow(told("house 1 7;lodger 1 1;lodger 1 1;count 0;count 1"), 2, 1, 0);
    }

    static void promise19_whoIsInSeeksNobody() {
        SoughtHouse x = ruled("house 1 7" + times(";lodger 1 1", 3), "seek 0");
        x.bid(0, 2);
        due("hour()", x.hour(), 4);
        dueRow(x, 2, 1, 0, NONE);
        SoughtHouse y = ruled("house 1 7" + times(";lodger 1 1", 3), "seek 0");
        y.bid(1, 0);
        due("hour()", y.hour(), 1);
        dueRow(y, 2, NONE, 0, 1);
    }

    static void promise19_whoIsInCanBeSought() {
        SoughtHouse x = ruled("house 1 7;lodger 1 1;lodger 1 1", "seek 0");
        x.bid(0, 1);
        due("hour()", x.hour(), 2);
        dueRow(x, 1, 1, NONE);
    }

    static void promise19_allAreIn() {
        SoughtHouse x = told("house 1 7;lodger 1 1;lodger 1 1");
        x.bid(0, 1);
        x.bid(1, 0);
        due("hour()", x.hour(), 3);
        dueRow(x, 0, NONE, NONE);
    }

    static void promise19_inPlaceOfWhomTheyDo() {
        SoughtHouse x = told(DARK_THREE);
        x.bid(0, 1);
        x.bid(1, 2);
        dueRow(x, 0, NONE, NONE, NONE);
        SoughtHouse y = told("house 1 1;lodger 1 1;lodger 1 1");
        y.bid(0, 1);
        dueRow(y, 1, NONE, 0);
    }

    // ---- 20: forOne

    static void promise20_withoutAHouse() {
        due("forOne(0, 1, 1, 0)", new SoughtHouse().forOne(0, 1, 1, 0), -2);
    }

    static void promise20_withoutThese() {
        SoughtHouse x = told(DARK_THREE);
        for (int lodger : new int[] {-1, 3, 6, LEAST, MOST}) {
            due("forOne(" + lodger + ", 0, 1, 0)", x.forOne(lodger, 0, 1, 0), -2);
            due("forOne(0, " + lodger + ", 1, 0)", x.forOne(0, lodger, 1, 0), -2);
        }
    }

    static void promise20_unlike() {
        due("forOne(1, 1, 1, 0)", told(DARK_THREE).forOne(1, 1, 1, 0), -2);
    }

    static void promise20_theOtherOneOut() {
        SoughtHouse x = told(DARK_THREE);
        x.bid(0, 1);
        x.hour();
        due("forOne(0, 1, 1, 0)", x.forOne(0, 1, 1, 0), -2);
        due("forOne(0, 1, 1, 1)", x.forOne(0, 1, 1, 1), -2);
        due("for one who is IN", x.forOne(1, 0, 1, 0), 1);
    }

    static void promise20_withoutTheseHours() {
        SoughtHouse x = told(DARK_THREE);
        for (int n : new int[] {0, -1, 31, LEAST, MOST}) {
            due("forOne(0, 1, " + n + ", 0)", x.forOne(0, 1, n, 0), -2);
            due("forOne(0, 1, " + n + ", 1)", x.forOne(0, 1, n, 1), -2);
        }
    }

    static void promise20_withoutThatWhat() {
        SoughtHouse x = told(DARK_THREE);
        for (int what : new int[] {-1, 2, LEAST, MOST}) {
            due("forOne(0, 1, 1, " + what + ")", x.forOne(0, 1, 1, what), -2);
        }
    }

    static void promise20_oneHour() {
        SoughtHouse x = told(DARK_THREE);
        due("whom", x.forOne(2, 1, 1, 0), 2);
        due("how long", x.forOne(2, 1, 1, 1), 1);
    }

    static void promise20_thirtyHours() {
        SoughtHouse x = ruled("house 1 1;lodger 5 0;lodger 5 0", "seek 1 if lodger=1");
        due("whom", x.forOne(0, 1, 30, 0), 0);
        due("how long", x.forOne(0, 1, 30, 1), 30);
    }

    static void promise20_ofSeveralNobody() {
        SoughtHouse x = told(DARK_THREE);
        x.bid(2, 0);
        due("whom", x.forOne(0, 1, 1, 0), NONE);
        due("how long", x.forOne(0, 1, 1, 1), 1);
        SoughtHouse y = told(DARK_THREE + ";count 0");
        due("whom, heads COUNTED", y.forOne(0, 1, 1, 0), NONE);
        due("how long, heads COUNTED", y.forOne(0, 1, 1, 1), 0);
    }

    static void promise20_thenTheLeast() {
        // As two are IN in HOUR 0, 3 seeks 0 in it: so it is if 3 seeks 1 or 2 now.
        SoughtHouse x = ruled("house 1 1" + times(";lodger 9 0", 4), "seek 1 if lodger=3 and other=0 and inside=2");
        x.bid(1, 0);
        due("whom", x.forOne(0, 3, 2, 0), 1);
        due("how long", x.forOne(0, 3, 2, 1), 2);
    }

    static void promise20_notThemselves() {
        // If 1 sought themselves, 0 and 1 would be IN in HOUR 0 and 2 would seek 0.
        SoughtHouse x = ruled("house 1 1" + times(";lodger 9 0", 3), "seek 1 if lodger=2 and other=0 and inside=2");
        x.bid(2, 0);
        due("whom", x.forOne(0, 1, 2, 0), NONE);
        due("how long", x.forOne(0, 1, 2, 1), 1);
    }

    static void promise20_inPlaceOfWhomTheyDo() {
        SoughtHouse x = told(DARK_THREE);
        x.bid(1, 0);
        due("whom", x.forOne(0, 1, 1, 0), 0);
        due("whom, for 2", x.forOne(2, 1, 1, 0), 2);
        due("whom they do", x.lodger(1, 3), 0);
    }

    static void promise20_inTheseAlone() {
        SoughtHouse x = told(DARK_THREE);
        x.bid(1, 0);
        x.hour();
        due("how long", x.forOne(0, 1, 5, 1), 1);
    }

    // ---- 21: torches

    static void promise21_withoutAHouse() {
        due("torches(1)", new SoughtHouse().torches(1), NONE);
    }

    static void promise21_withoutTheseHours() {
        SoughtHouse x = told(DARK_TWO);
        for (int n : new int[] {0, -1, 61, LEAST, MOST}) {
            due("torches(" + n + ")", x.torches(n), NONE);
        }
    }

    static void promise21_withoutLodgers() {
        due("torches(60)", told("house 1 5").torches(60), 0);
    }

    static void promise21_sixLodgers() {
        due("torches(31)", told(DARK_SIX).torches(31), 0);
        due("torches(31) of who seek nobody", ruled(DARK_SIX, "seek 0").torches(31), 0);
        due("torches(32) of who seek nobody", ruled(DARK_SIX, "seek 0").torches(32), -2);
    }

    static void promise21_fortyIsNotTooMuch() {
        due("torches(1)", told("house 9 7;lodger 39 0").torches(1), 0);
        due("torches(40)", told("house 9 7;lodger 0 0").torches(40), 0);
    }

    static void promise21_fortyOneIsTooMuch() {
        due("torches(1)", told("house 9 7;lodger 40 0").torches(1), -2);
        due("torches(41)", told("house 9 7;lodger 0 0").torches(41), -2);
    }

    static void promise21_behindAnyOfThese() {
        // With a torch 1 is 41 behind HOUR 0 and 32 behind HOUR 1.
        due("torches(2)", told("house 9 7;lodger 0 0;lodger 40 0").torches(2), -2);
    }

    static void promise21_notAheadOfThese() {
        SoughtHouse x = told("house 9 0;lodger 0 0;lodger 40 0");
        x.tire(1, 1);
        x.bid(0, 1);
        due("torches(1)", x.torches(1), 0);
    }

    static void promise21_inPlaceOfHowManyThereAre() {
        due("of none", told("house 9 0;lodger 0 0;lodger 39 0").torches(2), 1);
        due("of seven", told("house 9 7;lodger 0 0;lodger 39 0").torches(2), 1);
        due("of seven", told("house 9 7;lodger 0 0;lodger 39 0").torches(1), 0);
    }

    static void promise21_seven() {
        due("torches(2)", ruled("house 9 0;lodger 39 0;lodger 0 0", "seek 1 if torches=7 and other=0").torches(2), 7);
    }

    static void promise21_byNone() {
        due("torches(2)", ruled("house 9 7;lodger 39 0;lodger 0 0", "seek 1 if torches>7 and other=0").torches(2), -2);
    }

    static void promise21_sixtyHours() {
        // Each of the two is IN in one of four HOURS, 1 in HOUR 18 for the last time: 41 behind HOUR 59.
        SoughtHouse x = ruled("house 9 0;lodger 0 0;lodger 0 0",
                "seek 1 if hour<20 and [hour%4=1 and lodger=0 or hour%4=3 and lodger=1]");
        due("torches(59)", x.torches(59), 1);
        due("torches(60)", x.torches(60), -2);
        SoughtHouse y = ruled("house 9 0;lodger 0 0;lodger 0 0", "seek 1 if hour%4=1 and lodger=0 or hour%4=3 and lodger=1");
        due("torches(60), going on", y.torches(60), 1);
    }

    // ---- 22: out

    static void promise22_withoutAHouse() {
        due("out(1, 0)", new SoughtHouse().out(1, 0), -2);
        due("out(1, 1)", new SoughtHouse().out(1, 1), -2);
    }

    static void promise22_withoutTheseHours() {
        SoughtHouse x = told(DARK_TWO);
        for (int n : new int[] {0, -1, 31, LEAST, MOST}) {
            due("out(" + n + ", 0)", x.out(n, 0), -2);
            due("out(" + n + ", 1)", x.out(n, 1), -2);
        }
    }

    static void promise22_withoutThatWhat() {
        SoughtHouse x = told(DARK_TWO);
        for (int what : new int[] {-1, 2, LEAST, MOST}) {
            due("out(1, " + what + ")", x.out(1, what), -2);
        }
    }

    static void promise22_withoutLodgers() {
        due("who", told("house 1 1").out(30, 0), NONE);
        due("how long", told("house 1 1").out(30, 1), 0);
    }

    static void promise22_oneHour() {
        SoughtHouse x = told(DARK_TWO);
        x.bid(0, 1);
        due("who", x.out(1, 0), NONE);
        due("how long", x.out(1, 1), 1);
    }

    static void promise22_thirtyHours() {
        SoughtHouse x = ruled("house 1 1;lodger 1 0;lodger 1 0", "seek 1 if lodger=0");
        due("who", x.out(30, 0), NONE);
        due("how long", x.out(30, 1), 29);
    }

    static void promise22_ofSeveralNone() {
        due("who", told(DARK_TWO).out(5, 0), NONE);
        due("how long", told(DARK_TWO).out(5, 1), 0);
    }

    static void promise22_thenTheLeast() {
        // As one of 1 and 2 is OUT in HOUR 0, the other one sleeps, and 4 and 5 in HOUR 1.
        SoughtHouse x = ruled("house 1 2" + times(";lodger 1 0", 6),
                "seek 1 if hour=0 and inside=1 and [lodger=0 and other=4 or lodger=3 and other=5]");
        x.bid(0, 1);
        x.bid(3, 2);
        due("who", x.out(2, 0), 1);
        due("how long", x.out(2, 1), 3);
        due("who, for one HOUR", x.out(1, 0), NONE);
        due("how long, for one HOUR", x.out(1, 1), 2);
    }

    static void promise22_neverInFromNowOn() {
        // Is 0 OUT in HOUR 1, 2 alone is IN there, and 0 and 1 seek 2 and 3; else two sleep in HOUR 1 and nobody in HOUR 2.
        SoughtHouse x = ruled("house 1 7" + times(";lodger 0 0", 4),
                "seek 9 if lodger=1 and other=0 and hour=0;seek 9 if lodger=1 and other=3 and inside=1;seek 9 if lodger=0 and other=2");
        due("who", x.out(3, 0), 0);
        due("how long", x.out(3, 1), 3);
        due("who, for two HOURS", x.out(2, 0), NONE);
        due("how long, for two HOURS", x.out(2, 1), 2);
    }

    static void promise22_inTheseAlone() {
        SoughtHouse x = told(DARK_TWO);
        x.bid(0, 1);
        x.hour();
        due("how long", x.out(5, 1), 0);
    }

    // ---- 26: rests

    private static void dueRests(SoughtHouse x, int n, int many, int first, int second) {
        due("rests(0, 1, " + n + ", 0)", x.rests(0, 1, n, 0), many);
        due("rests(0, 1, " + n + ", 1)", x.rests(0, 1, n, 1), first);
        due("rests(0, 1, " + n + ", 2)", x.rests(0, 1, n, 2), second);
    }

    static void promise26_withoutAHouse() {
        due("rests(0, 1, 1, 0)", new SoughtHouse().rests(0, 1, 1, 0), NONE);
    }

    static void promise26_withoutThese() {
        SoughtHouse x = told(DARK_THREE);
        for (int lodger : new int[] {-1, 3, 6, LEAST, MOST}) {
            due("rests(" + lodger + ", 0, 1, 0)", x.rests(lodger, 0, 1, 0), NONE);
            due("rests(0, " + lodger + ", 1, 0)", x.rests(0, lodger, 1, 0), NONE);
        }
    }

    static void promise26_unlike() {
        due("rests(1, 1, 1, 0)", told(DARK_THREE).rests(1, 1, 1, 0), NONE);
        due("rests(0, 0, 1, 0) of one lodger", told("house 1 1;lodger 1 1").rests(0, 0, 1, 0), NONE);
    }

    static void promise26_withoutTheseHours() {
        SoughtHouse x = told(DARK_THREE);
        for (int n : new int[] {0, -1, 21, LEAST, MOST}) {
            due("rests(0, 1, " + n + ", 0)", x.rests(0, 1, n, 0), NONE);
        }
    }

    static void promise26_withoutThatWhat() {
        SoughtHouse x = told(DARK_THREE);
        for (int what : new int[] {-1, 3, LEAST, MOST}) {
            due("rests(0, 1, 1, " + what + ")", x.rests(0, 1, 1, what), NONE);
        }
    }

    static void promise26_oneHour() {
        // Whom they seek in it tells nobody's sleep yet.
        dueRests(told(DARK_THREE), 1, 4, 1, 0);
        dueRests(told(DARK_SIX), 1, 25, 1, 0);
    }

    static void promise26_twentyHours() {
        // Who seek one another are 0 behind HOUR 19, but 1 behind HOUR 18, where either would be 0 by seeking 2.
        dueRests(told(DARK_THREE), 19, 3, 1, 2);
        dueRests(told(DARK_THREE), 20, 4, 1, 0);
    }

    static void promise26_twoLodgers() {
        dueRests(told(DARK_TWO), 5, 1, 1, 0);
    }

    static void promise26_neitherWouldBeLess() {
        // Of 1 and 0 each would be less by seeking 2 in place of the other one.
        dueRests(told(DARK_THREE), 3, 3, 1, 2);
        dueRests(told(DARK_FOUR), 3, 8, 1, 2);
        dueRests(told(DARK_SIX), 3, 24, 1, 2);
        SoughtHouse x = told(DARK_THREE);
        due("the other way round: the first", x.rests(1, 0, 3, 1), 0);
        due("the other way round: the second", x.rests(1, 0, 3, 2), 2);
    }

    static void promise26_noTorchIsAsked() {
        dueRests(told(DARK_THREE), 3, 3, 1, 2);
        SoughtHouse lit = ruled("house 2 1;lodger 9 5;lodger 9 5;lodger 9 5", "seek 0");
        dueRests(lit, 3, 3, 1, 2);
    }

    static void promise26_noTorchIsTaken() {
        // 2 has the one torch, so that 0 is IN in HOUR 1 whatever the two do.
        SoughtHouse x = ruled("house 2 1;lodger 9 5;lodger 9 5;lodger 9 5", "seek 1 if lodger=2 and other=0");
        dueRests(x, 3, 4, 1, 0);
    }

    /** Found by a search with the class, not by hand; the Model answers the same. */
    static void promise26_thereIsNone() {
        dueRests(told("house 2 1;lodger 3 0;lodger 0 0;lodger 3 0;lodger 6 0"), 7, 0, -2, -2);
    }
}
