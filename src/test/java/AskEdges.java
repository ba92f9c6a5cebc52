/** Edges of what is asked of hours that come: promises 15 to 18, 23 to 25 and 27. */
final class AskEdges extends Edges {
    /** Lodger 0 is never IN, lodger 1 from HOUR 1 on. */
    private static final String PAIR = "house 1 1;lodger 0 0;lodger 60 7";
    private static final String FIRST_SEEKS = "seek 1 if lodger=0";

    private AskEdges() { }

    static void askAll(SoughtHouse x) {
        for (int k = 0; k < 3; k++) {
            x.ahead(k, 100, k);
            x.rested(k);
            x.chain(k, 0);
            x.pennies(99, k);
            x.bestRow(k);
            x.forOne(k, (k + 1) % 3, 30, 0);
            x.rests(k, (k + 1) % 3, 20, 0);
        }
        x.lonely();
        x.torches(60);
        x.out(30, 0);
        x.sleeps(100, 0);
        x.ring(0);
        x.stays(60);
        x.ruled(0);
        x.look(0);
        x.strangers(10, 60, 100, 0);
        for (int what = 0; what < WHATS; what++) {
            x.count(what);
        }
    }

    // ---- 15: ahead

    static void promise15_withoutAHouse() {
        due("ahead(0, 1, 0)", new SoughtHouse().ahead(0, 1, 0), NONE);
    }

    static void promise15_withoutThatLodger() {
        SoughtHouse x = ruled(PAIR, FIRST_SEEKS);
        for (int lodger : new int[] {-1, 2, 6, LEAST, MOST}) {
            due("ahead(" + lodger + ", 1, 0)", x.ahead(lodger, 1, 0), NONE);
        }
    }

    static void promise15_withoutThatWhat() {
        SoughtHouse x = ruled(PAIR, FIRST_SEEKS);
        for (int what : new int[] {-1, 3, LEAST, MOST}) {
            due("ahead(0, 1, " + what + ")", x.ahead(0, 1, what), NONE);
        }
    }

    static void promise15_noHoursAhead() {
        SoughtHouse x = ruled(PAIR, FIRST_SEEKS);
        int[] want = {60, 7, 0};
        for (int what = 0; what < 3; what++) {
            due("ahead(1, 0, " + what + ")", x.ahead(1, 0, what), want[what]);
        }
    }

    static void promise15_below0Hours() {
        SoughtHouse x = ruled(PAIR, FIRST_SEEKS);
        due("ahead(1, -1, 0)", x.ahead(1, -1, 0), NONE);
        due("ahead(1, LEAST, 0)", x.ahead(1, LEAST, 0), NONE);
    }

    static void promise15_hundredHoursAhead() {
        SoughtHouse x = ruled(PAIR, FIRST_SEEKS);
        due("TIRED", x.ahead(0, 100, 0), 99);
        due("PENCE", x.ahead(0, 100, 1), 7);
        due("slept", x.ahead(1, 100, 2), 99);
    }

    static void promise15_above100Hours() {
        SoughtHouse x = ruled(PAIR, FIRST_SEEKS);
        due("ahead(1, 101, 0)", x.ahead(1, 101, 0), NONE);
        due("ahead(1, MOST, 0)", x.ahead(1, MOST, 0), NONE);
    }

    static void promise15_tired0AtLeastAnd99AtMost() {
        SoughtHouse x = ruled(PAIR, FIRST_SEEKS);
        due("ahead(1, 61, 0)", x.ahead(1, 61, 0), 1);
        due("ahead(1, 62, 0)", x.ahead(1, 62, 0), 0);
        due("ahead(1, 63, 0)", x.ahead(1, 63, 0), 0);
        due("ahead(0, 98, 0)", x.ahead(0, 98, 0), 98);
        due("ahead(0, 99, 0)", x.ahead(0, 99, 0), 99);
    }

    static void promise15_penceTillNoneIsLeft() {
        SoughtHouse x = ruled(PAIR, FIRST_SEEKS);
        due("ahead(1, 1, 1)", x.ahead(1, 1, 1), 7);
        due("ahead(1, 7, 1)", x.ahead(1, 7, 1), 1);
        due("ahead(1, 8, 1)", x.ahead(1, 8, 1), 0);
        due("ahead(1, 9, 1)", x.ahead(1, 9, 1), 0);
        due("ahead(0, 9, 1)", x.ahead(0, 9, 1), 7);
    }

    static void promise15_whatWasSleptCounts() {
        SoughtHouse x = ruled(PAIR, FIRST_SEEKS);
        hours(x, 3);
        due("ahead(1, 0, 2)", x.ahead(1, 0, 2), 2);
        due("ahead(1, 5, 2)", x.ahead(1, 5, 2), 7);
    }

    static void promise15_byTheRuleInForce() {
        SoughtHouse x = ruled("house 1 1;lodger 5 0;lodger 5 0", "seek 0");
        due("by the RULE", x.ahead(1, 3, 2), 0);
        x.force(NONE);
        due("by none", x.ahead(1, 3, 2), 2);
    }

    static void promise15_byWhatIsAskedNothingChanges() {
        SoughtHouse x = ruled("house 3 2;lodger 10 5;lodger 20 6;lodger 15 7;dear 0 1 4;count 5", "seek otherpence+seekers");
        hours(x, 3);
        x.seed(6);
        x.note(1, 0, 0);
        x.feed(0, 0, 0, 0, 0);
        String was = figure(x);
        askAll(x);
        dueSame("all that can be asked", figure(x), was);
        due("undo()", x.undo(), 2);
    }

    // ---- 16: rested

    static void promise16_withoutAHouse() {
        due("rested(0)", new SoughtHouse().rested(0), NONE);
    }

    static void promise16_withoutThatLodger() {
        SoughtHouse x = told(DARK_TWO);
        for (int lodger : new int[] {-1, 2, 6, LEAST, MOST}) {
            due("rested(" + lodger + ")", x.rested(lodger), NONE);
        }
    }

    static void promise16_thisHourIsTheFirst() {
        SoughtHouse x = told("house 9 0;lodger 0 0;lodger 1 0");
        due("rested(0)", x.rested(0), 0);
        x.bid(1, 0);
        x.hour();
        due("rested(0) in HOUR 1", x.rested(0), 1);
        x.hour();
        due("rested(0) in HOUR 2", x.rested(0), -2);
    }

    static void promise16_atTheBegin() {
        SoughtHouse x = ruled("house 9 1;lodger 0 0;lodger 8 0", FIRST_SEEKS);
        // 9 behind HOUR 0, 0 behind HOUR 1
        due("rested(1)", x.rested(1), 2);
        x.hour();
        due("rested(1) in HOUR 1", x.rested(1), 2);
    }

    static void promise16_theLastOf200() {
        SoughtHouse x = ruled("house 9 1;lodger 5 0;lodger 5 0", "seek 1 if lodger=0 and hour>=187");
        // 99 at the begin of HOUR 188, IN for eleven HOURS from there on
        due("rested(1)", x.rested(1), 199);
    }

    static void promise16_atNoneOfThese() {
        SoughtHouse x = ruled("house 9 1;lodger 5 0;lodger 5 0", "seek 1 if lodger=0 and hour>=188");
        due("rested(1)", x.rested(1), -2);
        due("rested(0)", x.rested(0), -2);
        x.hour();
        due("rested(1) in HOUR 1", x.rested(1), 200);
    }

    // ---- 17: chain

    static void promise17_withoutAHouse() {
        due("chain(0, 0)", new SoughtHouse().chain(0, 0), NONE);
    }

    static void promise17_withoutThatLodger() {
        SoughtHouse x = told(DARK_TWO);
        for (int lodger : new int[] {-1, 2, 6, LEAST, MOST}) {
            due("chain(" + lodger + ", 0)", x.chain(lodger, 0), NONE);
            due("chain(" + lodger + ", 1)", x.chain(lodger, 1), NONE);
        }
    }

    static void promise17_withoutThatWhat() {
        SoughtHouse x = told(DARK_TWO);
        for (int what : new int[] {-1, 2, LEAST, MOST}) {
            due("chain(0, " + what + ")", x.chain(0, what), NONE);
        }
    }

    private static void dueChain(SoughtHouse x, int lodger, int many, int round) {
        due("chain(" + lodger + ", 0)", x.chain(lodger, 0), many);
        due("chain(" + lodger + ", 1)", x.chain(lodger, 1), round);
    }

    static void promise17_whoSeeksNobody() {
        dueChain(told(DARK_TWO), 0, 1, 0);
    }

    static void promise17_tillOneSeeksNobody() {
        SoughtHouse x = told(DARK_SIX);
        for (int k = 0; k < 5; k++) {
            x.bid(k, k + 1);
        }
        for (int k = 0; k < 6; k++) {
            dueChain(x, k, 6 - k, 0);
        }
    }

    static void promise17_itComesRoundToThem() {
        SoughtHouse x = told(DARK_TWO);
        x.bid(0, 1);
        x.bid(1, 0);
        dueChain(x, 0, 2, 1);
        dueChain(x, 1, 2, 1);
    }

    static void promise17_allSixRound() {
        SoughtHouse x = told(DARK_SIX);
        for (int k = 0; k < 6; k++) {
            x.bid(k, (k + 1) % 6);
        }
        for (int k = 0; k < 6; k++) {
            dueChain(x, k, 6, 1);
        }
    }

    static void promise17_anotherOneComesAgain() {
        SoughtHouse x = told(DARK_SIX);
        x.bid(0, 1);
        x.bid(1, 2);
        x.bid(2, 1);
        dueChain(x, 0, 3, 0);
        x.bid(5, 0);
        dueChain(x, 5, 4, 0);
        x.bid(3, 4);
        x.bid(4, 5);
        dueChain(x, 3, 6, 0);
        dueChain(x, 2, 2, 1);
    }

    // ---- 18: lonely

    static void promise18_withoutAHouse() {
        due("lonely()", new SoughtHouse().lonely(), NONE);
    }

    static void promise18_withoutLodgers() {
        due("lonely()", told("house 1 1").lonely(), 0);
    }

    static void promise18_allOfThem() {
        due("lonely()", told("house 1 1;lodger 1 1").lonely(), 1);
        due("lonely()", told(DARK_SIX).lonely(), 63);
    }

    static void promise18_noneOfThem() {
        SoughtHouse x = told(DARK_SIX);
        for (int k = 0; k < 6; k++) {
            x.bid(k, (k + 1) % 6);
        }
        due("lonely()", x.lonely(), 0);
    }

    static void promise18_whoIsInAndSoughtNoMore() {
        SoughtHouse x = told(DARK_TWO);
        x.bid(0, 1);
        due("lonely()", x.lonely(), 1);
        due("hour()", x.hour(), 2);
        due("lonely() then", x.lonely(), 3);
    }

    // ---- 23: sleeps

    static void promise23_withoutAHouse() {
        due("sleeps(1, 0)", new SoughtHouse().sleeps(1, 0), NONE);
        due("sleeps(1, 1)", new SoughtHouse().sleeps(1, 1), NONE);
    }

    static void promise23_thereIsNobody() {
        due("sleeps(1, 0)", told("house 1 1").sleeps(1, 0), -2);
        due("sleeps(100, 1)", told("house 1 1").sleeps(100, 1), 0);
        due("sleeps(0, 0)", told("house 1 1").sleeps(0, 0), NONE);
    }

    static void promise23_withoutTheseHours() {
        SoughtHouse x = ruled(PAIR, FIRST_SEEKS);
        for (int n : new int[] {0, -1, 101, LEAST, MOST}) {
            due("sleeps(" + n + ", 0)", x.sleeps(n, 0), NONE);
            due("sleeps(" + n + ", 1)", x.sleeps(n, 1), NONE);
        }
    }

    static void promise23_withoutThatWhat() {
        SoughtHouse x = ruled(PAIR, FIRST_SEEKS);
        for (int what : new int[] {-1, 2, LEAST, MOST}) {
            due("sleeps(1, " + what + ")", x.sleeps(1, what), NONE);
        }
    }

    static void promise23_oneHour() {
        SoughtHouse x = ruled(PAIR, FIRST_SEEKS);
        due("who", x.sleeps(1, 0), 0);
        due("how long", x.sleeps(1, 1), 0);
        x.hour();
        due("who from HOUR 1", x.sleeps(1, 0), 1);
        due("how long from HOUR 1", x.sleeps(1, 1), 1);
    }

    static void promise23_hundredHours() {
        SoughtHouse x = ruled(PAIR, FIRST_SEEKS);
        due("who", x.sleeps(100, 0), 1);
        due("how long", x.sleeps(100, 1), 99);
    }

    static void promise23_ofSeveralTheLeast() {
        SoughtHouse x = ruled("house 1 2" + times(";lodger 1 1", 4), "seek 1 if lodger=0 and other=2 or lodger=3 and other=1");
        due("who", x.sleeps(5, 0), 1);
        due("how long", x.sleeps(5, 1), 4);
    }

    static void promise23_inTheseAlone() {
        SoughtHouse x = told(DARK_THREE);
        for (int k = 0; k < 3; k++) {
            x.bid(0, 2);
            x.hour();
        }
        x.bid(0, 1);
        due("who", x.sleeps(2, 0), 1);
        due("how long", x.sleeps(2, 1), 1);
    }

    // ---- 24: ring

    /** Lodger 0 seeks 1, 2, 3, 4 and 1 again, twelve HOURS each; lodger 5 seeks 4 ahead of some HOUR. */
    private static SoughtHouse roundOf48(int hour) {
        return ruled("house 1 7" + times(";lodger 0 0", 6),
                "seek 9 if lodger=0 and other=1+hour/12%4;seek 1 if lodger=5 and other=4 and hour<" + hour);
    }

    static void promise24_withoutAHouse() {
        due("ring(0)", new SoughtHouse().ring(0), NONE);
        due("ring(1)", new SoughtHouse().ring(1), NONE);
    }

    static void promise24_withoutThatWhat() {
        SoughtHouse x = told(DARK_TWO);
        for (int what : new int[] {-1, 2, LEAST, MOST}) {
            due("ring(" + what + ")", x.ring(what), NONE);
        }
    }

    static void promise24_thisHourIsTheFirst() {
        SoughtHouse x = told(DARK_TWO);
        due("the HOUR", x.ring(0), 0);
        hours(x, 7);
        due("the HOUR in HOUR 7", x.ring(0), 7);
        due("how much later", x.ring(1), 12);
    }

    static void promise24_hourOfTheDayToo() {
        SoughtHouse x = told("house 1 1;lodger 0 0");
        due("the HOUR", x.ring(0), 0);
        due("how much later", x.ring(1), 12);
    }

    static void promise24_whoIsInToo() {
        SoughtHouse x = ruled("house 1 1" + times(";lodger 0 0", 3), "seek 1 if lodger=0 and other=1+hour/12%2");
        // As HOUR 1 begins 0 seeks 1 as in HOUR 25, but nobody is IN.
        due("the HOUR", x.ring(0), 2);
        due("how much later", x.ring(1), 24);
    }

    static void promise24_whomEachSeeksToo() {
        StringBuilder counted = new StringBuilder();
        for (int k = 0; k < 12; k++) {
            counted.append(";count ").append(k);
        }
        SoughtHouse x = ruled("house 1 1" + times(";lodger 0 0", 3) + counted, "seek 1 if lodger=0 and other=1+hour/12%2");
        due("the HOUR", x.ring(0), 1);
        due("how much later", x.ring(1), 24);
    }

    static void promise24_whoSeeksThemToo() {
        StringBuilder counted = new StringBuilder();
        for (int k = 0; k < 12; k++) {
            counted.append(";count ").append(k);
        }
        // 1 is sought by 0 on one day and by 2 on the next.
        SoughtHouse x = ruled("house 1 1" + times(";lodger 0 0", 3) + counted, "seek 1 if other=1 and lodger=hour/12%2*2");
        due("the HOUR", x.ring(0), 1);
        due("how much later", x.ring(1), 24);
    }

    static void promise24_howMuchLaterTheFirstSuchIs() {
        SoughtHouse x = ruled("house 1 1;lodger 0 0;lodger 0 0", FIRST_SEEKS);
        due("the HOUR", x.ring(0), 2);
        due("how much later", x.ring(1), 12);
    }

    static void promise24_sixtyHoursFromNowAtMost() {
        due("12 is as 60", roundOf48(10).ring(0), 12);
        due("48 later", roundOf48(10).ring(1), 48);
        due("13 is as 61", roundOf48(11).ring(0), -2);
        due("13 is as 61", roundOf48(11).ring(1), -2);
        SoughtHouse x = roundOf48(11);
        x.hour();
        due("60 from HOUR 1", x.ring(0), 13);
        due("48 later", x.ring(1), 48);
    }

    static void promise24_nothingOfTheHourBehindThese() {
        // As HOUR 13 begins nobody is IN and nobody seeks; so it is as no other one of the same hour of the day begins.
        SoughtHouse x = ruled("house 1 1" + times(";lodger 0 0", 6), "seek 1 if lodger=0 and other=1+hour/12 and not [hour=11 or hour=12]");
        due("ring(0)", x.ring(0), -2);
        due("ring(1)", x.ring(1), -2);
    }

    static void promise24_thereIsNone() {
        SoughtHouse x = ruled("house 1 1" + times(";lodger 0 0", 6), "seek 1 if lodger=0 and other=1+hour/12");
        due("ring(0)", x.ring(0), -2);
        due("ring(1)", x.ring(1), -2);
    }

    // ---- 25: pennies

    /** Lodgers who slept so many hours each. */
    private static SoughtHouse slept(int... hours) {
        SoughtHouse x = told("house 1 0" + times(";lodger 1 1", hours.length));
        for (int k = 0; k < hours.length; k++) {
            // All are OUT behind an hour in which nobody is sought.
            x.hour();
            for (int h = 0; h < hours[k]; h++) {
                x.bid((k + 1) % hours.length, k);
                x.hour();
            }
        }
        return x;
    }

    private static void duePennies(SoughtHouse x, int much, int... want) {
        for (int k = 0; k < want.length; k++) {
            due("pennies(" + much + ", " + k + ")", x.pennies(much, k), want[k]);
        }
    }

    static void promise25_withoutAHouse() {
        due("pennies(1, 0)", new SoughtHouse().pennies(1, 0), NONE);
    }

    static void promise25_withoutThatLodger() {
        SoughtHouse x = slept(1, 1);
        for (int lodger : new int[] {-1, 2, 6, LEAST, MOST}) {
            due("pennies(5, " + lodger + ")", x.pennies(5, lodger), NONE);
        }
    }

    static void promise25_below0() {
        due("pennies(-1, 0)", slept(1, 1).pennies(-1, 0), NONE);
        due("pennies(LEAST, 0)", slept(1, 1).pennies(LEAST, 0), NONE);
    }

    static void promise25_none() {
        duePennies(slept(1, 1), 0, 0, 0);
    }

    static void promise25_mostPennies() {
        duePennies(slept(1, 2), 9999, 3333, 6666);
        duePennies(slept(3, 1), 9999, 7499, 2500);
    }

    static void promise25_above9999() {
        due("pennies(10000, 0)", slept(1, 1).pennies(10000, 0), NONE);
        due("pennies(MOST, 0)", slept(1, 1).pennies(MOST, 0), NONE);
    }

    static void promise25_nothingIfNobodySlept() {
        duePennies(told(DARK_THREE), 9999, 0, 0, 0);
    }

    static void promise25_allToTheOnlyOneWhoSlept() {
        duePennies(slept(0, 3, 0), 100, 0, 100, 0);
        duePennies(slept(0, 1), 7, 0, 7);
    }

    static void promise25_theRestToWhoLostMost() {
        duePennies(slept(0, 1, 2), 1, 0, 0, 1);
        duePennies(slept(0, 1, 2), 2, 0, 1, 1);
        duePennies(slept(0, 1, 2), 3, 0, 1, 2);
        // 10 by 7: 1 and 3, 2 and 6, 5 and 5: the third and the second lost most
        duePennies(slept(1, 2, 4), 10, 1, 3, 6);
    }

    static void promise25_ofSeveralTheLeastFirst() {
        duePennies(slept(1, 1, 1), 10, 4, 3, 3);
        duePennies(slept(1, 1, 1), 11, 4, 4, 3);
        duePennies(slept(1, 1, 1), 12, 4, 4, 4);
        duePennies(slept(1, 1, 1, 1, 1, 1), 5, 1, 1, 1, 1, 1, 0);
    }

    // ---- 27: stays

    static void promise27_withoutAHouse() {
        due("stays(0)", new SoughtHouse().stays(0), NONE);
    }

    static void promise27_withoutTheseHours() {
        SoughtHouse x = ruled(PAIR, FIRST_SEEKS);
        for (int n : new int[] {-1, 61, LEAST, MOST}) {
            due("stays(" + n + ")", x.stays(n), NONE);
        }
    }

    static void promise27_withoutLodgers() {
        due("stays(0)", told("house 1 1").stays(0), 0);
        due("stays(60)", told("house 1 1").stays(60), 0);
    }

    static void promise27_behindNoHours() {
        SoughtHouse x = ruled(PAIR, FIRST_SEEKS);
        due("nobody is IN now", x.stays(0), 0);
        hours(x, 2);
        due("1 is IN now", x.stays(0), 2);
        x.call(1);
        due("1 is OUT now", x.stays(0), 0);
    }

    static void promise27_inEachOfThe2BehindThem() {
        SoughtHouse x = ruled(PAIR, "seek 1 if lodger=0 and hour<3");
        // IN in HOURS 1, 2 and 3
        int[] want = {0, 0, 2, 0, 0, 0};
        for (int n = 0; n < want.length; n++) {
            due("stays(" + n + ")", x.stays(n), want[n]);
        }
        SoughtHouse y = ruled(PAIR, "seek 1 if lodger=0 and hour<2");
        for (int n = 0; n < want.length; n++) {
            due("stays(" + n + "), IN for two HOURS", y.stays(n), 0);
        }
        SoughtHouse z = ruled(PAIR, "seek 1 if lodger=0 and hour<4 and not hour=1");
        for (int n = 0; n < 5; n++) {
            due("stays(" + n + "), OUT between", z.stays(n), 0);
        }
    }

    static void promise27_behind60Hours() {
        SoughtHouse x = ruled(PAIR, "seek 1 if lodger=0 and hour>=58 and hour<61");
        due("stays(59)", x.stays(59), 0);
        due("stays(60)", x.stays(60), 2);
    }
}
