/** Edges of an hour: promise 9. */
final class HourEdges extends Edges {
    private static final String LIT_THREE = "house 1 7;lodger 1 5;lodger 1 5;lodger 1 5";
    private static final String LIT_SIX = "house 1 7" + times(";lodger 1 5", 6);

    private HourEdges() { }

    // ---- (1)

    static void promise09_withoutAHouse() {
        SoughtHouse x = new SoughtHouse();
        dueRefused(x, "hour()", x::hour, NONE);
    }

    static void promise09_withoutLodgers() {
        SoughtHouse x = told("house 1 1");
        due("hour()", x.hour(), 0);
        due("HOUR", x.count(5), 1);
    }

    static void promise09_nobodyIsInWhomNobodySeeks() {
        SoughtHouse x = told(DARK_SIX);
        due("hour()", x.hour(), 0);
        for (int k = 0; k < 6; k++) {
            dueLodger(x, k, 10, 5, 0, NONE, 0);
        }
    }

    static void promise09_whoIsSoughtIsIn() {
        SoughtHouse x = told(DARK_THREE);
        x.bid(0, 2);
        due("hour()", x.hour(), 4);
        dueLodger(x, 2, 7, 5, 1, NONE, 1);
        due("nobody seeks them then", x.hour(), 0);
        dueLodger(x, 2, 8, 5, 0, NONE, 1);
    }

    static void promise09_whoIsSoughtTwiceSleepsOnce() {
        SoughtHouse x = told(DARK_THREE);
        x.bid(0, 2);
        x.bid(1, 2);
        due("hour()", x.hour(), 4);
        due("slept", x.count(9), 1);
    }

    static void promise09_allSixCanBeIn() {
        SoughtHouse x = told(DARK_SIX);
        for (int k = 0; k < 6; k++) {
            x.bid(k, (k + 1) % 6);
        }
        due("hour()", x.hour(), 63);
        due("slept", x.count(9), 6);
    }

    static void promise09_headsAreCountedAndAllAreOut() {
        SoughtHouse x = told(DARK_TWO + ";count 1");
        x.bid(0, 1);
        due("HOUR 0", x.hour(), 2);
        x.bid(0, 1);
        due("HOUR 1", x.hour(), 0);
        dueLodger(x, 1, 8, 5, 0, NONE, 1);
    }

    static void promise09_headsAreCountedInTheFirstHour() {
        SoughtHouse x = told(DARK_TWO + ";count 0");
        x.bid(0, 1);
        due("HOUR 0", x.hour(), 0);
    }

    static void promise09_headsAreCountedEachDay() {
        SoughtHouse x = ruled("house 1 1;lodger 1 0;lodger 1 0;count 11;count 0", "seek 1 if lodger=0");
        for (int hour = 0; hour < 50; hour++) {
            boolean counted = hour % 12 == 0 || hour % 12 == 11;
            due("HOUR " + hour, x.hour(), counted ? 0 : 2);
        }
    }

    static void promise09_whoIsOutAsHeadsAreCountedSeeks() {
        SoughtHouse x = ruled("house 1 2;lodger 1 0;lodger 1 0;count 1", "seek 1");
        due("HOUR 0", x.hour(), 0);
        dueSought(x, 1, 0);
        due("HOUR 1", x.hour(), 0);
        dueSought(x, 1, 0);
        due("HOUR 2", x.hour(), 3);
        dueSought(x, NONE, NONE);
    }

    // ---- (2): torches

    static void promise09_noTorchAtAll() {
        SoughtHouse x = ruled(DARK_TWO, "seek 1");
        x.bid(0, 1);
        x.hour();
        dueSought(x, NONE, NONE);
    }

    static void promise09_asLongAsATorchIsLeft() {
        SoughtHouse x = ruled("house 1 2" + times(";lodger 1 1", 4), "seek 1");
        x.hour();
        dueSought(x, 1, 0, NONE, NONE);
    }

    static void promise09_theLastTorch() {
        SoughtHouse x = ruled("house 1 3" + times(";lodger 1 1", 3), "seek 1");
        x.hour();
        dueSought(x, 1, 0, 0);
        SoughtHouse y = ruled("house 1 2" + times(";lodger 1 1", 3), "seek 1");
        y.hour();
        dueSought(y, 1, 0, NONE);
    }

    static void promise09_moreTorchesThanLodgers() {
        SoughtHouse x = ruled(LIT_SIX, "seek 1");
        x.hour();
        dueSought(x, 1, 0, 0, 0, 0, 0);
    }

    static void promise09_onlyWhoSeeksTakesATorch() {
        SoughtHouse x = ruled("house 1 2" + times(";lodger 1 1", 4), "seek 1 if lodger>1");
        x.hour();
        dueSought(x, NONE, NONE, 0, 0);
    }

    static void promise09_whoIsInTakesNoTorch() {
        SoughtHouse x = ruled("house 1 1" + times(";lodger 1 1", 3), "seek 1");
        x.bid(2, 0);
        due("hour()", x.hour(), 1);
        dueSought(x, NONE, 0, NONE);
    }

    static void promise09_torchesAreThereAgainNextHour() {
        SoughtHouse x = ruled("house 1 1;lodger 1 1;lodger 1 1", "seek 1 if lodger=0");
        for (int k = 0; k < 3; k++) {
            x.hour();
            dueSought(x, 1, NONE);
        }
    }

    // ---- (2): whom

    static void promise09_aSumOf0IsNotAbove0() {
        SoughtHouse x = ruled(LIT_THREE, "seek 0");
        x.hour();
        dueSought(x, NONE, NONE, NONE);
    }

    static void promise09_aSumOf1IsAbove0() {
        SoughtHouse x = ruled(LIT_THREE, "seek other-1");
        x.hour();
        dueSought(x, 2, 2, NONE);
    }

    static void promise09_aSumBelow0() {
        SoughtHouse x = ruled(LIT_THREE, "seek 0-1");
        x.hour();
        dueSought(x, NONE, NONE, NONE);
    }

    static void promise09_theGreatestSum() {
        SoughtHouse x = ruled(LIT_THREE, "seek other+1");
        x.hour();
        dueSought(x, 2, 2, 1);
    }

    static void promise09_ofSeveralTheLeast() {
        SoughtHouse x = ruled(LIT_THREE, "seek 5");
        x.hour();
        dueSought(x, 1, 0, 0);
    }

    static void promise09_notThemselves() {
        SoughtHouse x = ruled("house 1 7;lodger 1 1", "seek 1");
        x.hour();
        dueSought(x, NONE);
        SoughtHouse y = ruled(LIT_THREE, "seek 1 if lodger=other");
        y.hour();
        dueSought(y, NONE, NONE, NONE);
    }

    static void promise09_theFirstClauseWhoseTestHolds() {
        SoughtHouse x = ruled(LIT_THREE, "seek 0 if other=1;seek 9 if other=1;seek 3 if other=2;seek 2");
        x.hour();
        dueSought(x, 2, 2, 0);
    }

    static void promise09_theFirstClauseWithoutATest() {
        SoughtHouse x = ruled(LIT_THREE, "seek 0;seek 9");
        x.hour();
        dueSought(x, NONE, NONE, NONE);
    }

    static void promise09_theTwelfthClause() {
        SoughtHouse x = ruled(LIT_THREE, times("seek 1 if 1=2;", 11) + "seek 1 if other=2");
        x.hour();
        dueSought(x, 2, 2, NONE);
    }

    static void promise09_zeroWithoutAClauseThatHolds() {
        SoughtHouse x = ruled(LIT_THREE, "seek 5 if 1=2;seek 6 if 1>1");
        x.hour();
        dueSought(x, NONE, NONE, NONE);
    }

    static void promise09_withoutARuleTheMostTired() {
        SoughtHouse x = told("house 1 7;lodger 3 0;lodger 9 0;lodger 5 0");
        x.hour();
        dueSought(x, 1, 2, 1);
    }

    static void promise09_withoutARuleOfSeveralTheLeast() {
        SoughtHouse x = told("house 1 7;lodger 0 0;lodger 7 0;lodger 7 0;lodger 7 0");
        x.hour();
        dueSought(x, 1, 2, 1, 1);
    }

    static void promise09_withoutARuleNobodyIfNobodyIsTired() {
        SoughtHouse x = told("house 1 1;lodger 1 0;lodger 0 0;lodger 0 0");
        x.hour();
        dueSought(x, NONE, 0, NONE);
    }

    static void promise09_whoIsInCanBeSought() {
        SoughtHouse x = told("house 1 1;lodger 1 0;lodger 9 0");
        x.hour();
        due("HOUR 1", x.hour(), 2);
        dueSought(x, 1, NONE);
    }

    static void promise09_whoIsInSeeksNobody() {
        SoughtHouse x = ruled(LIT_THREE, "seek 1");
        x.bid(0, 1);
        x.bid(1, 0);
        due("hour()", x.hour(), 3);
        dueSought(x, NONE, NONE, 0);
    }

    static void promise09_whoWasCalledOutSeeksNobodyYet() {
        SoughtHouse x = ruled(LIT_THREE, "seek 1 if lodger=0 and hour>0");
        x.bid(1, 0);
        x.hour();
        x.call(0);
        dueSought(x, NONE);
        x.hour();
        dueSought(x, 1);
    }

    // ---- (3)

    static void promise09_tired0AtLeast() {
        SoughtHouse x = told("house 9 0;lodger 10 0;lodger 9 0;lodger 8 0;lodger 0 0");
        for (int k = 0; k < 4; k++) {
            x.bid(k, (k + 1) % 4);
        }
        due("hour()", x.hour(), 15);
        int[] want = {1, 0, 0, 0};
        for (int k = 0; k < 4; k++) {
            due("TIRED", x.lodger(k, 0), want[k]);
        }
    }

    static void promise09_tired99AtMost() {
        SoughtHouse x = told("house 1 0;lodger 60 0");
        hours(x, 38);
        due("TIRED", x.lodger(0, 0), 98);
        x.hour();
        due("TIRED", x.lodger(0, 0), 99);
        x.hour();
        due("TIRED", x.lodger(0, 0), 99);
    }

    // ---- (4)

    static void promise09_onePennyToTheLeastWhoSeeksThem() {
        SoughtHouse x = ruled(LIT_THREE, "seek 1 if other=0");
        x.bid(2, 0);
        due("hour()", x.hour(), 1);
        due("PENCE of 0", x.lodger(0, 1), 4);
        due("PENCE of 1", x.lodger(1, 1), 6);
        due("PENCE of 2", x.lodger(2, 1), 5);
    }

    static void promise09_noPennyIfNobodySeeksThemNow() {
        SoughtHouse x = told(DARK_TWO);
        x.bid(1, 0);
        due("hour()", x.hour(), 1);
        due("PENCE of 0", x.lodger(0, 1), 5);
        due("PENCE of 1", x.lodger(1, 1), 5);
    }

    static void promise09_noPennyOfWhoIsOut() {
        SoughtHouse x = ruled(LIT_THREE, "seek 1 if other=0");
        due("hour()", x.hour(), 0);
        dueSought(x, NONE, 0, 0);
        for (int k = 0; k < 3; k++) {
            due("PENCE", x.lodger(k, 1), 5);
        }
    }

    static void promise09_noPennyOfWhoHasNone() {
        SoughtHouse x = ruled("house 1 1;lodger 1 2;lodger 1 0", "seek 1 if other=0");
        int[] left = {2, 1, 0, 0, 0};
        for (int k = 0; k < 5; k++) {
            x.hour();
            due("PENCE of 0 behind HOUR " + k, x.lodger(0, 1), left[k]);
            due("PENCE of 1 behind HOUR " + k, x.lodger(1, 1), 2 - left[k]);
        }
    }

    /** All pence there can be are 594, so that nobody ever has 999. */
    static void promise09_allPenceThereCanBeGoToOne() {
        SoughtHouse x = ruled("house 1 1" + times(";lodger 1 99", 6), "seek 1 if lodger=0 and other=1");
        for (int k = 2; k < 6; k++) {
            x.pay(k, 0, 99);
        }
        x.pay(1, 0, 98);
        x.bid(0, 1);
        due("PENCE", x.lodger(0, 1), 593);
        x.hour();
        due("PENCE", x.lodger(0, 1), 594);
        due("PENCE of 1", x.lodger(1, 1), 0);
    }

    static void promise09_hourIsOneMore() {
        SoughtHouse x = told(DARK_TWO);
        for (int k = 0; k < 30; k++) {
            due("HOUR", x.count(5), k);
            x.hour();
        }
    }

    /** Of the 512 calls that are promised 500 are hours. */
    static void promise09_fiveHundredHours() {
        SoughtHouse x = ruled("house 1 1;lodger 1 0;lodger 1 0", "seek 1 if lodger=0");
        hours(x, 500);
        due("HOUR", x.count(5), 500);
        due("slept", x.lodger(1, 4), 499);
    }

    /** HOUR 999 lies beyond the 512 calls that are promised; the class holds to it there, too. */
    static void promise09_noHourBeyond999() {
        SoughtHouse x = ruled("house 1 1;lodger 0 0;lodger 0 0", "seek 1 if lodger=0 and hour>999");
        hours(x, 998);
        due("HOUR", x.count(5), 998);
        due("hour()", x.hour(), 0);
        due("HOUR", x.count(5), 999);
        dueRefused(x, "hour()", x::hour, NONE);
        due("HOURS that are asked go on: IN in HOUR 1001 to 1003", x.stays(3), 2);
        due("ahead", x.ahead(1, 100, 2), 98);
    }

    // ---- words

    private static void dueOfFirst(String house, String sum, int want) {
        SoughtHouse x = ruled(house, "seek " + sum + " if lodger=0");
        x.hour();
        due("whom 0 seeks by " + sum, x.lodger(0, 3), want);
    }

    static void promise09_wordsOfTheFirstAndOfTheOther() {
        String house = "house 1 7;lodger 2 3;lodger 5 7;lodger 11 13;dear 0 2 9;dear 1 0 8";
        dueOfFirst(house, "1 if lodger=0 and other=2 and tired=2 and othertired=11 and pence=3 and otherpence=13 and dear=9;seek 0", 2);
        dueOfFirst(house, "1 if lodger=0 and other=1 and tired=2 and othertired=5 and pence=3 and otherpence=7 and dear=0;seek 0", 1);
    }

    static void promise09_backIsOfTheHoursBegin() {
        SoughtHouse x = ruled(LIT_THREE + ";count 0", "seek back");
        x.bid(1, 0);
        x.bid(2, 0);
        due("hour()", x.hour(), 0);
        dueSought(x, 1, NONE, NONE);
        SoughtHouse y = ruled(LIT_THREE, "seek 1 if lodger=0 and other=1;seek back");
        y.hour();
        dueSought(y, 1, NONE, NONE);
        SoughtHouse z = ruled(LIT_THREE + ";count 0;count 1", "seek back");
        z.bid(2, 1);
        z.hour();
        dueSought(z, NONE, 2, NONE);
        z.hour();
        dueSought(z, NONE, NONE, 1);
    }

    static void promise09_backIs0Else() {
        SoughtHouse x = ruled(LIT_THREE, "seek back+1");
        x.hour();
        dueSought(x, 1, 0, 0);
    }

    static void promise09_backIs1AtMost() {
        SoughtHouse x = ruled(LIT_THREE + ";count 0", "seek back-1");
        x.bid(1, 0);
        x.bid(2, 0);
        x.hour();
        dueSought(x, NONE, NONE, NONE);
    }

    static void promise09_seekersByNow() {
        SoughtHouse x = ruled(LIT_SIX, "seek 1 if lodger<2 and other=3;seek seekers");
        x.hour();
        dueSought(x, 3, 3, 3, NONE, 3, 3);
        SoughtHouse y = ruled(LIT_SIX, "seek 1 if lodger<2 and other=3;seek seekers-1");
        y.hour();
        dueSought(y, 3, 3, 3, NONE, 3, 3);
        SoughtHouse z = ruled(LIT_SIX, "seek 1 if lodger<2 and other=3;seek seekers-2");
        z.hour();
        dueSought(z, 3, 3, NONE, NONE, NONE, NONE);
    }

    static void promise09_seekersOfTheFirstLodger() {
        SoughtHouse x = ruled(LIT_THREE, "seek 1 if lodger=1 and other=0;seek seekers");
        x.hour();
        dueSought(x, NONE, 0, 0);
    }

    static void promise09_seekersOfThisHourAlone() {
        // All are OUT in each, so that 0 seeks 2 in HOUR 0 and nobody in HOUR 1.
        SoughtHouse x = ruled(LIT_THREE + ";count 0;count 1", "seek 1 if lodger=0 and other=2 and hour=0;seek seekers");
        x.hour();
        dueSought(x, 2, 2, NONE);
        x.hour();
        dueSought(x, NONE, NONE, NONE);
    }

    static void promise09_insideIsByThisHour() {
        SoughtHouse x = ruled(LIT_SIX, "seek inside");
        x.hour();
        dueSought(x, NONE, NONE, NONE, NONE, NONE, NONE);
        x.bid(0, 1);
        x.hour();
        dueSought(x, 1, NONE, 0, 0, 0, 0);
        SoughtHouse y = ruled(LIT_SIX, "seek 1 if inside=3");
        y.bid(0, 3);
        y.bid(1, 4);
        y.bid(2, 5);
        y.hour();
        dueSought(y, 1, 0, 0, NONE, NONE, NONE);
    }

    static void promise09_torchesNotTakenYet() {
        SoughtHouse x = ruled(LIT_SIX, "seek 1 if torches=7 or torches=6 or torches=5 and lodger>2");
        x.hour();
        dueSought(x, 1, 0, NONE, 0, NONE, NONE);
        SoughtHouse y = ruled("house 1 2" + times(";lodger 1 1", 3), "seek 1 if torches=1 or lodger=0");
        y.hour();
        dueSought(y, 1, 0, NONE);
    }

    static void promise09_clockGoesRoundAt12() {
        SoughtHouse x = ruled(LIT_THREE, "seek 1 if lodger=0 and [clock=0 or clock=11 or clock>11]");
        for (int hour = 0; hour < 37; hour++) {
            x.hour();
            due("in HOUR " + hour, x.lodger(0, 3), hour % 12 == 0 || hour % 12 == 11 ? 1 : NONE);
        }
    }

    static void promise09_hourGoesOnBeyond12() {
        SoughtHouse x = ruled(LIT_THREE, "seek 1 if lodger=0 and [hour=0 or hour=12 or hour=13]");
        for (int hour = 0; hour < 37; hour++) {
            x.hour();
            due("in HOUR " + hour, x.lodger(0, 3), hour == 0 || hour == 12 || hour == 13 ? 1 : NONE);
        }
    }

    // ---- sums and tests

    private static void dueHolds(String test, boolean want) {
        SoughtHouse x = ruled("house 1 1;lodger 7 0;lodger 3 0", "seek 1 if " + test);
        x.hour();
        due("it holds: " + test, x.lodger(0, 3), want ? 1 : NONE);
    }

    static void promise09_dividedBy0Is0() {
        dueHolds("5/0=0", true);
        dueHolds("0/0=0", true);
        dueHolds("7/hour=0", true);
        dueHolds("7+5/0*3=7", true);
    }

    static void promise09_theRestBy0Is0() {
        dueHolds("5%0=0", true);
        dueHolds("0%0=0", true);
        dueHolds("7%clock=0", true);
    }

    static void promise09_dividedTowards0() {
        dueHolds("7/2=3 and 1/2=0 and 6/2=3 and 99999/99998=1", true);
        // 99999 five times over goes round to -337012131482191585, which is odd
        String below = "99999*99999*99999*99999*99999";
        dueHolds(below + "/2*2-" + below + "=1", true);
    }

    static void promise09_theRestOfBelow0IsBelow0() {
        dueHolds("7%2=1 and 6%2=0 and 1%2=1", true);
        String below = "99999*99999*99999*99999*99999";
        dueHolds(below + "%2=0-1", true);
        dueHolds(below + "%10=0-5", true);
    }

    static void promise09_allGoesRoundIn64Bits() {
        dueHolds("32768*32768*32768*32768*4>0", true);
        dueHolds("32768*32768*32768*32768*8<0", true);
        dueHolds("32768*32768*32768*32768*8-1>0", true);
        dueHolds("32768*32768*32768*32768*16=0", true);
        dueHolds("65536*32768=0-65536*32768", false);
    }

    static void promise09_theGreatestSumIn64Bits() {
        dueOfFirst(LIT_THREE, "65536*65536*other", 2);
        dueOfFirst(LIT_THREE, "65536*65536", 1);
        dueOfFirst(LIT_THREE, "32768*32768*32768*32768*4*other", 1);
        dueOfFirst(LIT_THREE, "32768*32768*32768*32768*8-other", 1);
    }

    static void promise09_numbersUpTo99999() {
        dueHolds("99999=99998+1 and 00000=0 and 00007=7", true);
    }

    static void promise09_eachSignAtItsEdge() {
        dueHolds("1<2", true);
        dueHolds("2<2", false);
        dueHolds("3<2", false);
        dueHolds("1<=2", true);
        dueHolds("2<=2", true);
        dueHolds("3<=2", false);
        dueHolds("1=2", false);
        dueHolds("2=2", true);
        dueHolds("3=2", false);
        dueHolds("1>=2", false);
        dueHolds("2>=2", true);
        dueHolds("3>=2", true);
        dueHolds("1>2", false);
        dueHolds("2>2", false);
        dueHolds("3>2", true);
    }

    static void promise09_andBindsAheadOfOr() {
        dueHolds("1=1 or 1=1 and 1=2", true);
        dueHolds("1=2 and 1=1 or 1=1", true);
        dueHolds("[1=1 or 1=1] and 1=2", false);
        dueHolds("1=2 or 1=2", false);
        dueHolds("1=1 and 1=2", false);
    }

    static void promise09_factsOfEachSignJoined() {
        for (String fact : new String[] {"1<2", "2<=2", "2=2", "2>=2", "3>2"}) {
            dueHolds(fact + " and 1=1", true);
            dueHolds("1=1 and " + fact, true);
            dueHolds("1=2 or " + fact, true);
            dueHolds("not " + fact, false);
            dueHolds("not not " + fact, true);
        }
        for (String fact : new String[] {"2<2", "3<=2", "2=3", "2>=3", "2>2"}) {
            dueHolds(fact + " and 1=1", false);
            dueHolds("1=2 or " + fact, false);
            dueHolds("not " + fact, true);
            dueHolds("not " + fact + " and 1=1", true);
        }
    }

    static void promise09_notIsOfOneFact() {
        dueHolds("not 1=1 or 1=1", true);
        dueHolds("not 1=2 and 1=2", false);
        dueHolds("not [1=2 and 1=2]", true);
        dueHolds(times("not ", 10) + "1=1", true);
        dueHolds(times("not ", 9) + "1=1", false);
    }

    static void promise09_aTestTenDeep() {
        String deep = times("1=2 or 1=1 and [", 8) + "1=1" + times("]", 8);
        dueHolds(deep, true);
        dueHolds(deep.replace("1=1]", "1=2]"), false);
        dueHolds(times("not[", 5) + "1=1" + times("]", 5), false);
    }

    static void promise09_sixtyValuesAreAdded() {
        dueHolds("1" + times("+1", 55) + "=56", true);
        dueHolds("1" + times("-1", 55) + "=0-54", true);
    }
}
