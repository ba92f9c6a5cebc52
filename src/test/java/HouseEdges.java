/** Edges of houses: promises 4, 7 and 8. */
final class HouseEdges extends Edges {
    /** 31 bytes; a clause behind it begins at place 32. */
    private static final String TWO = ONE_ONE + "lodger 1 1;lodger 1 1";
    private static final String SIX = "house 1 7" + times(";lodger 0 0", 6);

    private HouseEdges() { }

    private static void dueHouse(String text, int lodgers) {
        due("'" + text + "'", Check.house(new SoughtHouse(), text), lodgers);
    }

    private static void dueHouseFault(String text, int place, int kind) {
        dueFault(text, Check.house(new SoughtHouse(), text), place, kind);
    }

    // ---- 4: the text

    static void promise04_aTextOf400Bytes() {
        dueHouse(ONE_ONE + "lodger 1 1" + times(" ", 380), 1);
        dueHouse(times(" ", 380) + ONE_ONE + "lodger 1 1", 1);
    }

    static void promise04_fourHundredBytesOfOneSign() {
        for (String sign : new String[] {";", "0", "h", "[", "\u0000"}) {
            dueHouseFault(times(sign, 400), 0, 0);
        }
    }

    static void promise04_aPieceThatEndsAtByte400() {
        dueHouseFault(times(" ", 395) + "house", 400, 0);
        dueHouseFault(times(" ", 396) + "hous", 396, 0);
        dueHouse(times(" ", 391) + "house 9 7", 0);
        dueHouseFault(times(" ", 390) + "house 9 77", 398, 1);
    }

    static void promise04_whatStoodBehindTheEndIsNotRead() {
        SoughtHouse x = new SoughtHouse();
        Check.tell(x, "house 1 77;lodger 1 1");
        x.end(9);
        due("'house 1 7'", x.house(), 0);
        due("TORCHES", x.count(1), 7);
        Check.tell(x, "house 1 1;count");
        x.end(14);
        due("'house 1 1;coun'", x.house(), fault(10, 0));
    }

    static void promise04_theEmptyTape() {
        dueHouseFault("", 0, 0);
    }

    static void promise04_blanksAlone() {
        dueHouseFault("   ", 3, 0);
        dueHouseFault(times(" ", 400), 400, 0);
    }

    static void promise04_fortyClausesStand() {
        dueHouse("house 1 1" + times(";count 1", 39), 0);
    }

    static void promise04_a41stClauseIsOneTooMany() {
        String forty = "house 1 1" + times(";count 1", 39);
        dueHouseFault(forty + ";count 1", forty.length() + 1, 4);
        dueHouseFault(forty + "; lodger 1 1", forty.length() + 2, 4);
        dueHouseFault(forty + ";dear", forty.length() + 1, 4);
    }

    static void promise04_ofOnePlaceTheLeastFault() {
        String forty = "house 1 1" + times(";count 1", 39);
        dueHouseFault(forty + ";counts 1", forty.length() + 1, 0);
        dueHouseFault(forty + ";seek 1", forty.length() + 1, 0);
        dueHouseFault(forty + ";", forty.length() + 1, 0);
        dueHouseFault(ONE_ONE + "123456", 10, 0);
        dueHouseFault("house 1 1 123456", 10, 0);
    }

    static void promise04_theFirstFaultAlongTheText() {
        dueHouseFault("house 0 8", 6, 1);
        dueHouseFault("house 1 8 8", 8, 1);
        dueHouseFault(ONE_ONE + "house 0 0", 10, 4);
        dueHouseFault("lodger 61 100", 0, 4);
        dueHouseFault("house 10", 6, 1);
        dueHouseFault("house 0 x", 6, 1);
        dueHouseFault(ONE_ONE + "x;house 1 1", 10, 0);
    }

    static void promise04_aClauseBehindEachSemicolon() {
        dueHouseFault("house 1 1;", 10, 0);
        dueHouseFault("house 1 1; ", 11, 0);
        dueHouseFault("house 1 1;;count 1", 10, 0);
        dueHouseFault(";house 1 1", 0, 0);
    }

    static void promise04_aSemicolonBetweenClauses() {
        dueHouseFault("house 1 1 count 1", 10, 0);
        dueHouseFault("house 1 1,count 1", 9, 0);
    }

    static void promise04_theEndIsBehindTheLastByte() {
        dueHouseFault("house", 5, 0);
        dueHouseFault("house  ", 7, 0);
        dueHouseFault("house 1", 7, 0);
        dueHouseFault("house 1   ", 10, 0);
        dueHouseFault(ONE_ONE + "lodger", 16, 0);
        dueHouseFault(ONE_ONE + "lodger 5", 18, 0);
        dueHouseFault(ONE_ONE + "count", 15, 0);
        dueHouseFault(TWO + ";dear", 36, 0);
        dueHouseFault(TWO + ";dear 0", 38, 0);
        dueHouseFault(TWO + ";dear 0 1 ", 41, 0);
    }

    static void promise04_aByteThatCanNotStandThere() {
        dueHouseFault("house -1 1", 6, 0);
        dueHouseFault("house A", 6, 0);
        dueHouseFault("house 1.1", 7, 0);
        dueHouseFault("house 1 1\n", 9, 0);
        dueHouseFault("house\t1 1", 5, 0);
        dueHouseFault("house 1 1\u0000", 9, 0);
        dueHouseFault("house 1 1\u00e9", 9, 0);
        dueHouseFault("house 1 1\u00a0", 9, 0);
        dueHouseFault("house 1 1]", 9, 0);
        dueHouseFault("House 1 1", 0, 0);
    }

    static void promise04_aWordThatCanNotStandThere() {
        dueHouseFault("seek 1", 0, 0);
        dueHouseFault("houses 1 1", 0, 0);
        dueHouseFault("hous 1 1", 0, 0);
        dueHouseFault("house one 1", 6, 0);
        dueHouseFault(ONE_ONE + "tired 1", 10, 0);
        dueHouseFault(ONE_ONE + "lodgers 1 1", 10, 0);
        dueHouseFault(ONE_ONE + "lodge 1 1", 10, 0);
        dueHouseFault(TWO + ";dearer 0 1 1", 32, 0);
        dueHouseFault(ONE_ONE + "countx 1", 10, 0);
        dueHouseFault(ONE_ONE + "count house", 16, 0);
    }

    static void promise04_wordsAsFarAsLettersGoOn() {
        dueHouse("house1 1;lodger1 1;lodger1 1;dear0 1 1;count1", 2);
        dueHouseFault("houselodger 1 1", 0, 0);
        dueHouseFault("ho use 1 1", 0, 0);
    }

    static void promise04_blanksAsOneLikes() {
        dueHouse("   house   1   1   ;   lodger   1   1   ", 1);
        dueHouse("house 1 1;lodger 1 1", 1);
    }

    // ---- 4: numbers

    static void promise04_numbersOf1To5Digits() {
        SoughtHouse x = told("house 00009 00007;lodger 00060 00099;lodger 0 0");
        due("SLEEP", x.count(0), 9);
        due("TORCHES", x.count(1), 7);
        dueLodger(x, 0, 60, 99);
    }

    static void promise04_aNumberOfMoreDigits() {
        dueHouseFault("house 000001 1", 6, 1);
        dueHouseFault("house 1 000001", 8, 1);
        dueHouseFault(ONE_ONE + "lodger 000001 1", 17, 1);
        dueHouseFault(ONE_ONE + "lodger 1 000001", 19, 1);
        dueHouseFault(ONE_ONE + "count 4294967296", 16, 1);
        dueHouseFault(TWO + ";dear 000000 1 1", 37, 1);
    }

    static void promise04_numbersAsFarAsDigitsGoOn() {
        dueHouseFault("house 11", 6, 1);
        dueHouseFault("house 1 11", 8, 1);
        dueHouseFault("house1 1;count1 1", 16, 0);
    }

    static void promise04_sleepBelow1() {
        dueHouseFault("house 0 1", 6, 1);
    }

    static void promise04_sleep1To9() {
        due("SLEEP", told("house 1 1").count(0), 1);
        due("SLEEP", told("house 9 1").count(0), 9);
    }

    static void promise04_sleepAbove9() {
        dueHouseFault("house 10 1", 6, 1);
        dueHouseFault("house 99999 1", 6, 1);
    }

    static void promise04_torches0To7() {
        due("TORCHES", told("house 1 0").count(1), 0);
        due("TORCHES", told("house 1 7").count(1), 7);
    }

    static void promise04_torchesAbove7() {
        dueHouseFault("house 1 8", 8, 1);
    }

    static void promise04_tired0To60() {
        due("TIRED", told(ONE_ONE + "lodger 0 1").lodger(0, 0), 0);
        due("TIRED", told(ONE_ONE + "lodger 60 1").lodger(0, 0), 60);
    }

    static void promise04_tiredAbove60() {
        dueHouseFault(ONE_ONE + "lodger 61 1", 17, 1);
    }

    static void promise04_pence0To99() {
        due("PENCE", told(ONE_ONE + "lodger 1 0").lodger(0, 1), 0);
        due("PENCE", told(ONE_ONE + "lodger 1 99").lodger(0, 1), 99);
    }

    static void promise04_penceAbove99() {
        dueHouseFault(ONE_ONE + "lodger 1 100", 19, 1);
    }

    static void promise04_countedHours0To11() {
        due("heads are COUNTED at 0", told(ONE_ONE + "count 0").count(7), 1);
        SoughtHouse x = told(ONE_ONE + "count 11");
        for (int hour = 0; hour < 24; hour++) {
            due("heads are COUNTED at " + hour, x.count(7), hour % 12 == 11 ? 1 : 0);
            x.hour();
        }
    }

    static void promise04_noCountedHour12() {
        dueHouseFault(ONE_ONE + "count 12", 16, 1);
    }

    static void promise04_anHourToldAlreadyIsNothingNew() {
        SoughtHouse x = told(ONE_ONE + "count 1;count 1");
        due("at 0", x.count(7), 0);
        x.hour();
        due("at 1", x.count(7), 1);
        x.hour();
        due("at 2", x.count(7), 0);
    }

    // ---- 4: clauses

    static void promise04_houseOnce() {
        dueHouseFault(ONE_ONE + "house 1 1", 10, 4);
        dueHouseFault(TWO + ";  house 1 1", 34, 4);
        dueHouseFault(ONE_ONE + "house", 10, 4);
    }

    static void promise04_noOtherClauseAheadOfTheHouse() {
        dueHouseFault("lodger 1 1;house 1 1", 0, 4);
        dueHouseFault("dear 0 1 1;house 1 1", 0, 4);
        dueHouseFault("  count 1;house 1 1", 2, 4);
    }

    static void promise04_noLodgers() {
        dueHouse("house 1 1", 0);
    }

    static void promise04_sixLodgersStand() {
        dueHouse(SIX, 6);
    }

    static void promise04_aSeventhLodger() {
        dueHouseFault(SIX + ";lodger 0 0", SIX.length() + 1, 4);
        dueHouseFault(SIX + ";dear 0 5 1;lodger", SIX.length() + 12, 4);
    }

    static void promise04_lodgersInTheOrderTold() {
        SoughtHouse x = told(ONE_ONE + "lodger 5 6;count 3;lodger 3 4;lodger 1 2");
        dueLodger(x, 0, 5, 6);
        dueLodger(x, 1, 3, 4);
        dueLodger(x, 2, 1, 2);
        due("lodger(3, 0)", x.lodger(3, 0), -2);
    }

    static void promise04_dearOfLodgersThatWereNotTold() {
        dueHouseFault(ONE_ONE + "dear 0 1 1;lodger 1 1;lodger 1 1", 15, 1);
        dueHouseFault(ONE_ONE + "lodger 1 1;dear 0 1 1;lodger 1 1", 28, 1);
        dueHouseFault(TWO + ";dear 2 0 1", 37, 1);
        dueHouseFault(TWO + ";dear 0 2 1", 39, 1);
        dueHouseFault(SIX + ";dear 0 6 1", SIX.length() + 8, 1);
    }

    static void promise04_dearOfTheFirstToThemselves() {
        dueHouseFault(TWO + ";dear 0 0 1", 39, 1);
        dueHouseFault(TWO + ";dear 1 1 1", 39, 1);
        dueHouseFault(ONE_ONE + "lodger 1 1;dear 0 0 1", 28, 1);
    }

    static void promise04_dear0To9() {
        SoughtHouse x = told(TWO + ";dear 0 1 9;dear 1 0 0");
        due("dear(0, 1)", x.dear(0, 1), 9);
        due("dear(1, 0)", x.dear(1, 0), 0);
    }

    static void promise04_dearAbove9() {
        dueHouseFault(TWO + ";dear 0 1 10", 41, 1);
    }

    static void promise04_ofTheSameTwoTheLastToldIsDear() {
        SoughtHouse x = told(TWO + ";dear 0 1 9;dear 1 0 3;dear 0 1 0;dear 1 0 4");
        due("dear(0, 1)", x.dear(0, 1), 0);
        due("dear(1, 0)", x.dear(1, 0), 4);
    }

    static void promise04_dearInThisOrderAlone() {
        SoughtHouse x = told(TWO + ";lodger 1 1;dear 0 1 5;dear 1 2 6");
        due("dear(0, 1)", x.dear(0, 1), 5);
        due("dear(1, 0)", x.dear(1, 0), 0);
        due("dear(1, 2)", x.dear(1, 2), 6);
        due("dear(2, 1)", x.dear(2, 1), 0);
    }

    // ---- 4: what it does

    static void promise04_itIsHour0AndAllAreOut() {
        SoughtHouse x = Check.told(DARK_TWO);
        x.bid(0, 1);
        x.hour();
        x.bid(0, 1);
        due("another", Check.house(x, DARK_THREE), 3);
        due("HOUR", x.count(5), 0);
        due("IN", x.count(6), 0);
        due("slept", x.count(9), 0);
        for (int k = 0; k < 3; k++) {
            dueLodger(x, k, 9, 5, 0, NONE, 0);
        }
    }

    static void promise04_theTapeIsEmptyThen() {
        SoughtHouse x = told("house 1 1");
        due("bytes", x.count(13), 0);
        due("end(1)", x.end(1), NONE);
        due("house() of nothing", x.house(), fault(0, 0));
    }

    static void promise04_theTapeIsEmptyBehindAFault() {
        SoughtHouse x = new SoughtHouse();
        due("a fault", Check.house(x, "house 1 1;"), fault(10, 0));
        due("bytes", x.count(13), 0);
        due("feed", x.feed(0, 0, 0, 0, 0), 20);
    }

    static void promise04_inPlaceOfTheOneThereWas() {
        SoughtHouse x = told("house 9 7;lodger 60 99;lodger 60 99;lodger 60 99;dear 0 1 9;count 0");
        due("another", Check.house(x, "house 2 3;lodger 1 2;lodger 3 4"), 2);
        due("SLEEP", x.count(0), 2);
        due("TORCHES", x.count(1), 3);
        due("LODGERS", x.count(2), 2);
        due("heads are not COUNTED", x.count(7), 0);
        due("all are TIRED", x.count(8), 4);
        due("dear(0, 1)", x.dear(0, 1), 0);
        due("a third lodger", x.lodger(2, 0), -2);
    }

    static void promise04_noNotes() {
        SoughtHouse x = told(DARK_TWO);
        x.note(0, 0, 1);
        due("no RULE is so", x.ruled(0), 0);
        Check.house(x, DARK_TWO);
        due("NOTES", x.count(10), 0);
        due("none is so", x.ruled(0), 1);
    }

    static void promise04_nothingToBeUndone() {
        SoughtHouse x = told(DARK_TWO);
        hours(x, 3);
        Check.house(x, DARK_TWO);
        due("ACTS", x.count(11), 0);
        due("undo()", x.undo(), NONE);
        due("HOUR", x.count(5), 0);
    }

    static void promise04_theRuleInForceAndXStay() {
        SoughtHouse x = ruled(DARK_TWO, "seek 1");
        x.seed(77);
        Check.house(x, DARK_THREE);
        due("IN FORCE", x.count(4), 0);
        due("RULES", x.count(3), 1);
        due("x", x.count(12), 77);
    }

    static void promise04_allStaysAtAFault() {
        SoughtHouse x = ruled("house 3 2;lodger 10 5;lodger 20 0;lodger 15 7;dear 0 1 6;count 2", "seek otherpence");
        x.seed(5);
        hours(x, 4);
        x.note(1, 2, 1);
        x.image(1);
        String was = figure(x);
        due("a fault at the end", Check.house(x, DARK_SIX + ";dear 0 1 9;count 0;"), fault(DARK_SIX.length() + 20, 0));
        dueSame("it", figure(x), was);
        due("undo()", x.undo(), 3);
        due("back(1)", x.back(1), 4);
    }

    static void promise04_noHouseAtAFaultEither() {
        SoughtHouse x = new SoughtHouse();
        due("a fault", Check.house(x, DARK_TWO + ";"), fault(32, 0));
        due("LODGERS", x.count(2), 0);
        due("hour()", x.hour(), NONE);
    }

    // ---- 7: lodger

    static void promise07_withoutAHouse() {
        due("lodger(0, 0)", new SoughtHouse().lodger(0, 0), -2);
        due("lodger(-1, 3)", new SoughtHouse().lodger(-1, 3), -2);
    }

    static void promise07_withoutThatLodger() {
        SoughtHouse x = told(DARK_TWO);
        for (int lodger : new int[] {-1, 2, 5, 6, LEAST, MOST}) {
            for (int what = 0; what < 5; what++) {
                due("lodger(" + lodger + ", " + what + ")", x.lodger(lodger, what), -2);
            }
        }
        dueLodger(told(DARK_SIX), 5, 9, 5, 0, NONE, 0);
    }

    static void promise07_withoutThatWhat() {
        SoughtHouse x = told(DARK_TWO);
        for (int what : new int[] {-1, 5, LEAST, MOST}) {
            due("lodger(0, " + what + ")", x.lodger(0, what), -2);
        }
    }

    static void promise07_nobodyIsSought() {
        SoughtHouse x = told(DARK_TWO);
        due("lodger(0, 3)", x.lodger(0, 3), NONE);
        x.bid(1, 0);
        due("lodger(1, 3)", x.lodger(1, 3), 0);
    }

    static void promise07_outThenIn() {
        SoughtHouse x = told(DARK_TWO);
        x.bid(1, 0);
        due("OUT", x.lodger(0, 2), 0);
        due("slept", x.lodger(0, 4), 0);
        x.hour();
        due("IN", x.lodger(0, 2), 1);
        due("slept", x.lodger(0, 4), 1);
        due("the other OUT", x.lodger(1, 2), 0);
        due("the other slept", x.lodger(1, 4), 0);
    }

    // ---- 8: dear

    static void promise08_withoutAHouse() {
        due("dear(0, 1)", new SoughtHouse().dear(0, 1), NONE);
    }

    static void promise08_withoutThese() {
        SoughtHouse x = told(TWO + ";dear 0 1 5;dear 1 0 6");
        for (int other : new int[] {-1, 2, 6, LEAST, MOST}) {
            due("dear(0, " + other + ")", x.dear(0, other), NONE);
            due("dear(" + other + ", 0)", x.dear(other, 0), NONE);
        }
    }

    static void promise08_unlike() {
        SoughtHouse x = told(TWO);
        due("dear(0, 0)", x.dear(0, 0), NONE);
        due("dear(1, 1)", x.dear(1, 1), NONE);
    }

    static void promise08_zeroWhereNothingWasTold() {
        due("dear(5, 0)", told(SIX).dear(5, 0), 0);
        due("dear(5, 4)", told(SIX + ";dear 5 4 9").dear(5, 4), 9);
    }
}
