/** Edges of rules: promises 5 and 6. */
final class RuleEdges extends Edges {
    private static final String[] WORDS = {"lodger", "other", "tired", "othertired", "pence", "otherpence", "dear", "back",
        "seekers", "inside", "torches", "clock", "hour"};
    /** Ten bytes; the test behind them begins at place 10. */
    private static final String IF = "seek 1 if ";

    private RuleEdges() { }

    private static void dueRule(String text) {
        due("'" + text + "'", Check.rule(new SoughtHouse(), text), 0);
    }

    private static void dueRuleFault(String text, int place, int kind) {
        dueFault(text, Check.rule(new SoughtHouse(), text), place, kind);
    }

    // ---- 5: the text

    static void promise05_aTextOf400Bytes() {
        dueRule("seek 1" + times(" ", 394));
        dueRule(times(" ", 394) + "seek 1");
    }

    static void promise05_theEmptyTape() {
        dueRuleFault("", 0, 0);
    }

    static void promise05_blanksAlone() {
        dueRuleFault(times(" ", 7), 7, 0);
        dueRuleFault(times(" ", 400), 400, 0);
    }

    static void promise05_fourHundredBytesOfOneSign() {
        for (String sign : new String[] {";", "[", "<", "=", "+", "0", "a", "\u00ff"}) {
            dueRuleFault(times(sign, 400), 0, 0);
        }
    }

    static void promise05_aPieceThatEndsAtByte400() {
        for (String piece : new String[] {"<", ">", "tire", "o", "an", "seek"}) {
            String text = IF + times(" ", 389 - piece.length()) + "1" + piece;
            boolean isSign = piece.equals("<") || piece.equals(">");
            dueRuleFault(text, isSign ? 400 : 400 - piece.length(), 0);
        }
        dueRule("seek" + times(" ", 391) + "tired");
        dueRule("seek" + times(" ", 391) + "99999");
        dueRuleFault("seek" + times(" ", 390) + "999999", 394, 1);
    }

    static void promise05_whatStoodBehindTheEndIsNotRead() {
        SoughtHouse x = new SoughtHouse();
        Check.tell(x, "seek tired");
        x.end(9);
        due("'seek tire'", x.rule(), fault(5, 0));
        Check.tell(x, "seek 123456");
        x.end(10);
        due("'seek 12345'", x.rule(), 0);
        Check.tell(x, IF + "1<=1");
        x.end(12);
        due("'seek 1 if 1<'", x.rule(), fault(12, 0));
        Check.tell(x, "seek 1;seek 1");
        x.end(6);
        due("'seek 1'", x.rule(), 1);
    }

    static void promise05_twelveClausesStand() {
        dueRule("seek 1" + times(";seek 1", 11));
    }

    static void promise05_a13thClauseIsOneTooMany() {
        String twelve = "seek 1" + times(";seek 1", 11);
        dueRuleFault(twelve + ";seek 1", twelve.length() + 1, 4);
        dueRuleFault(twelve + ";  seek", twelve.length() + 3, 4);
    }

    static void promise05_aClauseBehindEachSemicolon() {
        dueRuleFault("seek 1;", 7, 0);
        dueRuleFault("seek 1; ", 8, 0);
        dueRuleFault("seek 1;;seek 1", 7, 0);
        dueRuleFault(IF + "1=1;", 14, 0);
        dueRuleFault(";seek 1", 0, 0);
    }

    static void promise05_aSemicolonBetweenClauses() {
        dueRuleFault("seek 1 seek 1", 7, 0);
        dueRuleFault(IF + "1=1 seek 1", 14, 0);
    }

    static void promise05_theEndIsBehindTheLastByte() {
        dueRuleFault("seek", 4, 0);
        dueRuleFault("seek   ", 7, 0);
        dueRuleFault("seek 1+", 7, 0);
        dueRuleFault("seek 1 * ", 9, 0);
        dueRuleFault("seek 1 if", 9, 0);
        dueRuleFault(IF + "1", 11, 0);
        dueRuleFault(IF + "1=", 12, 0);
        dueRuleFault(IF + "1<= ", 14, 0);
        dueRuleFault(IF + "not", 13, 0);
        dueRuleFault(IF + "[", 11, 0);
        dueRuleFault(IF + "[1=1", 14, 0);
        dueRuleFault(IF + "1=1 and", 17, 0);
        dueRuleFault(IF + "1=1 or", 16, 0);
    }

    static void promise05_aByteThatCanNotStandThere() {
        dueRuleFault("seek -1", 5, 0);
        dueRuleFault("seek +1", 5, 0);
        dueRuleFault("seek (1)", 5, 0);
        dueRuleFault("seek 1++1", 7, 0);
        dueRuleFault("seek 1*-1", 7, 0);
        dueRuleFault("seek 1\t", 6, 0);
        dueRuleFault("seek 1\u0000", 6, 0);
        dueRuleFault("seek 1\u00ff", 6, 0);
        dueRuleFault(IF + "1!1", 11, 0);
        dueRuleFault(IF + "1=-1", 12, 0);
        dueRuleFault(IF + "<1", 10, 0);
        dueRuleFault("Seek 1", 0, 0);
    }

    static void promise05_aWordThatCanNotStandThere() {
        dueRuleFault("house 1 1", 0, 0);
        dueRuleFault("seeks 1", 0, 0);
        dueRuleFault("see 1", 0, 0);
        dueRuleFault("seek house", 5, 0);
        dueRuleFault("seek count", 5, 0);
        dueRuleFault("seek seek", 5, 0);
        dueRuleFault("seek if 1=1", 5, 0);
        dueRuleFault("seek not", 5, 0);
        dueRuleFault("seek 1 and 1=1", 7, 0);
        dueRuleFault("seek 1 iff 1=1", 7, 0);
        dueRuleFault(IF + "if 1=1", 10, 0);
        dueRuleFault(IF + "1=1 if 1=1", 14, 0);
        dueRuleFault(IF + "1=1 not 1=1", 14, 0);
        dueRuleFault(IF + "and 1=1", 10, 0);
        dueRuleFault(IF + "1=1 and or 1=1", 18, 0);
        dueRuleFault(IF + "1 or 1=1", 12, 0);
        dueRuleFault(IF + "1=not 1=1", 12, 0);
    }

    static void promise05_eachWordStands() {
        for (String word : WORDS) {
            dueRule("seek " + word);
            dueRule(IF + word + "<" + word + "*" + word);
        }
    }

    static void promise05_wordsAsFarAsLettersGoOn() {
        for (String word : WORDS) {
            dueRuleFault("seek " + word + "a", 5, 0);
            dueRuleFault("seek " + word + "z", 5, 0);
            dueRuleFault("seek " + word.substring(0, word.length() - 1), 5, 0);
            dueRule("seek " + word + "+1");
        }
        dueRuleFault("seek other tired", 11, 0);
        dueRuleFault("seek tiredif 1=1", 5, 0);
        dueRule("seek1if1=1and2=2or not3=3");
    }

    static void promise05_smallLettersAlone() {
        dueRuleFault("seek Tired", 5, 0);
        dueRuleFault("seek tireD", 5, 0);
        dueRuleFault("seek tiredD", 10, 0);
        dueRuleFault("seek 1 IF 1=1", 7, 0);
    }

    static void promise05_numbersOf1To5Digits() {
        dueRule("seek 0");
        dueRule("seek 99999");
        dueRule("seek 00000");
    }

    static void promise05_aNumberOfMoreDigits() {
        dueRuleFault("seek 100000", 5, 1);
        dueRuleFault("seek 000000", 5, 1);
        dueRuleFault("seek 1+4294967297", 7, 1);
        dueRuleFault(IF + "123456=1", 10, 1);
        dueRuleFault(IF + "1=123456", 12, 1);
    }

    static void promise05_numbersAsFarAsDigitsGoOn() {
        dueRuleFault("seek 1 1", 7, 0);
        dueRuleFault("seek 12345 6", 11, 0);
    }

    static void promise05_fiveSigns() {
        for (String sign : new String[] {"<", "<=", "=", ">=", ">"}) {
            dueRule(IF + "1" + sign + "1");
            dueRule(IF + "1 " + sign + " 1");
        }
    }

    static void promise05_noOtherSigns() {
        dueRuleFault(IF + "1==1", 12, 0);
        dueRuleFault(IF + "1=<1", 12, 0);
        dueRuleFault(IF + "1=>1", 12, 0);
        dueRuleFault(IF + "1<>1", 12, 0);
        dueRuleFault(IF + "1<==1", 13, 0);
        dueRuleFault(IF + "1< =1", 13, 0);
        dueRuleFault(IF + "1> =1", 13, 0);
        dueRuleFault(IF + "1=1=1", 13, 0);
        dueRuleFault("seek 1<1", 6, 0);
        for (int k = 10; k < 50; k++) {
            dueRuleFault(IF + "1 " + k + " 1", 12, 0);
        }
    }

    static void promise05_bracketsHoldATest() {
        dueRule(IF + "[1=1]");
        dueRule(IF + "[1=1 or [1=2] and not [1=3]]");
        dueRuleFault(IF + "[]", 11, 0);
        dueRuleFault(IF + "[1]", 12, 0);
        dueRuleFault(IF + "[1]=1", 12, 0);
        dueRuleFault(IF + "1=[1]", 12, 0);
        dueRuleFault(IF + "[1=1]=1", 15, 0);
        dueRuleFault("seek [1]", 5, 0);
    }

    static void promise05_eachBracketIsClosed() {
        dueRuleFault(IF + "[[1=1]", 16, 0);
        dueRuleFault(IF + "[1=1;seek 1", 14, 0);
        dueRuleFault(IF + "1=1]", 13, 0);
        dueRuleFault(IF + "[1=1]]", 15, 0);
    }

    static void promise05_blanksAsOneLikes() {
        dueRule("   seek   1   +   1   if   [   1   <=   1   ]   ;   seek   1   ");
        dueRule("seek1+1if[1<=1];seek1");
    }

    // ---- 5: how deep, how many

    static void promise05_tenDeepStands() {
        dueRule(IF + times("[", 10) + "1=1" + times("]", 10));
        dueRule(IF + times("not ", 10) + "1=1");
        dueRule(IF + times("not[", 5) + "1=1" + times("]", 5));
    }

    static void promise05_tenDeepSideBySide() {
        String ten = times("[", 10) + "1=1" + times("]", 10);
        dueRule(IF + ten + "and" + ten + "or not" + times("[", 9) + "1=1" + times("]", 9));
        dueRule(IF + "1=1;seek 2 if " + ten);
    }

    static void promise05_tooDeepAtTheSignThatOpens() {
        dueRuleFault(IF + times("[", 11) + "1=1" + times("]", 11), 20, 2);
        dueRuleFault(IF + times("[", 10) + "1=1 and [1=1]", 28, 2);
        dueRuleFault(IF + times("not ", 10) + "[1=1]", 50, 2);
        dueRuleFault(IF + times("not[", 5) + " [", 31, 2);
    }

    static void promise05_tooDeepAtTheWordNot() {
        dueRuleFault(IF + times("not ", 11) + "1=1", 50, 2);
        dueRuleFault(IF + times("[", 10) + "not 1=1", 20, 2);
        dueRuleFault(IF + times("not[", 5) + " not", 31, 2);
    }

    static void promise05_sixtyValuesStand() {
        dueRule("seek 1" + times("+1", 59));
        dueRule("seek 1" + times("*hour", 59));
    }

    static void promise05_a61stValueAtItsFirstByte() {
        dueRuleFault("seek 1" + times("+1", 60), 6 + 2 * 59 + 1, 3);
        dueRuleFault("seek 1" + times("+1", 59) + "+  othertired", 6 + 2 * 59 + 3, 3);
    }

    static void promise05_sixtyValuesAndFactsTogether() {
        // 57 values, then one, the fact and one
        dueRule("seek 1" + times("+1", 56) + " if 1<1");
    }

    static void promise05_a61stValueBehindItsSign() {
        dueRuleFault("seek 1" + times("+1", 57) + " if 1<1", 120 + 6, 3);
        dueRuleFault("seek 1" + times("+1", 57) + " if 1<= 1", 120 + 8, 3);
    }

    static void promise05_a61stFactAtItsSign() {
        dueRuleFault("seek 1" + times("+1", 58) + " if 1<1", 122 + 5, 3);
        dueRuleFault("seek 1" + times("+1", 58) + " if 1  <=1", 122 + 7, 3);
    }

    static void promise05_valuesOfAllClausesTogether() {
        String thirty = "seek 1" + times("+1", 29);
        dueRule(thirty + ";" + thirty);
        dueRuleFault(thirty + ";" + thirty + ";seek 1", 2 * thirty.length() + 7, 3);
    }

    static void promise05_eachRuleHasSixtyOfItsOwn() {
        SoughtHouse x = new SoughtHouse();
        String sixty = "seek 1" + times("+1", 59);
        due("the first", Check.rule(x, sixty), 0);
        due("one too many", Check.rule(x, sixty + "+1"), fault(sixty.length() + 1, 3));
        due("the second", Check.rule(x, sixty), 1);
    }

    static void promise05_notAndBracketsAreNoFacts() {
        String facts = times("not [1<1] or ", 18) + "1<1";
        // 1 + 19 * 3 is 58
        dueRule(IF + facts);
        dueRule("seek 1+1+1 if " + facts);
        dueRuleFault("seek 1+1+1+1 if " + facts, 16 + facts.length() - 1, 3);
    }

    // ---- 5: which fault

    static void promise05_theFirstFaultAlongTheText() {
        dueRuleFault("seek 100000 x", 5, 1);
        dueRuleFault("seek x 100000", 5, 0);
        dueRuleFault(IF + times("[", 11) + "x", 20, 2);
        dueRuleFault(IF + "x" + times("[", 11), 10, 0);
        dueRuleFault("seek 1" + times("+1", 60) + "+100000", 6 + 2 * 59 + 1, 3);
        dueRuleFault("seek 100000" + times("+1", 60), 5, 1);
        dueRuleFault("x" + times(";seek 1", 13), 0, 0);
    }

    static void promise05_ofOnePlaceTheLeastFault() {
        String sixty = "seek 1" + times("+1", 59) + "+";
        dueRuleFault(sixty + "seek", sixty.length(), 0);
        dueRuleFault(sixty, sixty.length(), 0);
        dueRuleFault(sixty + "123456", sixty.length(), 1);
        dueRuleFault(sixty + "12345", sixty.length(), 3);
        String twelve = "seek 1" + times(";seek 1", 11) + ";";
        dueRuleFault(twelve + "seeks 1", twelve.length(), 0);
        dueRuleFault(twelve + "1", twelve.length(), 0);
        String full = "seek 1" + times("+1", 58) + " if 1";
        dueRuleFault(full + "!1", full.length(), 0);
        dueRuleFault(full + " and 1=1", full.length() + 1, 0);
        dueRuleFault("seek 1 123456", 7, 0);
    }

    // ---- 5: what it does

    static void promise05_sixRules() {
        SoughtHouse x = new SoughtHouse();
        for (int k = 0; k < 6; k++) {
            due("rule()", Check.rule(x, "seek " + k), k);
            due("RULES", x.count(3), k + 1);
        }
    }

    static void promise05_noSeventh() {
        SoughtHouse x = sixRules();
        String was = figure(x);
        Check.tell(x, "seek 1");
        due("rule()", x.rule(), NONE);
        due("the tape stays", x.count(13), 6);
        x.end(0);
        dueSame("it", figure(x), was);
        due("force(6)", x.force(6), -2);
    }

    static void promise05_noSeventhWithAFaultEither() {
        SoughtHouse x = sixRules();
        due("rule()", Check.rule(x, "seek"), NONE);
        due("the tape stays", x.count(13), 4);
        due("rule() of the empty tape", Check.rule(x, ""), NONE);
    }

    static void promise05_theTapeIsAHouseBehindASeventh() {
        SoughtHouse x = sixRules();
        due("rule()", Check.rule(x, DARK_TWO), NONE);
        due("house()", x.house(), 2);
    }

    private static SoughtHouse sixRules() {
        SoughtHouse x = told(DARK_TWO);
        for (int k = 0; k < 6; k++) {
            Check.rule(x, "seek 1");
        }
        return x;
    }

    static void promise05_theTapeIsEmptyThen() {
        SoughtHouse x = new SoughtHouse();
        Check.rule(x, "seek 1");
        due("bytes", x.count(13), 0);
        due("end(1)", x.end(1), NONE);
    }

    static void promise05_theTapeIsEmptyBehindAFault() {
        SoughtHouse x = new SoughtHouse();
        due("a fault", Check.rule(x, "seek 1;"), fault(7, 0));
        due("bytes", x.count(13), 0);
        due("feed", x.feed(0, 0, 0, 0, 0), 20);
    }

    static void promise05_noRuleBehindAFault() {
        SoughtHouse x = ruled("house 1 1;lodger 1 1;lodger 1 1", "seek 1 if hour=0;seek 0");
        x.image(0);
        String was = figure(x);
        due("a fault at the end", Check.rule(x, "seek 7;seek 9 if 1="), fault(19, 0));
        dueSame("it", figure(x), was);
        due("the next", Check.rule(x, "seek 0"), 1);
        x.force(1);
        x.hour();
        due("by the next nobody is sought", x.lodger(0, 3), NONE);
    }

    static void promise05_aRuleNeedsNoHouse() {
        SoughtHouse x = new SoughtHouse();
        due("rule()", Check.rule(x, "seek 1"), 0);
        due("force(0)", x.force(0), NONE);
        due("hour()", x.hour(), NONE);
    }

    static void promise05_aRuleIsNotInForceYet() {
        SoughtHouse x = told("house 1 1;lodger 5 0;lodger 5 0");
        Check.rule(x, "seek 0");
        due("IN FORCE", x.count(4), NONE);
        x.hour();
        due("by TIRED", x.lodger(0, 3), 1);
    }

    // ---- 6: force

    static void promise06_whichWas() {
        SoughtHouse x = sixRules();
        due("force(5)", x.force(5), NONE);
        due("force(0)", x.force(0), 5);
        due("force(0) again", x.force(0), 0);
    }

    static void promise06_none() {
        SoughtHouse x = sixRules();
        x.force(3);
        due("force(NONE)", x.force(NONE), 3);
        due("IN FORCE", x.count(4), NONE);
        due("force(NONE) again", x.force(NONE), NONE);
    }

    static void promise06_thereIsNoneSuch() {
        SoughtHouse x = ruled(DARK_TWO, "seek 1");
        for (int rule : new int[] {-2, 1, 5, 6, 7, LEAST, MOST}) {
            due("force(" + rule + ")", x.force(rule), -2);
            due("IN FORCE", x.count(4), 0);
        }
    }

    static void promise06_noneSuchWithSix() {
        SoughtHouse x = sixRules();
        due("force(6)", x.force(6), -2);
        due("IN FORCE", x.count(4), NONE);
        due("force(5)", x.force(5), NONE);
    }

    static void promise06_eachIsTheOneThatWasTold() {
        SoughtHouse x = told("house 1 1" + times(";lodger 1 1", 6));
        for (int k = 0; k < 6; k++) {
            Check.rule(x, "seek 1 if lodger+other=" + (k < 5 ? k + 1 : 9));
        }
        for (int k = 0; k < 6; k++) {
            x.image(0);
            x.force(k);
            x.hour();
            due("whom 0 seeks by RULE " + k, x.lodger(0, 3), k < 5 ? k + 1 : NONE);
            due("whom 4 seeks by RULE " + k, x.lodger(4, 3), k < 5 ? NONE : 5);
            x.back(0);
        }
    }
}
