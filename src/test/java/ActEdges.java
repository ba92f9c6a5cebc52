/** Edges of acts by hand: promises 10 to 14. */
final class ActEdges extends Edges {
    private static final int[] NO_LODGERS_OF_THREE = {-2, 3, 5, 6, LEAST, MOST};

    private ActEdges() { }

    // ---- 10: bid

    static void promise10_withoutAHouse() {
        SoughtHouse x = new SoughtHouse();
        dueRefused(x, "bid(0, 1)", () -> x.bid(0, 1), -2);
        dueRefused(x, "bid(0, NONE)", () -> x.bid(0, NONE), -2);
    }

    static void promise10_withoutThatLodger() {
        SoughtHouse x = told(DARK_THREE);
        for (int lodger : NO_LODGERS_OF_THREE) {
            dueRefused(x, "bid(" + lodger + ", 0)", () -> x.bid(lodger, 0), -2);
        }
        dueRefused(x, "bid(NONE, 0)", () -> x.bid(NONE, 0), -2);
        dueRefused(x, "bid(NONE, NONE)", () -> x.bid(NONE, NONE), -2);
    }

    static void promise10_withoutThatOther() {
        SoughtHouse x = told(DARK_THREE);
        for (int other : NO_LODGERS_OF_THREE) {
            dueRefused(x, "bid(0, " + other + ")", () -> x.bid(0, other), -2);
        }
    }

    static void promise10_notThemselves() {
        SoughtHouse x = told(DARK_THREE);
        dueRefused(x, "bid(0, 0)", () -> x.bid(0, 0), -2);
        dueRefused(x, "bid(2, 2)", () -> x.bid(2, 2), -2);
    }

    static void promise10_anotherOneThanTheyDo() {
        SoughtHouse x = told(DARK_THREE);
        x.bid(0, 1);
        dueRefused(x, "bid(0, 1)", () -> x.bid(0, 1), -2);
        due("bid(0, 2)", x.bid(0, 2), 1);
        due("bid(0, 1)", x.bid(0, 1), 2);
    }

    static void promise10_nobodyForWhoSeeksNobody() {
        SoughtHouse x = told(DARK_THREE);
        dueRefused(x, "bid(0, NONE)", () -> x.bid(0, NONE), -2);
    }

    static void promise10_nobody() {
        SoughtHouse x = told(DARK_THREE);
        x.bid(0, 1);
        due("bid(0, NONE)", x.bid(0, NONE), 1);
        due("whom", x.lodger(0, 3), NONE);
        due("hour()", x.hour(), 0);
    }

    static void promise10_whomTheySought() {
        SoughtHouse x = told(DARK_THREE);
        due("bid(1, 0)", x.bid(1, 0), NONE);
        due("bid(1, 2)", x.bid(1, 2), 0);
        due("whom", x.lodger(1, 3), 2);
    }

    static void promise10_ifTheyAreIn() {
        SoughtHouse x = told(DARK_THREE);
        x.bid(0, 1);
        x.hour();
        dueRefused(x, "bid(1, 0)", () -> x.bid(1, 0), -2);
        dueRefused(x, "bid(1, NONE)", () -> x.bid(1, NONE), -2);
        due("one who is IN can be sought", x.bid(0, 1), NONE);
    }

    static void promise10_torchesAreNotAsked() {
        SoughtHouse x = told(DARK_SIX);
        for (int k = 0; k < 6; k++) {
            due("bid", x.bid(k, (k + 5) % 6), NONE);
        }
        due("hour()", x.hour(), 63);
    }

    static void promise10_nothingButWhomTheySeek() {
        SoughtHouse x = told(DARK_THREE);
        x.bid(0, 1);
        dueLodger(x, 0, 9, 5, 0, 1, 0);
        dueLodger(x, 1, 9, 5, 0, NONE, 0);
        due("HOUR", x.count(5), 0);
    }

    // ---- 11: call

    static void promise11_withoutAHouse() {
        SoughtHouse x = new SoughtHouse();
        dueRefused(x, "call(0)", () -> x.call(0), NONE);
    }

    static void promise11_withoutThatLodger() {
        SoughtHouse x = threeIn();
        for (int lodger : NO_LODGERS_OF_THREE) {
            dueRefused(x, "call(" + lodger + ")", () -> x.call(lodger), NONE);
        }
        dueRefused(x, "call(NONE)", () -> x.call(NONE), NONE);
        dueRefused(x, "call(32)", () -> x.call(32), NONE);
    }

    static void promise11_whoIsOut() {
        SoughtHouse x = told(DARK_THREE);
        x.bid(0, 1);
        dueRefused(x, "call(1), who is sought, but OUT yet", () -> x.call(1), NONE);
        x.hour();
        dueRefused(x, "call(0)", () -> x.call(0), NONE);
        due("call(1)", x.call(1), 0);
        dueRefused(x, "call(1) again", () -> x.call(1), NONE);
    }

    static void promise11_whoIsInThen() {
        SoughtHouse x = threeIn();
        due("call(1)", x.call(1), 5);
        due("call(0)", x.call(0), 4);
        due("call(2)", x.call(2), 0);
        due("IN", x.count(6), 0);
    }

    static void promise11_nothingButThatTheyAreOut() {
        SoughtHouse x = threeIn();
        x.call(1);
        dueLodger(x, 1, 7, 5, 0, NONE, 1);
        due("HOUR", x.count(5), 1);
        due("bid(1, 0)", x.bid(1, 0), NONE);
    }

    private static SoughtHouse threeIn() {
        SoughtHouse x = told(DARK_THREE);
        for (int k = 0; k < 3; k++) {
            x.bid(k, (k + 1) % 3);
        }
        due("hour()", x.hour(), 7);
        return x;
    }

    // ---- 12: pay

    static void promise12_withoutAHouse() {
        SoughtHouse x = new SoughtHouse();
        dueRefused(x, "pay(0, 1, 1)", () -> x.pay(0, 1, 1), NONE);
    }

    static void promise12_withoutThese() {
        SoughtHouse x = told(DARK_THREE);
        for (int lodger : NO_LODGERS_OF_THREE) {
            dueRefused(x, "pay(" + lodger + ", 0, 1)", () -> x.pay(lodger, 0, 1), NONE);
            dueRefused(x, "pay(0, " + lodger + ", 1)", () -> x.pay(0, lodger, 1), NONE);
        }
        dueRefused(x, "pay(0, NONE, 1)", () -> x.pay(0, NONE, 1), NONE);
    }

    static void promise12_unlike() {
        SoughtHouse x = told(DARK_THREE);
        dueRefused(x, "pay(1, 1, 1)", () -> x.pay(1, 1, 1), NONE);
    }

    static void promise12_below1() {
        SoughtHouse x = told(DARK_THREE);
        dueRefused(x, "pay(0, 1, 0)", () -> x.pay(0, 1, 0), NONE);
        dueRefused(x, "pay(0, 1, -1)", () -> x.pay(0, 1, -1), NONE);
        dueRefused(x, "pay(0, 1, LEAST)", () -> x.pay(0, 1, LEAST), NONE);
    }

    static void promise12_oneTo99() {
        SoughtHouse x = told("house 1 0;lodger 1 99;lodger 1 1");
        due("pay(1, 0, 1)", x.pay(1, 0, 1), 0);
        due("pay(0, 1, 99)", x.pay(0, 1, 99), 1);
        due("PENCE of 1", x.lodger(1, 1), 99);
    }

    static void promise12_above99() {
        SoughtHouse x = told("house 1 0;lodger 1 99;lodger 1 99");
        x.pay(1, 0, 99);
        dueRefused(x, "pay(0, 1, 100)", () -> x.pay(0, 1, 100), NONE);
        dueRefused(x, "pay(0, 1, MOST)", () -> x.pay(0, 1, MOST), NONE);
    }

    static void promise12_thatTheyHave() {
        SoughtHouse x = told(DARK_THREE);
        dueRefused(x, "pay(0, 1, 6)", () -> x.pay(0, 1, 6), NONE);
        due("pay(0, 1, 5)", x.pay(0, 1, 5), 0);
        due("PENCE of 1", x.lodger(1, 1), 10);
        dueRefused(x, "pay(0, 1, 1)", () -> x.pay(0, 1, 1), NONE);
    }

    static void promise12_penceOfTheFirstOneThen() {
        SoughtHouse x = told(DARK_THREE);
        due("pay(2, 0, 2)", x.pay(2, 0, 2), 3);
        due("PENCE of 2", x.lodger(2, 1), 3);
        due("PENCE of 0", x.lodger(0, 1), 7);
        due("PENCE of 1", x.lodger(1, 1), 5);
    }

    /** All pence there can be are 594, so that nobody ever has 999. */
    static void promise12_allPenceThereCanBe() {
        SoughtHouse x = told("house 1 0" + times(";lodger 1 99", 6));
        for (int k = 1; k < 6; k++) {
            due("pay", x.pay(k, 0, 99), 0);
            due("PENCE", x.lodger(0, 1), 99 * (k + 1));
        }
    }

    static void promise12_whoIsInPaysToo() {
        SoughtHouse x = threeIn();
        due("pay(1, 0, 5)", x.pay(1, 0, 5), 0);
        due("IN", x.count(6), 7);
    }

    // ---- 13: tire

    static void promise13_withoutAHouse() {
        SoughtHouse x = new SoughtHouse();
        dueRefused(x, "tire(0, 1)", () -> x.tire(0, 1), NONE);
    }

    static void promise13_withoutThatLodger() {
        SoughtHouse x = told(DARK_THREE);
        for (int lodger : NO_LODGERS_OF_THREE) {
            dueRefused(x, "tire(" + lodger + ", 1)", () -> x.tire(lodger, 1), NONE);
        }
        dueRefused(x, "tire(NONE, 1)", () -> x.tire(NONE, 1), NONE);
    }

    static void promise13_below1() {
        SoughtHouse x = told(DARK_THREE);
        dueRefused(x, "tire(0, 0)", () -> x.tire(0, 0), NONE);
        dueRefused(x, "tire(0, -1)", () -> x.tire(0, -1), NONE);
        dueRefused(x, "tire(0, LEAST)", () -> x.tire(0, LEAST), NONE);
    }

    static void promise13_oneTo20() {
        SoughtHouse x = told(DARK_THREE);
        due("tire(2, 1)", x.tire(2, 1), 10);
        due("tire(2, 20)", x.tire(2, 20), 30);
        due("TIRED", x.lodger(2, 0), 30);
        due("the others", x.count(8), 48);
    }

    static void promise13_above20() {
        SoughtHouse x = told(DARK_THREE);
        dueRefused(x, "tire(0, 21)", () -> x.tire(0, 21), NONE);
        dueRefused(x, "tire(0, MOST)", () -> x.tire(0, MOST), NONE);
    }

    static void promise13_tired99AtMost() {
        SoughtHouse x = told("house 1 0;lodger 60 0");
        x.tire(0, 20);
        due("to 98", x.tire(0, 18), 98);
        due("to 99", x.tire(0, 1), 99);
        due("not beyond", x.tire(0, 20), 99);
        due("it is an ACT", x.count(11), 4);
    }

    // ---- 14: undo

    static void promise14_withoutAHouse() {
        SoughtHouse x = new SoughtHouse();
        dueRefused(x, "undo()", x::undo, NONE);
    }

    static void promise14_noneCanBe() {
        SoughtHouse x = told(DARK_THREE);
        dueRefused(x, "undo()", x::undo, NONE);
        x.hour();
        due("undo()", x.undo(), 0);
        dueRefused(x, "undo() again", x::undo, NONE);
    }

    static void promise14_eachKindOfAct() {
        SoughtHouse x = told(DARK_THREE);
        x.bid(0, 1);
        String first = figure(x);
        x.hour();
        String second = figure(x);
        x.call(1);
        String third = figure(x);
        x.bid(1, 0);
        String fourth = figure(x);
        x.pay(0, 2, 5);
        String fifth = figure(x);
        x.tire(2, 20);
        due("ACTS", x.count(11), 6);
        String[] was = {fifth, fourth, third, second, first};
        for (int k = 0; k < 5; k++) {
            due("undo()", x.undo(), 5 - k);
            dueSame("undo()", figure(x), was[k]);
        }
        due("undo()", x.undo(), 0);
        dueSame("undo()", figure(x), figure(told(DARK_THREE)));
    }

    static void promise14_anHourUndoneIsWhole() {
        SoughtHouse x = ruled("house 3 2;lodger 10 5;lodger 20 6;lodger 15 7;count 3", "seek otherpence");
        for (int k = 0; k < 6; k++) {
            x.hour();
        }
        String was = figure(x);
        x.hour();
        x.undo();
        x.hour();
        x.undo();
        dueSame("an hour, undone twice", figure(x), was);
    }

    static void promise14_theLast20() {
        SoughtHouse x = told(DARK_THREE);
        for (int k = 1; k <= 20; k++) {
            x.tire(0, 1);
            due("ACTS", x.count(11), k);
        }
        for (int k = 19; k >= 0; k--) {
            due("undo()", x.undo(), k);
        }
        due("TIRED", x.lodger(0, 0), 9);
    }

    static void promise14_notTheOneAheadOfThese() {
        SoughtHouse x = told(DARK_THREE);
        for (int k = 0; k < 21; k++) {
            x.tire(0, 1);
        }
        due("ACTS", x.count(11), 20);
        for (int k = 19; k >= 0; k--) {
            due("undo()", x.undo(), k);
        }
        due("TIRED", x.lodger(0, 0), 10);
        dueRefused(x, "undo()", x::undo, NONE);
    }

    static void promise14_theLastFirstAfterMany() {
        SoughtHouse x = told(DARK_THREE);
        for (int k = 0; k < 47; k++) {
            x.tire(k % 3, 1);
        }
        int[] tired = {x.lodger(0, 0), x.lodger(1, 0), x.lodger(2, 0)};
        for (int k = 46; k >= 27; k--) {
            due("undo()", x.undo(), k - 27);
            tired[k % 3]--;
            for (int lodger = 0; lodger < 3; lodger++) {
                due("TIRED of " + lodger, x.lodger(lodger, 0), tired[lodger]);
            }
        }
        due("undo()", x.undo(), NONE);
    }

    static void promise14_actsAgainAfterUndone() {
        SoughtHouse x = told(DARK_THREE);
        x.tire(0, 1);
        x.tire(0, 2);
        x.undo();
        x.tire(0, 4);
        due("ACTS", x.count(11), 2);
        due("undo()", x.undo(), 1);
        due("TIRED", x.lodger(0, 0), 10);
        due("undo()", x.undo(), 0);
        due("TIRED", x.lodger(0, 0), 9);
    }

    static void promise14_whatIsRefusedIsNoAct() {
        SoughtHouse x = told(DARK_THREE);
        x.bid(0, 0);
        x.call(0);
        x.pay(0, 1, 6);
        x.tire(0, 21);
        x.undo();
        due("ACTS", x.count(11), 0);
    }

    static void promise14_whatIsNoActStays() {
        SoughtHouse x = told(DARK_THREE);
        x.hour();
        Check.rule(x, "seek 1");
        x.force(0);
        x.seed(7);
        x.note(1, 1, 0);
        x.feed(0, 0, 0, 0, 0);
        due("ACTS", x.count(11), 1);
        due("undo()", x.undo(), 0);
        due("RULES", x.count(3), 1);
        due("IN FORCE", x.count(4), 0);
        due("NOTES", x.count(10), 1);
        due("x", x.count(12), 7);
        due("bytes", x.count(13), 20);
    }

    static void promise14_whatIsAskedIsNoAct() {
        SoughtHouse x = told(DARK_THREE);
        AskEdges.askAll(x);
        due("ACTS", x.count(11), 0);
    }
}
