/** Edges of a new object and of the tape: promises 1 to 3. */
final class TapeEdges extends Edges {
    private TapeEdges() { }

    // ---- 1: a new object

    static void promise01_noHouse() {
        SoughtHouse x = new SoughtHouse();
        due("SLEEP", x.count(0), 0);
        due("TORCHES", x.count(1), 0);
        due("LODGERS", x.count(2), 0);
        due("hour()", x.hour(), NONE);
        due("lodger(0, 0)", x.lodger(0, 0), -2);
    }

    static void promise01_noRules() {
        SoughtHouse x = new SoughtHouse();
        due("RULES", x.count(3), 0);
        due("force(0)", x.force(0), -2);
    }

    static void promise01_noneInForce() {
        SoughtHouse x = new SoughtHouse();
        due("IN FORCE", x.count(4), NONE);
        due("force(NONE)", x.force(NONE), NONE);
    }

    static void promise01_nothingElseEither() {
        SoughtHouse x = new SoughtHouse();
        for (int what = 5; what < WHATS; what++) {
            due("count(" + what + ")", x.count(what), 0);
        }
        due("undo()", x.undo(), NONE);
        for (int k = 0; k < 4; k++) {
            due("back(" + k + ")", x.back(k), NONE);
        }
    }

    static void promise01_objectsAreApart() {
        SoughtHouse x = told(DARK_TWO);
        Check.rule(x, "seek 1");
        x.force(0);
        x.seed(9);
        x.image(0);
        SoughtHouse y = new SoughtHouse();
        dueSame("another object", figure(y), figure(new SoughtHouse()));
        due("back(0) of the other", y.back(0), NONE);
    }

    // ---- 2: feed

    static void promise02_twentyBytesComeOnTheEmptyTape() {
        SoughtHouse x = new SoughtHouse();
        due("feed", x.feed(0, 0, 0, 0, 0), 20);
        due("bytes", x.count(13), 20);
    }

    static void promise02_twentyMoreComeBehindThese() {
        SoughtHouse x = new SoughtHouse();
        // "house 3 2;lodger 1 2" and ";lodger 3 4;lodger  "
        due("feed", x.feed(0x686f7573, 0x65203320, 0x323b6c6f, 0x64676572, 0x20312032), 20);
        due("feed", x.feed(0x3b6c6f64, 0x67657220, 0x3320343b, 0x6c6f6467, 0x65722020), 40);
        due("end(31)", x.end(31), 31);
        due("house()", x.house(), 2);
        dueLodger(x, 0, 1, 2);
        dueLodger(x, 1, 3, 4);
    }

    static void promise02_ofEachNumberTheHighestByteFirst() {
        SoughtHouse x = new SoughtHouse();
        // "house 9 7;count 11" and two blanks
        x.feed(0x686f7573, 0x65203920, 0x373b636f, 0x756e7420, 0x31312020);
        due("house()", x.house(), 0);
        due("SLEEP", x.count(0), 9);
        due("TORCHES", x.count(1), 7);
    }

    static void promise02_numbersBelow0AreBytesToo() {
        SoughtHouse x = new SoughtHouse();
        // 15 blanks, then 255, which is no byte of a house
        due("feed", x.feed(0x20202020, 0x20202020, 0x20202020, 0x202020ff, -1), 20);
        due("house()", x.house(), fault(15, 0));
        due("feed", x.feed(LEAST, -1, MOST, LEAST, -1), 20);
        due("house()", x.house(), fault(0, 0));
    }

    static void promise02_fourHundredBytesCome() {
        SoughtHouse x = new SoughtHouse();
        for (int k = 1; k <= 20; k++) {
            due("feed", x.feed(k, k, k, k, k), 20 * k);
        }
        due("bytes", x.count(13), 400);
    }

    static void promise02_noneBeyond400OnAFullTape() {
        SoughtHouse x = fed400();
        due("feed", x.feed(1, 2, 3, 4, 5), NONE);
        due("bytes", x.count(13), 400);
        due("feed again", x.feed(0, 0, 0, 0, 0), NONE);
    }

    static void promise02_noneIfItWouldHave401() {
        SoughtHouse x = fed400();
        x.end(381);
        due("feed", x.feed(1, 2, 3, 4, 5), NONE);
        due("bytes", x.count(13), 381);
    }

    static void promise02_twentyComeOn380() {
        SoughtHouse x = fed400();
        x.end(380);
        due("feed", x.feed(1, 2, 3, 4, 5), 400);
    }

    static void promise02_whatIsRefusedDoesNotCome() {
        SoughtHouse x = new SoughtHouse();
        Check.tell(x, ONE_ONE + "lodger 7 8" + times(" ", 361));
        due("bytes", x.count(13), 381);
        due("feed", x.feed(-1, -1, -1, -1, -1), NONE);
        due("house()", x.house(), 1);
        dueLodger(x, 0, 7, 8);
    }

    private static SoughtHouse fed400() {
        SoughtHouse x = new SoughtHouse();
        for (int k = 0; k < 20; k++) {
            x.feed(0, 0, 0, 0, 0);
        }
        return x;
    }

    // ---- 3: end

    static void promise03_theFirstBytesAlone() {
        SoughtHouse x = new SoughtHouse();
        Check.tell(x, ONE_ONE + "lodger 1 1;");
        due("end(20)", x.end(20), 20);
        due("bytes", x.count(13), 20);
        due("house()", x.house(), 1);
    }

    static void promise03_allThatItHas() {
        SoughtHouse x = fed400();
        due("end(400)", x.end(400), 400);
        due("bytes", x.count(13), 400);
    }

    static void promise03_noneAtAll() {
        SoughtHouse x = fed400();
        due("end(0)", x.end(0), 0);
        due("bytes", x.count(13), 0);
        due("end(0) again", x.end(0), 0);
    }

    static void promise03_notSoMany() {
        SoughtHouse x = fed400();
        due("end(401)", x.end(401), NONE);
        due("end(MOST)", x.end(MOST), NONE);
        due("bytes", x.count(13), 400);
        SoughtHouse y = new SoughtHouse();
        due("end(1) of the empty tape", y.end(1), NONE);
        due("bytes", y.count(13), 0);
    }

    static void promise03_below0() {
        SoughtHouse x = fed400();
        due("end(-1)", x.end(-1), NONE);
        due("end(LEAST)", x.end(LEAST), NONE);
        due("bytes", x.count(13), 400);
    }

    static void promise03_whatWasCutIsGone() {
        SoughtHouse x = fed400();
        x.end(7);
        due("end(8)", x.end(8), NONE);
        due("feed", x.feed(0, 0, 0, 0, 0), 27);
    }

    static void promise03_bytesComeBehindTheEnd() {
        SoughtHouse x = new SoughtHouse();
        Check.tell(x, "house 1 2");
        x.end(6);
        // "3 4" and blanks
        x.feed(0x33203420, 0x20202020, 0x20202020, 0x20202020, 0x20202020);
        due("house()", x.house(), 0);
        due("SLEEP", x.count(0), 3);
        due("TORCHES", x.count(1), 4);
    }
}
