import java.nio.charset.StandardCharsets;

/** Counts answers that are due and those that are not. */
final class Check {
    private int passed;
    private int failed;

    void due(String call, int got, int want) {
        if (got == want) {
            passed++;
            return;
        }
        failed++;
        if (failed <= 40) {
            System.out.println(call + " answered " + got + ", due is " + want);
        }
    }

    int failures() {
        return failed;
    }

    void close(String test) {
        System.out.println(test + ": " + passed + " passed, " + failed + " failed");
        if (failed != 0 || passed == 0) {
            System.exit(1);
        }
    }

    /** The numbers that feed takes for these bytes, five for each twenty; the last ones are filled up with 0. */
    static int[] numbers(byte[] bytes) {
        int[] numbers = new int[(bytes.length + 19) / 20 * 5];
        for (int k = 0; k < bytes.length; k++) {
            numbers[k / 4] |= (bytes[k] & 255) << (24 - k % 4 * 8);
        }
        return numbers;
    }

    /** The tape has this text alone then. */
    static void tell(SoughtHouse x, String text) {
        byte[] bytes = text.getBytes(StandardCharsets.ISO_8859_1);
        int[] n = numbers(bytes);
        x.end(0);
        for (int k = 0; k < n.length; k += 5) {
            x.feed(n[k], n[k + 1], n[k + 2], n[k + 3], n[k + 4]);
        }
        x.end(bytes.length);
    }

    static int house(SoughtHouse x, String text) {
        tell(x, text);
        return x.house();
    }

    static int rule(SoughtHouse x, String text) {
        tell(x, text);
        return x.rule();
    }

    static SoughtHouse told(String text) {
        SoughtHouse x = new SoughtHouse();
        house(x, text);
        return x;
    }
}
