import java.nio.charset.StandardCharsets;
import java.util.Random;

/** Runs of drawn calls, on the class and on the Model at once. */
public final class ModelTest {
    private static final String[] WORDS = {"lodger", "other", "tired", "othertired", "pence", "otherpence", "dear", "back",
        "seekers", "inside", "torches", "clock", "hour"};
    private static final String[] STRAY = {";", "[", "]", "not", "and", "or", "if", "seek", "house", "lodger", "dear", "count",
        "<", "<=", "=", ">=", ">", "+", "-", "*", "/", "%", "0", "7", "99999", "100000", " ", "x", "A", "\u00e9", "\u0000"};

    private final Random random;
    private final Check check;
    private SoughtHouse x;
    private Model m;
    private int run;
    private int step;

    private ModelTest(Random random, Check check) {
        this.random = random;
        this.check = check;
    }

    public static void main(String[] args) {
        int runs = args.length > 0 ? Integer.parseInt(args[0]) : 400;
        long seed = args.length > 1 ? Long.parseLong(args[1]) : 1;
        Check check = new Check();
        ModelTest test = new ModelTest(new Random(seed), check);
        for (int k = 0; k < runs && check.failures() == 0; k++) {
            test.run = k;
            test.texts();
            test.night();
        }
        check.close("ModelTest");
    }

    private int below(int n) {
        return random.nextInt(n);
    }

    private boolean chance(int percent) {
        return below(100) < percent;
    }

    private String blanks() {
        return " ".repeat(chance(80) ? 0 : below(3));
    }

    private int number(int least, int most) {
        return chance(2) ? below(200) : least + below(most - least + 1);
    }

    // ---- texts

    private String houseText(int lodgers) {
        StringBuilder text = new StringBuilder(blanks()).append("house ").append(number(1, 9)).append(' ').append(number(0, 7));
        for (int k = 0; k < lodgers; k++) {
            text.append(blanks()).append(';').append(blanks()).append("lodger ").append(number(0, chance(50) ? 60 : 20)).append(' ')
                    .append(blanks()).append(number(0, chance(50) ? 99 : 5));
        }
        int dears = below(12);
        for (int k = 0; k < dears && lodgers > 1; k++) {
            int a = below(lodgers);
            int b = (a + 1 + below(lodgers - 1)) % lodgers;
            text.append(";dear ").append(a).append(' ').append(b).append(' ').append(number(0, 9));
        }
        int counts = below(4);
        for (int k = 0; k < counts; k++) {
            text.append(";count").append(blanks()).append(number(0, 11));
        }
        return text.toString();
    }

    private String value() {
        if (chance(35)) {
            return Integer.toString(chance(80) ? below(12) : below(chance(90) ? 100000 : 2000000));
        }
        return WORDS[below(WORDS.length)];
    }

    private String sum() {
        StringBuilder text = new StringBuilder(value());
        for (int k = below(4); k > 0; k--) {
            text.append(blanks()).append("+-*/%+*".charAt(below(7))).append(blanks()).append(value());
        }
        return text.toString();
    }

    private String fact(int deep) {
        if (deep > 0 && chance(30)) {
            return "not " + blanks() + fact(deep - 1);
        }
        if (deep > 0 && chance(30)) {
            return "[" + blanks() + test(deep - 1) + blanks() + "]";
        }
        String[] signs = {"<", "<=", "=", ">=", ">"};
        return sum() + blanks() + signs[below(5)] + blanks() + sum();
    }

    private String test(int deep) {
        StringBuilder text = new StringBuilder(fact(deep));
        for (int k = below(3); k > 0; k--) {
            text.append(chance(50) ? " and " : " or ").append(fact(deep));
        }
        return text.toString();
    }

    private String ruleText() {
        StringBuilder text = new StringBuilder();
        for (int k = 1 + below(chance(90) ? 4 : 14); k > 0; k--) {
            text.append(text.length() == 0 ? "" : ";").append(blanks()).append("seek ").append(sum());
            if (chance(60)) {
                text.append(" if ").append(test(below(4)));
            }
        }
        return text.toString();
    }

    private String deepText() {
        StringBuilder text = new StringBuilder("seek dear if ");
        int deep = 8 + below(5);
        int open = 0;
        for (int k = 0; k < deep; k++) {
            boolean opens = chance(50);
            open += opens ? 1 : 0;
            text.append(opens ? "[" : "not ");
        }
        return text.append("tired<othertired").append("]".repeat(open)).toString();
    }

    private String wideText() {
        StringBuilder text = new StringBuilder("seek 1");
        for (int k = 55 + below(10); k > 0; k--) {
            text.append(chance(90) ? "+1" : chance(50) ? ";seek 1" : " ; seek 1 if 0=0 and 1 < hour");
        }
        return text.toString();
    }

    private String mangled(String text) {
        StringBuilder mangled = new StringBuilder(text);
        for (int k = 1 + below(2); k > 0; k--) {
            int at = below(mangled.length() + 1);
            String stray = STRAY[below(STRAY.length)];
            switch (below(4)) {
                case 0 -> mangled.insert(at, stray);
                case 1 -> mangled.delete(at, Math.min(mangled.length(), at + 1 + below(3)));
                case 2 -> mangled.replace(at, Math.min(mangled.length(), at + 1), stray);
                default -> mangled.setLength(at);
            }
        }
        return mangled.toString();
    }

    private void due(String call, int got, int want) {
        check.due("run " + run + ", step " + step + ": " + call, got, want);
    }

    private void tell(String text) {
        byte[] bytes = text.getBytes(StandardCharsets.ISO_8859_1);
        if (bytes.length > 400) {
            bytes = java.util.Arrays.copyOf(bytes, 400);
        }
        // Mostly what an earlier text left on the tape is seen by what is fed behind it.
        int before = chance(20) ? 0 : Math.min(m.count(13), 400 - bytes.length);
        due("end(" + before + ")", x.end(before), m.end(before));
        int[] n = Check.numbers(bytes);
        for (int k = 0; k < n.length; k += 5) {
            due("feed", x.feed(n[k], n[k + 1], n[k + 2], n[k + 3], n[k + 4]), m.feed(n[k], n[k + 1], n[k + 2], n[k + 3], n[k + 4]));
        }
        due("end", x.end(before + bytes.length), m.end(before + bytes.length));
    }

    private void tellHouse(String text) {
        tell(text);
        due("house of " + text, x.house(), m.house());
        due("bytes", x.count(13), m.count(13));
    }

    private void tellRule(String text) {
        tell(text);
        due("rule of " + text, x.rule(), m.rule());
        due("bytes", x.count(13), m.count(13));
    }

    private void texts() {
        x = new SoughtHouse();
        m = new Model();
        for (step = 0; step < 30; step++) {
            if (chance(40)) {
                String text = houseText(below(8));
                tellHouse(chance(60) ? mangled(text) : text);
            } else {
                String text = chance(60) ? ruleText() : chance(50) ? deepText() : wideText();
                tellRule(chance(60) ? mangled(text) : text);
            }
        }
    }

    // ---- calls

    private void night() {
        x = new SoughtHouse();
        m = new Model();
        step = -1;
        if (chance(95)) {
            tellHouse(houseText(chance(90) ? 2 + below(5) : below(2)));
        }
        for (int k = below(7); k > 0; k--) {
            tellRule(ruleText());
        }
        for (step = 0; step < 120; step++) {
            if (chance(60)) {
                act();
            } else {
                ask();
            }
        }
        for (int k = -1; k < 15; k++) {
            due("count(" + k + ")", x.count(k), m.count(k));
        }
    }

    private int who() {
        return chance(95) ? below(Math.max(1, x.count(2))) : below(9) - 2;
    }

    private int what(int most) {
        return chance(97) ? below(most + 1) : below(20) - 5;
    }

    private int hours(int least, int most) {
        if (chance(95)) {
            return least + below(Math.min(most - least, 12) + 1);
        }
        return chance(50) ? most + below(2) : least - below(2);
    }

    private void act() {
        int a = who();
        int b = who();
        int c = below(22);
        switch (below(17)) {
            case 0, 1, 2, 3, 4 -> due("hour()", x.hour(), m.hour());
            case 5, 6, 7 -> {
                int other = chance(80) ? b : -1;
                due("bid(" + a + ", " + other + ")", x.bid(a, other), m.bid(a, other));
            }
            case 8 -> due("call(" + a + ")", x.call(a), m.call(a));
            case 9 -> due("pay(" + a + ", " + b + ", " + c + ")", x.pay(a, b, c), m.pay(a, b, c));
            case 10 -> due("tire(" + a + ", " + c + ")", x.tire(a, c), m.tire(a, c));
            case 11 -> due("undo()", x.undo(), m.undo());
            case 12 -> {
                int r = below(8) - 1;
                due("force(" + r + ")", x.force(r), m.force(r));
            }
            case 13 -> {
                int n = chance(5) ? -1 : below(chance(80) ? 10 : 62);
                int in = chance(90) ? below(2) : 2;
                due("note(" + n + ", " + a + ", " + in + ")", x.note(n, a, in), m.note(n, a, in));
            }
            case 14 -> {
                int s = chance(95) ? below(Integer.MAX_VALUE) : -1 - below(5);
                due("seed(" + s + ")", x.seed(s), m.seed(s));
            }
            case 15 -> {
                int k = below(5);
                due("image(" + k + ")", x.image(k), m.image(k));
            }
            default -> {
                int k = below(5);
                if (chance(30)) {
                    due("back(" + k + ")", x.back(k), m.back(k));
                }
            }
        }
        int k = below(16) - 1;
        due("count(" + k + ")", x.count(k), m.count(k));
        int w = what(4);
        due("lodger(" + a + ", " + w + ")", x.lodger(a, w), m.lodger(a, w));
        due("dear(" + a + ", " + b + ")", x.dear(a, b), m.dear(a, b));
    }

    private void ask() {
        int a = who();
        int b = who();
        int w = what(1);
        int n;
        switch (below(17)) {
            case 0 -> {
                n = hours(0, 100);
                w = what(2);
                due("ahead(" + a + ", " + n + ", " + w + ")", x.ahead(a, n, w), m.ahead(a, n, w));
            }
            case 1 -> due("rested(" + a + ")", x.rested(a), m.rested(a));
            case 2 -> due("chain(" + a + ", " + w + ")", x.chain(a, w), m.chain(a, w));
            case 3 -> due("lonely()", x.lonely(), m.lonely());
            case 4 -> {
                if (chance(30)) {
                    for (int k = -2; k < 8; k++) {
                        due("bestRow(" + k + ")", x.bestRow(k), m.bestRow(k));
                    }
                }
            }
            case 5 -> {
                n = hours(1, 30);
                due("forOne(" + a + ", " + b + ", " + n + ", " + w + ")", x.forOne(a, b, n, w), m.forOne(a, b, n, w));
            }
            case 6 -> {
                n = hours(1, 60);
                due("torches(" + n + ")", x.torches(n), m.torches(n));
            }
            case 7 -> {
                n = hours(1, 30);
                due("out(" + n + ", " + w + ")", x.out(n, w), m.out(n, w));
            }
            case 8 -> {
                n = hours(1, 100);
                due("sleeps(" + n + ", " + w + ")", x.sleeps(n, w), m.sleeps(n, w));
            }
            case 9 -> due("ring(" + w + ")", x.ring(w), m.ring(w));
            case 10, 11 -> {
                n = chance(95) ? below(chance(50) ? 30 : 10000) : 9999 + below(2);
                due("pennies(" + n + ", " + a + ")", x.pennies(n, a), m.pennies(n, a));
            }
            case 12 -> {
                n = hours(1, 20);
                w = what(2);
                due("rests(" + a + ", " + b + ", " + n + ", " + w + ")", x.rests(a, b, n, w), m.rests(a, b, n, w));
            }
            case 13 -> {
                n = hours(0, 60);
                due("stays(" + n + ")", x.stays(n), m.stays(n));
            }
            case 14 -> due("ruled(" + w + ")", x.ruled(w), m.ruled(w));
            case 15 -> due("look(" + w + ")", x.look(w), m.look(w));
            default -> {
                n = hours(1, 60);
                int t = hours(1, 10);
                int p = chance(90) ? below(101) : 100 + below(2);
                due("strangers(" + t + ", " + n + ", " + p + ", " + w + ")", x.strangers(t, n, p, w), m.strangers(t, n, p, w));
            }
        }
    }
}
