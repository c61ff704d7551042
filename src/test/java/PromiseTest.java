import java.util.Arrays;
import java.util.NoSuchElementException;

/**
 * The promises one by one, by hand: ordinary inputs, the edges that the document names, wrong inputs.
 * A call that has to throw is also asked whether it left everything as it was.
 */
public final class PromiseTest {
    private static final int[] NO_ROWS = {-1, 4, 5, Integer.MIN_VALUE, Integer.MAX_VALUE};

    private static int checks = 0;
    private static int wrong = 0;
    private static String promise = "";

    private interface Call {
        Object answer();
    }

    private interface RowCall {
        Object answer(int row);
    }

    private static void due(Object got, Object want) {
        checks++;
        if (!want.equals(got)) {
            wrong++;
            String where = "?";
            for (StackTraceElement e : new Throwable().getStackTrace()) {
                if (e.getMethodName().startsWith("promise") || e.getMethodName().startsWith("term")) {
                    where = e.getMethodName() + ", line " + e.getLineNumber();
                    break;
                }
            }
            System.out.println(promise + " (" + where + "): answered " + got + ", due is " + want);
        }
    }

    private static Object outcome(Call call) {
        try {
            return call.answer();
        } catch (RuntimeException e) {
            return e.getClass();
        }
    }

    /** The call throws exactly this exception, and changes nothing. */
    private static void dueThrow(Counted x, Class<?> exception, Call call) {
        String before = state(x);
        due(outcome(call), exception);
        due(state(x), before);
    }

    private static void dueNoRow(Counted x, RowCall call) {
        for (int row : NO_ROWS) {
            dueThrow(x, IndexOutOfBoundsException.class, () -> call.answer(row));
        }
    }

    private static final Class<?> BOUNDS = IndexOutOfBoundsException.class;
    private static final Class<?> ARGUMENT = IllegalArgumentException.class;
    private static final Class<?> STATE = IllegalStateException.class;

    private static int type(Counted x, String text) {
        int length = x.type(0);
        for (int p = 0; p < text.length(); p += 8) {
            long bytes = 0;
            for (int q = p; q < Math.min(p + 8, text.length()); q++) {
                bytes = bytes << 8 | text.charAt(q);
            }
            length = x.type(bytes);
        }
        return length;
    }

    private static Counted typed(String text) {
        Counted x = new Counted();
        type(x, text);
        return x;
    }

    private static int faultOf(String text) {
        return typed(text).fault();
    }

    private static int lay(Counted x, int row, String text) {
        x.clearText();
        type(x, text);
        return x.lay(row);
    }

    /** A cabinet with cards of these first numbers in row 0; their second numbers are their places. */
    private static Counted withFirsts(int... firsts) {
        Counted x = new Counted();
        putAll(x, 0, firsts);
        return x;
    }

    private static void putAll(Counted x, int row, int... firsts) {
        for (int first : firsts) {
            int n = x.count(row);
            x.put(row, n, first, n);
        }
    }

    private static Counted withBoth(int[]... cards) {
        Counted x = new Counted();
        for (int[] card : cards) {
            x.put(0, x.count(0), card[0], card[1]);
        }
        return x;
    }

    private static String told(Counted x, int row, int what) {
        int[] all = new int[(int) x.look(c -> c.count(row))];
        for (int p = 0; p < all.length; p++) {
            int place = p;
            all[p] = (int) x.look(c -> c.cardAt(row, place, what));
        }
        return Arrays.toString(all);
    }

    private static String firsts(Counted x, int row) {
        return told(x, row, 0);
    }

    private static String seconds(Counted x, int row) {
        return told(x, row, 1);
    }

    private static String marks(Counted x, int row) {
        return told(x, row, 2);
    }

    /** All that can be seen, on other cabinets with the same calls behind them. */
    private static String state(Counted x) {
        StringBuilder text = new StringBuilder();
        for (int row = 0; row < 4; row++) {
            text.append(firsts(x, row)).append(seconds(x, row)).append(marks(x, row)).append('\n');
        }
        Counted y = x.again(x.callsMade());
        text.append(y.type(0)).append(' ').append(y.fault()).append(' ').append(y.setSeed(0));
        for (int r = 0; r < 4; r++) {
            int row = r;
            text.append('\n').append(y.outcome(c -> c.restore(row))).append(' ').append(y.sum(row));
        }
        return text.toString();
    }

    /** A cabinet of which 20000 cards have been made; the rows 0 and 1 have some, 2 and 3 none. */
    private static Counted exhausted(int lessBy) {
        Counted x = new Counted();
        type(x, "same 400 1;same 400 2;");
        for (int n = 0; n < 24; n++) {
            x.lay(0);
            x.empty(0);
        }
        x.clearText();
        type(x, "same 400 3;");
        x.lay(0);
        lay(x, 1, "same 300 4;same 90 5;");
        for (int n = lessBy; n < 10; n++) {
            x.put(1, 0, 6, 6);
        }
        x.clearText();
        return x;
    }

    // ---- the terms

    private static void termDraws() {
        Counted x = typed("draw 5 10 99 mod 3;");
        x.lay(0);
        int seed = 1;
        int[] due = new int[5];
        for (int k = 0; k < 5; k++) {
            seed = seed * 1103515245 + 12345;
            due[k] = 10 + (seed >>> 16) % 100;
        }
        due(firsts(x, 0), Arrays.toString(due));
        due(seconds(x, 0), "[0, 1, 2, 0, 1]");
        due(x.setSeed(-77), seed);
        x.lay(1);
        seed = -77;
        for (int k = 0; k < 5; k++) {
            seed = seed * 1103515245 + 12345;
            due[k] = 10 + (seed >>> 16) % 100;
        }
        due(firsts(x, 1), Arrays.toString(due));
        x.setSeed(3);
        lay(x, 2, "draw 4 7 0;");
        due(firsts(x, 2), "[7, 7, 7, 7]");
        due(x.setSeed(0) == 3, false);
        x.setSeed(3);
        lay(x, 2, "same 4 7;wave 3 1 1;teeth 3 1 1 2;rise 2 2 2;fall 2 2 2;");
        due(x.setSeed(0), 3);
    }

    private static void termRuns() {
        Counted x = typed("same 3 7;rise 4 -5 10;fall 4 5 10;wave 5 2 3;teeth 7 100 10 3;");
        due(x.lay(0), 23);
        due(firsts(x, 0), "[7, 7, 7, -5, 5, 15, 25, 5, -5, -15, -25, 2, 5, 2, 5, 2, "
                + "100, 110, 120, 100, 110, 120, 100]");
        due(seconds(x, 0), Arrays.toString(new int[23]));
        x = typed("same 3 7 mod 1;rise 5 -0 0 mod 2;fall 4 - 5 999 mod 99;wave 2 0 1 mod 4;teeth 3 0 1 1 mod 2;");
        due(x.lay(0), 17);
        due(firsts(x, 0), "[7, 7, 7, 0, 0, 0, 0, 0, -5, -1004, -2003, -3002, 0, 1, 0, 0, 0]");
        due(seconds(x, 0), "[0, 0, 0, 0, 1, 0, 1, 0, 0, 1, 2, 3, 0, 1, 0, 1, 0]");
        x = typed("rise 400 9999 999 mod 99;fall 400 -9999 999;");
        due(x.lay(0), 800);
        due(x.cardAt(0, 399, 0), 9999 + 399 * 999);
        due(x.cardAt(0, 399, 1), 3);
        due(x.cardAt(0, 799, 0), -9999 - 399 * 999);
    }

    // ---- the promises

    private static void promise01() {
        Counted x = new Counted();
        due(Cardcabinet.NONE, -1);
        for (int row = 0; row < 4; row++) {
            int r = row;
            due(x.count(r), 0);
            dueThrow(x, STATE, () -> x.restore(r));
        }
        due(x.type(0), 0);
        due(x.fault(), -1);
        due(x.setSeed(9), 1);
        due(x.put(3, 0, 0, 0), 0);
    }

    private static void promise02() {
        Counted x = new Counted();
        due(x.type(0), 0);
        due(x.type(0x61), 1);
        due(x.type(0x6100000000000062L), 3);
        due(x.type(0x0061006200630000L), 6);
        due(x.type(-1), 14);
        due(x.type(Long.MIN_VALUE), 15);
        due(x.type(256), 16);
        Counted y = new Counted();
        due(y.type(0x73616d6500200031L), 6);
        due(y.type(0x2037003b00000000L), 9);
        due(y.lay(0), 1);
        due(firsts(y, 0), "[7]");
        Counted z = new Counted();
        for (int n = 1; n <= 49; n++) {
            due(z.type(0x2020202020202020L), 8 * n);
        }
        due(z.type(0x20202020202020L), 399);
        dueThrow(z, STATE, () -> z.type(0x2020));
        dueThrow(z, STATE, () -> z.type(-1));
        due(z.type(0x2000), 400);
        due(z.type(0), 400);
        dueThrow(z, STATE, () -> z.type(1));
        due(z.fault(), -1);
        due(z.clearText(), 400);
        due(z.type(-1), 8);
        // The highest byte first, and none of it left behind by the one that was refused.
        Counted v = typed(" ".repeat(390) + "same 1 5");
        dueThrow(v, STATE, () -> v.type(0x3b20203bL));
        due(v.type(0x3b20), 400);
        due(v.lay(0), 1);
    }

    private static void promise03() {
        Counted x = new Counted();
        due(x.clearText(), 0);
        due(type(x, "same 3 4;"), 9);
        due(x.clearText(), 9);
        due(x.clearText(), 0);
        due(x.fault(), -1);
        due(x.lay(0), 0);
        due(type(x, "wave"), 4);
        due(x.fault(), 4);
    }

    private static void promise04Right() {
        String[] right = {"", " ", "   ", "same 1 0;", "same 400 9999;", "same1 0;", "same1-0;", "same 0001 0000 ; ",
            "  same  3  -  12  mod  9 ; ", "same 3 5mod3;", "rise 1 2 3;", "fall 1 2 3;", "wave 1 2 3;", "draw 1 2 3;",
            "teeth 1 2 3 4;", "teeth 400 -9999 999 99 mod 99;", "teeth 1 0 0 1 mod 1;", "same 1 1;same 1 1;",
            "rise 0400 0009 0999mod0099;", "same1 0;".repeat(50), " ".repeat(400)};
        for (String text : right) {
            due(faultOf(text), -1);
        }
    }

    private static void promise04Wrong() {
        Object[][] wrongTexts = {{";", 0}, {" ;", 1}, {"-", 0}, {"3", 0}, {"mod", 0}, {"mod 3", 0}, {"sam 1 1;", 0},
            {"samee 1 1;", 0}, {"samerise 1 1;", 0}, {"samez 1 1;", 0}, {"zsame 1 1;", 0}, {"same 1 1 moda 1;", 9},
            {"same 1 1 modz 1;", 9}, {"Same 1 1;", 0}, {"saMe 1 1;", 0}, {"same;", 4}, {"same -3 1;", 5},
            {"same 0 1;", 5}, {"same 0000 1;", 5}, {"same 401 1;", 5}, {"same 00001 1;", 5}, {"same 99999999999 1;", 5},
            {"same 1 10000;", 7}, {"same 1 00001;", 7}, {"same 1 -10000;", 8}, {"same 1 - 10000;", 9}, {"same 1 --1;", 8},
            {"same 1 ;", 7}, {"same 1 mod 3;", 7}, {"same 1 - mod 3;", 9}, {"same 1 1 1;", 9}, {"same 1 1 -;", 9},
            {"same 1 1 mod;", 12}, {"same 1 1 mod 0;", 13}, {"same 1 1 mod 100;", 13}, {"same 1 1 mod -1;", 13},
            {"same 1 1 mod 00001;", 13}, {"same 1 1 mod 2 3;", 15}, {"same 1 1 mod 2 mod 2;", 15}, {"same 1 1;;", 9},
            {"same 1 1 same 1 1;", 9}, {"same 1 1 modx 1;", 9}, {"rise 1 1;", 8}, {"rise 1 1 1000;", 9},
            {"rise 1 1 -1;", 9}, {"rise 1 1 00001;", 9}, {"rise 1 1 1 1;", 11}, {"fall 1 1 mod 2;", 9}, {"wave 1 1;", 8},
            {"draw 1 1;", 8}, {"draw 1 1 1 1;", 11}, {"teeth 1 1 1;", 11}, {"teeth 1 1 1 0;", 12},
            {"teeth 1 1 1 100;", 12}, {"teeth 1 1 1 -1;", 12}, {"teeth 1 1 1 1 1;", 14}, {"same 1 1\t;", 8},
            {"same 1\n1;", 6}, {"same 1,1;", 6}, {"same 1 1;?", 9}, {"same_1 1;", 4}, {"same 1 1:", 8},
            {"{same 1 1;", 0}, {"`same 1 1;", 0}, {"same /1 1;", 5}, {"same \u00ff1 1;", 5}, {"same 1 1;\u00e1", 9},
            {"same 1 \u00b2;", 7}, {"same 1 1;rise 1 1 1;wavy 1 1 1;", 20}, {"same 1 1; 5", 10}};
        for (Object[] row : wrongTexts) {
            due(faultOf((String) row[0]), row[1]);
        }
        String[] tooShort = {"same", "same ", "same 1", "same 1 ", "same 1 -", "same 1 1", "same 1 1  ", "same 1 1 mod",
            "same 1 1 mod 2", "same 1 1 mod 2 ", "rise 1 1", "rise 1 1 1", "teeth 1 1 1", "teeth 1 1 1 1", "same 1 1;draw",
            "same1 0;".repeat(49) + "same1 0", " ".repeat(396) + "same"};
        for (String text : tooShort) {
            due(faultOf(text), text.length());
        }
    }

    private static void promise04Place() {
        for (String word : new String[] {"same", "rise", "fall", "wave", "draw", "teeth", "mod", "x", "samesame"}) {
            due(faultOf("same 1 1;" + word + " ?"), word.length() > 5 || word.length() < 4 ? 9 : 10 + word.length());
        }
        // A fault changes nothing, and an old one is not told of a new text.
        Counted x = typed("same 1 1; nothing");
        String before = state(x);
        due(x.fault(), 10);
        due(x.fault(), 10);
        due(state(x), before);
        x.clearText();
        type(x, "same 1 1;");
        due(x.fault(), -1);
    }

    private static void promise05() {
        Counted x = typed("same 2 5;rise 3 1 2 mod 2;");
        due(x.lay(1), 5);
        due(firsts(x, 1), "[5, 5, 1, 3, 5]");
        due(marks(x, 1), "[0, 1, 2, 3, 4]");
        due(x.lay(1), 5);
        due(firsts(x, 1), "[5, 5, 1, 3, 5, 5, 5, 1, 3, 5]");
        due(seconds(x, 1), "[0, 0, 0, 1, 0, 0, 0, 0, 1, 0]");
        due(marks(x, 1), "[0, 1, 2, 3, 4, 5, 6, 7, 8, 9]");
        due(x.lay(3), 5);
        due(marks(x, 3), "[10, 11, 12, 13, 14]");
        due(x.clearText(), 26);
        due(x.lay(0), 0);
        due(x.count(0), 0);
        dueNoRow(x, row -> x.lay(row));
        // No such row comes first.
        type(x, "wrong");
        dueNoRow(x, row -> x.lay(row));
        dueThrow(x, STATE, () -> x.lay(0));
        x.clearText();
        type(x, "draw 3 3 3; same");
        dueThrow(x, STATE, () -> x.lay(0));
        due(x.put(0, 0, 0, 0), 15);
    }

    private static void promise05Full() {
        Counted x = typed("draw 400 0 5;");
        x.lay(0);
        x.lay(0);
        due(x.count(0), 800);
        dueThrow(x, STATE, () -> x.lay(0));
        due(x.lay(1), 400);
        x.clearText();
        type(x, "draw 400 1 1;same 1 1;");
        dueThrow(x, STATE, () -> x.lay(1));
        due(x.lay(2), 401);
        x.clearText();
        due(x.lay(0), 0);
        Counted y = exhausted(1);
        due(lay(y, 2, "draw 1 1 1;"), 1);
        dueThrow(y, STATE, () -> y.lay(2));
        y.clearText();
        due(y.lay(2), 0);
        Counted z = exhausted(2);
        type(z, "draw 3 1 1;");
        dueThrow(z, STATE, () -> z.lay(2));
        due(lay(z, 2, "draw 2 1 1;"), 2);
        due(marks(z, 2), "[19998, 19999]");
    }

    private static void promise06() {
        Counted x = new Counted();
        due(x.put(2, 0, 5, -6), 0);
        due(x.put(2, 0, Integer.MIN_VALUE, Integer.MAX_VALUE), 1);
        due(x.put(2, 1, Integer.MAX_VALUE, Integer.MIN_VALUE), 2);
        due(x.put(2, 3, 9, 9), 3);
        due(firsts(x, 2), "[-2147483648, 2147483647, 5, 9]");
        due(seconds(x, 2), "[2147483647, -2147483648, -6, 9]");
        due(marks(x, 2), "[1, 2, 0, 3]");
        dueNoRow(x, row -> x.put(row, 0, 0, 0));
        for (int place : new int[] {-1, 5, 800, Integer.MIN_VALUE, Integer.MAX_VALUE}) {
            dueThrow(x, BOUNDS, () -> x.put(2, place, 0, 0));
        }
        dueThrow(x, BOUNDS, () -> x.put(0, 1, 0, 0));
        due(x.put(0, 0, 1, 1), 4);
        lay(x, 1, "same 400 1;same 399 2;");
        due(x.put(1, 400, 7, 7), 804);
        due(x.cardAt(1, 399, 0), 1);
        due(x.cardAt(1, 400, 0), 7);
        due(x.cardAt(1, 401, 0), 2);
        dueThrow(x, STATE, () -> x.put(1, 0, 7, 7));
        dueThrow(x, STATE, () -> x.put(1, 800, 7, 7));
        dueThrow(x, BOUNDS, () -> x.put(1, 801, 7, 7));
        dueThrow(x, BOUNDS, () -> x.put(1, -1, 7, 7));
        due(x.put(3, 0, 7, 7), 805);
        Counted y = exhausted(1);
        due(y.put(3, 0, 1, 1), 19999);
        dueThrow(y, STATE, () -> y.put(3, 0, 1, 1));
        dueThrow(y, BOUNDS, () -> y.put(3, 2, 1, 1));
        dueNoRow(y, row -> y.put(row, 0, 1, 1));
    }

    private static void promise07() {
        Counted x = new Counted();
        due(x.setSeed(Integer.MIN_VALUE), 1);
        due(x.setSeed(Integer.MAX_VALUE), Integer.MIN_VALUE);
        due(x.setSeed(0), Integer.MAX_VALUE);
        lay(x, 0, "draw 1 0 999;");
        due(firsts(x, 0), "[0]");
        due(x.setSeed(-1), 12345);
        lay(x, 0, "draw 1 0 999;");
        due(x.cardAt(0, 1, 0), ((-1103515245 + 12345) >>> 16) % 1000);
        due(x.setSeed(-1), -1103515245 + 12345);
    }

    private static void promise08() {
        Counted x = withFirsts(5, 3, 5, 1, 3, 9);
        due(x.sort(0), 4);
        due(firsts(x, 0), "[1, 3, 3, 5, 5, 9]");
        due(marks(x, 0), "[3, 1, 4, 0, 2, 5]");
        due(x.sort(0), 0);
        due(x.sort(1), 0);
        Counted y = withFirsts(Integer.MAX_VALUE, 0, Integer.MIN_VALUE, -1, 1);
        due(y.sort(0), 5);
        due(firsts(y, 0), "[-2147483648, -1, 0, 1, 2147483647]");
        // A place that has the same card again is not counted, one with a like card is.
        Counted z = withFirsts(2, 1, 1);
        due(z.sort(0), 3);
        due(marks(z, 0), "[1, 2, 0]");
        Counted v = withFirsts(3, 2, 1);
        due(v.sort(0), 2);
        dueNoRow(v, row -> v.sort(row));
    }

    private static void promise08Twice() {
        Counted x = withFirsts(2, 1);
        x.keep(0);
        x.pour(0, 1);
        x.restore(0);
        x.pour(0, 1);
        due(marks(x, 1), "[0, 1, 0, 1]");
        due(x.sort(1), 2);
        due(marks(x, 1), "[1, 1, 0, 0]");
        Counted big = typed("fall 400 9999 1;fall 400 9999 1;");
        big.lay(0);
        due(big.sort(0), 798);
        due(big.cardAt(0, 0, 2), 399);
        due(big.cardAt(0, 1, 2), 799);
        due(big.cardAt(0, 799, 2), 400);
    }

    private static void promise09() {
        Counted x = new Counted();
        due(x.sortAll(), 0);
        putAll(x, 0, 5, 1);
        putAll(x, 2, 1, 5, 0);
        putAll(x, 3, 5);
        due(x.sortAll(), 3);
        due(marks(x, 0), "[4, 1]");
        due(marks(x, 1), "[]");
        due(marks(x, 2), "[2, 0, 3]");
        due(marks(x, 3), "[5]");
        due(x.sortAll(), 0);
        Counted full = typed("fall 400 9999 1;fall 400 9599 1;");
        for (int row = 0; row < 4; row++) {
            full.lay(row);
        }
        due(full.sortAll(), 3200);
        for (int row = 0; row < 4; row++) {
            due(full.count(row), 800);
            due(full.isSorted(row), true);
        }
        due(full.cardAt(0, 0, 2), 799);
        due(full.cardAt(0, 1, 2), 1599);
        due(full.cardAt(3, 799, 2), 2400);
    }

    private static void promise10() {
        Counted x = withFirsts(9, 5, 3, 5, 1, 0);
        due(x.sortPart(0, 1, 5), 3);
        due(firsts(x, 0), "[9, 1, 3, 5, 5, 0]");
        due(marks(x, 0), "[0, 4, 2, 1, 3, 5]");
        due(x.sortPart(0, 0, 0), 0);
        due(x.sortPart(0, 6, 6), 0);
        due(x.sortPart(0, 0, 1), 0);
        due(x.sortPart(0, 0, 2), 2);
        due(x.sortPart(0, 0, 6), 3);
        due(firsts(x, 0), "[0, 1, 3, 5, 5, 9]");
        due(x.sortPart(1, 0, 0), 0);
        Counted y = withFirsts(9, 5, 3, 5, 1, 0);
        partErrors(y, (row, from, to) -> y.sortPart(row, from, to));
    }

    private interface PartCall {
        int answer(int row, int from, int to);
    }

    private static void partErrors(Counted x, PartCall call) {
        dueNoRow(x, row -> call.answer(row, 0, 0));
        dueNoRow(x, row -> call.answer(row, 2, 1));
        dueThrow(x, BOUNDS, () -> call.answer(0, -1, 3));
        dueThrow(x, BOUNDS, () -> call.answer(0, -1, -2));
        dueThrow(x, BOUNDS, () -> call.answer(0, Integer.MIN_VALUE, 0));
        dueThrow(x, BOUNDS, () -> call.answer(0, 0, 7));
        dueThrow(x, BOUNDS, () -> call.answer(0, 7, 7));
        dueThrow(x, BOUNDS, () -> call.answer(0, 9, 8));
        dueThrow(x, BOUNDS, () -> call.answer(0, 0, Integer.MAX_VALUE));
        dueThrow(x, BOUNDS, () -> call.answer(1, 0, 1));
        dueThrow(x, ARGUMENT, () -> call.answer(0, 3, 2));
        dueThrow(x, ARGUMENT, () -> call.answer(0, 7, 6));
        dueThrow(x, ARGUMENT, () -> call.answer(0, 0, -1));
        dueThrow(x, ARGUMENT, () -> call.answer(0, 1, Integer.MIN_VALUE));
        dueThrow(x, ARGUMENT, () -> call.answer(0, Integer.MAX_VALUE, 6));
    }

    private static void promise11() {
        Counted x = withFirsts(9, 1, 3, 5, 3, 10);
        due(x.sortDown(0, 1, 5), 3);
        due(firsts(x, 0), "[9, 5, 3, 3, 1, 10]");
        due(marks(x, 0), "[0, 3, 2, 4, 1, 5]");
        due(x.sortDown(0, 1, 5), 0);
        due(x.sortDown(0, 6, 6), 0);
        due(x.sortDown(0, 0, 6), 6);
        due(firsts(x, 0), "[10, 9, 5, 3, 3, 1]");
        Counted y = withFirsts(9, 5, 3, 5, 1, 0);
        partErrors(y, (row, from, to) -> y.sortDown(row, from, to));
        Counted z = typed("rise 33 0 1;");
        z.lay(0);
        due(z.sortDown(0, 0, 31), 30);
        due(z.cardAt(0, 0, 0), 30);
        due(z.sortDown(0, 2, 33), 31);
        dueThrow(z, ARGUMENT, () -> z.sortDown(0, 0, 32));
        dueThrow(z, ARGUMENT, () -> z.sortDown(0, 1, 33));
        dueThrow(z, BOUNDS, () -> z.sortDown(0, 0, 34));
        Counted v = withFirsts(Integer.MIN_VALUE, 0, Integer.MAX_VALUE);
        due(v.sortDown(0, 0, 3), 2);
        due(firsts(v, 0), "[2147483647, 0, -2147483648]");
    }

    private static void promise12() {
        Counted x = withBoth(new int[][] {{1, 5}, {9, 2}, {3, 5}, {2, 2}, {0, Integer.MIN_VALUE}, {7, Integer.MAX_VALUE}});
        due(x.sortBySecond(0), 4);
        due(seconds(x, 0), "[-2147483648, 2, 2, 5, 5, 2147483647]");
        due(marks(x, 0), "[4, 1, 3, 0, 2, 5]");
        due(x.sortBySecond(0), 0);
        due(x.sortBySecond(3), 0);
        dueNoRow(x, row -> x.sortBySecond(row));
    }

    private static void promise13() {
        Counted x = withBoth(new int[][] {{3, 5}, {1, 2}, {3, 4}, {1, 2}, {3, 5}, {1, -1}, {2, 9}});
        due(x.sortByBoth(0), 6);
        due(marks(x, 0), "[5, 1, 3, 6, 2, 0, 4]");
        due(x.sortByBoth(0), 0);
        due(x.sortByBoth(2), 0);
        dueNoRow(x, row -> x.sortByBoth(row));
    }

    private static void promise14() {
        Counted x = withFirsts(5, 4, 3);
        putAll(x, 2, 8, 9);
        due(x.pour(0, 2), 5);
        due(marks(x, 0), "[]");
        due(marks(x, 2), "[3, 4, 0, 1, 2]");
        due(x.pour(0, 2), 5);
        due(x.pour(2, 1), 5);
        due(marks(x, 1), "[3, 4, 0, 1, 2]");
        dueNoRow(x, row -> x.pour(row, 0));
        dueNoRow(x, row -> x.pour(0, row));
        dueNoRow(x, row -> x.pour(row, row));
        dueThrow(x, ARGUMENT, () -> x.pour(1, 1));
        dueThrow(x, ARGUMENT, () -> x.pour(0, 0));
        lay(x, 3, "same 400 1;same 395 2;");
        due(x.pour(1, 3), 800);
        x.put(0, 0, 1, 1);
        dueThrow(x, STATE, () -> x.pour(0, 3));
        dueThrow(x, STATE, () -> x.pour(3, 0));
        dueThrow(x, ARGUMENT, () -> x.pour(3, 3));
        due(x.pour(1, 3), 800);
        due(x.pour(3, 1), 800);
    }

    private static void promise15() {
        Counted x = withFirsts(10, 11, 12, 13, 14);
        putAll(x, 1, 8);
        due(x.deal(0, 1), 2);
        due(marks(x, 0), "[0, 2, 4]");
        due(marks(x, 1), "[5, 1, 3]");
        due(x.deal(0, 3), 1);
        due(marks(x, 0), "[0, 4]");
        due(x.deal(0, 3), 1);
        due(x.deal(0, 3), 0);
        due(marks(x, 0), "[0]");
        due(marks(x, 3), "[2, 4]");
        due(x.deal(2, 3), 0);
        dueNoRow(x, row -> x.deal(row, 0));
        dueNoRow(x, row -> x.deal(0, row));
        dueNoRow(x, row -> x.deal(row, row));
        dueThrow(x, ARGUMENT, () -> x.deal(1, 1));
        Counted y = typed("same 400 1;same 400 2;");
        y.lay(0);
        lay(y, 1, "same 400 1;");
        due(y.deal(0, 1), 400);
        due(y.count(1), 800);
        dueThrow(y, STATE, () -> y.deal(0, 1));
        dueThrow(y, ARGUMENT, () -> y.deal(1, 1));
        due(y.deal(0, 2), 200);
        lay(y, 2, "same 400 1;");
        lay(y, 2, "same 101 1;");
        due(y.count(2), 701);
        dueThrow(y, STATE, () -> y.deal(1, 2));
        dueThrow(y, STATE, () -> y.deal(0, 2));
        y.move(2, 0, 700);
        lay(y, 3, "same 1 9;");
        due(y.deal(3, 2), 0);
    }

    private static void promise15Edge() {
        Counted x = typed("same 400 1;same 399 2;");
        x.lay(0);
        lay(x, 1, "same 3 7;");
        // Of three cards one goes: 799 and one are 800.
        due(x.deal(1, 0), 1);
        due(x.count(0), 800);
        due(x.count(1), 2);
        dueThrow(x, STATE, () -> x.deal(1, 0));
        lay(x, 2, "same 1 7;");
        due(x.deal(2, 0), 0);
        due(x.count(2), 1);
    }

    private static void promise16() {
        Counted x = withFirsts(1, 2, 3, 4);
        due(x.turn(0), 4);
        due(marks(x, 0), "[3, 2, 1, 0]");
        x.put(0, 4, 9, 9);
        due(x.turn(0), 5);
        due(marks(x, 0), "[4, 0, 1, 2, 3]");
        due(x.turn(1), 0);
        x.put(1, 0, 0, 0);
        due(x.turn(1), 1);
        due(marks(x, 1), "[5]");
        dueNoRow(x, row -> x.turn(row));
    }

    private static void promise17() {
        Counted x = withFirsts(0, 1, 2, 3, 4);
        due(x.move(0, 1, 3), 1);
        due(marks(x, 0), "[0, 2, 3, 1, 4]");
        due(x.move(0, 3, 1), 1);
        due(marks(x, 0), "[0, 1, 2, 3, 4]");
        due(x.move(0, 0, 4), 0);
        due(marks(x, 0), "[1, 2, 3, 4, 0]");
        due(x.move(0, 4, 0), 0);
        due(x.move(0, 2, 2), 2);
        due(marks(x, 0), "[0, 1, 2, 3, 4]");
        dueNoRow(x, row -> x.move(row, 0, 0));
        for (int place : new int[] {-1, 5, 799, 800, Integer.MIN_VALUE, Integer.MAX_VALUE}) {
            dueThrow(x, BOUNDS, () -> x.move(0, place, 0));
            dueThrow(x, BOUNDS, () -> x.move(0, 0, place));
        }
        dueThrow(x, BOUNDS, () -> x.move(1, 0, 0));
        Counted full = typed("rise 400 0 1;rise 400 400 1;");
        full.lay(0);
        due(full.move(0, 0, 799), 0);
        due(full.cardAt(0, 799, 0), 0);
        due(full.cardAt(0, 0, 0), 1);
        due(full.move(0, 799, 0), 0);
        due(full.isSorted(0), true);
    }

    private static void promise18() {
        Counted x = withBoth(new int[][] {{1, 5}, {5, 2}, {3, 5}, {4, -2}, {5, 5}});
        due(x.thin(0, 3), 0);
        due(x.thin(0, 5), 3);
        due(marks(x, 0), "[1, 3]");
        due(x.thin(0, 5), 0);
        due(x.thin(0, -2), 1);
        due(x.thin(0, 2), 1);
        due(x.thin(0, 2), 0);
        due(x.count(0), 0);
        x.put(0, 0, 1, Integer.MIN_VALUE);
        due(x.thin(0, Integer.MAX_VALUE), 0);
        due(x.thin(0, Integer.MIN_VALUE), 1);
        dueNoRow(x, row -> x.thin(row, 0));
    }

    private static void promise19() {
        Counted x = withFirsts(5, 5, 5, 3, 5, 5, 3, 3);
        due(x.single(0), 4);
        due(marks(x, 0), "[0, 3, 4, 6]");
        due(x.single(0), 0);
        due(x.single(1), 0);
        Counted y = withFirsts(0, 0);
        due(y.single(0), 1);
        due(marks(y, 0), "[0]");
        dueNoRow(y, row -> y.single(row));
    }

    private static void promise20() {
        Counted x = withFirsts(5, 5, 5);
        putAll(x, 1, 4);
        due(x.empty(0), 3);
        due(x.empty(0), 0);
        due(x.count(1), 1);
        due(x.put(0, 0, 1, 1), 4);
        dueNoRow(x, row -> x.empty(row));
    }

    private static void promise21And22() {
        Counted x = withFirsts(3, 2, 1);
        due(x.keep(0), 3);
        dueThrow(x, STATE, () -> x.restore(1));
        due(x.restore(0), 0);
        x.sort(0);
        due(x.restore(0), 2);
        due(marks(x, 0), "[0, 1, 2]");
        x.put(0, 0, 9, 9);
        due(x.restore(0), 4);
        x.put(0, 3, 9, 9);
        due(x.restore(0), 1);
        x.empty(0);
        due(x.restore(0), 3);
        due(marks(x, 0), "[0, 1, 2]");
        x.thin(0, 2);
        due(x.restore(0), 1);
        x.thin(0, 0);
        due(x.restore(0), 3);
        // A newer copy takes the place of the older one; that of another row is its own.
        x.turn(0);
        due(x.keep(0), 3);
        due(x.keep(1), 0);
        x.pour(0, 1);
        due(x.restore(1), 3);
        due(x.restore(0), 3);
        due(marks(x, 0), "[2, 1, 0]");
        due(marks(x, 1), "[]");
        dueNoRow(x, row -> x.keep(row));
        dueNoRow(x, row -> x.restore(row));
    }

    private static void promise22Copies() {
        Counted x = withFirsts(2, 1);
        x.keep(0);
        x.pour(0, 1);
        due(x.restore(0), 2);
        due(marks(x, 0), "[0, 1]");
        due(marks(x, 1), "[0, 1]");
        due(x.pour(1, 0), 4);
        due(marks(x, 0), "[0, 1, 0, 1]");
        // An empty row that was kept can be restored; no other call changes the copies.
        due(x.keep(3), 0);
        due(x.restore(3), 0);
        x.sortAll();
        x.turn(0);
        x.errors();
        due(x.restore(0), 3);
        due(marks(x, 0), "[0, 1]");
        Counted full = typed("fall 400 800 1;fall 400 400 1;");
        full.lay(0);
        due(full.keep(0), 800);
        full.sort(0);
        due(full.restore(0), 800);
        due(full.cardAt(0, 0, 2), 0);
    }

    private static void promise23And24() {
        Counted x = withBoth(new int[][] {{7, -8}, {Integer.MIN_VALUE, Integer.MAX_VALUE}});
        due(x.count(0), 2);
        due(x.count(3), 0);
        due(x.cardAt(0, 0, 0), 7);
        due(x.cardAt(0, 0, 1), -8);
        due(x.cardAt(0, 0, 2), 0);
        due(x.cardAt(0, 1, 0), Integer.MIN_VALUE);
        due(x.cardAt(0, 1, 1), Integer.MAX_VALUE);
        due(x.cardAt(0, 1, 2), 1);
        dueNoRow(x, row -> x.count(row));
        dueNoRow(x, row -> x.cardAt(row, 0, 0));
        dueNoRow(x, row -> x.cardAt(row, 0, 3));
        for (int place : new int[] {-1, 2, 799, 800, Integer.MIN_VALUE, Integer.MAX_VALUE}) {
            dueThrow(x, BOUNDS, () -> x.cardAt(0, place, 0));
            dueThrow(x, BOUNDS, () -> x.cardAt(0, place, -1));
        }
        dueThrow(x, BOUNDS, () -> x.cardAt(1, 0, 0));
        for (int what : new int[] {-1, 3, Integer.MIN_VALUE, Integer.MAX_VALUE}) {
            dueThrow(x, ARGUMENT, () -> x.cardAt(0, 0, what));
        }
    }

    private static void promise25() {
        Counted x = withFirsts(9, 8, 7);
        putAll(x, 1, 5);
        x.turn(0);
        due(x.placeOf(0, 0), 2);
        due(x.placeOf(0, 2), 0);
        due(x.placeOf(0, 3), -1);
        due(x.placeOf(1, 3), 0);
        due(x.placeOf(1, 0), -1);
        due(x.placeOf(2, 0), -1);
        due(x.placeOf(0, -1), -1);
        due(x.placeOf(0, Integer.MIN_VALUE), -1);
        due(x.placeOf(0, Integer.MAX_VALUE), -1);
        x.keep(0);
        x.pour(0, 1);
        x.restore(0);
        x.pour(0, 1);
        due(marks(x, 1), "[3, 2, 1, 0, 2, 1, 0]");
        due(x.placeOf(1, 0), 3);
        due(x.placeOf(1, 2), 1);
        x.empty(1);
        due(x.placeOf(1, 0), -1);
        dueNoRow(x, row -> x.placeOf(row, 0));
    }

    private static void promise26() {
        Counted x = withFirsts(1, 3, 3, 3, 7);
        due(x.placeFor(0, 0), 0);
        due(x.placeFor(0, 1), 1);
        due(x.placeFor(0, 2), 1);
        due(x.placeFor(0, 3), 4);
        due(x.placeFor(0, 6), 4);
        due(x.placeFor(0, 7), 5);
        due(x.placeFor(0, Integer.MAX_VALUE), 5);
        due(x.placeFor(0, Integer.MIN_VALUE), 0);
        due(x.placeFor(1, 5), 0);
        x.move(0, 4, 0);
        dueThrow(x, STATE, () -> x.placeFor(0, 3));
        dueNoRow(x, row -> x.placeFor(row, 3));
        Counted y = withFirsts(Integer.MIN_VALUE, Integer.MAX_VALUE);
        due(y.placeFor(0, Integer.MIN_VALUE), 1);
        due(y.placeFor(0, Integer.MAX_VALUE), 2);
        due(y.placeFor(0, 0), 1);
    }

    private static void dueStretches(boolean isSorted, int runs, int longest, float share, int... firsts) {
        Counted x = withFirsts(firsts);
        due(x.isSorted(0), isSorted);
        due(x.runs(0), runs);
        due(x.longestRun(0), longest);
        due(x.risingShare(0), share);
    }

    private static void promise27To29And36() {
        dueStretches(true, 0, 0, 0.0f);
        dueStretches(true, 1, 1, 1.0f, 5);
        dueStretches(true, 1, 3, 1.0f, 5, 5, 5);
        dueStretches(true, 1, 3, 1.0f, Integer.MIN_VALUE, 0, Integer.MAX_VALUE);
        dueStretches(false, 3, 1, 1.0f / 3.0f, Integer.MAX_VALUE, 0, Integer.MIN_VALUE);
        dueStretches(false, 2, 4, 4.0f / 6.0f, 1, 2, 2, 9, 3, 4);
        dueStretches(false, 2, 4, 4.0f / 6.0f, 8, 9, 3, 4, 4, 5);
        dueStretches(false, 3, 3, 3.0f / 7.0f, 1, 0, 3, 5, 4, 4, 4);
        dueStretches(false, 2, 2, 2.0f / 3.0f, 1, 2, 1);
        Counted x = withFirsts(2, 1);
        dueNoRow(x, row -> x.isSorted(row));
        dueNoRow(x, row -> x.runs(row));
        dueNoRow(x, row -> x.longestRun(row));
        dueNoRow(x, row -> x.risingShare(row));
    }

    private static void promise30() {
        due(withFirsts().wrongPairs(0), 0);
        due(withFirsts(1).wrongPairs(0), 0);
        due(withFirsts(1, 1, 1).wrongPairs(0), 0);
        due(withFirsts(2, 1).wrongPairs(0), 1);
        due(withFirsts(3, 1, 2, 2, 0).wrongPairs(0), 7);
        due(withFirsts(Integer.MAX_VALUE, Integer.MIN_VALUE, 0).wrongPairs(0), 2);
        Counted x = typed("fall 400 9999 1;fall 400 9599 1;");
        x.lay(2);
        due(x.wrongPairs(2), 800 * 799 / 2);
        String before = state(x);
        x.wrongPairs(2);
        due(state(x), before);
        dueNoRow(x, row -> x.wrongPairs(row));
    }

    private static void promise31() {
        due(withFirsts().unlike(0), 0);
        due(withFirsts(4).unlike(0), 1);
        due(withFirsts(4, 4).unlike(0), 1);
        due(withFirsts(4, 3, 4, 0, 3, -4).unlike(0), 4);
        due(withFirsts(Integer.MAX_VALUE, Integer.MIN_VALUE, Integer.MAX_VALUE).unlike(0), 2);
        Counted x = typed("rise 400 1 1;rise 400 201 1;");
        x.lay(3);
        due(x.unlike(3), 600);
        String before = state(x);
        x.unlike(3);
        due(state(x), before);
        dueNoRow(x, row -> x.unlike(row));
    }

    private static void promise32() {
        Counted x = withFirsts(9, 9, 9);
        due(x.sum(0), 14L);
        due(x.sum(1), 0L);
        x.turn(0);
        due(x.sum(0), 10L);
        dueNoRow(x, row -> x.sum(row));
        // 800 places with the latest marks: more than an int.
        Counted y = exhausted(10);
        y.empty(1);
        y.empty(0);
        lay(y, 1, "same 10 1;");
        y.keep(1);
        for (int n = 0; n < 80; n++) {
            y.restore(1);
            y.pour(1, 0);
        }
        long due = 0;
        for (int p = 0; p < 800; p++) {
            due += (p + 1L) * (19990L + p % 10 + 1L);
        }
        due(y.count(0), 800);
        due(y.sum(0), due);
        due(due > Integer.MAX_VALUE, true);
    }

    private static int compared(int[] one, int[] two) {
        Counted x = new Counted();
        putAll(x, 1, one);
        putAll(x, 2, two);
        due(x.compare(1, 1), 0);
        int answer = x.compare(1, 2);
        due(x.compare(2, 1), -answer);
        return answer;
    }

    private static void promise33() {
        due(compared(new int[] {}, new int[] {}), 0);
        due(compared(new int[] {}, new int[] {-5}), -1);
        due(compared(new int[] {1, 2, 3}, new int[] {1, 2, 3}), 0);
        due(compared(new int[] {1, 2}, new int[] {1, 2, -3}), -1);
        due(compared(new int[] {1, 3}, new int[] {1, 2, 9}), 1);
        due(compared(new int[] {0, 9, 9}, new int[] {1}), -1);
        due(compared(new int[] {Integer.MIN_VALUE}, new int[] {Integer.MAX_VALUE}), -1);
        due(compared(new int[] {1, 5, 0}, new int[] {1, 4, 9}), 1);
        Counted x = withBoth(new int[][] {{1, 1}});
        x.put(1, 0, 1, 2);
        due(x.compare(0, 1), 0);
        dueNoRow(x, row -> x.compare(row, 0));
        dueNoRow(x, row -> x.compare(0, row));
        dueNoRow(x, row -> x.compare(row, row));
    }

    private static void promise34() {
        due(withFirsts(4).middle(0), 4);
        due(withFirsts(9, 4).middle(0), 4);
        due(withFirsts(9, 4, 7).middle(0), 7);
        due(withFirsts(9, 4, 7, 8).middle(0), 7);
        due(withFirsts(1, 1, 0, 1, 5).middle(0), 1);
        due(withFirsts(Integer.MAX_VALUE, Integer.MIN_VALUE, -1).middle(0), -1);
        Counted x = withFirsts(5, 4, 3);
        String before = state(x);
        due(x.middle(0), 4);
        due(state(x), before);
        dueThrow(x, NoSuchElementException.class, () -> x.middle(1));
        dueNoRow(x, row -> x.middle(row));
    }

    private static void promise35() {
        due(withFirsts().mean(0), 0.0);
        due(withFirsts(5).mean(0), 5.0);
        due(withFirsts(5, 6).mean(0), 5.5);
        due(withFirsts(-1, -1, 0).mean(0), -2.0 / 3.0);
        due(withFirsts(Integer.MAX_VALUE, Integer.MAX_VALUE, Integer.MAX_VALUE).mean(0), 2147483647.0);
        due(withFirsts(Integer.MIN_VALUE, Integer.MIN_VALUE).mean(0), -2147483648.0);
        due(withFirsts(1, 1, 0).mean(0), 2.0 / 3.0);
        due(withFirsts(0).mean(0), 0.0);
        Counted x = withFirsts(2, 1);
        dueNoRow(x, row -> x.mean(row));
    }

    private static void promise37() {
        Counted x = new Counted();
        due(x.errors(), 0);
        type(x, "draw 400 -20 40 mod 7;draw 400 0 5 mod 3;");
        for (int row = 0; row < 4; row++) {
            x.lay(row);
            x.keep(row);
        }
        String before = state(x);
        due(x.errors(), 0);
        due(state(x), before);
        for (int row = 0; row < 4; row++) {
            due(x.restore(row), 0);
        }
        Counted y = withBoth(new int[][] {{Integer.MAX_VALUE, Integer.MIN_VALUE}, {Integer.MIN_VALUE, Integer.MAX_VALUE}});
        y.keep(0);
        y.pour(0, 1);
        y.restore(0);
        y.pour(0, 1);
        due(y.errors(), 0);
    }

    /** Answers that are found by sorting don't depend on what was sorted before. */
    private static void promise30And31And34InTurn() {
        Counted x = withFirsts(9, 1, 5, 5);
        putAll(x, 1, 7, 3);
        putAll(x, 2, 4, 4, 4);
        for (int n = 0; n < 2; n++) {
            due(x.wrongPairs(0), 3);
            due(x.wrongPairs(1), 1);
            due(x.unlike(0), 3);
            due(x.unlike(2), 1);
            due(x.middle(1), 3);
            due(x.middle(0), 5);
            due(x.sortPart(3, 0, 0), 0);
            due(x.errors(), 0);
            due(x.wrongPairs(2), 0);
        }
        due(x.sortAll(), 9);
        due(firsts(x, 0) + firsts(x, 1) + firsts(x, 2), "[1, 3, 4, 4][4, 5][5, 7, 9]");
        due(x.wrongPairs(0), 0);
        due(x.sortDown(0, 0, 4), 4);
        due(x.middle(0), 3);
    }

    private static void run(String name, Runnable test) {
        promise = name;
        try {
            test.run();
        } catch (RuntimeException e) {
            wrong++;
            System.out.println(name + ": threw " + e);
            e.printStackTrace(System.out);
        }
    }

    public static void main(String[] args) {
        run("terms: draws", PromiseTest::termDraws);
        run("terms: runs of the text", PromiseTest::termRuns);
        run("1 A new object", PromiseTest::promise01);
        run("2 type", PromiseTest::promise02);
        run("3 clearText", PromiseTest::promise03);
        run("4 fault", PromiseTest::promise04Right);
        run("4 fault", PromiseTest::promise04Wrong);
        run("4 fault", PromiseTest::promise04Place);
        run("5 lay", PromiseTest::promise05);
        run("5 lay", PromiseTest::promise05Full);
        run("6 put", PromiseTest::promise06);
        run("7 setSeed", PromiseTest::promise07);
        run("8 sort", PromiseTest::promise08);
        run("8 sort", PromiseTest::promise08Twice);
        run("9 sortAll", PromiseTest::promise09);
        run("10 sortPart", PromiseTest::promise10);
        run("11 sortDown", PromiseTest::promise11);
        run("12 sortBySecond", PromiseTest::promise12);
        run("13 sortByBoth", PromiseTest::promise13);
        run("14 pour", PromiseTest::promise14);
        run("15 deal", PromiseTest::promise15);
        run("15 deal", PromiseTest::promise15Edge);
        run("16 turn", PromiseTest::promise16);
        run("17 move", PromiseTest::promise17);
        run("18 thin", PromiseTest::promise18);
        run("19 single", PromiseTest::promise19);
        run("20 empty", PromiseTest::promise20);
        run("21 keep, 22 restore", PromiseTest::promise21And22);
        run("22 restore", PromiseTest::promise22Copies);
        run("23 count, 24 cardAt", PromiseTest::promise23And24);
        run("25 placeOf", PromiseTest::promise25);
        run("26 placeFor", PromiseTest::promise26);
        run("27 isSorted, 28 runs, 29 longestRun, 36 risingShare", PromiseTest::promise27To29And36);
        run("30 wrongPairs", PromiseTest::promise30);
        run("31 unlike", PromiseTest::promise31);
        run("32 sum", PromiseTest::promise32);
        run("33 compare", PromiseTest::promise33);
        run("34 middle", PromiseTest::promise34);
        run("30 wrongPairs, 31 unlike, 34 middle", PromiseTest::promise30And31And34InTurn);
        run("35 mean", PromiseTest::promise35);
        run("37 errors", PromiseTest::promise37);
        System.out.println(checks + " checks, " + wrong + " wrong");
        if (wrong != 0) {
            System.exit(1);
        }
    }
}
