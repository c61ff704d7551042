import java.lang.reflect.InvocationTargetException;
import java.lang.reflect.Method;
import java.util.ArrayList;
import java.util.List;
import java.util.regex.Matcher;
import java.util.regex.Pattern;

/**
 * Runs of calls, each on a new cabinet, written as in "sortPart 0 1 5 = 3, count 0 = 6": a call, its arguments and
 * the answer that is due. A call without an answer only has to answer. For one that has to throw, the answer is
 * "throws.IllegalStateException", or in short STATE, and likewise ARGUMENT, BOUNDS and NOTHING. MIN and MAX are the
 * least and the greatest int, for type the least and the greatest long. Besides the calls of the face there are:
 *
 * <pre>
 * text "same 3 4;"          types a text, eight bytes a call
 * lays 0 "same 3 4;" = 3    clears the text, types this one, and lays it
 * firsts 0 = 4 4 4          looks at all cards of a row; so do seconds and marks
 * </pre>
 *
 * Whenever a call throws, two cabinets with the same calls behind them, but one of them without that call, are
 * compared in all that later calls can tell: a call that throws an exception changes nothing.
 */
final class Script {
    private static final int ROWS = 4;
    private static final Pattern ITEM =
            Pattern.compile("(\\w+)((?: [-\\w]+)*)(?: \"([^\"]*)\")?(?: =((?: [-.\\w]+)*))?(?:, |,?\\s*$)");

    private static int scripts = 0;
    private static int answers = 0;
    private static int refusals = 0;
    private static int wrong = 0;

    private final String name;
    private final Counted counted = new Counted();
    private boolean isWrong = false;

    private Script(String name) {
        this.name = name;
    }

    /** One run: lines of calls; what stands behind the first wrong answer is not looked at. */
    static void run(String name, String... parts) {
        scripts++;
        Script script = new Script(name);
        for (String part : parts) {
            for (String line : part.split("\n")) {
                script.line(line.strip());
            }
        }
    }

    /** One run: a text is typed, and has this fault; it can be laid only if it is right. */
    static void fault(String name, String text, int due) {
        scripts++;
        Script script = new Script(name + ": [" + text + "]");
        script.text(text);
        script.due("fault", method("fault"), new Object[0], "" + due);
        if (due != Cardcabinet.NONE) {
            script.due("lay 3", method("lay"), new Object[] {3}, "STATE");
        }
        script.due("fault again", method("fault"), new Object[0], "" + due);
        script.due("type 0", method("type"), new Object[] {0L}, "" + text.length());
    }

    /** To be called last: tells what was looked at, and fails if anything was wrong. */
    static void end() {
        System.out.println(scripts + " runs, " + answers + " answers, " + refusals + " refused calls, "
                + wrong + " wrong");
        if (wrong != 0) {
            System.exit(1);
        }
    }

    /** Lines with a call for each of these values, which stand where the call has "#". */
    static String each(String call, Object... values) {
        StringBuilder lines = new StringBuilder();
        for (Object value : values) {
            lines.append(call.replace("#", value.toString())).append('\n');
        }
        return lines.toString();
    }

    /** Lines that make cards, and leave the rows and the text empty. */
    static String made(int cards) {
        StringBuilder lines = new StringBuilder("clearText, text \"same 400 1;same 400 2;\"\n");
        lines.append("lay 0 = 800, empty 0 = 800\n".repeat(cards / 800));
        int rest = cards % 800;
        if (rest > 0) {
            String more = rest > 400 ? "same 400 3;same " + (rest - 400) + " 3;" : "same " + rest + " 3;";
            lines.append("lays 0 \"" + more + "\" = " + rest + ", empty 0 = " + rest + "\n");
        }
        return lines + "clearText\n";
    }

    /** Lines that make row 0 twice as long, by way of row 1, which is empty, until it has so many cards. */
    static String doubled(int from, int to) {
        StringBuilder lines = new StringBuilder();
        for (int n = from; n < to; n *= 2) {
            lines.append("keep 0 = " + n + ", pour 0 1 = " + n + ", restore 0 = " + n + ", pour 1 0 = " + 2 * n + "\n");
        }
        return lines.toString();
    }

    private void line(String line) {
        Matcher m = ITEM.matcher(line);
        int at = 0;
        while (at < line.length() && !isWrong) {
            if (!m.find(at) || m.start() != at) {
                throw new AssertionError(name + ": can't read: " + line.substring(at));
            }
            item(m.group().strip(), m.group(1), words(m.group(2)), m.group(3), m.group(4));
            at = m.end();
        }
    }

    private void item(String told, String call, String[] args, String text, String due) {
        switch (call) {
            case "text":
                text(text);
                break;
            case "lays":
                due(told, method("clearText"), new Object[0], null);
                text(text);
                due(told, method("lay"), arguments(method("lay"), args), due);
                break;
            case "firsts":
                dueCards(told, Integer.parseInt(args[0]), 0, words(due));
                break;
            case "seconds":
                dueCards(told, Integer.parseInt(args[0]), 1, words(due));
                break;
            case "marks":
                dueCards(told, Integer.parseInt(args[0]), 2, words(due));
                break;
            default:
                due(told, method(call), arguments(method(call), args), due);
        }
    }

    private void text(String text) {
        for (int p = 0; p < text.length(); p += 8) {
            long bytes = 0;
            for (int q = p; q < Math.min(p + 8, text.length()); q++) {
                bytes = bytes << 8 | text.charAt(q);
            }
            due("type " + bytes, method("type"), new Object[] {bytes}, null);
        }
    }

    private void dueCards(String told, int row, int what, String[] due) {
        due(told, method("count"), new Object[] {row}, "" + due.length);
        for (int p = 0; p < due.length && !isWrong; p++) {
            due(told + ", place " + p, method("cardAt"), new Object[] {row, p, what}, due[p]);
        }
    }

    private void due(String told, Method method, Object[] args, String due) {
        if (isWrong) {
            return;
        }
        answers++;
        String got = answer(counted, method, args);
        String want = due == null ? null : asAnswered(method.getReturnType(), words(due)[0]);
        if (want == null ? got.startsWith("throws") : !got.equals(want)) {
            tell(told + " answered " + got);
        } else if (got.startsWith("throws")) {
            refusals++;
            dueUnchanged(told);
        }
    }

    private void dueUnchanged(String told) {
        List<String> due = allThatIsSeen(counted.again(counted.callsMade() - 1));
        List<String> got = allThatIsSeen(counted.again(counted.callsMade()));
        for (int n = 0; n < due.size() && !isWrong; n++) {
            if (!got.get(n).equals(due.get(n))) {
                tell(told + " throws, but changes something: then " + got.get(n) + ", without it " + due.get(n));
            }
        }
    }

    private void tell(String fault) {
        isWrong = true;
        wrong++;
        System.out.println(name + ": " + fault);
    }

    /** Looks at rows, copies of rows, text, seed and the next mark; the cabinet is of no use afterwards. */
    private static List<String> allThatIsSeen(Counted x) {
        List<String> seen = new ArrayList<>();
        seen.add("a text of " + x.type(0) + " bytes, with the fault " + x.fault());
        seen.add("the seed " + x.setSeed(5));
        for (int row = 0; row < ROWS; row++) {
            seen.add("row " + row + ": " + cards(x, row));
        }
        for (int r = 0; r < ROWS; r++) {
            int row = r;
            seen.add("row " + row + " restored: " + x.outcome(c -> c.restore(row)) + ", " + cards(x, row));
        }
        x.empty(1);
        seen.add("the text laid: " + x.outcome(c -> c.lay(1)) + ", " + cards(x, 1));
        x.empty(2);
        seen.add("the next mark " + x.outcome(c -> c.put(2, 0, 0, 0)));
        seen.add("a text of " + x.clearText() + " bytes");
        return seen;
    }

    private static String cards(Counted x, int row) {
        StringBuilder told = new StringBuilder(x.count(row) + " cards, " + x.sum(row));
        told.append(' ').append(x.mean(row)).append(' ').append(x.wrongPairs(row));
        for (int p = 0; p < 2; p++) {
            for (int w = 0; w < 2; w++) {
                int place = p;
                int what = w;
                told.append(' ').append(x.outcome(c -> c.cardAt(row, place, what)));
            }
        }
        return told.toString();
    }

    private static String answer(Counted x, Method method, Object[] args) {
        return String.valueOf(x.outcome(c -> invoke(c, method, args)));
    }

    /** Throws what the call throws. */
    private static Object invoke(Cardcabinet cabinet, Method method, Object[] args) {
        try {
            return method.invoke(cabinet, args);
        } catch (InvocationTargetException e) {
            if (e.getCause() instanceof RuntimeException thrown) {
                throw thrown;
            }
            throw new AssertionError(e.getCause());
        } catch (IllegalAccessException e) {
            throw new AssertionError(e);
        }
    }

    private static Method method(String call) {
        for (Method method : Cardcabinet.class.getMethods()) {
            if (method.getName().equals(call) && method.getDeclaringClass() == Cardcabinet.class) {
                return method;
            }
        }
        throw new AssertionError("no such call: " + call);
    }

    private static Object[] arguments(Method method, String[] words) {
        Class<?>[] types = method.getParameterTypes();
        if (types.length != words.length) {
            throw new AssertionError(method.getName() + " takes " + types.length + " arguments");
        }
        Object[] args = new Object[words.length];
        for (int n = 0; n < args.length; n++) {
            if (types[n] == long.class) {
                args[n] = longOf(words[n]);
            } else {
                args[n] = intOf(words[n]);
            }
        }
        return args;
    }

    private static long longOf(String word) {
        if (word.startsWith("0x")) {
            return Long.parseUnsignedLong(word.substring(2), 16);
        }
        return word.equals("MIN") ? Long.MIN_VALUE : word.equals("MAX") ? Long.MAX_VALUE : Long.parseLong(word);
    }

    private static int intOf(String word) {
        return word.equals("MIN") ? Integer.MIN_VALUE : word.equals("MAX") ? Integer.MAX_VALUE : Integer.parseInt(word);
    }

    private static String asAnswered(Class<?> type, String word) {
        switch (word) {
            case "BOUNDS":
                return "throws.IndexOutOfBoundsException";
            case "ARGUMENT":
                return "throws.IllegalArgumentException";
            case "STATE":
                return "throws.IllegalStateException";
            case "NOTHING":
                return "throws.NoSuchElementException";
            default:
                return word.startsWith("throws.") ? word : numberAsAnswered(type, word);
        }
    }

    private static String numberAsAnswered(Class<?> type, String word) {
        if (type == double.class) {
            return String.valueOf(Double.parseDouble(word));
        }
        if (type == float.class) {
            return String.valueOf(Float.parseFloat(word));
        }
        return type == int.class ? String.valueOf(intOf(word)) : word;
    }

    private static String[] words(String text) {
        return text == null || text.isBlank() ? new String[0] : text.strip().split(" +");
    }
}
