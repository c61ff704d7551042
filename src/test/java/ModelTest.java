import java.util.ArrayList;
import java.util.Collections;
import java.util.Comparator;
import java.util.HashSet;
import java.util.List;
import java.util.NoSuchElementException;
import java.util.Random;
import java.util.Set;
import java.util.regex.Matcher;
import java.util.regex.Pattern;

/** Long runs of calls, drawn from fixed seeds, against a second cabinet that is written the slow, obvious way. */
public final class ModelTest {
    private static final int RUNS = 3000;
    // So many of a run's calls are left for its end, to look at the cards.
    private static final int LAST_LOOKS = 80;

    private record Card(int first, int second, int mark) {
    }

    private record Token(String text, int place) {
    }

    private record Piece(String kind, int count, int start, int step, int length, int divisor) {
    }

    /** The second cabinet. */
    private static final class Model {
        private static final Pattern TOKEN = Pattern.compile("[a-z]+|[0-9]+|[^ ]", Pattern.DOTALL);

        String text = "";
        int seed = 1;
        int made = 0;
        final List<List<Card>> rows = new ArrayList<>();
        final List<List<Card>> kept = new ArrayList<>();

        Model() {
            for (int r = 0; r < 4; r++) {
                rows.add(new ArrayList<>());
                kept.add(null);
            }
        }

        List<Card> row(long r) {
            if (r < 0 || r > 3) {
                throw new IndexOutOfBoundsException();
            }
            return rows.get((int) r);
        }

        void bounds(boolean isRight) {
            if (!isRight) {
                throw new IndexOutOfBoundsException();
            }
        }

        void argument(boolean isRight) {
            if (!isRight) {
                throw new IllegalArgumentException();
            }
        }

        void state(boolean isRight) {
            if (!isRight) {
                throw new IllegalStateException();
            }
        }

        int type(long bytes) {
            StringBuilder more = new StringBuilder();
            for (byte b : java.nio.ByteBuffer.allocate(8).putLong(bytes).array()) {
                if (b != 0) {
                    more.append((char) (b & 255));
                }
            }
            state(text.length() + more.length() <= 400);
            text += more;
            return text.length();
        }

        int clearText() {
            int before = text.length();
            text = "";
            return before;
        }

        /** What may stand at a place of a run, step by step; each step eats tokens or tells the place of a fault. */
        int read(List<Piece> pieces) {
            List<Token> tokens = new ArrayList<>();
            Matcher m = TOKEN.matcher(text);
            while (m.find()) {
                tokens.add(new Token(m.group(), m.start()));
            }
            Token end = new Token("", text.length());
            int at = 0;
            while (at < tokens.size()) {
                int[] n = {0, 0, 0, 0, 0};
                String kind = tokens.get(at).text();
                List<String> shape = new ArrayList<>(List.of("kind", "count", "start"));
                if (!kind.equals("same")) {
                    shape.add("step");
                }
                if (kind.equals("teeth")) {
                    shape.add("length");
                }
                shape.add("tail");
                for (int s = 0; s < shape.size(); s++) {
                    Token t = at < tokens.size() ? tokens.get(at) : end;
                    at++;
                    switch (shape.get(s)) {
                        case "kind":
                            if (!Set.of("same", "rise", "fall", "wave", "draw", "teeth").contains(t.text())) {
                                return t.place();
                            }
                            break;
                        case "start":
                            boolean below = t.text().equals("-");
                            if (below) {
                                t = at < tokens.size() ? tokens.get(at) : end;
                                at++;
                            }
                            if (!inRange(t, 0, 9999)) {
                                return t.place();
                            }
                            n[1] = Integer.parseInt(t.text()) * (below ? -1 : 1);
                            break;
                        case "tail":
                            if (t.text().equals("mod") && s == shape.indexOf("tail")) {
                                shape.add("divisor");
                                shape.add("tail");
                            } else if (!t.text().equals(";")) {
                                return t.place();
                            }
                            break;
                        default:
                            int index = List.of("count", "-", "step", "length", "divisor").indexOf(shape.get(s));
                            int[] least = {1, 0, 0, 1, 1};
                            int[] most = {400, 0, 999, 99, 99};
                            if (!inRange(t, least[index], most[index])) {
                                return t.place();
                            }
                            n[index] = Integer.parseInt(t.text());
                    }
                }
                pieces.add(new Piece(kind, n[0], n[1], n[2], n[3], n[4]));
            }
            return -1;
        }

        static boolean inRange(Token t, int least, int most) {
            if (!t.text().matches("[0-9]{1,4}")) {
                return false;
            }
            int value = Integer.parseInt(t.text());
            return value >= least && value <= most;
        }

        int draw(int n) {
            seed = seed * 1103515245 + 12345;
            return (seed >>> 16) % n;
        }

        int first(Piece p, int k) {
            return switch (p.kind()) {
                case "rise" -> p.start() + k * p.step();
                case "fall" -> p.start() - k * p.step();
                case "wave" -> p.start() + (k & 1) * p.step();
                case "teeth" -> p.start() + p.step() * (k % p.length());
                case "draw" -> p.start() + draw(p.step() + 1);
                default -> p.start();
            };
        }

        int lay(int r) {
            List<Card> row = row(r);
            List<Piece> pieces = new ArrayList<>();
            state(read(pieces) == -1);
            int all = pieces.stream().mapToInt(Piece::count).sum();
            state(row.size() + all <= 800 && made + all <= 20000);
            for (Piece p : pieces) {
                for (int k = 0; k < p.count(); k++) {
                    row.add(new Card(first(p, k), p.divisor() == 0 ? 0 : k % p.divisor(), made++));
                }
            }
            return all;
        }

        int put(int r, int place, int first, int second) {
            List<Card> row = row(r);
            bounds(place >= 0 && place <= row.size());
            state(row.size() < 800 && made < 20000);
            row.add(place, new Card(first, second, made));
            return made++;
        }

        static int differences(List<Card> one, List<Card> two) {
            int n = 0;
            for (int p = 0; p < Math.max(one.size(), two.size()); p++) {
                boolean inBoth = p < one.size() && p < two.size();
                if (!inBoth || one.get(p).mark() != two.get(p).mark()) {
                    n++;
                }
            }
            return n;
        }

        int arrange(int r, int from, int to, Comparator<Card> order) {
            List<Card> before = new ArrayList<>(row(r));
            row(r).subList(from, to).sort(order);
            return differences(before, row(r));
        }

        static final Comparator<Card> BY_FIRST = Comparator.comparingInt(Card::first);
        static final Comparator<Card> BY_SECOND = Comparator.comparingInt(Card::second);

        int sortAll() {
            List<Card> all = new ArrayList<>();
            rows.forEach(all::addAll);
            List<Card> sorted = new ArrayList<>(all);
            sorted.sort(BY_FIRST);
            int at = 0;
            for (List<Card> row : rows) {
                for (int p = 0; p < row.size(); p++) {
                    row.set(p, sorted.get(at++));
                }
            }
            return differences(all, sorted);
        }

        int sortPart(int r, int from, int to, boolean down) {
            bounds(from >= 0 && to <= row(r).size());
            argument(from <= to && !(down && to - from > 31));
            return arrange(r, from, to, down ? (a, b) -> Integer.compare(b.first(), a.first()) : BY_FIRST);
        }

        int pour(int r, int other) {
            List<Card> source = row(r);
            List<Card> target = row(other);
            argument(r != other);
            state(source.size() + target.size() <= 800);
            target.addAll(source);
            source.clear();
            return target.size();
        }

        int deal(int r, int other) {
            List<Card> source = row(r);
            List<Card> target = row(other);
            argument(r != other);
            List<Card> go = new ArrayList<>();
            List<Card> stay = new ArrayList<>();
            for (int p = 0; p < source.size(); p++) {
                (p % 2 != 0 ? go : stay).add(source.get(p));
            }
            state(target.size() + go.size() <= 800);
            target.addAll(go);
            rows.set(r, stay);
            return go.size();
        }

        int move(int r, int from, int to) {
            List<Card> row = row(r);
            bounds(from >= 0 && from < row.size() && to >= 0 && to < row.size());
            Card card = row.remove(from);
            row.add(to, card);
            return card.mark();
        }

        int thin(int r, int second) {
            int before = row(r).size();
            row(r).removeIf(c -> c.second() == second);
            return before - row(r).size();
        }

        int single(int r) {
            List<Card> before = new ArrayList<>(row(r));
            row(r).clear();
            for (int p = 0; p < before.size(); p++) {
                if (p == 0 || before.get(p).first() != before.get(p - 1).first()) {
                    row(r).add(before.get(p));
                }
            }
            return before.size() - row(r).size();
        }

        int empty(int r) {
            int before = row(r).size();
            row(r).clear();
            return before;
        }

        int restore(int r) {
            List<Card> before = row(r);
            state(kept.get(r) != null);
            rows.set(r, new ArrayList<>(kept.get(r)));
            return differences(before, row(r));
        }

        int cardAt(int r, int place, int what) {
            List<Card> row = row(r);
            bounds(place >= 0 && place < row.size());
            argument(what >= 0 && what <= 2);
            Card card = row.get(place);
            return what == 0 ? card.first() : what == 1 ? card.second() : card.mark();
        }

        int placeOf(int r, int mark) {
            return row(r).stream().map(Card::mark).toList().indexOf(mark);
        }

        List<Integer> runs(int r) {
            List<Integer> lengths = new ArrayList<>();
            int last = 0;
            for (Card card : row(r)) {
                if (lengths.isEmpty() || card.first() < last) {
                    lengths.add(0);
                }
                lengths.set(lengths.size() - 1, lengths.get(lengths.size() - 1) + 1);
                last = card.first();
            }
            return lengths;
        }

        int longest(int r) {
            return runs(r).isEmpty() ? 0 : Collections.max(runs(r));
        }

        int placeFor(int r, int first) {
            List<Card> row = row(r);
            state(runs(r).size() < 2);
            return (int) row.stream().filter(c -> c.first() <= first).count();
        }

        int wrongPairs(int r) {
            List<Card> row = row(r);
            int pairs = 0;
            for (int p = 0; p < row.size(); p++) {
                for (int q = p + 1; q < row.size(); q++) {
                    pairs += row.get(p).first() > row.get(q).first() ? 1 : 0;
                }
            }
            return pairs;
        }

        int unlike(int r) {
            Set<Integer> all = new HashSet<>();
            row(r).forEach(c -> all.add(c.first()));
            return all.size();
        }

        long sum(int r) {
            long total = 0;
            for (int p = 0; p < row(r).size(); p++) {
                total += (p + 1L) * (row(r).get(p).mark() + 1L);
            }
            return total;
        }

        int compare(int r, int other) {
            List<Integer> one = row(r).stream().map(Card::first).toList();
            List<Integer> two = row(other).stream().map(Card::first).toList();
            for (int p = 0; ; p++) {
                if (p == one.size() || p == two.size()) {
                    return Integer.compare(one.size(), two.size());
                }
                if (!one.get(p).equals(two.get(p))) {
                    return one.get(p) < two.get(p) ? -1 : 1;
                }
            }
        }

        int middle(int r) {
            List<Card> sorted = new ArrayList<>(row(r));
            if (sorted.isEmpty()) {
                throw new NoSuchElementException();
            }
            sorted.sort(BY_FIRST);
            return sorted.get((sorted.size() - 1) / 2).first();
        }

        double mean(int r) {
            long total = row(r).stream().mapToLong(Card::first).sum();
            return row(r).isEmpty() ? 0.0 : (double) total / (double) row(r).size();
        }

        float risingShare(int r) {
            return row(r).isEmpty() ? 0.0f : (float) longest(r) / (float) row(r).size();
        }
    }

    private interface Call {
        Object answer();
    }

    private static Object outcome(Call call) {
        try {
            return call.answer();
        } catch (RuntimeException e) {
            return "throws." + e.getClass().getSimpleName();
        }
    }

    /** One run: the calls are drawn here, and made on both cabinets. */
    private static final class Run {
        final Random random;
        final Counted x = new Counted();
        final Model y = new Model();
        // Small runs meet the edges of small rows, large ones those of full rows, late ones that of the 20000 cards.
        final boolean isLarge;
        final boolean isLate;
        final StringBuilder log = new StringBuilder();
        String pending = "";
        Object got;
        Object due;

        Run(int seed) {
            random = new Random(seed);
            isLarge = seed % 3 == 0;
            isLate = seed % 30 == 3;
        }

        int below(int n) {
            return random.nextInt(n);
        }

        int row() {
            return below(40) == 0 ? List.of(-1, 4, 7, Integer.MIN_VALUE, Integer.MAX_VALUE).get(below(5)) : below(4);
        }

        int place(int row) {
            if (below(25) == 0) {
                return List.of(-1, 800, Integer.MIN_VALUE, Integer.MAX_VALUE).get(below(4));
            }
            int n = row >= 0 && row < 4 ? y.rows.get(row).size() : 5;
            return below(6) == 0 ? n + below(3) - 1 : below(n + 1);
        }

        int number() {
            switch (below(12)) {
                case 0:
                    return random.nextInt();
                case 1:
                    return below(2) == 0 ? Integer.MIN_VALUE : Integer.MAX_VALUE;
                default:
                    return below(9) - 4;
            }
        }

        String piece() {
            String kind = List.of("same", "rise", "fall", "wave", "draw", "teeth").get(below(6));
            int count = below(9) == 0 ? below(403) : isLarge ? 50 + below(351) : 1 + below(6);
            StringBuilder text = new StringBuilder(kind).append(' ').append(count).append(gap());
            text.append(below(3) == 0 ? "-" + (below(5) == 0 ? " " : "") : "").append(below(7) == 0 ? below(10002) : below(7));
            if (!kind.equals("same")) {
                text.append(' ').append(below(7) == 0 ? below(1002) : below(5));
            }
            if (kind.equals("teeth")) {
                text.append(' ').append(below(7) == 0 ? below(102) : 1 + below(4));
            }
            if (below(2) == 0) {
                text.append(below(4) == 0 ? "mod" : " mod ").append(below(7) == 0 ? below(102) : 1 + below(5));
            }
            return text.append(below(5) == 0 ? " ;" : ";").append(below(3) == 0 ? " " : "").toString();
        }

        String gap() {
            return below(6) == 0 ? "  " : " ";
        }

        /** Breaks a text now and then: a byte changed, put in, taken out, or the end cut off. */
        String maybeBroken(String text) {
            if (below(3) != 0) {
                return text;
            }
            StringBuilder broken = new StringBuilder(text);
            int at = below(text.length());
            String bytes = ";-- 0159azmodsame\u0001\u00ffA/:`{";
            char other = bytes.charAt(below(bytes.length()));
            switch (below(4)) {
                case 0:
                    broken.setCharAt(at, other);
                    break;
                case 1:
                    broken.insert(at, other);
                    break;
                case 2:
                    broken.deleteCharAt(at);
                    break;
                default:
                    broken.setLength(at);
            }
            return broken.toString();
        }

        void ask(String name, Call ofX, Call ofY) {
            got = outcome(ofX);
            due = outcome(ofY);
            pending = name;
            log.append(name).append(" = ").append(due).append('\n');
        }

        /** What is left to type of a text; eight bytes are one call. */
        String toType = "";

        boolean typing() {
            if (toType.isEmpty()) {
                return false;
            }
            int n = Math.min(toType.length(), 8);
            long bytes = 0;
            for (int p = 0; p < n; p++) {
                bytes = bytes << 8 | toType.charAt(p);
            }
            toType = toType.substring(n);
            long all = bytes;
            ask("type(" + all + "L)", () -> x.type(all), () -> y.type(all));
            return true;
        }

        void makeMostCards() {
            toType = "same 400 1;same 400 2;";
            while (!toType.isEmpty()) {
                typing();
            }
            for (int n = 0; n < 24; n++) {
                ask("lay(0)", () -> x.lay(0), () -> y.lay(0));
                ask("empty(0)", () -> x.empty(0), () -> y.empty(0));
            }
        }

        void next() {
            if (typing()) {
                return;
            }
            int r = row();
            int other = row();
            int a = place(r);
            int b = place(r);
            int n = number();
            int m = number();
            switch (below(44)) {
                case 0: case 1: case 2: case 3:
                    toType = maybeBroken(piece());
                    if (below(3) != 0) {
                        ask("clearText()", x::clearText, y::clearText);
                    } else {
                        ask("fault()", x::fault, () -> y.read(new ArrayList<>()));
                    }
                    break;
                case 4: case 5:
                    ask("fault()", x::fault, () -> y.read(new ArrayList<>()));
                    break;
                case 6: case 7: case 8:
                    ask("lay(" + r + ")", () -> x.lay(r), () -> y.lay(r));
                    break;
                case 9: case 10: case 11:
                    ask("put(" + r + "," + a + "," + n + "," + m + ")", () -> x.put(r, a, n, m), () -> y.put(r, a, n, m));
                    break;
                case 12:
                    ask("setSeed(" + n + ")", () -> x.setSeed(n), () -> {
                        int before = y.seed;
                        y.seed = n;
                        return before;
                    });
                    break;
                case 13:
                    ask("sort(" + r + ")", () -> x.sort(r), () -> y.arrange(r, 0, y.row(r).size(), Model.BY_FIRST));
                    break;
                case 14:
                    if (below(3) == 0) {
                        ask("sortAll()", x::sortAll, y::sortAll);
                    }
                    break;
                case 15:
                    ask("sortPart(" + r + "," + a + "," + b + ")", () -> x.sortPart(r, a, b), () -> y.sortPart(r, a, b, false));
                    break;
                case 16: case 17:
                    int c = below(3) == 0 ? b : a + below(34) - 1;
                    ask("sortDown(" + r + "," + a + "," + c + ")", () -> x.sortDown(r, a, c), () -> y.sortPart(r, a, c, true));
                    break;
                case 18:
                    ask("sortBySecond(" + r + ")", () -> x.sortBySecond(r), () -> y.arrange(r, 0, y.row(r).size(), Model.BY_SECOND));
                    break;
                case 19:
                    ask("sortByBoth(" + r + ")", () -> x.sortByBoth(r),
                            () -> y.arrange(r, 0, y.row(r).size(), Model.BY_FIRST.thenComparing(Model.BY_SECOND)));
                    break;
                default:
                    nextChange(r, other, a, b, n);
            }
        }

        void nextChange(int r, int other, int a, int b, int n) {
            switch (below(16)) {
                case 0:
                    ask("pour(" + r + "," + other + ")", () -> x.pour(r, other), () -> y.pour(r, other));
                    break;
                case 1:
                    ask("deal(" + r + "," + other + ")", () -> x.deal(r, other), () -> y.deal(r, other));
                    break;
                case 2:
                    ask("turn(" + r + ")", () -> x.turn(r), () -> {
                        Collections.reverse(y.row(r));
                        return y.row(r).size();
                    });
                    break;
                case 3:
                    ask("move(" + r + "," + a + "," + b + ")", () -> x.move(r, a, b), () -> y.move(r, a, b));
                    break;
                case 4:
                    ask("thin(" + r + "," + n + ")", () -> x.thin(r, n), () -> y.thin(r, n));
                    break;
                case 5:
                    ask("single(" + r + ")", () -> x.single(r), () -> y.single(r));
                    break;
                case 6:
                    if (isLarge || below(3) == 0) {
                        ask("empty(" + r + ")", () -> x.empty(r), () -> y.empty(r));
                    }
                    break;
                case 7:
                    ask("keep(" + r + ")", () -> x.keep(r), () -> {
                        y.kept.set(r, new ArrayList<>(y.row(r)));
                        return y.row(r).size();
                    });
                    break;
                case 8:
                    ask("restore(" + r + ")", () -> x.restore(r), () -> {
                        y.row(r);
                        return y.restore(r);
                    });
                    break;
                default:
                    nextQuestion(r, other, a, n);
            }
        }

        void nextQuestion(int r, int other, int a, int n) {
            switch (below(16)) {
                case 0:
                    ask("count(" + r + ")", () -> x.count(r), () -> y.row(r).size());
                    break;
                case 1: case 2:
                    int what = below(9) == 0 ? number() : below(3);
                    ask("cardAt(" + r + "," + a + "," + what + ")", () -> x.cardAt(r, a, what), () -> y.cardAt(r, a, what));
                    break;
                case 3:
                    int mark = below(4) == 0 ? n : below(y.made + 2);
                    ask("placeOf(" + r + "," + mark + ")", () -> x.placeOf(r, mark), () -> y.placeOf(r, mark));
                    break;
                case 4:
                    ask("placeFor(" + r + "," + n + ")", () -> x.placeFor(r, n), () -> y.placeFor(r, n));
                    break;
                case 5:
                    ask("isSorted(" + r + ")", () -> x.isSorted(r), () -> y.runs(r).size() < 2);
                    break;
                case 6:
                    ask("runs(" + r + ")", () -> x.runs(r), () -> y.runs(r).size());
                    break;
                case 7:
                    ask("longestRun(" + r + ")", () -> x.longestRun(r), () -> y.longest(r));
                    break;
                case 8:
                    ask("wrongPairs(" + r + ")", () -> x.wrongPairs(r), () -> y.wrongPairs(r));
                    break;
                case 9:
                    ask("unlike(" + r + ")", () -> x.unlike(r), () -> y.unlike(r));
                    break;
                case 10:
                    ask("sum(" + r + ")", () -> x.sum(r), () -> y.sum(r));
                    break;
                case 11:
                    ask("compare(" + r + "," + other + ")", () -> x.compare(r, other), () -> y.compare(r, other));
                    break;
                case 12:
                    ask("middle(" + r + ")", () -> x.middle(r), () -> y.middle(r));
                    break;
                case 13:
                    ask("mean(" + r + ")", () -> x.mean(r), () -> y.mean(r));
                    break;
                case 14:
                    ask("risingShare(" + r + ")", () -> x.risingShare(r), () -> y.risingShare(r));
                    break;
                default:
                    ask("errors()", x::errors, () -> 0);
            }
        }

        boolean isRight() {
            if (got == null || got.equals(due)) {
                return true;
            }
            System.out.println(pending + " answered " + got + ", due is " + due);
            return false;
        }

        /** The sum sees every mark at every place, so one call of it looks at a whole row. */
        boolean rowsAgree() {
            for (int r = 0; r < 4; r++) {
                int row = r;
                ask("sum(" + row + ")", () -> x.sum(row), () -> y.sum(row));
                if (!isRight()) {
                    return false;
                }
            }
            return true;
        }

        boolean textAndSeedAgree() {
            ask("type(0L)", () -> x.type(0), () -> y.type(0));
            if (!isRight()) {
                return false;
            }
            ask("setSeed(0)", () -> x.setSeed(0), () -> y.seed);
            return isRight();
        }

        boolean cardsAgree() {
            for (int n = x.callsLeft(); n > 0; n--) {
                int row = below(4);
                int place = below(y.rows.get(row).size() + 1);
                int what = below(3);
                ask("cardAt(" + row + "," + place + "," + what + ")",
                        () -> x.cardAt(row, place, what), () -> y.cardAt(row, place, what));
                if (!isRight()) {
                    return false;
                }
            }
            return true;
        }

        /** Whether all answers are as due; looking at all rows behind each call is for every tenth run. */
        boolean passes(boolean looksOften) {
            if (isLate) {
                makeMostCards();
            }
            while (x.callsLeft() > LAST_LOOKS) {
                next();
                if (!isRight() || looksOften && !rowsAgree()) {
                    return false;
                }
            }
            return rowsAgree() && textAndSeedAgree() && cardsAgree();
        }
    }

    public static void main(String[] args) {
        int wrong = 0;
        int most = 0;
        for (int seed = 0; seed < RUNS && wrong < 3; seed++) {
            Run run = new Run(seed);
            if (!run.passes(seed % 10 == 0)) {
                wrong++;
                String[] lines = run.log.toString().split("\n");
                System.out.println("run " + seed + ", its last calls:");
                for (int n = Math.max(0, lines.length - 12); n < lines.length; n++) {
                    System.out.println("  " + lines[n]);
                }
            }
            most = Math.max(most, run.y.made);
        }
        System.out.println(RUNS + " runs, the most cards made in one: " + most + ", runs that went wrong: " + wrong);
        if (wrong != 0) {
            System.exit(1);
        }
    }
}
