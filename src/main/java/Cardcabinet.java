import java.util.NoSuchElementException;

/** A cabinet of four rows of index cards. A card is held as its mark; the deck knows its numbers. */
public final class Cardcabinet {
    public static final int NONE = -1;

    private static final int ROWS = 4;
    private static final int MOST_IN_ROW = 800;
    private static final int MOST_CARDS = 20000;
    private static final int MOST_TO_SORT_DOWN = 31;
    private static final int MOST_BYTES = 400;
    // No run is shorter than "same1 0;".
    private static final int MOST_RUNS = MOST_BYTES / 8;

    private final Deck deck;
    private final Row[] rows;
    private final Row[] keptRows;
    private final boolean[] isKept;
    private final Row copy;
    private final Row otherCopy;
    private final Sorter sorter;
    private final Text text;
    private final Parser parser;
    private final Draws draws;

    public Cardcabinet() {
        deck = new Deck();
        rows = new Row[ROWS];
        keptRows = new Row[ROWS];
        isKept = new boolean[ROWS];
        for (int r = 0; r < ROWS; r++) {
            rows[r] = new Row();
            keptRows[r] = new Row();
        }
        copy = new Row();
        otherCopy = new Row();
        sorter = new Sorter(deck);
        text = new Text();
        parser = new Parser(text);
        draws = new Draws();
    }

    // ---- laying cards

    public int type(long bytes) throws IllegalStateException {
        if (text.length + Text.bytesIn(bytes) > MOST_BYTES) {
            throw new IllegalStateException("the text would be too long");
        }
        text.append(bytes);
        return text.length;
    }

    public int clearText() {
        int before = text.length;
        text.length = 0;
        return before;
    }

    public int fault() {
        return parser.readText();
    }

    public int lay(int row) throws IndexOutOfBoundsException, IllegalStateException {
        Row target = rowAt(row);
        if (parser.readText() != NONE) {
            throw new IllegalStateException("the text is not right");
        }
        int cards = parser.cardsOfAllRuns();
        needRoom(target, cards);
        needCards(cards);
        for (int r = 0; r < parser.runCount; r++) {
            layRun(parser.runList[r], target);
        }
        return cards;
    }

    public int put(int row, int place, int first, int second)
            throws IndexOutOfBoundsException, IllegalStateException {
        Row target = rowAt(row);
        if (place < 0 || place > target.size) {
            throw new IndexOutOfBoundsException("no such place");
        }
        needRoom(target, 1);
        needCards(1);
        int mark = deck.make(first, second);
        target.insert(place, mark);
        return mark;
    }

    public int setSeed(int seed) {
        int before = draws.seed;
        draws.seed = seed;
        return before;
    }

    // ---- sorting

    public int sort(int row) throws IndexOutOfBoundsException {
        return arrangeRow(rowAt(row), Order.BY_FIRST);
    }

    public int sortAll() {
        sorter.clear();
        for (int r = 0; r < ROWS; r++) {
            sorter.take(rows[r], 0, rows[r].size);
        }
        sorter.arrange(Order.BY_FIRST);
        int changed = 0;
        int taken = 0;
        for (int r = 0; r < ROWS; r++) {
            changed += sorter.layBack(taken, rows[r], 0, rows[r].size);
            taken += rows[r].size;
        }
        return changed;
    }

    public int sortPart(int row, int from, int to) throws IndexOutOfBoundsException, IllegalArgumentException {
        Row target = rowAt(row);
        needPart(target, from, to);
        return arrangePart(target, from, to, Order.BY_FIRST);
    }

    public int sortDown(int row, int from, int to) throws IndexOutOfBoundsException, IllegalArgumentException {
        Row target = rowAt(row);
        needPart(target, from, to);
        if (to - from > MOST_TO_SORT_DOWN) {
            throw new IllegalArgumentException("the part is too long");
        }
        return arrangePart(target, from, to, Order.DOWN);
    }

    public int sortBySecond(int row) throws IndexOutOfBoundsException {
        return arrangeRow(rowAt(row), Order.BY_SECOND);
    }

    public int sortByBoth(int row) throws IndexOutOfBoundsException {
        return arrangeRow(rowAt(row), Order.BY_BOTH);
    }

    // ---- other changes

    public int pour(int row, int other)
            throws IndexOutOfBoundsException, IllegalArgumentException, IllegalStateException {
        Row source = rowAt(row);
        Row target = rowAt(other);
        needUnlikeRows(row, other);
        needRoom(target, source.size);
        for (int p = 0; p < source.size; p++) {
            target.append(source.marks[p]);
        }
        source.size = 0;
        return target.size;
    }

    public int deal(int row, int other)
            throws IndexOutOfBoundsException, IllegalArgumentException, IllegalStateException {
        Row source = rowAt(row);
        Row target = rowAt(other);
        needUnlikeRows(row, other);
        int going = source.size / 2;
        needRoom(target, going);
        int staying = 0;
        for (int p = 0; p < source.size; p++) {
            if (p % 2 == 1) {
                target.append(source.marks[p]);
            } else {
                source.marks[staying] = source.marks[p];
                staying++;
            }
        }
        source.size = staying;
        return going;
    }

    public int turn(int row) throws IndexOutOfBoundsException {
        Row target = rowAt(row);
        target.reverse();
        return target.size;
    }

    public int move(int row, int from, int to) throws IndexOutOfBoundsException {
        Row target = rowAt(row);
        needPlace(target, from);
        needPlace(target, to);
        int mark = target.takeOut(from);
        target.insert(to, mark);
        return mark;
    }

    public int thin(int row, int second) throws IndexOutOfBoundsException {
        Row target = rowAt(row);
        int before = target.size;
        int staying = 0;
        for (int p = 0; p < before; p++) {
            int mark = target.marks[p];
            if (deck.secondOf(mark) != second) {
                target.marks[staying] = mark;
                staying++;
            }
        }
        target.size = staying;
        return before - staying;
    }

    public int single(int row) throws IndexOutOfBoundsException {
        Row target = rowAt(row);
        int before = target.size;
        int staying = 0;
        for (int p = 0; p < before; p++) {
            int mark = target.marks[p];
            // A card that was taken out is like the last one that stayed, so that one stands for it.
            if (staying == 0 || deck.firstOf(mark) != deck.firstOf(target.marks[staying - 1])) {
                target.marks[staying] = mark;
                staying++;
            }
        }
        target.size = staying;
        return before - staying;
    }

    public int empty(int row) throws IndexOutOfBoundsException {
        Row target = rowAt(row);
        int before = target.size;
        target.size = 0;
        return before;
    }

    public int keep(int row) throws IndexOutOfBoundsException {
        Row source = rowAt(row);
        keptRows[row].become(source);
        isKept[row] = true;
        return source.size;
    }

    public int restore(int row) throws IndexOutOfBoundsException, IllegalStateException {
        Row target = rowAt(row);
        if (!isKept[row]) {
            throw new IllegalStateException("the row was never kept");
        }
        return target.become(keptRows[row]);
    }

    // ---- questions

    public int count(int row) throws IndexOutOfBoundsException {
        return rowAt(row).size;
    }

    public int cardAt(int row, int place, int what) throws IndexOutOfBoundsException, IllegalArgumentException {
        Row asked = rowAt(row);
        needPlace(asked, place);
        int mark = asked.marks[place];
        switch (what) {
            case 0:
                return deck.firstOf(mark);
            case 1:
                return deck.secondOf(mark);
            case 2:
                return mark;
            default:
                throw new IllegalArgumentException("no such thing to tell");
        }
    }

    public int placeOf(int row, int mark) throws IndexOutOfBoundsException {
        Row asked = rowAt(row);
        for (int p = 0; p < asked.size; p++) {
            if (asked.marks[p] == mark) {
                return p;
            }
        }
        return NONE;
    }

    public int placeFor(int row, int first) throws IndexOutOfBoundsException, IllegalStateException {
        Row asked = rowAt(row);
        if (!rises(asked)) {
            throw new IllegalStateException("the row does not rise");
        }
        int place = 0;
        while (place < asked.size && firstAt(asked, place) <= first) {
            place++;
        }
        return place;
    }

    public boolean isSorted(int row) throws IndexOutOfBoundsException {
        return rises(rowAt(row));
    }

    public int runs(int row) throws IndexOutOfBoundsException {
        return numberOfRuns(rowAt(row));
    }

    public int longestRun(int row) throws IndexOutOfBoundsException {
        return lengthOfLongestRun(rowAt(row));
    }

    public int wrongPairs(int row) throws IndexOutOfBoundsException {
        return sortCopy(rowAt(row));
    }

    public int unlike(int row) throws IndexOutOfBoundsException {
        Row asked = rowAt(row);
        sortCopy(asked);
        int number = 0;
        for (int p = 0; p < asked.size; p++) {
            if (p == 0 || sorter.firstAt(p) != sorter.firstAt(p - 1)) {
                number++;
            }
        }
        return number;
    }

    public long sum(int row) throws IndexOutOfBoundsException {
        Row asked = rowAt(row);
        long total = 0;
        for (int p = 0; p < asked.size; p++) {
            total += (p + 1L) * (asked.marks[p] + 1L);
        }
        return total;
    }

    public int compare(int row, int other) throws IndexOutOfBoundsException {
        Row one = rowAt(row);
        Row two = rowAt(other);
        int shared = Math.min(one.size, two.size);
        for (int p = 0; p < shared; p++) {
            int a = firstAt(one, p);
            int b = firstAt(two, p);
            if (a != b) {
                return a < b ? -1 : 1;
            }
        }
        if (one.size == two.size) {
            return 0;
        }
        return one.size < two.size ? -1 : 1;
    }

    public int middle(int row) throws IndexOutOfBoundsException, NoSuchElementException {
        Row asked = rowAt(row);
        if (asked.size == 0) {
            throw new NoSuchElementException("the row is empty");
        }
        sortCopy(asked);
        return sorter.firstAt((asked.size - 1) / 2);
    }

    public double mean(int row) throws IndexOutOfBoundsException {
        Row asked = rowAt(row);
        if (asked.size == 0) {
            return 0.0;
        }
        long total = 0;
        for (int p = 0; p < asked.size; p++) {
            total += firstAt(asked, p);
        }
        return (double) total / (double) asked.size;
    }

    public float risingShare(int row) throws IndexOutOfBoundsException {
        Row asked = rowAt(row);
        if (asked.size == 0) {
            return 0.0f;
        }
        return (float) lengthOfLongestRun(asked) / (float) asked.size;
    }

    public int errors() {
        int wrong = 0;
        for (int r = 0; r < ROWS; r++) {
            if (!theoremHolds(rows[r])) {
                wrong++;
            }
        }
        return wrong;
    }

    // ---- what the calls need to be true

    private Row rowAt(int row) {
        if (row < 0 || row >= ROWS) {
            throw new IndexOutOfBoundsException("no such row");
        }
        return rows[row];
    }

    private static void needPlace(Row row, int place) {
        if (place < 0 || place >= row.size) {
            throw new IndexOutOfBoundsException("no such place");
        }
    }

    private static void needPart(Row row, int from, int to) {
        if (from < 0 || to > row.size) {
            throw new IndexOutOfBoundsException("no such part");
        }
        if (from > to) {
            throw new IllegalArgumentException("the part ends ahead of its beginning");
        }
    }

    private static void needUnlikeRows(int row, int other) {
        if (row == other) {
            throw new IllegalArgumentException("both rows are the same");
        }
    }

    private static void needRoom(Row row, int cards) {
        if (row.size + cards > MOST_IN_ROW) {
            throw new IllegalStateException("the row would be too long");
        }
    }

    private void needCards(int cards) {
        if (deck.made + cards > MOST_CARDS) {
            throw new IllegalStateException("too many cards would be made");
        }
    }

    // ---- parts of the calls

    private void layRun(Run run, Row target) {
        for (int k = 0; k < run.cards; k++) {
            target.append(deck.make(run.firstOf(k, draws), run.secondOf(k)));
        }
    }

    /** The rest of a division; 0 for the divisor 0, by which a run tells that it has none. */
    private static int rest(int number, int divisor) {
        return divisor > 0 ? number % divisor : 0;
    }

    private int arrangeRow(Row row, Order order) {
        return arrangePart(row, 0, row.size, order);
    }

    private int arrangePart(Row row, int from, int to, Order order) {
        sorter.clear();
        sorter.take(row, from, to);
        sorter.arrange(order);
        return sorter.layBack(0, row, from, to);
    }

    /** Leaves the sorted cards of a row in the sorter, and tells how many of its pairs are the wrong way round. */
    private int sortCopy(Row row) {
        sorter.clear();
        sorter.take(row, 0, row.size);
        return sorter.arrange(Order.BY_FIRST);
    }

    private int firstAt(Row row, int place) {
        return deck.firstOf(row.marks[place]);
    }

    private boolean startsRun(Row row, int place) {
        return place == 0 || firstAt(row, place) < firstAt(row, place - 1);
    }

    private int numberOfRuns(Row row) {
        int number = 0;
        for (int p = 0; p < row.size; p++) {
            if (startsRun(row, p)) {
                number++;
            }
        }
        return number;
    }

    private boolean rises(Row row) {
        return numberOfRuns(row) <= 1;
    }

    private int lengthOfLongestRun(Row row) {
        int longest = 0;
        int start = 0;
        for (int p = 0; p < row.size; p++) {
            if (startsRun(row, p)) {
                start = p;
            }
            longest = Math.max(longest, p + 1 - start);
        }
        return longest;
    }

    private boolean theoremHolds(Row row) {
        int end = row.size;
        copy.become(row);
        arrangePart(copy, 0, end, Order.BY_FIRST);
        if (!rises(copy) || arrangePart(copy, 0, end, Order.BY_FIRST) != 0) {
            return false;
        }
        copy.become(row);
        arrangePart(copy, 0, end, Order.BY_SECOND);
        arrangePart(copy, 0, end, Order.BY_FIRST);
        otherCopy.become(row);
        arrangePart(otherCopy, 0, end, Order.BY_BOTH);
        return copy.become(otherCopy) == 0;
    }

    /** The numbers of all cards that were ever made, by their marks. */
    private static final class Deck {
        final int[] firsts = new int[MOST_CARDS];
        final int[] seconds = new int[MOST_CARDS];
        int made;

        /** Makes a card and tells its mark; the caller has seen to it that there may be one more. */
        int make(int first, int second) {
            if (made >= MOST_CARDS) {
                return NONE;
            }
            firsts[made] = first;
            seconds[made] = second;
            made++;
            return made - 1;
        }

        int firstOf(int mark) {
            return mark >= 0 && mark < made ? firsts[mark] : 0;
        }

        int secondOf(int mark) {
            return mark >= 0 && mark < made ? seconds[mark] : 0;
        }
    }

    /** The marks of the cards of a row, by their places. */
    private static final class Row {
        final int[] marks = new int[MOST_IN_ROW];
        int size;

        void append(int mark) {
            insert(size, mark);
        }

        void insert(int place, int mark) {
            if (size >= MOST_IN_ROW || place < 0 || place > size) {
                return;
            }
            System.arraycopy(marks, place, marks, place + 1, size - place);
            marks[place] = mark;
            size++;
        }

        int takeOut(int place) {
            if (place < 0 || place >= size) {
                return NONE;
            }
            int mark = marks[place];
            size--;
            System.arraycopy(marks, place + 1, marks, place, size - place);
            return mark;
        }

        void reverse() {
            for (int p = 0; p < size / 2; p++) {
                int mark = marks[p];
                marks[p] = marks[size - 1 - p];
                marks[size - 1 - p] = mark;
            }
        }

        /** Takes over the cards of another row, and tells how many places are not as before. */
        int become(Row other) {
            int shared = Math.min(size, other.size);
            int changed = Math.max(size, other.size) - shared;
            for (int p = 0; p < shared; p++) {
                if (marks[p] != other.marks[p]) {
                    changed++;
                }
            }
            System.arraycopy(other.marks, 0, marks, 0, other.size);
            size = other.size;
            return changed;
        }
    }

    /** The orders into which cards are brought. */
    private enum Order {
        BY_FIRST, BY_SECOND, BY_BOTH, DOWN
    }

    /** A table on which cards of rows are sorted; cards that are alike for an order stay as they lie. */
    private static final class Sorter {
        final Deck deck;
        int[] marks = new int[ROWS * MOST_IN_ROW];
        int[] merged = new int[ROWS * MOST_IN_ROW];
        int size;

        Sorter(Deck deck) {
            this.deck = deck;
        }

        void clear() {
            size = 0;
        }

        void take(Row row, int from, int to) {
            for (int p = from; p < to && size < marks.length; p++) {
                marks[size] = row.marks[p];
                size++;
            }
        }

        /** Lays cards from a place of the table on into a part of a row, and tells how many places have another one. */
        int layBack(int start, Row row, int from, int to) {
            int changed = 0;
            int next = start;
            for (int p = from; p < to && next < size; p++) {
                if (row.marks[p] != marks[next]) {
                    changed++;
                    row.marks[p] = marks[next];
                }
                next++;
            }
            return changed;
        }

        int firstAt(int place) {
            return place >= 0 && place < size ? deck.firstOf(marks[place]) : 0;
        }

        /** Sorts all cards of the table, and tells how many pairs of them were the wrong way round. */
        int arrange(Order order) {
            int wrong = 0;
            for (int width = 1; width < size; width *= 2) {
                for (int start = 0; start < size; start += 2 * width) {
                    int mid = Math.min(start + width, size);
                    int end = Math.min(mid + width, size);
                    wrong += merge(start, mid, end, order);
                }
                int[] swap = marks;
                marks = merged;
                merged = swap;
            }
            return wrong;
        }

        private int merge(int start, int mid, int end, Order order) {
            int wrong = 0;
            int left = start;
            int right = mid;
            for (int p = start; p < end; p++) {
                if (left >= mid || right < end && isWrongPair(marks[left], marks[right], order)) {
                    // The card goes ahead of all that are left on the left side.
                    wrong += mid - left;
                    merged[p] = marks[right];
                    right++;
                } else {
                    merged[p] = marks[left];
                    left++;
                }
            }
            return wrong;
        }

        private boolean isWrongPair(int ahead, int behind, Order order) {
            int a = deck.firstOf(ahead);
            int b = deck.firstOf(behind);
            switch (order) {
                case BY_SECOND:
                    return deck.secondOf(ahead) > deck.secondOf(behind);
                case BY_BOTH:
                    return a > b || a == b && deck.secondOf(ahead) > deck.secondOf(behind);
                case DOWN:
                    return a < b;
                default:
                    return a > b;
            }
        }
    }

    /** The seed, and the draws that go on from it. */
    private static final class Draws {
        int seed = 1;

        int draw(int n) {
            seed = seed * 1103515245 + 12345;
            return rest(seed >>> 16, n);
        }
    }

    /** The words that begin runs, with what is told behind their starts. */
    private enum Kind {
        SAME("same", false, false),
        RISE("rise", true, false),
        FALL("fall", true, false),
        WAVE("wave", true, false),
        DRAW("draw", true, false),
        TEETH("teeth", true, true);

        final String word;
        final boolean hasStep;
        final boolean hasLength;

        Kind(String word, boolean hasStep, boolean hasLength) {
            this.word = word;
            this.hasStep = hasStep;
            this.hasLength = hasLength;
        }
    }

    /** A run of the text. Its divisor is 0 if it has none: the second numbers are 0 then. */
    private static final class Run {
        Kind kind = Kind.SAME;
        int cards;
        int start;
        int step;
        int length;
        int divisor;

        int firstOf(int k, Draws draws) {
            switch (kind) {
                case RISE:
                    return start + k * step;
                case FALL:
                    return start - k * step;
                case WAVE:
                    return k % 2 == 0 ? start : start + step;
                case TEETH:
                    return start + step * rest(k, length);
                case DRAW:
                    return start + draws.draw(step + 1);
                default:
                    return start;
            }
        }

        int secondOf(int k) {
            return rest(k, divisor);
        }
    }

    /** The bytes of the text, and the token of it that is looked at. */
    private static final class Text {
        private static final int MOST_DIGITS = 4;
        private static final int LETTERS = 0;
        private static final int DIGITS = 1;

        final byte[] bytes = new byte[MOST_BYTES];
        int length;
        int tokenStart;
        int tokenEnd;

        static int bytesIn(long number) {
            int found = 0;
            for (int shift = 56; shift >= 0; shift -= 8) {
                if ((byte) (number >>> shift) != 0) {
                    found++;
                }
            }
            return found;
        }

        void append(long number) {
            for (int shift = 56; shift >= 0; shift -= 8) {
                byte next = (byte) (number >>> shift);
                if (next != 0 && length < MOST_BYTES) {
                    bytes[length] = next;
                    length++;
                }
            }
        }

        void toFirstToken() {
            tokenEnd = 0;
            toNextToken();
        }

        /** Behind the last token, an empty one stands at the end of the text. */
        void toNextToken() {
            tokenStart = tokenEnd;
            while (tokenStart < length && bytes[tokenStart] == ' ') {
                tokenStart++;
            }
            tokenEnd = tokenStart;
            if (tokenStart >= length) {
                return;
            }
            int alphabet = alphabetOf(bytes[tokenStart]);
            tokenEnd++;
            while (tokenEnd < length && alphabet != NONE && alphabetOf(bytes[tokenEnd]) == alphabet) {
                tokenEnd++;
            }
        }

        boolean isAtEnd() {
            return tokenStart >= length;
        }

        /** Whether the token is a word or a sign. */
        boolean isToken(String wanted) {
            if (tokenEnd - tokenStart != wanted.length()) {
                return false;
            }
            for (int p = tokenStart; p < tokenEnd; p++) {
                if (bytes[p] != wanted.charAt(p - tokenStart)) {
                    return false;
                }
            }
            return true;
        }

        /** The value of the token; NONE if it is no number, or has more digits than a number in any range. */
        int valueOfNumber() {
            if (isAtEnd() || alphabetOf(bytes[tokenStart]) != DIGITS || tokenEnd - tokenStart > MOST_DIGITS) {
                return NONE;
            }
            int value = 0;
            for (int p = tokenStart; p < tokenEnd; p++) {
                value = value * 10 + (bytes[p] - '0');
            }
            return value;
        }

        private static int alphabetOf(byte one) {
            if (one >= 'a' && one <= 'z') {
                return LETTERS;
            }
            return one >= '0' && one <= '9' ? DIGITS : NONE;
        }
    }

    /** Reads the text by its rules. What can't be read is left as the token that is looked at. */
    private static final class Parser {
        private static final Kind[] KINDS = Kind.values();

        final Text text;
        final Run[] runList = new Run[MOST_RUNS];
        int runCount;

        Parser(Text text) {
            this.text = text;
            for (int r = 0; r < MOST_RUNS; r++) {
                runList[r] = new Run();
            }
        }

        /** Reads all runs, and tells the place of the first fault, or NONE. */
        int readText() {
            runCount = 0;
            text.toFirstToken();
            while (!text.isAtEnd() && runCount < MOST_RUNS) {
                if (!readRun(runList[runCount])) {
                    return text.tokenStart;
                }
                runCount++;
            }
            return NONE;
        }

        int cardsOfAllRuns() {
            int cards = 0;
            for (int r = 0; r < runCount; r++) {
                cards += runList[r].cards;
            }
            return cards;
        }

        private boolean readRun(Run run) {
            return readKind(run) && readCards(run) && readStart(run) && readStep(run)
                    && readLength(run) && readDivisor(run) && readToken(";");
        }

        private boolean readKind(Run run) {
            for (int k = 0; k < KINDS.length; k++) {
                if (readToken(KINDS[k].word)) {
                    run.kind = KINDS[k];
                    return true;
                }
            }
            return false;
        }

        private boolean readCards(Run run) {
            run.cards = readNumber(1, 400);
            return run.cards != NONE;
        }

        private boolean readStart(Run run) {
            boolean isBelowZero = readToken("-");
            int number = readNumber(0, 9999);
            run.start = isBelowZero ? -number : number;
            return number != NONE;
        }

        private boolean readStep(Run run) {
            run.step = run.kind.hasStep ? readNumber(0, 999) : 0;
            return run.step != NONE;
        }

        private boolean readLength(Run run) {
            run.length = run.kind.hasLength ? readNumber(1, 99) : 0;
            return run.length != NONE;
        }

        private boolean readDivisor(Run run) {
            run.divisor = readToken("mod") ? readNumber(1, 99) : 0;
            return run.divisor != NONE;
        }

        private boolean readToken(String wanted) {
            if (!text.isToken(wanted)) {
                return false;
            }
            text.toNextToken();
            return true;
        }

        /** Reads a number from least to most, and tells it; NONE if none stands there. */
        private int readNumber(int least, int most) {
            int value = text.valueOfNumber();
            if (value < least || value > most) {
                return NONE;
            }
            text.toNextToken();
            return value;
        }
    }
}
