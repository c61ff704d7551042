import java.lang.management.ManagementFactory;

/** What an object takes of the room: all calls of a run, the constructor too, make few objects and elements. */
public final class RoomTest {
    // A tenth of the elements of the room, at four bytes each.
    private static final long MOST_BYTES = 730000L * 4;
    private static final int KINDS = 15;
    private static final int MOST_CALLS_AT_ONCE = 5;

    private static Counted full() {
        Counted x = new Counted();
        String text = "draw 400 0 999 mod 9;draw 400 0 999;";
        for (int p = 0; p < text.length(); p++) {
            x.type(text.charAt(p));
        }
        for (int row = 0; row < 4; row++) {
            x.lay(row);
            x.keep(row);
        }
        return x;
    }

    private static void call(Counted x, int n, int kind) {
        int row = n % 4;
        switch (kind) {
            case 0: x.sort(row); break;
            case 1: x.sortAll(); break;
            case 2: x.sortBySecond(row); break;
            case 3: x.sortByBoth(row); break;
            case 4: x.restore(row); x.wrongPairs(row); break;
            case 5: x.unlike(row); x.middle(row); break;
            case 6: x.errors(); break;
            case 7: x.fault(); break;
            case 8: x.empty(row); if (n < 20) { x.lay(row); } break;
            case 9: x.turn(row); x.keep(row); x.move(row, 799, 0); break;
            case 10: x.sortDown(row, 700, 731); x.sortPart(row, 1, 799); break;
            case 11: x.empty(3); x.deal(row % 3, 3); x.pour(3, row % 3); x.single(0); x.thin(0, 0); break;
            case 12: x.sum(row); x.mean(row); x.risingShare(row); x.runs(row); x.compare(row, 3 - row); break;
            case 13: x.outcome(c -> c.lay(row)); x.outcome(c -> c.restore(-1)); break;
            default: x.placeOf(row, -7); x.placeOf(row, n); x.clearText(); x.type(0x646177640000L); break;
        }
    }

    public static void main(String[] args) {
        com.sun.management.ThreadMXBean thread = (com.sun.management.ThreadMXBean) ManagementFactory.getThreadMXBean();
        int wrong = 0;
        for (int kind = 0; kind < KINDS; kind++) {
            long before = thread.getCurrentThreadAllocatedBytes();
            Counted x = full();
            for (int n = 0; x.callsLeft() >= MOST_CALLS_AT_ONCE; n++) {
                call(x, n, kind);
            }
            long taken = thread.getCurrentThreadAllocatedBytes() - before;
            if (taken > MOST_BYTES) {
                System.out.println("calls of kind " + kind + " take " + taken + " bytes");
                wrong++;
            }
        }
        System.out.println(wrong == 0 ? "all calls keep to the room" : wrong + " kinds of calls take too much");
        if (wrong != 0) {
            System.exit(1);
        }
    }
}
