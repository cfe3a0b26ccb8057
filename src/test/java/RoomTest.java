import com.sun.management.ThreadMXBean;
import java.lang.management.ManagementFactory;

/** The room that a run takes: an object with 512 calls that do not throw, the dearest ones among them. */
public final class RoomTest {
    private static final ThreadMXBean ROOM = (ThreadMXBean) ManagementFactory.getThreadMXBean();
    private static final String TEXT = "new 0;new 1;fold 0s;fold 1f;lay 0 2;lay 1 2;stain 1+2;read 2";
    private static final int ROUNDS = 4;
    /** The room has 7.3 million fields and elements; of four bytes each, as most of them are. */
    private static final long MOST_BYTES = 4 * 7_300_000L;

    public static void main(String[] args) {
        // The first life loads classes, which takes room once; so does the first look at the room.
        NapkinSyntax first = new NapkinSyntax();
        Due.is("calls of a life", 512, () -> life(first));
        taken();

        long atFirst = taken();
        life(new NapkinSyntax());
        long bytes = taken() - atFirst;
        Due.is("a life takes at most " + MOST_BYTES + " bytes, not " + bytes, true, () -> bytes <= MOST_BYTES);
        Due.close("RoomTest");
    }

    private static long taken() {
        return ROOM.getCurrentThreadAllocatedBytes();
    }

    /** Makes calls that go well, the dearest ones often, and tells how many. */
    private static int life(NapkinSyntax x) {
        int calls = 0;
        x.save();
        calls++;
        for (int round = 0; round < ROUNDS; round++) {
            for (int index = 0; index < TEXT.length(); index++) {
                x.type(TEXT.charAt(index));
            }
            x.read();
            calls += TEXT.length() + 1;
            calls += look(x) + change(x);
            x.restore();
            calls++;
        }
        while (calls < 512) {
            x.isWell();
            calls++;
        }
        return calls;
    }

    private static int look(NapkinSyntax x) {
        int calls = 0;
        for (int table = 0; table <= 2; table++) {
            x.wrong(table);
            x.wrongAgain(table);
            x.isRight(table);
            x.phrases(table);
            x.next(table);
            x.doubt(table);
            x.doubtAgain(table);
            x.clearest(table);
            x.show(table);
            calls += 9;
        }
        x.fewest(2);
        x.fewestAgain(2);
        x.sure(2);
        x.tell(2);
        x.written(2);
        x.phraseOf(2, 0, 3);
        x.seat(2, 1);
        x.said(2, 1);
        x.worn(1);
        x.account(5);
        x.napkinOf(1, 5);
        x.tableOf(2, 3);
        x.meanStains();
        x.foldedShare();
        x.isWell();
        return calls + 15;
    }

    private static int change(NapkinSyntax x) {
        x.napkin(3);
        x.fold(2, 4);
        x.lay(2, 2);
        x.move(2, 2, 0);
        x.unfold(2);
        x.take(2);
        x.stain(2, 9);
        x.wash(2);
        x.host(2);
        x.undo();
        return 10;
    }
}
