import java.lang.management.ManagementFactory;

/** The room of a run: what an object and 512 dear calls make stays far below the limit; nothing runs long. */
public final class RoomTest {
    private static final long MOST_BYTES = 400000;

    public static void main(String[] args) {
        com.sun.management.ThreadMXBean memory =
                (com.sun.management.ThreadMXBean) ManagementFactory.getThreadMXBean();
        run();
        long before = memory.getCurrentThreadAllocatedBytes();
        run();
        long made = memory.getCurrentThreadAllocatedBytes() - before;
        System.out.println(made + " bytes made by a dear run");
        Check.due("a run makes little", true, () -> made < MOST_BYTES);
        Check.end();
    }

    private static void run() {
        Entropiary x = new Entropiary();
        x.table(4, 3);
        for (int cell = 0; cell < 81; cell++) {
            x.weigh(cell, 1 + cell % 7);
        }
        x.inputs(6);
        x.confuse(0, 1, true);
        x.confuse(1, 2, true);
        x.confuse(2, 3, true);
        x.confuse(3, 4, true);
        x.confuse(4, 0, true);
        x.receivers(4);
        for (int receiver = 0; receiver < 4; receiver++) {
            x.knows(receiver, 15 & ~(1 << receiver));
        }
        for (int i = 0; i < 8; i++) {
            x.sign(1 + i);
        }
        for (int i = 0; i < 4; i++) {
            x.tie(1 << i, 1 << (i + 1) % 4, 0);
        }
        for (int i = 0; i < 40; i++) {
            x.isSound();
            x.broadcasts();
            x.apart(2);
            x.follows(1, 14, 0);
            x.classes(15, 15);
            x.guessesOver(15, 15);
            x.areApart(3, 4, 8);
            x.parts(15, 15);
        }
    }
}
