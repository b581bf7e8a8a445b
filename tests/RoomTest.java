import com.sun.management.ThreadMXBean;
import java.lang.management.ManagementFactory;

/** All calls of a run live in one room: what the 512 dearest calls of an object make is small. */
public final class RoomTest {
    private static final Checks T = new Checks("RoomTest");
    private static final ThreadMXBean THREADS = (ThreadMXBean) ManagementFactory.getThreadMXBean();

    public static void main(String[] args) {
        // The classes are loaded by an object that is not counted.
        parish().days(1);
        for (int i = 0; i < 3; i++) {
            object();
            calls();
            texts();
        }
        T.close();
    }

    private static long made() {
        return THREADS.getThreadAllocatedBytes(Thread.currentThread().getId());
    }

    private static void within(String what, long bytes, long most) {
        T.yes(what + " made " + bytes + " bytes", bytes <= most);
    }

    private static void object() {
        long before = made();
        UnbornBells x = new UnbornBells();
        within("an object", made() - before, 60_000);
        T.due("45", x.look(0), 0);
    }

    private static UnbornBells parish() {
        UnbornBells x = new UnbornBells();
        for (int i = 0; i < 10; i++) {
            x.bell(i % 4, i, 50, 40);
        }
        StringBuilder hours = new StringBuilder();
        for (int i = 0; i < 10; i++) {
            hours.append("ring ").append(i).append(" at 0 for 24;");
        }
        Checks.tell(x, 0, hours.toString());
        Checks.tell(x, 1, "loud weight + hour * 2 - far when not (hour < 5 and hope > 3) or frost = 0;");
        Checks.tell(x, 2, "come 1 when day = 9999; come 0;");
        return x;
    }

    private static void calls() {
        UnbornBells x = parish();
        long before = made();
        for (int i = 0; i < 28; i++) {
            x.days(60);
            x.undo();
            x.image(true);
            x.image(false);
            x.peals(255, 10);
            x.rows(10, 0);
            x.melts(300, 1);
            x.siblings(1, 0);
            x.raised(1);
            x.right(2);
            x.placed(0);
            x.free(0);
            x.quarrels(0);
            x.chorus(0, 10, 0);
            x.noneYet(99);
            x.likeliest();
            x.silence(0);
        }
        within("calls without texts", made() - before, 20_000);
    }

    private static void texts() {
        UnbornBells x = new UnbornBells();
        String text = "loud 1+1+1+1+1+1+1;";
        byte[] bytes = (text + " ").getBytes(java.nio.charset.StandardCharsets.ISO_8859_1);
        int[] n = new int[5];
        for (int i = 0; i < 20; i++) {
            n[i / 4] = n[i / 4] << 8 | bytes[i];
        }
        long before = made();
        for (int i = 0; i < 255; i++) {
            x.feed(n[0], n[1], n[2], n[3], n[4]);
            x.text(1);
        }
        within("255 texts", made() - before, 400_000);
        T.due("12 told", x.look(9), 1);
    }
}
