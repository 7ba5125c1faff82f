import java.lang.management.ManagementFactory;

/** All calls of a run live in one room that is never cleared: so no call may make anything. */
public final class RoomTest {
    private static final com.sun.management.ThreadMXBean ROOM =
        (com.sun.management.ThreadMXBean) ManagementFactory.getThreadMXBean();
    /** What the machine itself may take for measuring. */
    private static final long SLACK = 64 * 1024;

    public static void main(String[] args) {
        SetAsMeant x = new SetAsMeant();
        long fresh = taken();
        SetAsMeant y = new SetAsMeant();
        fresh = taken() - fresh;
        calls(x, 20);
        long before = taken();
        calls(x, 100);
        long made = taken() - before;
        System.out.println("a new object takes " + fresh + " bytes, a hundred rounds of all calls " + made);
        if (y.digest() != new SetAsMeant().digest() || fresh > 200_000 || made > SLACK) {
            System.out.println("that is too much");
            System.exit(1);
        }
        System.out.println("all answers are as due");
    }

    private static long taken() {
        return ROOM.getThreadAllocatedBytes(Thread.currentThread().getId());
    }

    private static void calls(SetAsMeant x, int rounds) {
        for (int i = 0; i < rounds; i++) {
            x.text(0, 18);
            put(x, "lABbCdDEsEFAuBACiF");
            x.put(0, 17, 'F');
            x.text(1, 19);
            x.fault(0);
            x.press(0);
            x.text(0, 16);
            put(x, "lABbCdDEsEFAuBAC");
            x.press(0);
            x.law(0, 0);
            x.mark(1, 1);
            x.mark(3, 3);
            x.hush(0, 1);
            x.hush(0, 0);
            x.swap(0, 1);
            x.row(0, 6);
            x.lay(0, 1, 3);
            x.lay(0, 2, 4);
            x.at(0, 1);
            x.mean(0);
            x.row(5, 2);
            x.copy(0, 0, 5, 0, 2);
            x.tear(5);
            x.set(0, 1);
            x.by(0, 1);
            x.first(0);
            x.again(0, 2, 2);
            x.rests(0);
            x.same(0, 0);
            x.meant(1, 6);
            x.smallest(1, 2);
            x.outs(4);
            x.twins(4, 3);
            x.harmless(3, 6);
            x.believed(1, 3, 2);
            x.forbid(1);
            x.silence(0, 1);
            x.which(0, 1);
            x.kinds(0, 0, 1);
            x.odds(0, 1, 5);
            x.mid(0, 5);
            x.print(0);
            x.ink(0);
            x.keep(0);
            x.undo(0);
            x.on(0);
            x.drawer(0, 4);
            x.lots(20, 7);
            x.asked();
            x.upper();
            x.lower();
            x.count(3);
            x.finding();
            x.findings(1);
            x.digest();
        }
    }

    private static void put(SetAsMeant x, String s) {
        for (int i = 0; i < s.length(); i++) {
            x.put(0, i, s.charAt(i));
        }
    }
}
