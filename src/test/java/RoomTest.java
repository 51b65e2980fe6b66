import com.sun.management.ThreadMXBean;
import java.lang.management.ManagementFactory;

/** A run's calls share one room of objects: the dear ones make next to none, and the dearest runs stay small. */
public final class RoomTest {
    /** Some 7.3 million elements of at least four bytes, and the objects' heads. */
    private static final long ROOM = 30_000_000L;
    private static final long LITTLE = 200_000L;

    public static void main(String[] args) {
        full();
        restless();
        texts();
        Check.end("RoomTest");
    }

    private static long used() {
        return ((ThreadMXBean) ManagementFactory.getThreadMXBean()).getCurrentThreadAllocatedBytes();
    }

    private static void small(String what, long before, long bound) {
        long made = used() - before;
        Check.same(what + " made " + made + " bytes, fewer than " + bound, made < bound, true);
    }

    /** Many keys, proposals, long results and blocks; then nothing but looking at all of that. */
    private static void full() {
        long start = used();
        Orderledger x = Check.led(0);
        Check.write(x, 0, "each k in 0 .. 40 do put k = get k + x end ; put x = 1 ; put x + 1 = 2 ; secret 0 = x ; "
                + "secret 1 = x ; secret 2 = x ; secret 3 = x ; secret 4 = x");
        for (int k = 0; k < 50; k++) {
            x.propose(0, k < 20 ? 2 * k : k % 30, 1, 1);
            for (int p = 0; p < 6; p++) {
                x.endorse(k, p);
            }
            x.submit(k, 0);
            x.tick(4);
        }
        Check.same("many keys", x.ofPeer(0, 3), 45);
        small("a full ledger", start, ROOM / 3);
        long before = used();
        long d = x.digest();
        for (int k = 0; k < 512; k++) {
            d += x.digest();
        }
        small("512 digests", before, LITTLE);
        before = used();
        boolean isSound = true;
        for (int k = 0; k < 512; k++) {
            isSound = isSound && x.isSound();
        }
        Check.same("sound", isSound && d != 0, true);
        small("512 times isSound", before, LITTLE);
        before = used();
        for (int k = 0; k < 512; k++) {
            x.tick(20);
            x.would(k % 50, k % 6);
            x.lose(k % 6);
            x.fault(0, k % 2 == 0);
        }
        small("512 times tick and others", before, LITTLE);
    }

    /** Terms without end: machines go down, come up, and are parted in turn. */
    private static void restless() {
        long start = used();
        Orderledger x = new Orderledger();
        for (int k = 0; k < 128; k++) {
            x.tick(20);
            x.side(k % 3, (k + 1) % 3);
            x.tick(20);
            x.side(k % 3, 0);
        }
        Check.same("many terms", x.house(8) > 80, true);
        small("256 times 20 ticks of unrest", start, ROOM / 10);
        start = used();
        Orderledger y = Check.led(0);
        y.member(0, 2, false);
        y.tick(4);
        y.member(0, 1, false);
        y.tick(4);
        y.down(1);
        for (int k = 0; k < 160; k++) {
            y.down(0);
            y.up(0);
            y.tick(20);
        }
        Check.same("many leaders", y.house(8) > 160, true);
        small("many leaders", start, ROOM / 10);
    }

    private static void texts() {
        Orderledger x = Check.led(0);
        Check.write(x, 0, "put x = 1 ; put x + 1 = 2 ; put x + 2 = 3 ; put x + 3 = 4");
        for (int k = 0; k < 5; k++) {
            Check.order(x, x.propose(0, 4 * k, 1, 1), 0);
        }
        String loop = "each i in 0 .. 40 do let k = get i end";
        Check.write(x, 1, loop + " ; " + loop + " ; " + loop + " ; " + loop);
        long start = used();
        for (int k = 5; k < 50; k++) {
            x.propose(1, 6, 1, 1);
            for (int p = 0; p < 6; p++) {
                x.endorse(k, p);
            }
        }
        Check.same("long results", x.result(49, 5).length() > 500, true);
        small("45 proposals with long results", start, ROOM / 5);
        start = used();
        int all = 0;
        for (int k = 0; k < 512; k++) {
            all += x.result(49, k % 6).length() + x.state(k % 6).length() + x.text(0).length();
        }
        Check.same("long texts", all > 512 * 700, true);
        small("512 times three texts", start, ROOM / 10);
    }
}
