/** Promises 1 to 6. */
public final class MachinesTest {
    public static void main(String[] args) {
        newObject();
        tick();
        lost();
        side();
        down();
        downPeer();
        up();
        ofMachine();
        Check.end("MachinesTest");
    }

    private static void newObject() {
        Orderledger x = new Orderledger();
        Orderledger other = new Orderledger();
        other.tick(6);
        other.sample(0, 0);
        for (int k = 0; k < 14; k++) {
            Check.same("new house " + k, x.house(k), 0);
        }
        for (int k = 0; k < 11; k++) {
            Check.same("new machine up " + k, x.ofMachine(k, 0), 1);
            Check.same("new machine side " + k, x.ofMachine(k, 1), 0);
            Check.same("new machine with " + k, x.ofMachine(k, 2), 2047 - (1 << k));
        }
        int[] orderer = {0, 0, -1, 0, 0, 0, 0, -1, 0, 7, 0, 0};
        for (int k = 0; k < 5; k++) {
            for (int w = 0; w < 12; w++) {
                Check.same("new orderer " + k + " " + w, x.ofOrderer(k, w), orderer[w]);
            }
            Check.same("new queue " + k, x.queue(k), "");
        }
        for (int p = 0; p < 6; p++) {
            int[] peer = {0, p % 3, 7, 0, 0, 0, 0, 0, 0, 0};
            for (int w = 0; w < 10; w++) {
                Check.same("new peer " + p + " " + w, x.ofPeer(p, w), peer[w]);
            }
            Check.same("new state " + p, x.state(p), "");
            Check.same("new version " + p, x.version(p, 63), "-");
        }
        for (int k = 0; k < 4; k++) {
            Check.same("new sheet " + k, x.text(k), "");
            Check.same("new fault " + k, x.fault(k, false), 0);
            Check.same("new fault as a policy " + k, x.fault(k, true), 0);
        }
        Check.same("new messages", x.messages(), 0);
        Check.same("new sound", x.isSound(), true);
        Check.same("new digest", x.digest(), new Orderledger().digest());
    }

    private static void tick() {
        Orderledger x = new Orderledger();
        Check.same("tick(1)", x.tick(1), 1);
        Check.same("tick(2)", x.tick(2), 3);
        Check.same("nobody stands yet", x.messages(), 0);
        Check.same("tick to 4", x.tick(1), 4);
        Check.same("the orderer 0 stands", x.ofOrderer(0, 0), 1);
        Check.same("two asks", x.messages(), 2);
        Check.same("first ask", x.message(0), "0>1 ask 1 0 0");
        Check.same("second ask", x.message(1), "0>2 ask 1 0 0");
        x.tick(1);
        Check.same("first say", x.message(0), "1>0 say 1 yes");
        Check.same("second say", x.message(1), "2>0 say 1 yes");
        x.tick(1);
        Check.same("the orderer 0 leads", x.ofOrderer(0, 0), 2);
        Check.same("first append", x.message(0), "0>1 append 1 0 0 1 0");
        Check.same("second append", x.message(1), "0>2 append 1 0 0 1 0");
        x.tick(2);
        Check.same("committed", x.ofOrderer(0, 5), 1);
        Check.same("tick(20)", x.tick(20), 28);
        Check.same("one leader, one term", x.house(6) * 10 + x.house(8), 11);
        Orderledger y = new Orderledger();
        y.tick(20);
        y.tick(8);
        Check.same("many ticks at once are so many ticks", y.digest(), x.digest());
        for (int many : new int[] {0, 21, -1, Integer.MIN_VALUE, Integer.MAX_VALUE}) {
            Check.argument(x, "tick " + many, () -> x.tick(many));
        }
    }

    private static void lost() {
        Orderledger x = new Orderledger();
        x.tick(4);
        x.side(1, 1);
        x.down(2);
        Check.same("the post goes on", x.messages(), 2);
        x.tick(1);
        Check.same("parted or down: lost", x.house(4), 2);
        Orderledger y = new Orderledger();
        y.tick(4);
        y.down(0);
        y.side(1, 1);
        y.side(0, 1);
        y.side(2, 2);
        y.tick(1);
        Check.same("a sender that is down does not matter, its side does", y.house(4), 1);
        Check.same("the one that got it says so", y.message(0), "1>0 say 1 yes");
        y.up(0);
        y.tick(1);
        Check.same("a follower gets a say in vain", y.ofOrderer(0, 0), 0);
        Check.same("sent", y.house(3), 3);
    }

    private static void side() {
        Orderledger x = new Orderledger();
        Check.same("side before", x.side(10, 2), 0);
        Check.same("side then", x.side(10, 0), 2);
        Check.same("side the same", x.side(0, 0), 0);
        x.side(0, 1);
        Check.same("told", x.ofMachine(0, 1), 1);
        Check.index(x, "side of -1", () -> x.side(-1, 0));
        Check.index(x, "side of 11", () -> x.side(11, 0));
        Check.index(x, "side of 11, side 3", () -> x.side(11, 3));
        Check.argument(x, "side 3", () -> x.side(0, 3));
        Check.argument(x, "side -1", () -> x.side(10, -1));
    }

    private static void down() {
        Orderledger x = Check.led(0);
        x.size(2);
        x.propose(0, 1, 2, 0);
        x.endorse(0, 0);
        x.submit(0, 0);
        Check.same("down", x.down(0), 10);
        int[] due = {0, 1, 0, 1, 1, 0, 0, -1, 0, 7, 0, 0};
        for (int w = 0; w < 12; w++) {
            Check.same("a leader that went down " + w, x.ofOrderer(0, w), due[w]);
        }
        Check.same("its queue", x.queue(0), "");
        Check.same("down, the next", x.down(10), 9);
        Check.refused(x, "down again", () -> x.down(0));
        Check.refused(x, "down again, a peer", () -> x.down(10));
        Check.index(x, "down -1", () -> x.down(-1));
        Check.index(x, "down 11", () -> x.down(11));
        for (int k = 1; k < 10; k++) {
            x.down(k);
        }
        Check.same("all are down", x.ofMachine(3, 2), 0);
        int sent = x.house(3);
        Check.same("time goes on", x.tick(20), 29);
        Check.same("nothing is sent", x.house(3), sent);
        Check.same("the greatest commit that ever was", x.house(7), 1);
    }

    private static void downPeer() {
        Orderledger x = Check.led(3);
        x.propose(0, 1, 55, 2);
        x.endorse(0, 0);
        x.endorse(0, 2);
        Check.same("held back", x.ofPeer(0, 8), 1);
        x.lie(0, true);
        x.down(5);
        Check.same("held back is lost", x.ofPeer(0, 8), 0);
        Check.same("the lie stays", x.ofPeer(0, 9), 1);
        x.up(5);
        Check.same("and does not come again", x.ofPeer(0, 8), 0);
        x.down(7);
        Check.order(x, 0);
        Check.same("an endorser without it misses it", x.holds(0, 0, 1), 2);
        Check.same("a peer that is down takes nothing", x.ofPeer(2, 0), 0);
        Check.same("the others do", x.ofPeer(1, 0), 1);
        x.up(7);
        x.tick(1);
        Check.same("up again, it takes", x.block(2, 0), "0:0");
    }

    private static void up() {
        Orderledger x = new Orderledger();
        Check.refused(x, "up, but up", () -> x.up(4));
        x.down(4);
        x.down(5);
        Check.same("up", x.up(4), 10);
        Check.same("up", x.up(5), 11);
        Check.refused(x, "up again", () -> x.up(5));
        Check.index(x, "up -1", () -> x.up(-1));
        Check.index(x, "up 11", () -> x.up(11));
        x.tick(3);
        x.down(0);
        x.tick(1);
        x.up(0);
        x.tick(1);
        Check.same("it waits anew", x.ofOrderer(0, 6), 1);
    }

    private static void ofMachine() {
        Orderledger x = new Orderledger();
        x.side(1, 1);
        x.side(6, 1);
        x.side(9, 1);
        x.down(9);
        Check.same("together", x.ofMachine(1, 2), 64);
        Check.same("of one that is down", x.ofMachine(9, 2), 2 + 64);
        Check.same("is down", x.ofMachine(9, 0), 0);
        Check.same("its side", x.ofMachine(9, 1), 1);
        Check.same("the others", x.ofMachine(0, 2), 2047 - 1 - 2 - 64 - 512);
        Check.index(x, "machine -1", () -> x.ofMachine(-1, 0));
        Check.index(x, "machine 11", () -> x.ofMachine(11, 5));
        Check.argument(x, "what 3", () -> x.ofMachine(0, 3));
        Check.argument(x, "what -1", () -> x.ofMachine(10, -1));
    }
}
