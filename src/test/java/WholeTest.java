import java.util.ArrayList;
import java.util.List;

/** Promises 38 to 42. */
public final class WholeTest {
    public static void main(String[] args) {
        house();
        refusals();
        blankAndKnock();
        isSound();
        digest();
        digestSeesAll();
        Check.end("WholeTest");
    }

    private static void house() {
        Orderledger x = Check.led(0, 1);
        int[] led = {9, 0, 0, 14 + 4, 0, 1, 1, 1, 1, 0, 0, 0, 0, 0};
        for (int w = 0; w < 14; w++) {
            Check.same("house " + w, x.house(w), led[w]);
        }
        x.propose(0, 1, 2, 0);
        x.propose(1, 1, 2, 5);
        x.endorse(0, 1);
        x.endorse(0, 4);
        x.endorse(1, 0);
        x.endorse(0, 1);
        x.submit(0, 0);
        x.submit(0, 0);
        x.submit(0, 2);
        x.tick(6);
        x.side(0, 1);
        x.blank();
        x.knock();
        x.knock();
        x.blank();
        x.blank();
        x.tick(15);
        int[] due = {30, 2, 2, x.house(3), x.house(4), 2, 2, 4, 2, 2, 2, 2, 3, 2};
        for (int w = 0; w < 14; w++) {
            Check.same("house then " + w, x.house(w), due[w]);
        }
        Check.same("sent, lost", x.house(3) > x.house(4) && x.house(4) >= 30, true);
        x.down(1);
        x.down(2);
        Check.same("leaders that are up", x.house(6), 1);
        Check.same("the greatest commit that ever was", x.house(7), 4);
        Check.same("the greatest term", x.house(5), 2);
        for (int w : new int[] {-1, 14, Integer.MIN_VALUE, Integer.MAX_VALUE}) {
            Check.argument(x, "house " + w, () -> x.house(w));
        }
    }

    /** Each kind of REFUSED counts. */
    private static void refusals() {
        Orderledger x = Check.led(0, 6);
        x.propose(0, 1, 2, 0);
        Check.refused(x, "submit", () -> x.submit(0, 0));
        Check.refused(x, "propose", () -> x.propose(1, 1, 2, 0));
        Check.refused(x, "ruling", () -> x.ruling(1, 0));
        Check.refused(x, "member", () -> x.member(0, 0, true));
        Check.refused(x, "up", () -> x.up(3));
        x.down(10);
        Check.refused(x, "down", () -> x.down(10));
        Check.refused(x, "endorse", () -> x.endorse(0, 5));
        Check.refused(x, "lose", () -> x.lose(5));
        Check.same("in all", x.house(11), 8);
    }

    private static void blankAndKnock() {
        Orderledger x = new Orderledger();
        String before = Check.look(new Orderledger(), true);
        Check.same("blank", x.blank(), -9);
        Check.same("blank again", x.blank(), -9);
        Check.same("counted", x.house(12), 2);
        Check.same("not as REFUSED", x.house(11), 0);
        for (int k = 1; k < 5; k++) {
            Check.same("knock", x.knock(), k);
        }
        Check.same("counted", x.house(13), 4);
        Check.same("nothing else", Check.look(x, true).replaceFirst("/2/4/", "/0/0/"), before);
    }

    /** It is so in whatever comes of calls; the runs of ModelTest look at many more. */
    private static void isSound() {
        Orderledger x = Check.led(3, 4, 0);
        Check.same("sound", x.isSound(), true);
        for (int k = 0; k < 12; k++) {
            x.propose(k % 3, k % 4, 5, k);
            x.lie(k % 6, k % 2 == 0);
            for (int p = 0; p < 6; p++) {
                x.endorse(k, (p * 5 + k) % 6);
                x.side((p * 7 + k) % 11, p % 3 == 0 ? 1 : 0);
            }
            for (int o = 0; o < 5; o++) {
                x.submit(k, o);
            }
            x.member(k % 3, 3, k % 2 == 0);
            x.tick(3 + k);
            x.down(k % 11);
            x.up((k + 9) % 11);
            x.lose(k % 6);
            Check.same("sound " + k, x.isSound(), true);
        }
    }

    private static final class Sum {
        long d = 7681;

        void add(int v) {
            d = d * 31 + v;
        }

        void add(String s) {
            for (char c : s.toCharArray()) {
                add(c);
            }
        }
    }

    /** By the document's order. */
    static long sum(Orderledger x) {
        Sum s = new Sum();
        for (int w = 0; w < 14; w++) {
            s.add(x.house(w));
        }
        for (int m = 0; m < 11; m++) {
            for (int w = 0; w < 3; w++) {
                s.add(x.ofMachine(m, w));
            }
        }
        for (int o = 0; o < 5; o++) {
            for (int w = 0; w < 12; w++) {
                s.add(x.ofOrderer(o, w));
            }
            for (int n = 1; n <= x.ofOrderer(o, 3); n++) {
                s.add(x.entry(o, n));
            }
            s.add(x.queue(o));
        }
        for (int k = 0; k < x.messages(); k++) {
            s.add(x.message(k));
        }
        for (int k = 0; k < 4; k++) {
            s.add(x.text(k));
            s.add(x.fault(k, false));
            s.add(x.fault(k, true));
        }
        for (int p = 0; p < x.house(1); p++) {
            for (int w = 0; w < 9; w++) {
                s.add(x.ofProposal(p, w));
            }
            for (int q = 0; q < 6; q++) {
                s.add(x.result(p, q));
            }
        }
        for (int p = 0; p < 6; p++) {
            addPeer(x, p, s);
        }
        s.add(x.isSound() ? 1 : 0);
        return s.d;
    }

    private static void addPeer(Orderledger x, int p, Sum s) {
        for (int w = 0; w < 10; w++) {
            s.add(x.ofPeer(p, w));
        }
        s.add(x.state(p));
        for (int b = 0; b < x.ofPeer(p, 0); b++) {
            s.add(x.block(p, b));
            s.add(x.hash(p, b));
        }
        for (int c = 0; c < 4; c++) {
            for (int k = 0; k < 5; k++) {
                s.add(x.holds(p, c, k));
                s.add(x.secret(p, c, k));
            }
        }
    }

    private static Orderledger busy() {
        Orderledger x = Check.led(3, 0, 7, 6);
        x.size(3);
        for (int k = 0; k < 8; k++) {
            x.propose(k % 2, k % 3, 5, k % 4);
            x.endorse(k, k % 6);
            x.endorse(k, (k + 2) % 6);
            x.submit(k, 0);
            x.tick(1);
        }
        x.ruling(2, 2);
        x.endorse(8, 0);
        x.endorse(8, 5);
        x.down(10);
        x.tick(2);
        x.member(0, 4, true);
        x.side(6, 1);
        x.submit(8, 0);
        x.submit(1, 0);
        x.up(10);
        x.tick(1);
        x.submit(2, 0);
        return x;
    }

    private static void digest() {
        Orderledger x = new Orderledger();
        Check.same("of a new one", x.digest(), sum(x));
        Orderledger y = busy();
        Check.same("of a busy one", y.digest(), sum(y));
        Check.same("it changes nothing", y.digest(), busy().digest());
        y.tick(10);
        Check.same("of that later", y.digest(), sum(y));
    }

    /** Each call that changes something changes it. */
    private static void digestSeesAll() {
        List<Long> seen = new ArrayList<>();
        for (int k = 0; k < 20; k++) {
            Orderledger x = busy();
            switch (k) {
                case 0: break;
                case 1: x.tick(1); break;
                case 2: x.side(3, 2); break;
                case 3: x.down(4); break;
                case 4: x.blank(); break;
                case 5: x.knock(); break;
                case 6: x.submit(0, 0); break;
                case 7: x.type(0, 131, -1, -1, -1, -1); break;
                case 8: x.cut(3, 1); break;
                case 9: x.sample(3, 0); break;
                case 10: x.propose(0, 1, 1, 1); break;
                case 11: x.ruling(0, 2); break;
                case 12: x.endorse(7, 4); break;
                case 13: x.lie(4, true); break;
                case 14: x.source(4, 4); break;
                case 15: x.lose(0); break;
                case 16: Check.same("up, but up", x.up(4), -9); break;
                case 17: x.down(0); break;
                case 18: x.down(9); break;
                default: x.side(10, 1); break;
            }
            Check.same("the change " + k + " is seen", seen.contains(x.digest()), false);
            seen.add(x.digest());
        }
    }
}
