/** The edges of the promises 38 to 42: house() by what was done, isSound() and digest() at the ends of a run. */
public final class WholeEdgesTest {
    public static void main(String[] args) {
        messagesAndLost();
        termsAndLeaders();
        commitsAndHeights();
        lastOnes();
        counts();
        soundInTheMiddle();
        soundWithOldSecrets();
        soundWithSecretsOfPlaces();
        soundWithAllCodes();
        digestsByHand();
        longestRun();
        Check.end("WholeEdgesTest");
    }

    private static void house(Orderledger x, String what, int... pairs) {
        for (int k = 0; k < pairs.length; k += 2) {
            Check.same(what + ": house " + pairs[k], x.house(pairs[k]), pairs[k + 1]);
        }
    }

    private static void messagesAndLost() {
        Orderledger x = new Orderledger();
        house(x, "at first", 0, 0, 3, 0, 4, 0);
        x.tick(3);
        house(x, "nothing yet", 0, 3, 3, 0, 4, 0);
        x.tick(1);
        house(x, "asks", 0, 4, 3, 2, 4, 0);
        x.side(1, 1);
        house(x, "lost only as it is delivered", 3, 2, 4, 0);
        x.tick(1);
        house(x, "one lost, one answered", 3, 3, 4, 1);
        x.tick(1);
        house(x, "two appends, and the two asks of 1, that stands elsewhere", 3, 7, 4, 1, 6, 1);
        x.down(2);
        x.tick(1);
        house(x, "all four lost, two more", 3, 9, 4, 5);
        x.up(2);
        x.tick(1);
        house(x, "one lost, one told, two more", 3, 12, 4, 6);
    }

    private static void termsAndLeaders() {
        Orderledger x = new Orderledger();
        x.side(0, 1);
        x.tick(5);
        house(x, "one stood", 5, 1, 6, 0, 8, 0);
        x.tick(3);
        house(x, "1 leads the term 1, 0 stood for the term 2", 5, 2, 6, 1, 8, 1);
        x.tick(12);
        house(x, "terms without a leader do not count", 5, 5, 6, 1, 8, 1);
        x.down(0);
        house(x, "a term stays with one that is down", 5, 5);
        x.down(1);
        house(x, "a leader that is down is none", 6, 0, 8, 1);
        Orderledger y = Check.led(0);
        y.side(0, 1);
        y.tick(8);
        house(y, "two leaders, of two terms", 5, 2, 6, 2, 8, 2);
        y.side(0, 0);
        y.tick(2);
        house(y, "one of them stepped down", 5, 2, 6, 1, 8, 2);
    }

    private static void commitsAndHeights() {
        Orderledger x = Check.led(0);
        house(x, "one entry", 7, 1, 9, 0);
        x.propose(0, 1, 1, 0);
        x.endorse(0, 0);
        for (int p = 0; p < 6; p++) {
            if (p != 1) {
                x.down(5 + p);
            }
        }
        x.submit(0, 0);
        x.tick(2);
        house(x, "laid, not committed", 7, 1, 9, 0);
        x.tick(1);
        house(x, "committed", 7, 2, 9, 0);
        x.tick(1);
        Check.same("by its own source", x.ofPeer(1, 0), 1);
        house(x, "the peer 1 alone has it", 7, 2, 9, 1);
        Check.same("sound", x.isSound(), true);
        x.down(6);
        house(x, "though it is down", 9, 1);
        for (int o = 0; o < 5; o++) {
            x.down(o);
        }
        house(x, "that there ever was", 7, 2);
        Check.same("nobody knows it", x.ofOrderer(0, 5) + x.ofOrderer(1, 5) + x.ofOrderer(2, 5), 0);
        x.up(5);
        x.up(10);
        x.tick(1);
        Check.same("one that is down gives none", x.ofPeer(0, 0) + x.ofPeer(5, 0), 0);
        x.up(6);
        x.tick(1);
        Check.same("up, it does", x.ofPeer(0, 0) + x.ofPeer(5, 0), 2);
        Check.same("sound", x.isSound(), true);
    }

    /** The last ones count as any: the peer 5, the orderer 4. */
    private static void lastOnes() {
        Orderledger x = Check.five(0);
        x.propose(0, 1, 1, 0);
        x.endorse(0, 0);
        for (int p = 0; p < 5; p++) {
            x.down(5 + p);
        }
        x.source(5, 4);
        x.submit(0, 0);
        x.tick(4);
        Check.same("the peer 5 alone", x.ofPeer(5, 0), 1);
        house(x, "its height", 9, 1);
        Check.same("sound", x.isSound(), true);
        for (int o = 0; o < 4; o++) {
            x.down(o);
        }
        x.tick(12);
        Check.orderer(x, "the orderer 4 stands", 4, 1, 2, 4);
        house(x, "its term", 5, 2, 6, 0, 8, 1);
        x.up(0);
        x.up(1);
        x.tick(2);
        Check.orderer(x, "the orderer 4 leads", 4, 2, 2, 4);
        house(x, "one leader", 5, 2, 6, 1, 8, 2);
    }

    private static void counts() {
        Orderledger x = Check.led(0, 6);
        house(x, "at first", 1, 0, 2, 0, 10, 0, 11, 0, 12, 0, 13, 0);
        x.propose(0, 1, 1, 0);
        x.ruling(2, 1);
        x.propose(1, 1, 1, 1);
        house(x, "proposals and rulings", 1, 2, 11, 1);
        x.endorse(0, 0);
        x.endorse(0, 0);
        x.endorse(1, 5);
        house(x, "endorsements", 10, 2, 11, 2);
        x.submit(0, 0);
        x.submit(0, 0);
        x.submit(1, 0);
        x.submit(1, 1);
        house(x, "submitted", 2, 3, 11, 3);
        x.down(0);
        house(x, "also what was dropped", 2, 3);
        for (int k = 0; k < 3; k++) {
            x.blank();
        }
        for (int k = 0; k < 4; k++) {
            x.knock();
        }
        house(x, "blanks and knocks", 11, 3, 12, 3, 13, 4);
    }

    /** Parted, queued, not committed, held back, down. */
    private static void soundInTheMiddle() {
        Orderledger x = new Orderledger();
        Check.same("a new one", x.isSound(), true);
        for (int k = 0; k < 12; k++) {
            x.tick(1);
            Check.same("while they vote, " + k, x.isSound(), true);
        }
        x.sample(0, 3);
        x.propose(0, 1, 2, 3);
        x.endorse(0, 0);
        Check.same("held back", x.isSound(), true);
        x.submit(0, 0);
        Check.same("queued", x.isSound(), true);
        x.side(0, 1);
        x.tick(4);
        Check.same("laid by one that is alone", x.isSound(), true);
        x.tick(10);
        Check.same("two leaders", x.house(6) * 10 + (x.isSound() ? 1 : 0), 21);
        x.side(0, 0);
        for (int k = 0; k < 6; k++) {
            x.tick(1);
            Check.same("as they join, " + k, x.isSound(), true);
        }
        int leader = x.ofOrderer(1, 0) == 2 ? 1 : 2;
        x.submit(0, leader);
        x.tick(6);
        Check.same("taken", x.ofPeer(0, 0) * 10 + x.holds(0, 0, 1), 11);
        Check.same("with a secret", x.isSound(), true);
        for (int k = 0; k < 11; k++) {
            x.down(k);
        }
        Check.same("all down", x.isSound(), true);
    }

    /** Executed anew with all secrets that there ever were: also those that nobody holds any more. */
    private static void soundWithOldSecrets() {
        Orderledger x = Check.led(3, 4, 0);
        Check.order(x, x.propose(0, 1, 55, 2), 0);
        x.sample(0, 4);
        Check.order(x, x.propose(0, 1, 55, 30), 2);
        Check.same("opened", x.block(0, 1) + x.result(1, 2), "1:0r45@0.0 w30x t0");
        Check.same("while it is held", x.isSound(), true);
        for (int k = 0; k < 6; k++) {
            Check.order(x, x.propose(2, k, 1, 0), 3);
        }
        Check.same("nobody holds it", x.holds(0, 0, 1) + x.ofPeer(2, 6) + x.would(1, 2), 3);
        Check.same("all the same", x.isSound(), true);
        x.sample(0, 3);
        Check.order(x, x.propose(0, 1, 66, 3), 1);
        x.sample(0, 4);
        Check.order(x, x.propose(0, 1, 66, 31), 0);
        Check.same("with another one of that number", x.block(0, 9) + x.isSound(), "9:0true");
        for (int p = 0; p < 6; p++) {
            x.lose(p);
        }
        Check.same("all of them lost", x.isSound(), true);
    }

    /** A secret of the last place of a block, opened in the block behind it. */
    private static void soundWithSecretsOfPlaces() {
        Orderledger x = Check.led(0, 3);
        x.size(4);
        for (int k = 0; k < 4; k++) {
            int p = k < 3 ? x.propose(0, k, 1, 0) : x.propose(1, 4, 77, 9);
            x.endorse(p, 2);
            x.submit(p, 0);
        }
        x.tick(4);
        Check.same("the last place", x.version(5, 53) + " " + x.secret(2, 1, 4), "0.3 77");
        x.sample(1, 4);
        x.size(1);
        Check.order(x, x.propose(1, 4, 77, 1), 3);
        Check.same("opened", x.block(0, 1) + " " + x.result(4, 3), "4:0 r53@0.3 w1x t0");
        Check.same("sound", x.isSound(), true);
    }

    /** Of a lie alone nothing is executed anew; what is not VALID is neither executed nor written. */
    private static void soundWithAllCodes() {
        Orderledger x = Check.led(0, 0, 0, 6);
        Check.write(x, 1, "put 5 = y ; each k in 30 .. 40 do tell k end");
        Check.write(x, 2, "put 20 = get 1 + x");
        x.size(4);
        x.lie(1, true);
        int lie = x.propose(0, 1, 1, 0);
        x.endorse(lie, 1);
        int read = x.propose(2, 7, 0, 0);
        x.endorse(read, 0);
        int blind = x.propose(1, 0, 9, 0);
        x.endorse(blind, 1);
        x.endorse(blind, 4);
        for (int p : new int[] {lie, read, lie, blind}) {
            x.submit(p, 0);
        }
        x.tick(4);
        Check.same("codes", x.block(0, 0), "0:0 1:3 0:1 2:0");
        Check.same("of two with one each, the first: the liar's", x.state(0), "1=2 5=10");
        Check.same("sound", x.isSound(), true);
        x.submit(blind, 0);
        int range = x.propose(1, 0, 8, 0);
        x.endorse(range, 0);
        int write = x.propose(0, 35, 3, 0);
        x.endorse(write, 2);
        x.submit(write, 0);
        x.submit(range, 0);
        int last = x.propose(2, 1, 0, 0);
        x.endorse(last, 3);
        x.submit(last, 0);
        x.tick(4);
        Check.same("codes", x.block(0, 1), "2:1 4:0 3:4 5:0");
        Check.same("state", x.state(3), "1=2 5=10 20=3 35=3");
        Check.same("sound", x.isSound(), true);
        int rule = x.ruling(0, 3);
        x.endorse(rule, 0);
        x.endorse(rule, 3);
        x.submit(rule, 0);
        int policy = x.propose(0, 36, 4, 0);
        x.endorse(policy, 0);
        x.submit(policy, 0);
        x.submit(policy, 0);
        x.tick(6);
        Check.same("codes", x.block(0, 2), "6:0 7:2 7:1");
        Check.same("sound", x.isSound(), true);
        x.lose(0);
        x.side(6, 1);
        int more = x.propose(0, 37, 4, 0);
        x.endorse(more, 3);
        x.submit(more, 0);
        x.tick(6);
        Check.same("one is behind, one lost all", x.ofPeer(0, 0) * 10 + x.ofPeer(1, 0), 43);
        Check.same("sound", x.isSound(), true);
        Check.same("counts", x.ofPeer(0, 4) * 10 + x.ofPeer(0, 5), 66);
    }

    /** Reckoned by the document's order, apart from any program that the ledger is made of. */
    private static void digestsByHand() {
        Orderledger x = new Orderledger();
        Check.same("a new one", x.digest(), -1981862959351907442L);
        Check.same("again", x.digest(), -1981862959351907442L);
        x.tick(4);
        Check.same("two asks", x.digest(), -7410072073385801603L);
        x.tick(1);
        Check.same("two says", x.digest(), -3834621183444774789L);
        Orderledger y = new Orderledger();
        y.sample(0, 0);
        y.size(1);
        y.tick(9);
        y.propose(0, 5, 7, 0);
        y.endorse(0, 0);
        y.endorse(0, 2);
        y.submit(0, 0);
        y.tick(4);
        y.knock();
        y.blank();
        y.up(0);
        Check.same("the hash", y.hash(5, 0), 662029138);
        Check.same("one block, and of each count one", y.digest(), 4180493955068766530L);
        y.knock();
        Check.same("one knock more: the last one of house()", y.digest() != 4180493955068766530L, true);
    }

    /** 512 calls: the last ones are digest() and isSound(); what they tell is what a twin of 510 calls tells. */
    private static void longestRun() {
        Orderledger x = fiftyBlocks();
        Orderledger twin = fiftyBlocks();
        long digest = x.digest();
        Check.same("sound at the 512th call", x.isSound(), true);
        Check.same("the digest at the 511th", digest, WholeTest.sum(twin));
        house(twin, "then", 0, 223, 1, 50, 2, 50, 4, 0, 5, 1, 6, 1, 7, 51, 8, 1, 9, 50, 10, 50, 11, 0, 12, 52, 13, 52);
        StringBuilder due = new StringBuilder();
        for (int key = 0; key < 40; key++) {
            due.append(key > 0 ? " " : "").append(key).append('=').append(key < 10 ? 3 : 1);
        }
        for (int p = 0; p < 6; p++) {
            Check.same("state of " + p, twin.state(p), due.toString());
            Check.same("of the peer " + p, twin.ofPeer(p, 0) * 10000 + twin.ofPeer(p, 4) * 100 + twin.ofPeer(p, 5), 505000);
            Check.same("version of " + p, twin.version(p, 9) + " " + twin.version(p, 10), "49.0 10.0");
            Check.same("the last block", twin.block(p, 49), "49:0");
        }
    }

    /** Exactly 510 calls. */
    private static Orderledger fiftyBlocks() {
        Orderledger x = new Orderledger();
        x.sample(0, 0);
        x.size(1);
        x.tick(9);
        for (int k = 0; k < 50; k++) {
            x.propose(0, k % 40, k < 40 ? 1 : 2, 0);
            x.endorse(k, k % 6);
            x.submit(k, 0);
            x.tick(4);
        }
        for (int k = 0; k < 52; k++) {
            x.knock();
            x.blank();
        }
        for (int k = 0; k < 201; k++) {
            x.messages();
        }
        x.tick(14);
        x.lose(5);
        return x;
    }
}
