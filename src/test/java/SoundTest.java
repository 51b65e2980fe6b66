import java.lang.reflect.Array;
import java.lang.reflect.Field;
import java.util.List;

/**
 * Promise 41, where it tells no. No run of calls comes to that, so these tests change by hand what lies inside a
 * ledger, one thing at a time.
 */
public final class SoundTest {
    public static void main(String[] args) {
        logs();
        logsOfFive();
        terms();
        leaders();
        chains();
        states();
        executions();
        eachHonestPeer();
        allSecrets();
        secrets();
        Check.end("SoundTest");
    }

    /** Contract 0: put x = get x + y, contract 1: secret x = y ; put z = has z + 1. Five blocks, all of them valid. */
    private static Orderledger five() {
        Orderledger x = Check.led(0, 3);
        Check.order(x, x.propose(0, 1, 10, 0), 0, 2);
        x.lie(1, true);
        Check.order(x, x.propose(0, 2, 20, 0), 1);
        x.lie(1, false);
        Check.order(x, x.propose(1, 4, 30, 3), 2, 4);
        Check.order(x, x.propose(1, 3, 40, 0), 2, 4);
        Check.order(x, x.propose(0, 1, 11, 0), 3);
        Check.same("five blocks", x.ofPeer(0, 0) * 10 + x.ofPeer(0, 4), 55);
        Check.same("sound at first", x.isSound(), true);
        return x;
    }

    static Object inside(Object on, String name) {
        try {
            Field field = on.getClass().getDeclaredField(name);
            field.setAccessible(true);
            return field.get(on);
        } catch (ReflectiveOperationException e) {
            throw new IllegalStateException(e);
        }
    }

    static void put(Object on, String name, Object value) {
        try {
            Field field = on.getClass().getDeclaredField(name);
            field.setAccessible(true);
            field.set(on, value);
        } catch (ReflectiveOperationException e) {
            throw new IllegalStateException(e);
        }
    }

    static Object orderer(Orderledger x, int k) {
        return Array.get(inside(inside(x, "net"), "orderers"), k);
    }

    static Object peer(Orderledger x, int k) {
        return Array.get(inside(x, "peers"), k);
    }

    @SuppressWarnings("unchecked")
    private static List<Object> list(Object on, String name) {
        return (List<Object>) inside(on, name);
    }

    static int[] row(Object on, String name) {
        return (int[]) inside(on, name);
    }

    private static int[] stateRow(Orderledger x, int k, String name) {
        return row(inside(peer(x, k), "state"), name);
    }

    /** With that cell changed it is not sound; as it was, it is again. */
    private static void seen(Orderledger x, String what, int[] cells, int at, int by) {
        cells[at] += by;
        Check.same(what, x.isSound(), false);
        cells[at] -= by;
        Check.same(what + ", as it was", x.isSound(), true);
    }

    private static void logs() {
        Orderledger x = five();
        for (int k = 0; k < 3; k++) {
            for (int n = 0; n < 6; n++) {
                List<Object> log = list(orderer(x, k), "log");
                Object was = log.get(n);
                log.set(n, log.get(n == 0 ? 1 : n == 5 ? 4 : n + 1));
                Check.same("another entry " + n + " of " + k, x.isSound(), false);
                log.set(n, was);
                Check.same("as it was", x.isSound(), true);
            }
        }
        List<Object> log = list(orderer(x, 1), "log");
        x.down(1);
        log.set(3, log.get(4));
        Check.same("behind its commit there may be others", x.isSound(), true);
    }

    /** Each of all five, too. */
    private static void logsOfFive() {
        Orderledger x = Check.five();
        Check.same("sound", x.isSound(), true);
        for (int k = 0; k < 5; k++) {
            List<Object> log = list(orderer(x, k), "log");
            Object was = log.get(2);
            log.set(2, log.get(1));
            Check.same("another entry of " + k, x.isSound(), false);
            log.set(2, was);
            Check.same("as it was", x.isSound(), true);
        }
    }

    /** Behind the commit, where nothing but the terms is looked at. */
    private static void terms() {
        Orderledger x = five();
        x.down(0);
        for (int k = 0; k < 40 && x.house(8) < 2; k++) {
            x.tick(1);
        }
        x.tick(4);
        int leader = x.ofOrderer(1, 0) == 2 ? 1 : 2;
        Check.same("seven entries, the last one of another term", x.ofOrderer(leader, 3), 7);
        x.down(leader);
        Check.same("sound", x.isSound() && x.ofOrderer(leader, 5) == 0, true);
        List<Object> log = list(orderer(x, leader), "log");
        Object last = log.get(6);
        log.set(6, log.get(5));
        log.set(5, last);
        Check.same("the terms grow less", x.isSound(), false);
        log.set(5, log.get(6));
        log.set(6, last);
        Check.same("as it was", x.isSound(), true);
    }

    /** The row tells who led first in a term, and 1 more. */
    private static void leaders() {
        Orderledger x = new Orderledger();
        row(inside(x, "net"), "leaders")[1] = 3;
        x.tick(4);
        Check.same("nobody else leads yet", x.isSound(), true);
        x.tick(4);
        Check.same("two led in a term", x.isSound(), false);
        long digest = x.digest();
        put(inside(x, "net"), "hasSharedTerm", false);
        Check.same("the digest ends with it", x.digest(), digest + 1);
        Check.same("one again in its own term", again(0), true);
        Check.same("another one in that term", again(1), false);
    }

    /** After the orderer 0 led the term 1, all forget their terms, and that one stands first. */
    private static boolean again(int first) {
        Orderledger x = new Orderledger();
        x.tick(6);
        Check.same("one led", x.house(8) * 10 + x.ofOrderer(0, 0), 12);
        for (int k = 0; k < 3; k++) {
            x.down(k);
        }
        x.tick(1);
        for (int k = 0; k < 3; k++) {
            put(orderer(x, k), "term", 0);
            put(orderer(x, k), "vote", -1);
            list(orderer(x, k), "log").clear();
            if (k >= first) {
                x.up(k);
            }
        }
        x.tick(10);
        Check.same("the term has a leader again", x.ofOrderer(first, 0) * 10 + x.ofOrderer(first, 1), 21);
        return x.isSound();
    }

    private static void chains() {
        Orderledger x = five();
        for (int k = 0; k < 6; k++) {
            for (int n = 0; n < 5; n++) {
                seen(x, "the hash " + n + " of " + k, row(peer(x, k), "hashes"), n, 1);
                seen(x, "the code " + n + " of " + k, row(peer(x, k), "codes"), 4 * n, 3);
            }
        }
        List<Object> chain = list(peer(x, 4), "chain");
        Object was = chain.get(1);
        chain.set(1, chain.get(2));
        Check.same("another block", x.isSound(), false);
        chain.set(1, was);
        Orderledger y = Check.led(0);
        y.size(4);
        for (int k = 0; k < 4; k++) {
            y.propose(0, k, 1, 0);
            y.endorse(k, 0);
            y.submit(k, 0);
        }
        y.tick(4);
        for (int k = 0; k < 4; k++) {
            seen(y, "the code in the place " + k, row(peer(y, 5), "codes"), k, 1);
        }
        x.side(9, 1);
        Check.order(x, x.propose(0, 7, 7, 7), 0);
        Check.same("a shorter chain is a beginning", x.isSound() && x.ofPeer(4, 0) == 5, true);
        seen(x, "with the hashes", row(peer(x, 4), "hashes"), 4, 1);
        seen(x, "and the codes", row(peer(x, 4), "codes"), 16, 1);
    }

    private static void states() {
        Orderledger x = five();
        x.side(6, 1);
        Check.order(x, x.propose(0, 1, 12, 0), 0);
        Check.same("one is behind", x.ofPeer(1, 0) * 10 + x.ofPeer(0, 0), 56);
        for (int k = 0; k < 6; k++) {
            for (int key = 0; key < 64; key += 7) {
                seen(x, "the value " + key + " of " + k, stateRow(x, k, "values"), key, 1);
                seen(x, "the version " + key + " of " + k, stateRow(x, k, "versions"), key, 1);
            }
            seen(x, "a value that is written, of " + k, stateRow(x, k, "values"), 1, -1);
            seen(x, "its version, of " + k, stateRow(x, k, "versions"), 1, -4);
        }
        Orderledger y = new Orderledger();
        seen(y, "a value out of nothing", stateRow(y, 5, "values"), 63, 1);
    }

    /** The code of the proposal 1 does something else than what its endorser, a liar, told; that may be. */
    private static void executions() {
        Orderledger x = five();
        int[] due = {0, 1, 0, 0, 0};
        for (int p = 0; p < 5; p++) {
            Object proposal = list(x, "proposals").get(p);
            put(proposal, "z", x.ofProposal(p, 3) + 1);
            put(proposal, "y", x.ofProposal(p, 2) + 1);
            Check.same("executed anew, " + p, x.isSound(), due[p] == 1);
            put(proposal, "z", x.ofProposal(p, 3) - 1);
            put(proposal, "y", x.ofProposal(p, 2) - 1);
            put(proposal, "x", 99);
            Check.same("it fails anew, " + p, x.isSound(), due[p] == 1);
            put(proposal, "x", p == 0 || p == 4 ? 1 : p == 1 ? 2 : p == 2 ? 4 : 3);
            Check.same("as it was, " + p, x.isSound(), true);
        }
    }

    /** Whoever of the peers is the honest one. */
    private static void eachHonestPeer() {
        for (int peer = 0; peer < 6; peer++) {
            Orderledger x = Check.led(0);
            x.lie((peer + 1) % 6, true);
            x.propose(0, 1, 2, 0);
            Check.order(x, 0, peer);
            put(list(x, "proposals").get(0), "y", 3);
            Check.same("it would be another result now, " + peer, x.isSound(), false);
            put(list(x, "proposals").get(0), "y", 2);
            Check.same("as it was, " + peer, x.isSound(), true);
        }
    }

    /** Each of the 20 secrets, with each of those that hold it. */
    private static void allSecrets() {
        Orderledger x = Check.led();
        x.size(4);
        for (int c = 0; c < 4; c++) {
            Check.write(x, c, "secret 0 = 1 ; secret 1 = 2 ; secret 2 = 3 ; secret 3 = 4 ; secret 4 = 5");
            x.propose(c, 0, 0, 0);
            for (int p = 0; p < 6; p++) {
                x.endorse(c, p);
            }
            x.submit(c, 0);
        }
        x.tick(4);
        Check.same("sound", x.isSound(), true);
        for (int p = 0; p < 6; p++) {
            for (int seal = 0; seal < 20; seal++) {
                if (x.holds(p, seal / 5, seal % 5) == 1) {
                    seen(x, "another secret " + seal + " of " + p, stateRow(x, p, "heldValues"), seal, 1);
                } else {
                    stateRow(x, p, "heldValues")[seal] = seal % 5 + 1;
                    seen(x, "one that " + p + " may not have, " + seal, stateRow(x, p, "heldVersions"), seal,
                            1 + seal / 5);
                }
            }
        }
    }

    private static void secrets() {
        Orderledger x = five();
        Check.same("held", x.holds(2, 1, 4) * 1000 + x.secret(2, 1, 4), 1030);
        Check.same("held beside it", x.holds(3, 1, 3) * 1000 + x.secret(3, 1, 3), 1040);
        seen(x, "another secret", stateRow(x, 2, "heldValues"), 9, 1);
        seen(x, "another secret of another one", stateRow(x, 3, "heldValues"), 8, -1);
        int[] versions = stateRow(x, 0, "heldVersions");
        int[] values = stateRow(x, 0, "heldValues");
        Check.same("the org 0 may not have it", x.holds(0, 1, 4), 0);
        values[9] = 30;
        seen(x, "but has it", versions, 9, 4 * 2 + 1);
        Orderledger y = Check.led(3);
        Check.order(y, y.propose(0, 0, 50, 3), 0);
        Check.same("the first secret that there can be", y.holds(3, 0, 0) * 1000 + y.secret(3, 0, 0), 1050);
        seen(y, "another one in its place", stateRow(y, 3, "heldValues"), 0, 1);
        int[] held = stateRow(x, 2, "heldVersions");
        int was = held[9];
        held[9] = 4;
        stateRow(x, 2, "heldValues")[9] = 77;
        Check.same("of a version that the key has no more: anything", x.isSound(), true);
        held[9] = was;
        Check.same("of that which it has: not", x.isSound(), false);
    }
}
