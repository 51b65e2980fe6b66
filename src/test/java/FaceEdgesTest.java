import java.util.function.BiFunction;

/** The edges of the promises 2 to 40: each argument at its ends and just beyond, answers of nothing. */
public final class FaceEdgesTest {
    private static final Class<?> INDEX = IndexOutOfBoundsException.class;
    private static final Class<?> ARGUMENT = IllegalArgumentException.class;

    public static void main(String[] args) {
        machines();
        orderers();
        texts();
        proposals();
        peers();
        house();
        nothing();
        answersBefore();
        growing();
        shrinking();
        refusedByEach();
        Check.end("FaceEdgesTest");
    }

    /** Three proposals, of which the first two are in blocks of their own, and endorsed by the peer 0; a member came in. */
    private static Orderledger ready() {
        Orderledger x = Check.led(0, 1, 0, 6);
        Check.order(x, x.propose(0, 1, 5, 0), 0);
        Check.order(x, x.propose(0, 2, 5, 0), 0);
        x.propose(0, 3, 5, 0);
        Check.same("messages", x.messages(), 4);
        Check.same("entries", x.ofOrderer(2, 3), 3);
        return x;
    }

    /** The call answers from the least to the greatest, and throws that beyond them. */
    private static void edges(String what, int least, int greatest, Class<?> due, BiFunction<Orderledger, Integer, Object> call) {
        for (int good : new int[] {least, greatest}) {
            Orderledger x = ready();
            Object got;
            try {
                got = call.apply(x, good) == null ? "null" : "answers";
            } catch (RuntimeException e) {
                got = e.getClass();
            }
            Check.same(what + " with " + good, got, "answers");
        }
        Orderledger x = ready();
        for (int bad : new int[] {least - 1, greatest + 1, Integer.MIN_VALUE, Integer.MAX_VALUE}) {
            Check.failing(x, what + " with " + bad, due, () -> call.apply(x, bad));
        }
    }

    private static void machines() {
        edges("tick", 1, 20, ARGUMENT, (x, k) -> x.tick(k));
        edges("side, machine", 0, 10, INDEX, (x, k) -> x.side(k, 2));
        edges("side, side", 0, 2, ARGUMENT, (x, k) -> x.side(10, k));
        edges("down", 0, 10, INDEX, (x, k) -> x.down(k));
        edges("up", 0, 10, INDEX, (x, k) -> x.up(k));
        edges("ofMachine, machine", 0, 10, INDEX, (x, k) -> x.ofMachine(k, 2));
        edges("ofMachine, what", 0, 2, ARGUMENT, (x, k) -> x.ofMachine(10, k));
    }

    private static void orderers() {
        edges("ofOrderer, orderer", 0, 4, INDEX, (x, k) -> x.ofOrderer(k, 11));
        edges("ofOrderer, what", 0, 11, ARGUMENT, (x, k) -> x.ofOrderer(4, k));
        edges("entry, orderer", 0, 2, INDEX, (x, k) -> x.entry(k, 3));
        edges("entry, number", 1, 3, INDEX, (x, k) -> x.entry(2, k));
        edges("queue", 0, 4, INDEX, (x, k) -> x.queue(k));
        edges("size", 1, 4, ARGUMENT, (x, k) -> x.size(k));
        edges("member, orderer", 0, 4, INDEX, (x, k) -> x.member(k, 4, true));
        edges("member, which", 0, 4, INDEX, (x, k) -> x.member(0, k, false));
        edges("message", 0, 3, INDEX, (x, k) -> x.message(k));
        Orderledger y = ready();
        Check.index(y, "an entry of one without a log", () -> y.entry(4, 1));
    }

    private static void texts() {
        edges("type, sheet", 0, 3, INDEX, (x, k) -> x.type(k, 0, 0, 0, 0, 0));
        edges("type, a", -1, 136, ARGUMENT, (x, k) -> x.type(0, k, 0, 0, 0, 0));
        edges("type, b", -1, 136, ARGUMENT, (x, k) -> x.type(0, 0, k, 0, 0, 0));
        edges("type, c", -1, 136, ARGUMENT, (x, k) -> x.type(0, 0, 0, k, 0, 0));
        edges("type, d", -1, 136, ARGUMENT, (x, k) -> x.type(0, 0, 0, 0, k, 0));
        edges("type, e", -1, 136, ARGUMENT, (x, k) -> x.type(0, 0, 0, 0, 0, k));
        edges("cut, sheet", 0, 3, INDEX, (x, k) -> x.cut(k, 1));
        edges("cut, many", 1, 60, ARGUMENT, (x, k) -> x.cut(3, k));
        edges("sample, sheet", 0, 3, INDEX, (x, k) -> x.sample(k, 7));
        edges("sample, k", 0, 7, ARGUMENT, (x, k) -> x.sample(3, k));
        edges("text", 0, 3, INDEX, (x, k) -> x.text(k));
        edges("fault as a contract", 0, 3, INDEX, (x, k) -> x.fault(k, false));
        edges("fault as a policy", 0, 3, INDEX, (x, k) -> x.fault(k, true));
        edges("rule", 0, 3, INDEX, (x, k) -> x.rule(k));
    }

    private static void proposals() {
        edges("propose", 0, 3, INDEX, (x, k) -> x.propose(k, 0, 0, 0));
        edges("ruling, contract", 0, 3, INDEX, (x, k) -> x.ruling(k, 3));
        edges("ruling, sheet", 0, 3, INDEX, (x, k) -> x.ruling(3, k));
        edges("endorse, proposal", 0, 2, INDEX, (x, k) -> x.endorse(k, 5));
        edges("endorse, peer", 0, 5, INDEX, (x, k) -> x.endorse(2, k));
        edges("would, proposal", 0, 2, INDEX, (x, k) -> x.would(k, 5));
        edges("would, peer", 0, 5, INDEX, (x, k) -> x.would(2, k));
        edges("submit, proposal", 0, 2, INDEX, (x, k) -> x.submit(k, 0));
        edges("submit, orderer", 0, 4, INDEX, (x, k) -> x.submit(0, k));
        edges("ofProposal, proposal", 0, 2, INDEX, (x, k) -> x.ofProposal(k, 8));
        edges("ofProposal, what", 0, 8, ARGUMENT, (x, k) -> x.ofProposal(2, k));
        edges("result, proposal", 0, 2, INDEX, (x, k) -> x.result(k, 5));
        edges("result, peer", 0, 5, INDEX, (x, k) -> x.result(2, k));
        edges("lie", 0, 5, INDEX, (x, k) -> x.lie(k, true));
        edges("lie no more", 0, 5, INDEX, (x, k) -> x.lie(k, false));
    }

    private static void peers() {
        edges("ofPeer, peer", 0, 5, INDEX, (x, k) -> x.ofPeer(k, 9));
        edges("ofPeer, what", 0, 9, ARGUMENT, (x, k) -> x.ofPeer(5, k));
        edges("source, peer", 0, 5, INDEX, (x, k) -> x.source(k, 4));
        edges("source, orderer", 0, 4, INDEX, (x, k) -> x.source(5, k));
        edges("value, peer", 0, 5, INDEX, (x, k) -> x.value(k, 63));
        edges("value, key", 0, 63, INDEX, (x, k) -> x.value(5, k));
        edges("version, peer", 0, 5, INDEX, (x, k) -> x.version(k, 63));
        edges("version, key", 0, 63, INDEX, (x, k) -> x.version(5, k));
        edges("state", 0, 5, INDEX, (x, k) -> x.state(k));
        edges("block, peer", 0, 5, INDEX, (x, k) -> x.block(k, 1));
        edges("block, block", 0, 1, INDEX, (x, k) -> x.block(5, k));
        edges("hash, peer", 0, 5, INDEX, (x, k) -> x.hash(k, 1));
        edges("hash, block", 0, 1, INDEX, (x, k) -> x.hash(5, k));
        edges("holds, peer", 0, 5, INDEX, (x, k) -> x.holds(k, 3, 4));
        edges("holds, contract", 0, 3, INDEX, (x, k) -> x.holds(5, k, 4));
        edges("holds, secret", 0, 4, INDEX, (x, k) -> x.holds(5, 3, k));
        edges("secret, peer", 0, 5, INDEX, (x, k) -> x.secret(k, 3, 4));
        edges("secret, contract", 0, 3, INDEX, (x, k) -> x.secret(5, k, 4));
        edges("secret, secret", 0, 4, INDEX, (x, k) -> x.secret(5, 3, k));
        edges("lose", 0, 5, INDEX, (x, k) -> x.lose(k));
    }

    private static void house() {
        edges("house", 0, 13, ARGUMENT, (x, k) -> x.house(k));
    }

    /** Where there is nothing: "", "-", 0, or no such thing. */
    private static void nothing() {
        Orderledger x = new Orderledger();
        for (int k = 0; k < 5; k++) {
            int o = k;
            Check.same("queue", x.queue(k), "");
            Check.index(x, "no first entry", () -> x.entry(o, 1));
            Check.index(x, "no entry 0", () -> x.entry(o, 0));
        }
        Check.index(x, "no message", () -> x.message(0));
        for (int k = 0; k < 4; k++) {
            Check.same("text", x.text(k), "");
            Check.same("faults", x.fault(k, false) + x.fault(k, true), 0);
            Check.same("rule", x.rule(k), -1);
            int c = k;
            Check.refused(x, "no contract", () -> x.propose(c, 0, 0, 0));
            Check.refused(x, "no policy", () -> x.ruling(c, c));
        }
        Check.index(x, "no proposal to endorse", () -> x.endorse(0, 0));
        Check.index(x, "no proposal to execute", () -> x.would(0, 0));
        Check.index(x, "no proposal to submit", () -> x.submit(0, 0));
        Check.index(x, "no proposal", () -> x.ofProposal(0, 0));
        Check.index(x, "no result", () -> x.result(0, 0));
        for (int k = 0; k < 6; k++) {
            int p = k;
            Check.same("state", x.state(k), "");
            for (int key = 0; key < 64; key++) {
                Check.same("value", x.value(k, key) + x.version(k, key), "0-");
            }
            for (int seal = 0; seal < 20; seal++) {
                Check.same("secret", x.holds(k, seal / 5, seal % 5) + x.secret(k, seal / 5, seal % 5), 0);
            }
            Check.index(x, "no block", () -> x.block(p, 0));
            Check.index(x, "no hash", () -> x.hash(p, 0));
            Check.same("nothing to lose", x.lose(k), 0);
        }
        x.sample(0, 0);
        Check.same("a proposal", x.propose(0, 0, 0, 0), 0);
        for (int k = 0; k < 6; k++) {
            Check.same("without results", x.result(0, k), "");
        }
        Check.same("without endorsers", x.ofProposal(0, 6) + x.ofProposal(0, 7) + x.ofProposal(0, 8), 0);
        Check.same("cut nothing", x.cut(3, 60), 0);
    }

    /** What a change tells is what was there before. */
    private static void answersBefore() {
        Orderledger x = new Orderledger();
        int[] sides = {2, 1, 0, 0, 2};
        int before = 0;
        for (int side : sides) {
            Check.same("side", x.side(7, side), before);
            before = side;
        }
        int[] sizes = {1, 4, 3, 3, 2};
        before = 2;
        for (int size : sizes) {
            Check.same("size", x.size(size), before);
            before = size;
        }
        for (int p = 0; p < 6; p++) {
            Check.same("source at first", x.source(p, 4), p % 3);
            Check.same("source then", x.source(p, 0), 4);
            Check.same("source the same", x.source(p, 0), 0);
            Check.same("told", x.ofPeer(p, 1), 0);
            Check.same("lie", x.lie(p, true), 0);
            Check.same("lie on", x.lie(p, true), 1);
            Check.same("told", x.ofPeer(p, 9), 1);
            Check.same("no more", x.lie(p, false), 1);
            Check.same("nor now", x.lie(p, false), 0);
        }
    }

    private static void growing() {
        Orderledger x = new Orderledger();
        for (int k = 1; k <= 5; k++) {
            Check.same("tick", x.tick(k), k * (k + 1) / 2);
            Check.same("knock", x.knock(), k);
            Check.same("blank", x.blank(), -9);
            Check.same("counted", x.house(12) * 10 + x.house(13), 11 * k);
        }
        for (int k = 0; k < 4; k++) {
            Check.same("typed", x.type(k, 1, -1, 2, -1, 3), 3);
            Check.same("and more", x.type(k, -1, 4, -1, -1, -1), 4);
            Check.same("text", x.text(k), "1 2 3 4");
        }
    }

    private static void shrinking() {
        Orderledger x = new Orderledger();
        for (int k = 0; k < 11; k++) {
            Check.same("down", x.down(k), 10 - k);
            int m = k;
            Check.refused(x, "down again", () -> x.down(m));
        }
        for (int k = 0; k < 11; k++) {
            Check.same("up", x.up(10 - k), k + 1);
            int m = 10 - k;
            Check.refused(x, "up again", () -> x.up(m));
        }
    }

    /** Each ground alone, with all else as it should be. */
    private static void refusedByEach() {
        Orderledger x = ready();
        Check.refused(x, "up: is up", () -> x.up(9));
        Check.refused(x, "submit: no endorsement", () -> x.submit(2, 0));
        Check.refused(x, "submit: no leader", () -> x.submit(0, 1));
        Check.refused(x, "endorse: endorsed ahead", () -> x.endorse(0, 0));
        Check.refused(x, "propose: a fault", () -> x.propose(3, 0, 0, 0));
        Check.refused(x, "ruling: a fault", () -> x.ruling(3, 0));
        Check.refused(x, "member: no leader", () -> x.member(2, 4, true));
        x.down(5);
        Check.refused(x, "down: is down", () -> x.down(5));
        Check.refused(x, "endorse: down", () -> x.endorse(2, 0));
        Check.refused(x, "lose: down", () -> x.lose(0));
        Check.same("would: whether it is up, or not", x.would(2, 0), 0);
        Check.same("lie: whether it is up, or not", x.lie(0, true), 0);
        Check.same("source: whether it is up, or not", x.source(0, 3), 0);
        x.down(0);
        Check.refused(x, "submit: down", () -> x.submit(0, 0));
        Check.refused(x, "member: down", () -> x.member(0, 4, true));
        Check.same("side: whether it is up, or not", x.side(0, 1), 0);
    }
}
