/** The edges of the document's head: 32 bits, REFUSED, exceptions. (MANY is looked at in ElectionEdgesTest.) */
public final class HeadEdgesTest {
    private static final int MAX = Integer.MAX_VALUE;
    private static final int MIN = Integer.MIN_VALUE;

    public static void main(String[] args) {
        argumentsOf32Bits();
        reckoningWraps();
        valuesWrap();
        sumsWrap();
        hashWraps();
        exceptionsAheadOfRefused();
        firstExceptionOfSeveral();
        refusedIsCounted();
        Check.end("HeadEdgesTest");
    }

    /** The result of a contract's text on an empty state. */
    private static String result(String text, int... xyz) {
        Orderledger x = new Orderledger();
        Check.write(x, 0, text);
        int p = x.propose(0, xyz.length > 0 ? xyz[0] : 0, xyz.length > 1 ? xyz[1] : 0, xyz.length > 2 ? xyz[2] : 0);
        int how = x.endorse(p, 0);
        return how == 0 ? x.result(p, 0) : "fails " + how;
    }

    private static void argumentsOf32Bits() {
        Orderledger x = Check.led(0);
        x.propose(0, MIN, MAX, MIN);
        x.propose(0, MAX, MIN, MAX);
        x.propose(0, -1, 0, 1);
        int[][] due = {{MIN, MAX, MIN}, {MAX, MIN, MAX}, {-1, 0, 1}};
        for (int p = 0; p < 3; p++) {
            for (int k = 0; k < 3; k++) {
                Check.same("argument " + k + " of " + p, x.ofProposal(p, 1 + k), due[p][k]);
            }
        }
    }

    private static void reckoningWraps() {
        Check.same("+ at the top", result("tell x + 1", MAX), "t-2147483648");
        Check.same("+ of two great ones", result("tell x + x", MAX), "t-2");
        Check.same("+ at the bottom", result("tell x + y", MIN, -1), "t2147483647");
        Check.same("- at the bottom", result("tell x - 1", MIN), "t2147483647");
        Check.same("- at the top", result("tell x - y", MAX, -1), "t-2147483648");
        Check.same("the least one turned", result("tell 0 - x", MIN), "t-2147483648");
        Check.same("* by 2", result("tell x * 2", 1073741824), "t-2147483648");
        Check.same("* to nothing", result("tell x * x", 65536), "t0");
        Check.same("* just above", result("tell x * x", 46341), "t-2147479015");
        Check.same("* just below", result("tell x * x", 46340), "t2147395600");
        Check.same("* of the least one", result("tell x * y", MIN, -1), "t-2147483648");
        Check.same("< from end to end", result("tell x < y", MIN, MAX), "t1");
        Check.same("< from the other end", result("tell x < y", MAX, MIN), "t0");
        Check.same("< of the same", result("tell x < x", MIN), "t0");
        Check.same("== ahead of +, from left to right", result("tell x == y + 1", MIN, MAX), "t1");
        Check.same("== of what wrapped, in brackets", result("tell x == ( y + 1 )", MIN, MAX), "t1");
        Check.same("a key out of what wrapped", result("put x + y + 7 = 1", MAX, MIN), "w6=1 t0");
        Check.same("need of what wrapped to 0", result("need x * x", 65536), "fails 1");
        Check.same("let", result("let x = x + 1 ; let x = x - 1 ; tell x", MAX), "t2147483647");
    }

    private static void valuesWrap() {
        Orderledger x = Check.led(0);
        Check.write(x, 1, "put 0 = x + 1 ; put 39 = y - 1");
        Check.order(x, x.propose(1, MAX, MIN, 0), 0);
        Check.same("values", x.state(5), "0=-2147483648 39=2147483647");
        Check.same("values", x.value(0, 0), MIN);
        x.lie(1, true);
        x.propose(1, MAX - 1, MIN, 0);
        x.endorse(1, 1);
        Check.same("a lie wraps, too", x.result(1, 1), "w0=-2147483648 w39=-2147483648 t0");
        Check.write(x, 1, "put 0 = x ; put 1 = y");
        x.propose(1, MIN, -1, 0);
        x.endorse(2, 1);
        Check.same("a lie at the bottom", x.result(2, 1), "w0=-2147483647 w1=0 t0");
    }

    /** (v * 31 + s * 7 + p * 101) wraps ahead of the floor-modulo 10007. */
    private static void sumsWrap() {
        Check.same("0", result("secret 0 = 0"), "w44=0 t0");
        Check.same("below 10007", result("secret 0 = x", 322), "w44=9982 t0");
        Check.same("just 10007", result("secret 0 = x", 10007), "w44=0 t0");
        Check.same("above it", result("secret 0 = x", 323), "w44=6 t0");
        Check.same("below 0", result("secret 0 = x", -1), "w44=9976 t0");
        Check.same("just - 10007", result("secret 0 = x", -10007), "w44=0 t0");
        Check.same("the last one that does not wrap", result("secret 0 = x", 69273666), "w44=1460 t0");
        Check.same("the first one that wraps", result("secret 0 = x", 69273667), "w44=8574 t0");
        Check.same("the last one below 0 that does not", result("secret 0 = x", -69273666), "w44=8547 t0");
        Check.same("the first one below 0 that wraps", result("secret 0 = x", -69273667), "w44=1433 t0");
        Check.same("the greatest", result("secret 0 = x", MAX), "w44=1431 t0");
        Check.same("the least", result("secret 0 = x", MIN), "w44=8545 t0");
        Check.same("with the secret's number", result("secret 4 = x", 323), "w48=34 t0");
        Check.same("the number of the secret may be what wraps", result("secret 4 = x", 69273666), "w48=8571 t0");
        Orderledger x = Check.led(3);
        for (int p = 0; p < 49; p++) {
            x.propose(0, 0, 0, 0);
        }
        x.propose(0, 3, 69273666, 9);
        x.endorse(49, 3);
        Check.same("with the proposal's", x.result(49, 3), "r9@- w9=1 w47=3506 t0");
    }

    private static void hashWraps() {
        Orderledger x = Check.led(0);
        x.propose(0, 39, MAX, 0);
        x.propose(0, 39, 1, 0);
        Check.order(x, 0, 0, 2, 4);
        Check.same("the hash of block 0", x.hash(3, 0), HASH_0);
        Check.order(x, 1, 5);
        Check.same("the hash of block 1", x.hash(3, 1), HASH_1);
        Check.same("and the last one", x.ofPeer(3, 2), HASH_1);
    }

    /** "r39@- w39=2147483647 t0" by the peers 0, 2 and 4, then "r39@0.0 w39=-2147483648 t0" by the peer 5. */
    private static final int HASH_0 = 1333074535;
    private static final int HASH_1 = 1451941265;

    private static void exceptionsAheadOfRefused() {
        Orderledger x = Check.led(0, 6);
        for (int k = 0; k < 50; k++) {
            x.propose(0, 1, 1, 1);
        }
        x.down(4);
        x.down(10);
        Check.index(x, "down of none, though there are such that are down", () -> x.down(11));
        Check.index(x, "up of none", () -> x.up(-1));
        Check.index(x, "a member change by none", () -> x.member(5, 5, true));
        Check.index(x, "a member change of none by one that is down", () -> x.member(4, -1, true));
        Check.index(x, "a member change of none by a follower", () -> x.member(1, 5, false));
        Check.index(x, "50 proposals, and no such contract", () -> x.propose(4, 1, 1, 1));
        Check.index(x, "50 proposals, and no such contract", () -> x.propose(-1, 1, 1, 1));
        Check.index(x, "50 proposals, and no such contract for a ruling", () -> x.ruling(4, 1));
        Check.index(x, "50 proposals, and no such sheet for a ruling", () -> x.ruling(0, -1));
        Check.index(x, "no such proposal, and the peer is down", () -> x.endorse(50, 5));
        Check.index(x, "no such peer", () -> x.endorse(0, 6));
        Check.index(x, "no such proposal, and the orderer is down", () -> x.submit(50, 4));
        Check.index(x, "no endorsement, and no such orderer", () -> x.submit(0, 5));
        Check.index(x, "lose of none", () -> x.lose(6));
        Check.same("none of these counts as REFUSED", x.house(11), 0);
    }

    private static void firstExceptionOfSeveral() {
        Orderledger x = new Orderledger();
        for (int k = 0; k < 12; k++) {
            x.type(0, 0, 1, 2, 3, 4);
        }
        Check.index(x, "side: machine, side", () -> x.side(-1, -1));
        Check.index(x, "side: machine, side", () -> x.side(11, 3));
        Check.index(x, "ofMachine: machine, what", () -> x.ofMachine(11, 3));
        Check.index(x, "ofOrderer: orderer, what", () -> x.ofOrderer(5, 12));
        Check.index(x, "type: sheet, token", () -> x.type(4, -2, 0, 0, 0, 0));
        Check.index(x, "type: sheet, token", () -> x.type(-1, 0, 0, 0, 0, 137));
        Check.argument(x, "type: token, too many", () -> x.type(0, 0, 0, 0, 0, 137));
        Check.argument(x, "type: token, too many", () -> x.type(0, -2, 0, 0, 0, 0));
        Check.state(x, "type: too many alone", () -> x.type(0, 0, -1, -1, -1, -1));
        Check.index(x, "cut: sheet, many", () -> x.cut(4, 0));
        Check.index(x, "sample: sheet, k", () -> x.sample(-1, 8));
        Check.index(x, "ofProposal: proposal, what", () -> x.ofProposal(0, 9));
        Check.index(x, "ofPeer: peer, what", () -> x.ofPeer(6, 10));
    }

    /** Each place that tells REFUSED counts once; exceptions, blank() and answers of -9 that are none do not. */
    private static void refusedIsCounted() {
        Orderledger x = Check.led(0);
        Check.same("at first", x.house(11), 0);
        x.up(0);
        x.up(0);
        Check.same("twice", x.house(11), 2);
        x.blank();
        Check.same("not by blank()", x.house(11), 2);
        try {
            x.up(11);
            Check.same("throws", "no", "yes");
        } catch (IndexOutOfBoundsException e) {
            Check.same("not by an exception", x.house(11), 2);
        }
        Check.write(x, 0, "put 1 = 0 - 9 ; secret 0 = 0 - 9 ; tell 0 - 9");
        Check.order(x, x.propose(0, -9, -9, -9), 0);
        Check.same("a value of -9", x.value(0, 1), -9);
        Check.same("a secret of -9", x.secret(0, 0, 0), -9);
        Check.same("an argument of -9", x.ofProposal(0, 1), -9);
        Check.same("are no REFUSED", x.house(11), 2);
        Check.same("a fail is none either", x.would(x.propose(0, 0, 0, 0), 4), 0);
        Check.same("still", x.house(11), 2);
    }
}
