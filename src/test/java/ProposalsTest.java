/** Promises 20 to 27. */
public final class ProposalsTest {
    public static void main(String[] args) {
        propose();
        ruling();
        fifty();
        results();
        statements();
        fails();
        failOrder();
        secrets();
        openFails();
        endorse();
        would();
        submit();
        mostEndorsements();
        ofProposal();
        lie();
        Check.end("ProposalsTest");
    }

    private static void propose() {
        Orderledger x = Check.led(0, 6);
        Check.same("propose", x.propose(0, 1, 2, 3), 0);
        Check.same("propose", x.propose(0, Integer.MIN_VALUE, -1, Integer.MAX_VALUE), 1);
        Check.refused(x, "the sheet is a policy", () -> x.propose(1, 1, 2, 3));
        Check.refused(x, "the sheet is empty", () -> x.propose(2, 1, 2, 3));
        Check.index(x, "contract -1", () -> x.propose(-1, 0, 0, 0));
        Check.index(x, "contract 4", () -> x.propose(4, 0, 0, 0));
        x.cut(0, 60);
        x.endorse(0, 0);
        Check.same("it keeps the text that the sheet had", x.result(0, 0), "r1@- w1=2 t0");
        x.sample(0, 5);
        x.endorse(0, 1);
        Check.same("whatever the sheet has then", x.result(0, 1), "r1@- w1=2 t0");
    }

    private static void ruling() {
        Orderledger x = Check.led(6, 7, 0);
        Check.same("ruling", x.ruling(3, 0), 0);
        Check.same("its rule", x.ofProposal(0, 5), 204);
        Check.same("ruling", x.ruling(0, 1), 1);
        Check.same("its rule", x.ofProposal(1, 5), 8 + 32 + 64 + 128);
        Check.same("it is a ruling", x.ofProposal(1, 4), 1);
        Check.refused(x, "a contract is no policy", () -> x.ruling(0, 2));
        Check.refused(x, "an empty one neither", () -> x.ruling(0, 3));
        Check.index(x, "contract -1", () -> x.ruling(-1, 0));
        Check.index(x, "contract 4", () -> x.ruling(4, 0));
        Check.index(x, "sheet -1", () -> x.ruling(0, -1));
        Check.index(x, "sheet 4", () -> x.ruling(0, 4));
        x.cut(0, 60);
        Check.same("a ruling does not fail", x.endorse(0, 5), 0);
        Check.same("its result", x.result(0, 5), "r43@- w43=204 t0");
        x.lie(4, true);
        x.endorse(0, 4);
        Check.same("no lie about a rule", x.result(0, 4), "r43@- w43=204 t0");
        x.submit(0, 0);
        x.tick(4);
        Check.same("one org is not enough for a ruling", x.block(0, 0), "0:2");
        Check.order(x, 1, 0, 2);
        Check.same("two are", x.block(0, 1), "1:0");
        Check.same("the rule stands", x.value(0, 40), 232);
        x.sample(0, 0);
        x.propose(0, 1, 1, 1);
        Check.order(x, 2, 0, 1);
        Check.same("org 0 alone is not in it", x.block(0, 2), "2:2");
        x.propose(0, 1, 1, 1);
        Check.order(x, 3, 0, 5);
        Check.same("0 and 2 are", x.block(0, 3), "3:0");
        x.sample(0, 7);
        x.ruling(0, 0);
        x.endorse(4, 1);
        Check.same("it reads the rule that was", x.result(4, 1), "r40@1.0 w40=232 t0");
    }

    private static void fifty() {
        Orderledger x = Check.led(0, 6);
        for (int k = 0; k < 50; k++) {
            Check.same("propose", k % 2 == 0 ? x.propose(0, 1, k, 0) : x.ruling(2, 1), k);
        }
        Check.refused(x, "there are 50", () -> x.propose(0, 1, 2, 3));
        Check.refused(x, "there are 50", () -> x.ruling(0, 1));
        Check.same("the last one", x.endorse(49, 0), 0);
        Check.order(x, 48, 3, 5);
        Check.same("is ordered", x.block(1, 0), "48:0");
    }

    private static Orderledger stocked() {
        Orderledger x = Check.led(0);
        int[][] puts = {{4, 7}, {7, 70}, {8, 80}};
        for (int[] put : puts) {
            Check.order(x, x.propose(0, put[0], put[1], 0), 0, 2);
        }
        return x;
    }

    /** What a contract's text comes to on a peer with 4=7 of 0.0, 7=70 of 1.0, 8=80 of 2.0. */
    private static void result(String text, String due, int... xyz) {
        Orderledger x = stocked();
        Check.write(x, 1, text);
        int p = x.propose(1, xyz.length > 0 ? xyz[0] : 0, xyz.length > 1 ? xyz[1] : 0, xyz.length > 2 ? xyz[2] : 0);
        int how = x.endorse(p, 0);
        Check.same(text, how == 0 ? x.result(p, 0) : "fails " + how, due);
    }

    private static void results() {
        result("put 5 = 3", "w5=3 t0");
        result("put x = get x + y", "r4@0.0 w4=12 t0", 4, 5);
        result("tell get 7 - get 4 - 3", "r4@0.0 r7@1.0 t60");
        result("tell 2 + 3 * 4", "t20");
        result("tell 2 + ( 3 * 4 )", "t14");
        result("tell 1 < 2 < 2 < 1", "t0");
        result("tell 3 == 3 == 1", "t1");
        result("tell 2 < 1", "t0");
        result("tell x * y", "t-2147483648", Integer.MIN_VALUE, 1);
        result("tell x + y", "t-2147483648", Integer.MAX_VALUE, 1);
        result("tell x - y * z", "t-5", 0, 5, 1);
        result("tell has 4 + has 5 + has 4", "r4@0.0 r5@- t2");
        result("tell get get 4", "r4@0.0 r7@1.0 t70");
        result("tell 1 ; tell 2", "t2");
        result("put 4 = 1 ; tell get 4 ; put 9 = 1 ; tell get 4 + has 9", "r4@0.0 r9@- w4=1 w9=1 t7");
        result("put 5 = 1 ; put 5 = 2 ; del 6 ; put 6 = 1 ; put 3 = 1 ; del 3", "w3x w5=2 w6=1 t0");
        result("del 4 ; tell has 4", "r4@0.0 w4x t1");
        result("put 39 = 0 - 1", "w39=-1 t0");
        result("let i = x + 1 ; let x = i * 2 ; tell x + i + j + k", "t9", 2);
        result("if x then tell 1 else tell 2 end", "t2");
        result("if x then tell 1 else tell 2 end", "t1", -1);
        result("if x then tell 1 end", "t0");
        result("if x then if y then tell 1 else tell 2 end else tell 3 end ; put 1 = 1", "w1=1 t2", 1);
        result("if 0 then put 50 = 1 end", "t0");
        result("each k in 3 .. 9 do put k + 10 = get k end", "r4@0.0 r7@1.0 r8@2.0 a3-9:4@0.0,7@1.0,8@2.0 w14=7 w17=70 "
                + "w18=80 t0");
        result("each k in 5 .. 8 do tell k end", "a5-8:7@1.0 t7");
        result("each k in 4 .. 4 do tell 1 end ; tell k", "a4-4: t0");
        result("let k = 3 ; each k in 9 .. 40 do tell 1 end ; tell k", "a9-40: t3");
        result("each k in 0 .. 40 do let k = 1 end ; tell k", "a0-40:4@0.0,7@1.0,8@2.0 t1");
        result("each k in 0 .. 40 do tell 1 end ; tell k", "a0-40:4@0.0,7@1.0,8@2.0 t8");
        result("each i in 4 .. 8 do each j in i .. 8 do let k = k + 1 end end ; tell k",
                "a4-8:4@0.0,7@1.0 a4-8:4@0.0,7@1.0 a7-8:7@1.0 t3");
        result("each k in 8 .. 9 do put 9 = 1 ; del 8 end ; each k in 8 .. 10 do tell k end",
                "a8-9:8@2.0 a8-10:8@2.0 w8x w9=1 t8");
        result("secret 4 = x", "w53=" + ((5 * 31 + 4 * 7 + 3 * 101) % 10007) + " t0", 5);
        result("secret 0 = x", "w49=" + ((-7 * 31 + 3 * 101 + 10007) % 10007) + " t0", -7);
        result("secret 0 = x ; secret 0 = y", "w49=" + ((2 * 31 + 3 * 101) % 10007) + " t0", 1, 2);
        result("tell open 2", "r51@- t0");
        result("secret 2 = 1 ; tell open 2", "r51@- w51=348 t0");
        result("need open 0 == 0 ; put 1 = get 4 ; secret 1 = 9 ; del 0", "r4@0.0 r49@- w0x w1=7 w50=589 t0");
    }

    private static void fails(String text, int due, int... xyz) {
        result(text, "fails " + due, xyz);
    }

    private static void statements() {
        result("each i in 4 .. 9 do each j in 4 .. 9 do each k in 4 .. 9 do tell k ; tell j end end end ; tell 9",
                "a4-9:4@0.0,7@1.0,8@2.0" + (" a4-9:4@0.0,7@1.0,8@2.0").repeat(12) + " t9");
        String hundred = "each i in 4 .. 9 do each j in 4 .. 9 do each k in 4 .. 9 do tell k ; tell j ; tell i end end end";
        String filler = "";
        for (int k = 0; k < 6; k++) {
            filler += " ; tell " + k;
        }
        result(hundred + filler, "a4-9:4@0.0,7@1.0,8@2.0" + (" a4-9:4@0.0,7@1.0,8@2.0").repeat(12) + " t5");
        fails(hundred + filler + " ; tell 7", 4);
        fails(hundred + filler + " ; need 0", 4);
        fails(hundred + filler + " ; put 40 = 0", 4);
        fails(hundred + filler + " ; if 0 then tell 1 end", 4);
    }

    private static void fails() {
        fails("need 0", 1);
        fails("need get 9", 1);
        fails("need x == y", 1, 1, 2);
        fails("put 40 = 1", 2);
        fails("put 0 - 1 = 1", 2);
        fails("del 40", 2);
        fails("del x", 2, -1);
        fails("tell get 40", 2);
        fails("tell get 44", 2);
        fails("tell has x", 2, Integer.MIN_VALUE);
        fails("tell has 40", 2);
        fails("tell open 5", 2);
        fails("tell open x", 2, -1);
        fails("secret 5 = 1", 2);
        fails("secret x = 1", 2, -1);
        fails("each k in 0 - 1 .. 3 do tell 1 end", 2);
        fails("each k in 3 .. 2 do tell 1 end", 2);
        fails("each k in 0 .. 41 do tell 1 end", 2);
        fails("each k in 41 .. 41 do tell 1 end", 2);
        result("each k in 40 .. 40 do tell 1 end", "a40-40: t0");
        result("put 0 = 1 ; put 39 = 1 ; tell get 0 + get 39 ; secret 4 = 1", "r0@- r39@- w0=1 w39=1 w53=362 t0");
    }

    private static void failOrder() {
        fails("put 40 = get 40", 2);
        fails("put 1 = 1 ; need 0 ; put 40 = 1", 1);
        fails("put 40 = 1 ; need 0", 2);
        fails("need get 40", 2);
        fails("if 1 then need 0 else put 40 = 1 end", 1);
        fails("each k in 0 .. get 40 do tell 1 end", 2);
        Orderledger x = Check.led(3, 3);
        x.propose(0, 1, 5, 2);
        Check.order(x, 0, 0, 2);
        Check.write(x, 0, "put 40 = open 1");
        x.propose(0, 0, 0, 0);
        Check.same("the key is looked at ahead of the value", x.endorse(1, 4), 2);
        Check.write(x, 0, "put 4 = open 1");
        x.propose(0, 0, 0, 0);
        Check.same("then the value", x.endorse(2, 4), 3);
        Check.write(x, 0, "secret 5 = open 1");
        x.propose(0, 0, 0, 0);
        Check.same("a secret's number likewise", x.endorse(3, 4), 2);
    }

    private static void secrets() {
        Orderledger x = Check.led(3, 4, 4, 4);
        x.propose(0, 1, 55, 2);
        x.endorse(0, 0);
        x.endorse(0, 2);
        x.endorse(0, 4);
        Check.same("the sum is told, not the secret", x.result(0, 0), "r2@- w2=1 w45=1712 t0");
        Check.same("the orgs 0 and 1 have it held back", x.ofPeer(0, 8) * 10 + x.ofPeer(2, 8), 11);
        Check.same("the org 2 has not", x.ofPeer(4, 8), 0);
        Check.same("not held yet", x.ofPeer(0, 6), 0);
        x.submit(0, 0);
        x.tick(4);
        Check.same("held then", x.holds(0, 0, 1) * 100 + x.secret(0, 0, 1), 155);
        x.sample(0, 4);
        x.propose(0, 1, 55, 2);
        Check.same("open by one that holds it", x.endorse(1, 2), 0);
        Check.same("its key is read", x.result(1, 2), "r45@0.0 w2x t0");
        Check.same("not by another org", x.endorse(1, 4), 3);
        x.propose(0, 1, 54, 2);
        Check.same("the secret is another number", x.endorse(2, 2), 1);
        x.propose(1, 1, 0, 2);
        Check.same("another contract has no such secret", x.endorse(3, 4), 0);
        Check.same("of its own keys", x.result(3, 4), "r50@- w2x t0");
    }

    /** A peer that holds the secret of an earlier version can not open the sum of a later one. */
    private static void openFails() {
        Orderledger x = Check.led(3, 0);
        x.propose(0, 1, 5, 2);
        Check.order(x, 0, 0);
        Check.same("held", x.holds(0, 0, 1), 1);
        x.propose(0, 1, 6, 2);
        x.endorse(1, 2);
        x.side(5, 1);
        x.source(0, 4);
        x.submit(1, 0);
        x.tick(4);
        Check.same("a peer behind goes on with what it has", x.ofPeer(0, 0) * 10 + x.secret(0, 0, 1), 15);
        Check.same("the sum of all others is another one", x.version(1, 45) + x.version(0, 45), "1.00.0");
        x.side(6, 2);
        x.side(7, 2);
        x.side(8, 2);
        x.side(5, 0);
        x.tick(1);
        Check.same("it takes it, and misses the secret", x.holds(0, 0, 1), 1 + 1);
        x.sample(0, 4);
        x.propose(0, 1, 6, 2);
        Check.same("what it held does not open it", x.would(2, 0), 3);
        Check.same("the one that holds it can", x.would(2, 2), 0);
    }

    private static void endorse() {
        Orderledger x = Check.led(0, 1);
        x.propose(0, 1, 2, 0);
        x.propose(1, 1, 2, 5);
        Check.same("endorse", x.endorse(0, 0), 0);
        Check.refused(x, "endorsed ahead", () -> x.endorse(0, 0));
        x.down(6);
        Check.refused(x, "down", () -> x.endorse(0, 1));
        x.up(6);
        Check.same("up again", x.endorse(0, 1), 0);
        Check.same("fails", x.endorse(1, 3), 1);
        Check.same("no result then", x.result(1, 3), "");
        Check.same("may try again", x.endorse(1, 3), 1);
        Check.same("endorsements", x.house(10), 2);
        Check.same("the state is not changed", x.state(0), "");
        Check.index(x, "proposal -1", () -> x.endorse(-1, 0));
        Check.index(x, "proposal 2", () -> x.endorse(2, 0));
        Check.index(x, "peer -1", () -> x.endorse(0, -1));
        Check.index(x, "peer 6", () -> x.endorse(0, 6));
        Check.index(x, "result of -1", () -> x.result(-1, 0));
        Check.index(x, "result of 2", () -> x.result(2, 0));
        Check.index(x, "result by -1", () -> x.result(0, -1));
        Check.index(x, "result by 6", () -> x.result(0, 6));
        Check.same("result", x.result(0, 0), "r1@- w1=2 t0");
        Check.same("none", x.result(0, 5), "");
        Check.order(x, 0, 2);
        Check.same("the result stays", x.result(0, 0), "r1@- w1=2 t0");
        x.endorse(0, 4);
        Check.same("an endorsement behind the block", x.result(0, 4), "r1@0.0 w1=4 t0");
    }

    private static void would() {
        Orderledger x = Check.led(0, 1, 3);
        x.propose(0, 1, 5, 0);
        x.propose(1, 1, 9, 5);
        x.propose(2, 5, 9, 5);
        String before = Check.look(x, true);
        Check.same("would", x.would(0, 0), 0);
        Check.same("would fail by need", x.would(1, 0), 1);
        Check.same("would fail by a number", x.would(2, 0), 2);
        Check.same("nothing changed", Check.look(x, true), before);
        x.down(5);
        Check.same("down or not", x.would(1, 0), 1);
        x.endorse(0, 2);
        Check.same("endorsed or not", x.would(0, 2), 0);
        Check.order(x, 0);
        Check.same("on the state of one", x.would(1, 2), 0);
        Check.same("and of another that is down", x.would(1, 0), 1);
        Check.index(x, "would of -1", () -> x.would(-1, 0));
        Check.index(x, "would of 3", () -> x.would(3, 0));
        Check.index(x, "would by -1", () -> x.would(0, -1));
        Check.index(x, "would by 6", () -> x.would(0, 6));
    }

    private static void submit() {
        Orderledger x = Check.led(0);
        x.propose(0, 1, 2, 0);
        Check.refused(x, "no endorsement", () -> x.submit(0, 0));
        x.endorse(0, 0);
        Check.refused(x, "no leader", () -> x.submit(0, 1));
        for (int k = 1; k <= 12; k++) {
            Check.same("submit", x.submit(0, 0), k);
        }
        Check.refused(x, "12 are there", () -> x.submit(0, 0));
        Check.same("submitted", x.house(2) * 100 + x.ofProposal(0, 8), 1212);
        Check.index(x, "submit -1", () -> x.submit(-1, 0));
        Check.index(x, "submit 1", () -> x.submit(1, 0));
        Check.index(x, "submit to -1", () -> x.submit(0, -1));
        Check.index(x, "submit to 5", () -> x.submit(0, 5));
        x.tick(1);
        Check.same("there is room again", x.submit(0, 0), 12);
        x.down(0);
        Check.refused(x, "down", () -> x.submit(0, 0));
        x.up(0);
        Check.refused(x, "up, but no leader", () -> x.submit(0, 0));
    }

    private static void mostEndorsements() {
        Orderledger x = Check.led(0);
        x.propose(0, 1, 2, 0);
        Check.same("nobody", x.ofProposal(0, 7), 0);
        x.lie(1, true);
        x.lie(4, true);
        x.endorse(0, 4);
        Check.same("the liar alone", x.ofProposal(0, 7), 16);
        x.endorse(0, 3);
        Check.same("one each: the first", x.ofProposal(0, 7), 16);
        x.endorse(0, 0);
        Check.same("two of the other", x.ofProposal(0, 7), 9);
        x.submit(0, 0);
        x.endorse(0, 1);
        Check.same("two each: the first again", x.ofProposal(0, 7), 18);
        Check.same("all", x.ofProposal(0, 6), 16 + 8 + 1 + 2);
        x.submit(0, 0);
        x.tick(6);
        Check.same("as it was submitted", x.block(5, 0) + "/" + x.block(5, 1), "0:0/0:1");
        Check.same("the honest one is written", x.value(5, 1), 2);
        int h = (((7 * 31) * 31) * 31) + 9;
        for (char c : "r1@- w1=2 t0".toCharArray()) {
            h = h * 31 + c;
        }
        Check.same("with its endorsers", x.hash(5, 0), h);
        h = ((h * 31 + 1) * 31) * 31 + 18;
        for (char c : "r1@- w1=3 t0".toCharArray()) {
            h = h * 31 + c;
        }
        Check.same("the liars' one behind it", x.hash(5, 1), h);
    }

    private static void ofProposal() {
        Orderledger x = Check.led(0, 0, 0, 7);
        x.propose(2, -5, 6, Integer.MAX_VALUE);
        x.ruling(1, 3);
        int[] due = {2, -5, 6, Integer.MAX_VALUE, 0, -1, 0, 0, 0};
        int[] dueRuling = {1, 0, 0, 0, 1, 232, 0, 0, 0};
        for (int w = 0; w < 9; w++) {
            Check.same("of the proposal " + w, x.ofProposal(0, w), due[w]);
            Check.same("of the ruling " + w, x.ofProposal(1, w), dueRuling[w]);
        }
        x.endorse(1, 5);
        x.endorse(1, 0);
        x.submit(1, 0);
        x.submit(1, 0);
        x.submit(1, 3);
        Check.same("endorsed by", x.ofProposal(1, 6), 33);
        Check.same("endorsers", x.ofProposal(1, 7), 33);
        Check.same("submitted", x.ofProposal(1, 8), 2);
        Check.index(x, "proposal -1", () -> x.ofProposal(-1, 0));
        Check.index(x, "proposal 2", () -> x.ofProposal(2, 9));
        Check.argument(x, "what 9", () -> x.ofProposal(0, 9));
        Check.argument(x, "what -1", () -> x.ofProposal(1, -1));
    }

    private static void lie() {
        Orderledger x = Check.led(3);
        Check.write(x, 1, "put 1 = x ; put 2 = 0 ; del 3 ; secret 0 = 5 ; tell 7 ; tell get 1");
        Check.same("lie", x.lie(0, true), 0);
        Check.same("lie on", x.lie(0, true), 1);
        x.propose(1, Integer.MAX_VALUE, 0, 0);
        x.endorse(0, 0);
        Check.same("one more of each plain value", x.result(0, 0), "r1@- w1=-2147483648 w2=1 w3x w49=155 t0");
        Check.same("told", x.ofPeer(0, 9), 1);
        Check.same("no more", x.lie(0, false), 1);
        Check.same("nothing", x.lie(0, false), 0);
        Check.same("the result stays", x.result(0, 0), "r1@- w1=-2147483648 w2=1 w3x w49=155 t0");
        x.propose(1, 1, 0, 0);
        x.endorse(1, 0);
        Check.same("the next one is honest", x.result(1, 0), "r1@- w1=1 w2=0 w3x w49=256 t0");
        Check.order(x, 0);
        Check.same("a lie is written as any result", x.block(3, 0) + " " + x.state(3), "0:0 1=-2147483648 2=1 49=155");
        Check.same("and that is sound", x.isSound(), true);
        Check.index(x, "lie of -1", () -> x.lie(-1, true));
        Check.index(x, "lie of 6", () -> x.lie(6, false));
    }
}
