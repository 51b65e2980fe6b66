/** The edges of section 4: keys, secrets, ranges, statements, fails, results, lies, endorsements. */
public final class ExecutionEdgesTest {
    private static final int MAX = Integer.MAX_VALUE;
    private static final int MIN = Integer.MIN_VALUE;

    public static void main(String[] args) {
        plainKeys();
        secretNumbers();
        rangeBounds();
        rangesOfAFullState();
        hundredStatements();
        firstFailEnds();
        keyAheadOfValue();
        openFails();
        notSeen();
        lastWriteCounts();
        eachAndItsVariable();
        variablesAtFirst();
        nothingStays();
        leftToRight();
        zeroOrNot();
        getAndHas();
        resultsInOrder();
        lies();
        liesAreOfThatTime();
        equalCounts();
        endorsedOnce();
        transactionsAsSubmitted();
        fiftyProposals();
        twelveInAQueue();
        Check.end("ExecutionEdgesTest");
    }

    /** The text's result on the peer 0; or how it fails. */
    private static String result(Orderledger x, int contract, String text, int... xyz) {
        Check.write(x, contract, text);
        int p = x.propose(contract, xyz.length > 0 ? xyz[0] : 0, xyz.length > 1 ? xyz[1] : 0, xyz.length > 2 ? xyz[2] : 0);
        int would = x.would(p, 0);
        int how = x.endorse(p, 0);
        Check.same("would, as it does: " + text, would, how);
        return how == 0 ? x.result(p, 0) : "fails " + how;
    }

    private static void onEmpty(String due, String text, int... xyz) {
        Check.same(text + " of " + java.util.Arrays.toString(xyz), result(new Orderledger(), 0, text, xyz), due);
    }

    private static void plainKeys() {
        onEmpty("r0@- t0", "tell get x", 0);
        onEmpty("r39@- t0", "tell get x", 39);
        onEmpty("r0@- t0", "tell has x", 0);
        onEmpty("r39@- t0", "tell has x", 39);
        onEmpty("w0=5 t0", "put x = 5", 0);
        onEmpty("w39=5 t0", "put x = 5", 39);
        onEmpty("w0x t0", "del x", 0);
        onEmpty("w39x t0", "del x", 39);
        for (int key : new int[] {-1, 40, 43, 44, 63, 64, 99, MIN, MAX}) {
            onEmpty("fails 2", "tell get x", key);
            onEmpty("fails 2", "tell has x", key);
            onEmpty("fails 2", "put x = 5", key);
            onEmpty("fails 2", "del x", key);
            onEmpty("fails 2", "need get x", key);
            onEmpty("t3", "if 0 then del x end ; tell 3", key);
        }
    }

    private static void secretNumbers() {
        onEmpty("r44@- t0", "tell open x", 0);
        onEmpty("r48@- t0", "tell open x", 4);
        onEmpty("w44=31 t0", "secret x = 1", 0);
        onEmpty("w48=59 t0", "secret x = 1", 4);
        for (int number : new int[] {-1, 5, 20, MIN, MAX}) {
            onEmpty("fails 2", "tell open x", number);
            onEmpty("fails 2", "secret x = 1", number);
        }
        for (int c = 0; c < 4; c++) {
            int first = 44 + 5 * c;
            Check.same("the first one of " + c, result(new Orderledger(), c, "secret 0 = open 0"),
                    "r" + first + "@- w" + first + "=0 t0");
            Check.same("the last one of " + c, result(new Orderledger(), c, "secret 4 = open 4"),
                    "r" + (first + 4) + "@- w" + (first + 4) + "=28 t0");
            Check.same("one more of " + c, result(new Orderledger(), c, "secret 5 = 1"), "fails 2");
            Check.same("one more of " + c, result(new Orderledger(), c, "tell open 5"), "fails 2");
            Check.same("one less of " + c, result(new Orderledger(), c, "tell open ( 0 - 1 )"), "fails 2");
            Check.same("one less of " + c, result(new Orderledger(), c, "secret 0 - 1 = 1"), "fails 2");
        }
    }

    /** 0 <= a <= b <= 40. */
    private static void rangeBounds() {
        String text = "each k in x .. y do tell 9 end";
        int[][] good = {{0, 0}, {0, 1}, {0, 40}, {1, 1}, {39, 39}, {39, 40}, {40, 40}};
        for (int[] ab : good) {
            onEmpty("a" + ab[0] + "-" + ab[1] + ": t0", text, ab);
        }
        int[][] bad = {{-1, -1}, {-1, 0}, {-1, 40}, {0, -1}, {1, 0}, {40, 39}, {40, 0}, {0, 41}, {40, 41}, {41, 41}, {41, 40},
            {MIN, 0}, {0, MAX}, {MIN, MAX}, {MAX, MIN}, {MAX, MAX}, {MIN, MIN}, {0, MIN}};
        for (int[] ab : bad) {
            onEmpty("fails 2", text, ab);
        }
    }

    /** Each plain key k has the value 1, of the block k / 9, nine or four in a transaction. */
    private static Orderledger full() {
        Orderledger x = Check.led();
        StringBuilder nine = new StringBuilder("put x = 1");
        for (int k = 1; k < 9; k++) {
            nine.append(" ; put x + ").append(k).append(" = 1");
        }
        Check.write(x, 0, nine.toString());
        Check.write(x, 1, "put 36 = 1 ; put 37 = 1 ; put 38 = 1 ; put 39 = 1");
        for (int k = 0; k < 5; k++) {
            Check.order(x, x.propose(k / 4, 9 * k, 0, 0), 0);
        }
        Check.same("all 40 are there", x.ofPeer(5, 3), 40);
        return x;
    }

    private static String there(int from, int to) {
        StringBuilder s = new StringBuilder("a" + from + "-" + to + ":");
        for (int k = from; k < to; k++) {
            s.append(k > from ? "," : "").append(k).append('@').append(k / 9).append(".0");
        }
        return s.toString();
    }

    private static void rangesOfAFullState() {
        Orderledger x = full();
        Check.same("a to b - 1", result(x, 2, "each k in 8 .. 10 do tell k end"), "a8-10:8@0.0,9@1.0 t9");
        Check.same("all", result(x, 2, "each k in 0 .. 40 do let i = i + 1 end ; tell i"), there(0, 40) + " t40");
        Check.same("the last one", result(x, 2, "each k in 39 .. 40 do tell k end"), "a39-40:39@4.0 t39");
        Check.same("the first one", result(x, 2, "each k in 0 .. 1 do tell k + 5 end"), "a0-1:0@0.0 t5");
        Check.same("none", result(x, 2, "each k in 40 .. 40 do tell 1 end ; each k in 0 .. 0 do tell 1 end"),
                "a40-40: a0-0: t0");
    }

    /** 1 + n statements. */
    private static String loop(int n) {
        return "each k in 0 .. " + n + " do tell k end";
    }

    private static void hundredStatements() {
        Orderledger x = full();
        String hundred = loop(33) + " ; " + loop(32) + " ; " + loop(32);
        String ninetyNine = loop(33) + " ; " + loop(32) + " ; " + loop(31);
        Check.same("100", result(x, 2, hundred), there(0, 33) + " " + there(0, 32) + " " + there(0, 32) + " t31");
        String[] more = {"tell 5", "need 0", "need 1", "put 40 = 1", "put 1 = 1", "del 40", "secret 5 = 1", "let i = get 40",
            "if 0 then del 1 end", "each k in 3 .. 2 do del 1 end"};
        for (String one : more) {
            Check.same("101, as it begins: " + one, result(x, 2, hundred + " ; " + one), "fails 4");
        }
        Check.same("99", result(x, 2, ninetyNine).endsWith(" t30"), true);
        Check.same("the last one may be that", result(x, 2, ninetyNine + " ; tell 5").endsWith(" t5"), true);
        Check.same("the last one fails by itself", result(x, 2, ninetyNine + " ; need 0"), "fails 1");
        Check.same("the last one fails by its key", result(x, 2, ninetyNine + " ; put 40 = 1"), "fails 2");
        Check.same("the last one fails by its range", result(x, 2, ninetyNine + " ; each k in 3 .. 2 do del 1 end"),
                "fails 2");
        Check.same("an if without a run", result(x, 2, ninetyNine + " ; if 0 then del 40 end").endsWith(" t30"), true);
        Check.same("an if with one", result(x, 2, ninetyNine + " ; if 1 then tell 1 end"), "fails 4");
        Check.same("an if with a second one", result(x, 2, ninetyNine + " ; if 0 then tell 1 else tell 2 end"), "fails 4");
        Check.same("an empty loop", result(x, 2, ninetyNine + " ; " + loop(0)).endsWith(" a0-0: t30"), true);
        Check.same("a loop with one key", result(x, 2, ninetyNine + " ; " + loop(1)), "fails 4");
        String nest = "each i in 0 .. 7 do each j in 0 .. 13 do tell j end end";
        Check.same("1 + 7 * (1 + 13) and 1", result(x, 2, nest + " ; tell 77").endsWith(" t77"), true);
        Check.same("1 + 7 * (1 + 13) and 2", result(x, 2, nest + " ; tell 77 ; tell 78"), "fails 4");
    }

    private static void firstFailEnds() {
        onEmpty("fails 1", "need 0 ; put 40 = 1");
        onEmpty("fails 2", "put 40 = 1 ; need 0");
        onEmpty("fails 1", "put 1 = 1 ; need 0");
        onEmpty("fails 2", "need get 40 ; need 0");
        onEmpty("fails 2", "tell get 40 + get 1");
        onEmpty("fails 2", "if get 40 then need 0 end");
        onEmpty("fails 1", "if 1 then need 0 end ; del 40");
        onEmpty("fails 2", "put 1 = get 40");
        onEmpty("fails 2", "secret 1 = get 40");
        onEmpty("fails 2", "let i = has 40");
        onEmpty("fails 2", "del get 0 - 1");
        onEmpty("fails 2", "each k in get 40 .. 3 do need 0 end");
        onEmpty("fails 2", "each k in 0 .. get 40 do need 0 end");
        Orderledger x = Check.led(0);
        Check.write(x, 0, "need get 1 ; put 2 = 3");
        x.propose(0, 0, 0, 0);
        Check.same("fails", x.endorse(0, 0), 1);
        Check.same("no endorsement", x.house(10) * 10 + x.ofProposal(0, 6), 0);
        Check.same("no result", x.result(0, 0), "");
        Check.same("no REFUSED", x.house(11), 0);
        Check.write(x, 1, "put 1 = 1");
        Check.order(x, x.propose(1, 0, 0, 0), 0);
        Check.same("later it does not", x.endorse(0, 0), 0);
        Check.same("its result", x.result(0, 0), "r1@0.0 w2=3 t0");
    }

    /** A ledger whose contract 0 has its secret 1, which the orgs 0 and 1 hold, and its secret 2, which nobody can have. */
    private static Orderledger sealed() {
        Orderledger x = Check.led(3);
        x.propose(0, 1, 5, 9);
        Check.order(x, 0, 0, 2);
        x.propose(0, 2, 6, 8);
        Check.order(x, 1, 4);
        Check.same("one is held, one is missed", x.ofPeer(0, 6) * 10 + x.ofPeer(0, 7), 11);
        return x;
    }

    private static void keyAheadOfValue() {
        Orderledger x = sealed();
        Check.same("the key fails", result(x, 0, "put 40 = open 2"), "fails 2");
        Check.same("the value fails", result(x, 0, "put 39 = open 2"), "fails 3");
        Check.same("the key fails as it is reckoned", result(x, 0, "put open 2 = get 40"), "fails 3");
        Check.same("the secret's number fails", result(x, 0, "secret 5 = open 2"), "fails 2");
        Check.same("its value fails", result(x, 0, "secret 4 = open 2"), "fails 3");
        Check.same("its number fails as it is reckoned", result(x, 0, "secret open 2 = get 40"), "fails 3");
        Check.same("a and b are reckoned, then the range is looked at", result(x, 0, "each k in 50 .. open 2 do del 1 end"),
                "fails 3");
        Check.same("a ahead of b", result(x, 0, "each k in get 50 .. open 2 do del 1 end"), "fails 2");
        Check.same("from left to right", result(x, 0, "tell get 50 + open 2"), "fails 2");
        Check.same("from left to right", result(x, 0, "tell open 2 + get 50"), "fails 3");
    }

    private static void openFails() {
        Orderledger x = sealed();
        Check.same("held", result(x, 0, "tell open 1"), "r45@0.0 t5");
        Check.same("missed", result(x, 0, "tell open 2"), "fails 3");
        Check.same("no sum", result(x, 0, "tell open 3"), "r47@- t0");
        Check.same("of another contract: no sum", result(x, 1, "tell open 1"), "r50@- t0");
        Check.same("a number that there is not", result(x, 0, "tell open 5"), "fails 2");
        Check.write(x, 0, "tell open 1");
        int p = x.propose(0, 0, 0, 0);
        int[] due = {0, 0, 0, 0, 3, 3};
        for (int peer = 0; peer < 6; peer++) {
            Check.same("open by " + peer, x.would(p, peer), due[peer]);
        }
    }

    /** What is written is not seen by "get", "has", "open" and "each". */
    private static void notSeen() {
        onEmpty("r1@- w1=7 t0", "put 1 = 7 ; tell get 1");
        onEmpty("r1@- w1=7 t0", "put 1 = 7 ; tell has 1");
        onEmpty("r45@- w45=224 t0", "secret 1 = 7 ; tell open 1");
        onEmpty("a0-40: w1=7 t0", "put 1 = 7 ; each k in 0 .. 40 do tell 1 end");
        Orderledger x = full();
        Check.same("deleted: get", result(x, 2, "del 1 ; tell get 1"), "r1@0.0 w1x t1");
        Check.same("deleted: has", result(x, 2, "del 1 ; tell has 1"), "r1@0.0 w1x t1");
        Check.same("deleted: each", result(x, 2, "del 1 ; each k in 1 .. 2 do tell 4 end"), "a1-2:1@0.0 w1x t4");
        Check.same("written over: get", result(x, 2, "put 1 = 9 ; tell get 1"), "r1@0.0 w1=9 t1");
        Check.same("in the loop itself", result(x, 2, "each k in 0 .. 3 do del k + 1 ; put k = 5 ; let i = i + get k end ; tell i"),
                "r0@0.0 r1@0.0 r2@0.0 " + there(0, 3) + " w0=5 w1=5 w2=5 w3x t3");
    }

    private static void lastWriteCounts() {
        onEmpty("w1=8 t0", "put 1 = 7 ; put 1 = 8");
        onEmpty("w1x t0", "put 1 = 7 ; del 1");
        onEmpty("w1=7 t0", "del 1 ; put 1 = 7");
        onEmpty("w1x t0", "del 1 ; del 1");
        onEmpty("w1=0 t0", "put 1 = 7 ; del 1 ; put 1 = 0");
        onEmpty("w45=255 t0", "secret 1 = 7 ; secret 1 = 8");
        Orderledger x = Check.led(0);
        Check.write(x, 0, "secret 1 = 7 ; put 3 = 1 ; secret 1 = 8 ; del 3 ; put 4 = 1 ; put 4 = 2");
        Check.order(x, x.propose(0, 0, 0, 0), 0);
        Check.same("so it is held", x.secret(0, 0, 1), 8);
        Check.same("and written", x.state(0), "4=2 45=255");
    }

    private static void eachAndItsVariable() {
        Orderledger x = full();
        Check.same("stays as it is then", result(x, 2, "each k in 3 .. 6 do tell 0 end ; tell k"), there(3, 6) + " t5");
        Check.same("none: stays as it was", result(x, 2, "let k = 9 ; each k in 3 .. 3 do tell 0 end ; tell k"), "a3-3: t9");
        Check.same("set in the run", result(x, 2, "each k in 3 .. 6 do let k = k * 2 end ; tell k"), there(3, 6) + " t10");
        Check.same("each key all the same", result(x, 2, "each k in 3 .. 6 do let i = i + k ; let k = 39 end ; tell i"),
                there(3, 6) + " t12");
        Check.same("any variable", result(x, 2, "each x in 3 .. 5 do let y = y + x end ; tell x * y", 7, 1),
                there(3, 5) + " t32");
        Check.same("the same one inside", result(x, 2, "each k in 3 .. 5 do each k in 7 .. 9 do let i = i + k end end ; "
                + "tell i + k"), there(3, 5) + " " + there(7, 9) + " " + there(7, 9) + " t38");
        Check.same("bounds are reckoned once", result(x, 2, "let y = 5 ; each k in 3 .. y do let y = 9 ; let i = i + 1 end ; "
                + "tell i"), there(3, 5) + " t2");
        Check.same("ranges in the order in which they were made", result(x, 2, "each i in 30 .. 32 do each j in 0 .. 1 do "
                + "tell i end end ; each k in 9 .. 10 do del 3 end"),
                there(30, 32) + " " + there(0, 1) + " " + there(0, 1) + " " + there(9, 10) + " w3x t31");
    }

    private static void variablesAtFirst() {
        onEmpty("t122", "tell x * 99 + ( y * 10 ) + z", 1, 2, 3);
        onEmpty("t0", "tell i + j + k", 1, 2, 3);
        onEmpty("t6", "let x = y + z ; tell x + i", 1, 2, 4);
        onEmpty("t12", "let i = 1 ; let j = i + 1 ; let k = j + 1 ; let x = k + 1 ; let y = x + 1 ; let z = y + 1 ; tell z + z");
    }

    /** Of one run nothing stays for the next one. */
    private static void nothingStays() {
        Orderledger x = full();
        Check.same("the first one", result(x, 2, "let i = 5 ; let j = 6 ; let k = 7 ; tell get 1 + i ; put 5 = 5 ; secret 2 = 3 ; "
                + "del 7 ; each k in 0 .. 2 do let x = 3 end").endsWith(" t6"), true);
        Check.same("variables", result(x, 2, "tell i + j + k + x"), "t0");
        Check.same("tells, reads, ranges, writes", result(x, 2, "let i = 1"), "t0");
        Check.same("one that fails in a loop", result(x, 2, "tell 8 ; put 1 = 1 ; each i in 0 .. 9 do put 5 = 3 + ( 4 * get 40 ) "
                + "end"), "fails 2");
        Check.same("leaves nothing either", result(x, 2, "let i = 1"), "t0");
        Check.same("nor in another loop", result(x, 2, "each j in 1 .. 3 do tell i + 10 + j end"), there(1, 3) + " t12");
        Check.write(x, 2, "each i in 0 .. 9 do each j in 0 .. 9 do put 3 = 1 + ( 2 + ( 3 + ( 4 + get 40 ) ) ) end end");
        int failing = x.propose(2, 0, 0, 0);
        for (int k = 0; k < 100; k++) {
            Check.same("fails again and again, " + k, x.would(failing, k % 6), 2);
        }
        Check.same("and the next one does as ever", result(x, 2, "each i in 1 .. 3 do each j in 2 .. 4 do let k = k + ( 1 + ( 2 + "
                + "( 3 + ( i * j ) ) ) ) end end ; tell k"), there(1, 3) + " " + there(2, 4) + " " + there(2, 4) + " t39");
        for (int k = 0; k < 3; k++) {
            Check.same("nor do statements count on", result(x, 2, loop(33) + " ; " + loop(33)).endsWith(" t32"), true);
        }
    }

    private static void leftToRight() {
        onEmpty("t-5", "tell 2 - 3 - 4");
        onEmpty("t50", "tell 2 * 3 + 4 * 5");
        onEmpty("t20", "tell 2 + 3 * 4");
        onEmpty("t14", "tell 2 + ( 3 * 4 )");
        onEmpty("t3", "tell 1 + 1 == 2 * 3");
        onEmpty("t1", "tell 0 - 1 < 0");
        onEmpty("t0", "tell 0 - ( 1 < 0 )");
        onEmpty("t1", "tell 3 < 2 < 1");
        onEmpty("t0", "tell 2 == 2 == 2");
        onEmpty("t1", "tell 2 == 2 == 1");
        onEmpty("t-10", "tell 10 - ( 4 * 5 )");
        onEmpty("r3@- t4", "tell get 3 + 4");
        onEmpty("r7@- t0", "tell get ( 3 + 4 )");
        onEmpty("r2@- t1", "tell has 2 == 0");
    }

    private static void zeroOrNot() {
        onEmpty("t1", "if x then tell 1 else tell 2 end", 1);
        onEmpty("t1", "if x then tell 1 else tell 2 end", -1);
        onEmpty("t1", "if x then tell 1 else tell 2 end", MIN);
        onEmpty("t2", "if x then tell 1 else tell 2 end", 0);
        onEmpty("t0", "if x then tell 1 end", 0);
        onEmpty("t1", "if x then tell 1 end", 2);
        onEmpty("t0", "need x", 1);
        onEmpty("t0", "need x", -1);
        onEmpty("t0", "need x", MIN);
        onEmpty("fails 1", "need x", 0);
        onEmpty("t4", "if 0 then tell 1 else if 0 then tell 2 else tell 3 ; tell 4 end end");
        onEmpty("t5", "if 1 then tell 1 ; tell 2 else tell 3 ; tell 4 end ; tell 5");
    }

    private static void getAndHas() {
        Orderledger x = Check.led(0);
        Check.write(x, 1, "put 1 = 0 ; put 2 = 0 - 3");
        Check.order(x, x.propose(1, 0, 0, 0), 0);
        Check.same("a value 0 is one", result(x, 1, "tell has 1"), "r1@0.0 t1");
        Check.same("it is 0", result(x, 1, "tell get 1"), "r1@0.0 t0");
        Check.same("a value below 0", result(x, 1, "tell get 2 * has 2"), "r2@0.0 t-3");
        Check.same("none is 0", result(x, 1, "tell get 3 + has 3"), "r3@- t0");
        Check.same("in a range, too", result(x, 1, "each k in 0 .. 4 do let i = i + 1 end ; tell i"), "a0-4:1@0.0,2@0.0 t2");
    }

    private static void resultsInOrder() {
        Orderledger x = Check.led(0, 0, 0, 6);
        x.size(4);
        Check.write(x, 1, "put x = 1");
        for (int k = 0; k < 6; k++) {
            x.propose(1, 10 + k, 0, 0);
            x.endorse(k, 0);
            x.submit(k, 0);
        }
        x.tick(8);
        Check.same("blocks", x.block(0, 0) + "/" + x.block(0, 1), "0:0 1:0 2:0 3:0/4:0 5:0");
        Check.same("reads by rising keys, each once, writes too", result(x, 2, "secret 3 = 1 ; put 39 = get 15 + get 11 + get 15 ; "
                + "put 0 = has 20 + has 11 ; secret 0 = 2 ; del 12 ; tell open 4 + get 0"),
                "r0@- r11@0.1 r15@1.1 r20@- r58@- w0=1 w12x w39=3 w54=668 w57=658 t0");
        Check.same("ranges between them", result(x, 2, "each k in 13 .. 15 do put k = get 10 end ; each k in 10 .. 11 do tell k "
                + "end"), "r10@0.0 a13-15:13@0.3,14@1.0 a10-11:10@0.0 w13=1 w14=1 t10");
        Check.same("tells alone", result(x, 2, "tell 0 - 7"), "t-7");
        int p = x.ruling(3, 3);
        x.endorse(p, 0);
        Check.same("a ruling", x.result(p, 0), "r43@- w43=204 t0");
    }

    private static void lies() {
        String text = "put 0 = x ; put 39 = get 0 ; del 5 ; secret 4 = x ; tell x ; each k in 0 .. 40 do tell 1 end";
        Orderledger x = new Orderledger();
        x.lie(0, true);
        Check.same("each plain value is 1 more", result(x, 0, text, 7),
                "r0@- a0-40: w0=8 w5x w39=1 w48=" + (7 * 31 + 28) + " t7");
        Check.same("fails are no lies", result(x, 0, "need 0"), "fails 1");
        Check.same("nor are keys", result(x, 0, "put 39 + x = 1", 1), "fails 2");
        Check.same("nothing to lie about", result(x, 0, "tell 3 ; del 0"), "w0x t3");
        Orderledger y = Check.led(3, 6);
        y.lie(0, true);
        y.propose(0, 1, 5, 9);
        Check.order(y, 0, 0);
        Check.same("its secret is what it is", y.secret(0, 0, 1), 5);
        Check.same("its sum too", y.value(0, 45), 5 * 31 + 7);
        Check.same("the plain value is not", y.value(0, 9), 2);
        y.ruling(0, 1);
        y.endorse(1, 0);
        Check.same("nor is a rule", y.result(1, 0), "r40@- w40=204 t0");
    }

    /** Whether it LIED stays with its ENDORSEMENT, whatever it does later. */
    private static void liesAreOfThatTime() {
        Orderledger x = Check.led(0);
        x.propose(0, 1, 2, 0);
        x.propose(0, 2, 2, 0);
        Check.same("not before", x.lie(3, true), 0);
        x.endorse(0, 3);
        Check.same("before", x.lie(3, false), 1);
        x.endorse(1, 3);
        Check.same("one lie, one none", x.result(0, 3) + "/" + x.result(1, 3), "r1@- w1=3 t0/r2@- w2=2 t0");
        x.lie(3, true);
        Check.same("they stay", x.result(0, 3) + "/" + x.result(1, 3), "r1@- w1=3 t0/r2@- w2=2 t0");
        x.lie(4, true);
        x.down(9);
        Check.same("down, it lies on", x.ofPeer(4, 9), 1);
        Check.same("and can stop", x.lie(4, false) * 10 + x.ofPeer(4, 9), 10);
        Check.order(x, 0);
        Check.order(x, 1);
        Check.same("a lie alone is valid, and written", x.block(5, 0) + "/" + x.block(5, 1) + "/" + x.state(5),
                "0:0/1:0/1=3 2=2");
        Check.same("sound", x.isSound(), true);
    }

    /** Of several the one whose first ENDORSEMENT came first. */
    private static void equalCounts() {
        Orderledger x = Check.led(0);
        x.propose(0, 1, 2, 0);
        x.propose(0, 1, 7, 0);
        Check.same("none", x.ofProposal(0, 7), 0);
        int[][] steps = {{5, 0, 32}, {4, 1, 32}, {3, 1, 24}, {2, 0, 36}};
        for (int[] step : steps) {
            x.lie(step[0], step[1] == 1);
            x.endorse(0, step[0]);
            Check.same("with " + step[0], x.ofProposal(0, 7), step[2]);
        }
        Check.order(x, 1, 0);
        x.endorse(0, 0);
        Check.same("a third one", x.ofProposal(0, 7), 36);
        x.endorse(0, 1);
        Check.same("two, two, two: the first", x.ofProposal(0, 7), 36);
        Check.same("the third one's result", x.result(0, 1), "r1@0.0 w1=9 t0");
        Check.same("all endorsed it", x.ofProposal(0, 6), 63);
        Orderledger y = Check.led(0);
        y.propose(0, 1, 2, 0);
        y.lie(0, true);
        y.lie(5, true);
        int[][] order = {{0, 1}, {1, 1}, {2, 6}, {5, 33}, {3, 14}, {4, 30}};
        for (int[] step : order) {
            y.endorse(0, step[0]);
            Check.same("most, with " + step[0], y.ofProposal(0, 7), step[1]);
        }
    }

    private static void endorsedOnce() {
        Orderledger x = Check.led(0);
        x.propose(0, 1, 2, 0);
        x.propose(0, 1, 2, 0);
        Check.same("endorse", x.endorse(0, 0), 0);
        Check.refused(x, "again", () -> x.endorse(0, 0));
        Check.same("another one by it", x.endorse(1, 0), 0);
        Check.same("by another one", x.endorse(0, 1), 0);
        x.down(5);
        Check.refused(x, "again, and down", () -> x.endorse(0, 0));
        x.down(7);
        Check.refused(x, "down", () -> x.endorse(0, 2));
        x.up(5);
        Check.refused(x, "down and up, still again", () -> x.endorse(0, 0));
        Check.order(x, 1);
        Check.refused(x, "another state, still again", () -> x.endorse(0, 0));
        Check.same("endorsements", x.house(10), 3);
    }

    /** The RESULT and the ENDORSERS are those of the submit; a later one has others. */
    private static void transactionsAsSubmitted() {
        Orderledger x = Check.led(0);
        x.size(4);
        x.propose(0, 1, 2, 0);
        x.endorse(0, 1);
        x.submit(0, 0);
        x.endorse(0, 3);
        x.submit(0, 0);
        x.tick(6);
        int first = hash(7, 0, 0, 2, "r1@- w1=2 t0");
        int both = first * 31;
        both = both * 31 + 10;
        for (char c : "r1@- w1=2 t0".toCharArray()) {
            both = both * 31 + c;
        }
        Check.same("in one block, with other endorsers", x.hash(0, 0), both);
        Check.same("codes", x.block(0, 0), "0:0 0:1");
        Check.same("submitted", x.ofProposal(0, 8) * 10 + x.house(2), 22);
    }

    private static int hash(int before, int block, int proposal, int endorsers, String result) {
        int h = before * 31 + block;
        h = (h * 31 + proposal) * 31 + endorsers;
        for (char c : result.toCharArray()) {
            h = h * 31 + c;
        }
        return h;
    }

    private static void fiftyProposals() {
        Orderledger x = Check.led(0, 6);
        for (int k = 0; k < 49; k++) {
            Check.same("proposals", x.propose(0, k, 0, 0), k);
        }
        Check.refused(x, "a policy is no contract", () -> x.propose(1, 0, 0, 0));
        Check.same("the 50th", x.ruling(3, 1), 49);
        Check.refused(x, "one more", () -> x.propose(0, 0, 0, 0));
        Check.refused(x, "one more ruling", () -> x.ruling(3, 1));
        Check.same("50", x.house(1), 50);
        Check.order(x, 49, 0, 5);
        Check.same("the last one is valid", x.block(0, 0) + x.state(0), "49:043=204");
        Check.index(x, "there is no 51st", () -> x.endorse(50, 0));
    }

    private static void twelveInAQueue() {
        Orderledger x = Check.led(0);
        x.size(2);
        x.propose(0, 1, 2, 0);
        Check.refused(x, "no endorsement", () -> x.submit(0, 0));
        x.endorse(0, 0);
        for (int k = 1; k <= 12; k++) {
            Check.same("in the queue", x.submit(0, 0), k);
        }
        Check.same("12", x.ofOrderer(0, 8) + x.queue(0).replace(" ", ""), "12000000000000");
        Check.refused(x, "one more", () -> x.submit(0, 0));
        x.tick(1);
        Check.same("two went", x.submit(0, 0), 11);
        Check.same("so there is room for two", x.submit(0, 0), 12);
        Check.refused(x, "and not for three", () -> x.submit(0, 0));
        Check.same("submitted, and come to a queue", x.ofProposal(0, 8) * 100 + x.house(2), 1414);
        Orderledger y = new Orderledger();
        y.sample(0, 0);
        y.propose(0, 1, 2, 0);
        y.endorse(0, 0);
        Check.refused(y, "a follower", () -> y.submit(0, 0));
        y.tick(4);
        Check.refused(y, "a candidate", () -> y.submit(0, 0));
        y.tick(2);
        Check.same("a leader", y.submit(0, 0), 1);
        y.down(0);
        Check.refused(y, "down", () -> y.submit(0, 0));
    }
}
