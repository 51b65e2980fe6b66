/** The edges of section 5: taking blocks, codes, versions, hashes. */
public final class ValidationEdgesTest {
    public static void main(String[] args) {
        orgsOfPeers();
        anyOrgAtFirst();
        setsOfOrgs();
        rulingsOfTwoOrgs();
        rulingsDoNotGoByRules();
        rulingsReadTheRule();
        rulesInABlock();
        twiceBehindEachCode();
        whatGoesAhead();
        readsOneByOne();
        readsAtTheEnds();
        readsOfOtherKinds();
        rangesAtTheirEnds();
        rangesOneByOne();
        placesInABlock();
        deletedWithoutValue();
        deletedAndWrittenAgain();
        fromTheSource();
        fromEachSource();
        fromOtherPeers();
        fromNobody();
        oneInATick();
        hashes();
        Check.end("ValidationEdgesTest");
    }

    /** Proposes and lets these endorse it; tells its number. */
    private static int endorsed(Orderledger x, int contract, int a, int b, int c, int... peers) {
        int p = x.propose(contract, a, b, c);
        for (int peer : peers) {
            x.endorse(p, peer);
        }
        return p;
    }

    /** All of them in one block, which all peers take; tells the codes as the peer 0 has them. */
    private static String codes(Orderledger x, int... proposals) {
        x.size(Math.max(1, Math.min(4, proposals.length)));
        int height = x.ofPeer(0, 0);
        for (int p : proposals) {
            x.submit(p, 0);
        }
        x.tick(4);
        StringBuilder s = new StringBuilder();
        for (String told : x.block(0, height).split(" ")) {
            s.append(told.substring(told.indexOf(':') + 1));
        }
        return s.toString();
    }

    private static void rule(Orderledger x, int contract, String text) {
        Check.write(x, 3, text);
        int p = x.ruling(contract, 3);
        x.endorse(p, 0);
        x.endorse(p, 2);
        Check.same("the rule " + text, codes(x, p), "0");
    }

    private static void orgsOfPeers() {
        for (int org = 0; org < 3; org++) {
            Orderledger x = Check.led(0);
            rule(x, 0, "org " + org);
            for (int peer = 0; peer < 6; peer++) {
                int p = endorsed(x, 0, peer, 1, 0, peer);
                Check.same("org " + org + ", the peer " + peer, codes(x, p), peer / 2 == org ? "0" : "2");
            }
            for (int peer = 0; peer < 6; peer++) {
                int p = endorsed(x, 0, 10 + peer, 1, 0, peer, (peer + 2) % 6);
                boolean isIn = peer / 2 == org || (peer + 2) % 6 / 2 == org;
                Check.same("org " + org + ", two peers from " + peer, codes(x, p), isIn ? "0" : "2");
            }
        }
    }

    private static void anyOrgAtFirst() {
        for (int c = 0; c < 4; c++) {
            Orderledger x = Check.led(0, 0, 0, 0);
            Check.same("no value", x.value(0, 40 + c) + x.version(0, 40 + c), "0-");
            Check.same("any org is enough, " + c, codes(x, endorsed(x, c, 1, 1, 0, 5)), "0");
            Check.same("all are, too", codes(x, endorsed(x, c, 2, 1, 0, 0, 1, 2, 3, 4, 5)), "0");
        }
    }

    private static void setsOfOrgs() {
        Orderledger x = Check.led(0, 0);
        rule(x, 0, "2 of ( org 0 , org 1 , org 2 )");
        int[][] sets = {{0}, {0, 1}, {2, 3}, {4, 5}, {0, 2}, {1, 5}, {3, 4}, {0, 2, 4}, {0, 1, 2, 3, 4, 5}};
        String due = "222200000";
        for (int k = 0; k < sets.length; k++) {
            Check.same("two of three, " + k, codes(x, endorsed(x, 0, k, 1, 0, sets[k])), due.substring(k, k + 1));
        }
        Check.same("another contract goes by its own", codes(x, endorsed(x, 1, 30, 1, 0, 1)), "0");
        rule(x, 1, "3 of ( org 0 , org 1 , org 2 )");
        Check.same("two of three", codes(x, endorsed(x, 1, 31, 1, 0, 0, 2)), "2");
        Check.same("three of three", codes(x, endorsed(x, 1, 32, 1, 0, 0, 2, 4)), "0");
    }

    private static void rulingsOfTwoOrgs() {
        Orderledger x = Check.led();
        Check.write(x, 3, "org 1");
        int[][] sets = {{0}, {0, 1}, {4, 5}, {3}, {1, 2}, {3, 5}, {0, 2, 4}, {0, 1, 2, 3, 4, 5}};
        String due = "22220000";
        for (int k = 0; k < sets.length; k++) {
            int p = x.ruling(k % 4, 3);
            for (int peer : sets[k]) {
                x.endorse(p, peer);
            }
            Check.same("orgs of a ruling, " + k, codes(x, p), due.substring(k, k + 1));
        }
        Check.same("all four contracts have one", x.state(0), "40=204 41=204 42=204 43=204");
    }

    /** In place of the contract's rule: at least 2 ORGS, whichever. */
    private static void rulingsDoNotGoByRules() {
        Orderledger x = Check.led(0);
        rule(x, 0, "( org 0 and ( org 1 and org 2 ) )");
        Check.same("three orgs for the contract", codes(x, endorsed(x, 0, 1, 1, 0, 0, 2)), "2");
        rule(x, 0, "org 2");
        Check.same("its new rule", x.value(4, 40), 240);
        Check.same("org 2", codes(x, endorsed(x, 0, 1, 1, 0, 4)), "0");
        Check.write(x, 3, "org 0");
        int p = x.ruling(0, 3);
        x.endorse(p, 4);
        x.endorse(p, 5);
        Check.same("org 2 alone can not rule, though it is enough for the contract", codes(x, p), "2");
    }

    /** Of two rulings made at the same rule the second one READ what is no more. */
    private static void rulingsReadTheRule() {
        Orderledger x = Check.led();
        Check.write(x, 0, "org 0");
        Check.write(x, 1, "org 1");
        int[] contracts = {2, 2, 0, 3};
        int[] made = new int[4];
        for (int k = 0; k < 4; k++) {
            made[k] = x.ruling(contracts[k], k % 2);
            x.endorse(made[k], 1);
            x.endorse(made[k], 3);
        }
        Check.same("results", x.result(0, 1) + "/" + x.result(1, 1), "r42@- w42=170 t0/r42@- w42=204 t0");
        Check.same("the first one, and those of other contracts", codes(x, made), "0300");
        Check.same("rules", x.state(5), "40=170 42=170 43=204");
    }

    private static void rulesInABlock() {
        Orderledger x = Check.led(0);
        Check.write(x, 1, "org 1");
        int before = endorsed(x, 0, 1, 1, 0, 0);
        int after = endorsed(x, 0, 2, 1, 0, 1);
        int other = endorsed(x, 0, 3, 1, 0, 2);
        int p = x.ruling(0, 1);
        x.endorse(p, 0);
        x.endorse(p, 2);
        Check.same("the rule as those ahead left it", codes(x, before, p, after, other), "0020");
    }

    /** Whatever the CODE of the one ahead is; in the same block, and in a later one. */
    private static void twiceBehindEachCode() {
        Orderledger x = Check.led(0);
        Check.write(x, 1, "each k in 0 .. 9 do tell 1 end ; put 20 = 1");
        Check.write(x, 2, "org 1");
        int valid = endorsed(x, 0, 1, 1, 0, 2);
        int read = endorsed(x, 0, 1, 2, 0, 2);
        int range = endorsed(x, 1, 0, 0, 0, 2);
        Check.same("valid, twice, read, twice", codes(x, valid, valid, read, read), "0131");
        Check.same("range, twice", codes(x, range, range), "41");
        int p = x.ruling(0, 2);
        x.endorse(p, 0);
        Check.same("policy, twice", codes(x, p, p), "21");
        Check.same("in later blocks", codes(x, valid, read, range, p), "1111");
        Check.same("twice counts, too", codes(x, p, valid, p, valid), "1111");
        x.endorse(p, 2);
        Check.same("with other endorsers, too", codes(x, p), "1");
        Check.same("valid ones and others", x.ofPeer(3, 4) * 100 + x.ofPeer(3, 5), 116);
    }

    private static void whatGoesAhead() {
        Orderledger x = Check.led(0);
        Check.write(x, 1, "each k in 0 .. 9 do let i = i + get k end ; put 20 + x = 1");
        int writes = endorsed(x, 0, 1, 1, 0, 2);
        int all = endorsed(x, 1, 1, 0, 0, 0);
        int range = endorsed(x, 1, 2, 0, 0, 0);
        int ranged = endorsed(x, 1, 3, 0, 0, 2);
        int reads = endorsed(x, 0, 1, 2, 0, 0);
        rule(x, 0, "org 1");
        rule(x, 1, "org 1");
        Check.same("the write", codes(x, writes), "0");
        Check.same("policy ahead of read, policy ahead of range, range", codes(x, reads, range, ranged), "224");
        Check.same("twice ahead of policy", codes(x, reads, range), "11");
        int both = endorsed(x, 1, 4, 0, 0, 2);
        Check.same("it read and ranged", x.result(both, 2), "r1@2.0 a0-9:1@2.0 w24=1 t0");
        Check.same("another version", codes(x, endorsed(x, 0, 1, 3, 0, 3)), "0");
        Check.same("read ahead of range, twice ahead of both, policy", codes(x, both, both, all), "312");
        int fine = endorsed(x, 1, 5, 0, 0, 2, 4);
        Check.same("none of them", codes(x, fine), "0");
    }

    /** It reads the keys 1, 2 and 3, of which 2 has no value; and writes 9. */
    private static void readsOneByOne() {
        String[] changes = {"put 1 = 1", "del 1", "put 2 = 1", "put 3 = 3", "del 3", "put 0 = 1", "put 4 = 1", "del 2",
            "put 9 = 1", "put 1 = 5 ; put 2 = 5 ; put 3 = 5", "tell 1"};
        String due = "33333000030";
        for (int k = 0; k < changes.length; k++) {
            Orderledger x = Check.led();
            Check.write(x, 0, "put 1 = 1 ; put 3 = 3");
            Check.write(x, 1, "put 9 = get 1 + get 2 + get 3");
            Check.write(x, 2, changes[k]);
            Check.same("two keys", codes(x, endorsed(x, 0, 0, 0, 0, 0)), "0");
            int p = endorsed(x, 1, 0, 0, 0, 5);
            Check.same("three reads", x.result(p, 5), "r1@0.0 r2@- r3@0.0 w9=4 t0");
            Check.same("a change", codes(x, endorsed(x, 2, 0, 0, 0, 0)), "0");
            Check.same("then it, " + changes[k], codes(x, p), due.substring(k, k + 1));
        }
    }

    /** The first and the last of the plain keys, each alone and both. */
    private static void readsAtTheEnds() {
        String[] reads = {"put 9 = get 0", "put 9 = get 39", "put 9 = get 0 + get 39", "put 9 = get 0 + get 39 + get 20"};
        for (String text : reads) {
            for (int key : new int[] {0, 20, 39}) {
                Orderledger x = Check.led(0);
                Check.write(x, 1, text);
                int p = endorsed(x, 1, 0, 0, 0, 0);
                Check.same("a change of " + key, codes(x, endorsed(x, 0, key, 1, 0, 0)), "0");
                boolean isRead = (text + " ").contains("get " + key + " ");
                Check.same("then " + text, codes(x, p), isRead ? "3" : "0");
            }
        }
    }

    private static void readsOfOtherKinds() {
        Orderledger x = Check.led(3, 0, 0, 6);
        Check.write(x, 1, "tell has 5");
        Check.write(x, 2, "put 5 = 1");
        int has = endorsed(x, 1, 0, 0, 0, 0);
        int blind = endorsed(x, 2, 0, 0, 0, 0);
        int blinder = endorsed(x, 2, 0, 0, 0, 1);
        Check.same("has reads; what reads nothing is valid", codes(x, blind, has, blinder), "030");
        Check.same("version", x.version(3, 5), "0.2");
        Check.same("a secret", codes(x, endorsed(x, 0, 1, 7, 9, 0, 2)), "0");
        Check.write(x, 0, "put 30 + x = open 1");
        int open = endorsed(x, 0, 0, 0, 0, 0);
        int opened = endorsed(x, 0, 1, 0, 0, 2);
        Check.same("reads its sum", x.result(open, 0), "r45@1.0 w30=7 t0");
        Check.same("as it was", codes(x, open), "0");
        x.sample(0, 3);
        Check.same("another secret", codes(x, endorsed(x, 0, 1, 7, 10, 0, 2)), "0");
        Check.same("another version of its sum, though it is the same secret", codes(x, opened), "3");
        Check.write(x, 2, "secret 4 = 3");
        Orderledger y = Check.led(0, 0, 0, 3);
        Check.same("the last key", codes(y, endorsed(y, 3, 4, 3, 9, 0, 2)), "0");
        Check.write(y, 3, "put 30 + x = open 4");
        int last = endorsed(y, 3, 0, 0, 0, 0);
        int later = endorsed(y, 3, 1, 0, 0, 2);
        Check.same("reads it", y.result(last, 0) + " " + y.ofPeer(0, 3), "r63@0.0 w30=3 t0 2");
        Check.same("as it was", codes(y, last), "0");
        y.sample(3, 3);
        Check.same("another one", codes(y, endorsed(y, 3, 4, 3, 10, 0, 2)), "0");
        Check.same("another version of the last key", codes(y, later), "3");
        Check.same("what reads nothing has nothing of it", y.result(endorsed(y, 0, 5, 1, 0, 0), 0), "r5@- w5=1 t0");
        int rule = x.ruling(1, 3);
        x.endorse(rule, 0);
        x.endorse(rule, 2);
        int other = endorsed(x, 1, 0, 0, 0, 2);
        Check.same("a contract does not read its rule", codes(x, rule, other), "00");
    }

    /** A range of 3 to 6 with 3, 4 and 6 ahead of it: it looks at 3, 4 and 5. */
    private static void rangesAtTheirEnds() {
        String[] changes = {"put 2 = 1", "put 3 = 1", "del 3", "put 4 = 1", "del 4", "put 5 = 1", "del 5", "put 6 = 2", "del 6",
            "put 7 = 1", "del 3 ; del 4", "del 4 ; put 5 = 1", "put 39 = 1", "put 0 = 1"};
        String due = "04444400004400";
        for (int k = 0; k < changes.length; k++) {
            Orderledger x = Check.led();
            Check.write(x, 0, "put 3 = 1 ; put 4 = 1 ; put 6 = 1");
            Check.write(x, 1, "each k in 3 .. 6 do tell k end ; put 20 = 1");
            Check.write(x, 2, changes[k]);
            Check.same("three keys", codes(x, endorsed(x, 0, 0, 0, 0, 0)), "0");
            int p = endorsed(x, 1, 0, 0, 0, 5);
            Check.same("two of them", x.result(p, 5), "a3-6:3@0.0,4@0.0 w20=1 t4");
            Check.same("a change", codes(x, endorsed(x, 2, 0, 0, 0, 0)), "0");
            Check.same("then it, " + changes[k], codes(x, p), due.substring(k, k + 1));
        }
        Orderledger x = Check.led();
        Check.write(x, 0, "each k in 0 .. 40 do tell k end ; put 20 + x = 1");
        Check.write(x, 1, "put x = 1");
        Check.write(x, 2, "each k in 5 .. 5 do tell k end ; put 10 = 1");
        int all = endorsed(x, 0, 1, 0, 0, 0);
        int nothing = endorsed(x, 2, 1, 0, 0, 0);
        Check.same("the last key is in it, an empty range never changes", codes(x, endorsed(x, 1, 39, 0, 0, 0), all, nothing),
                "040");
        all = endorsed(x, 0, 2, 0, 0, 0);
        Check.same("the first key, too", codes(x, endorsed(x, 1, 0, 0, 0, 0), all, endorsed(x, 1, 5, 0, 0, 0)), "040");
        all = endorsed(x, 0, 3, 0, 0, 0);
        Check.same("nothing in between", codes(x, all), "0");
    }

    private static void rangesOneByOne() {
        String[] changes = {"put 1 = 2", "put 11 = 2", "put 21 = 2", "put 5 = 1", "put 15 = 1", "put 25 = 1", "del 11", "put 30 = 1"};
        String due = "44444440";
        for (int k = 0; k < changes.length; k++) {
            Orderledger x = Check.led();
            Check.write(x, 0, "put 1 = 1 ; put 11 = 1 ; put 12 = 1 ; put 21 = 1");
            Check.write(x, 1, "each k in 10 .. 20 do tell k end ; each k in 0 .. 10 do tell k end ; each k in 20 .. 30 do tell k end");
            Check.write(x, 2, changes[k]);
            Check.same("four keys", codes(x, endorsed(x, 0, 0, 0, 0, 0)), "0");
            int p = endorsed(x, 1, 0, 0, 0, 5);
            Check.same("three ranges", x.result(p, 5), "a10-20:11@0.0,12@0.0 a0-10:1@0.0 a20-30:21@0.0 t21");
            Check.same("a change", codes(x, endorsed(x, 2, 0, 0, 0, 0)), "0");
            Check.same("then it, " + changes[k], codes(x, p), due.substring(k, k + 1));
        }
    }

    /** Each on the state as those ahead left it; a version is the block and the place. */
    private static void placesInABlock() {
        Orderledger x = Check.led(0);
        Check.write(x, 1, "put x = y");
        int first = endorsed(x, 0, 1, 5, 0, 0);
        int reads = endorsed(x, 0, 1, 6, 0, 0);
        int other = endorsed(x, 0, 2, 7, 0, 0);
        int blind = endorsed(x, 1, 1, 8, 0, 0);
        Check.same("codes", codes(x, first, reads, other, blind), "0300");
        Check.same("values", x.state(4), "1=8 2=7");
        Check.same("versions: the last write counts, what is not valid has none", x.version(4, 1) + " " + x.version(4, 2),
                "0.3 0.2");
        Check.same("told", x.block(4, 0), "0:0 1:3 2:0 3:0");
        int[] more = new int[4];
        for (int k = 0; k < 4; k++) {
            more[k] = endorsed(x, 0, 2 + k, 1, 0, 0);
        }
        Check.same("all of them", codes(x, more), "0000");
        Check.same("versions", x.version(1, 2) + " " + x.version(1, 3) + " " + x.version(1, 4) + " " + x.version(1, 5),
                "1.0 1.1 1.2 1.3");
        Check.same("result of one that read a place", x.result(endorsed(x, 0, 5, 1, 0, 1), 1), "r5@1.3 w5=2 t0");
    }

    private static void deletedWithoutValue() {
        Orderledger x = Check.led(0);
        Check.write(x, 1, "del 5");
        int reads = endorsed(x, 0, 5, 1, 0, 0);
        Check.same("valid", codes(x, endorsed(x, 1, 0, 0, 0, 0)), "0");
        Check.same("nothing is there", x.state(2) + x.version(2, 5) + x.value(2, 5) + x.ofPeer(2, 3), "-00");
        Check.same("nothing changed for one that read that there is none", codes(x, reads), "0");
        Check.same("sound", x.isSound(), true);
    }

    private static void deletedAndWrittenAgain() {
        Orderledger x = Check.led(0);
        Check.write(x, 1, "del 5");
        Check.write(x, 2, "put 5 = 3");
        Check.same("a value", codes(x, endorsed(x, 2, 0, 0, 0, 0)), "0");
        int reads = endorsed(x, 0, 5, 1, 0, 0);
        int later = endorsed(x, 0, 5, 2, 0, 0);
        Check.same("deleted, written", codes(x, endorsed(x, 1, 0, 0, 0, 0), endorsed(x, 2, 0, 0, 0, 0), reads), "003");
        Check.same("the same value, another version", x.state(0) + " " + x.version(0, 5), "5=3 1.1");
        Check.same("deleted", codes(x, endorsed(x, 1, 0, 0, 0, 0), later), "03");
        Check.same("no version", x.version(0, 5) + x.value(0, 5) + x.state(0), "-0");
    }

    private static Orderledger blocks(int many) {
        Orderledger x = Check.led(0);
        for (int k = 0; k < many; k++) {
            endorsed(x, 0, k, 1, 0, 0);
            x.submit(k, 0);
        }
        return x;
    }

    private static String heights(Orderledger x) {
        StringBuilder s = new StringBuilder();
        for (int p = 0; p < 6; p++) {
            s.append(x.ofPeer(p, 0));
        }
        return s.toString();
    }

    /** Up to its COMMIT alone, from one that is UP and TOGETHER. */
    private static void fromTheSource() {
        Orderledger x = blocks(1);
        for (int p = 1; p < 6; p++) {
            x.down(5 + p);
        }
        x.tick(1);
        Check.same("laid", x.ofOrderer(0, 10) * 10 + x.ofOrderer(0, 11), 10);
        x.tick(1);
        Check.same("not yet", heights(x), "000000");
        x.tick(1);
        Check.same("committed, and taken from the source", heights(x), "100000");
        Orderledger y = blocks(1);
        for (int p = 0; p < 6; p++) {
            y.side(5 + p, p < 3 ? 1 : 2);
        }
        y.side(1, 1);
        y.tick(6);
        Check.same("nobody has it who is beside them", heights(y), "000000");
        y.side(0, 1);
        y.tick(1);
        Check.same("the peer 0 from 0, the others beside it from that", heights(y), "111000");
        y.source(4, 0);
        y.side(0, 2);
        y.tick(1);
        Check.same("4 from 0, then 5 from 4; 3 from 0", heights(y), "111111");
        Orderledger z = blocks(1);
        for (int p = 0; p < 6; p++) {
            z.source(p, p % 2 == 0 ? 3 : 4);
        }
        z.tick(6);
        Check.same("sources without a log", heights(z), "000000");
        z.source(5, 2);
        z.side(10, 2);
        z.tick(1);
        Check.same("a source elsewhere", heights(z), "000000");
        z.side(10, 0);
        z.down(2);
        z.tick(1);
        Check.same("a source that is down", heights(z), "000000");
        z.down(0);
        z.down(1);
        z.tick(1);
        z.up(2);
        z.tick(3);
        Check.same("a source that forgot its COMMIT", heights(z) + z.ofOrderer(2, 10) + z.ofOrderer(2, 11), "00000010");
        z.up(0);
        z.up(1);
        for (int k = 0; k < 30 && z.ofOrderer(2, 11) == 0; k++) {
            Check.same("not as long as that, " + k, heights(z), "000000");
            z.tick(1);
        }
        Check.same("in the tick in which it knows of it again", heights(z), "000001");
        z.tick(1);
        Check.same("then all others from that one", heights(z), "111111");
    }

    /** Each orderer can be a source, 3 and 4 too. */
    private static void fromEachSource() {
        for (int o = 0; o < 5; o++) {
            Orderledger x = Check.five(0);
            int p = endorsed(x, 0, 1, 1, 0, 0);
            x.submit(p, 0);
            for (int peer = 0; peer < 6; peer++) {
                x.source(peer, o);
            }
            x.tick(2);
            Check.same("not committed, " + o, heights(x), "000000");
            x.tick(1);
            Check.same("committed by the leader alone, " + o, heights(x), o == 0 ? "111111" : "000000");
            x.tick(1);
            Check.same("then by the others, " + o, heights(x), "111111");
        }
    }

    /** From those that are UP, TOGETHER, and have it. */
    private static void fromOtherPeers() {
        Orderledger x = blocks(2);
        x.side(5, 1);
        x.tick(8);
        Check.same("0 is elsewhere", heights(x), "022222");
        x.side(0, 2);
        x.side(1, 2);
        x.side(2, 2);
        for (int p = 1; p < 5; p++) {
            x.down(5 + p);
        }
        x.side(10, 2);
        x.side(5, 0);
        x.tick(2);
        Check.same("those beside it are down, the other one is elsewhere", heights(x), "022222");
        x.up(9);
        x.tick(1);
        Check.same("one that is up", heights(x), "122222");
        x.down(9);
        x.side(10, 0);
        x.tick(1);
        Check.same("the other one came", heights(x), "222222");
        Check.same("the same", x.block(0, 1) + x.hash(0, 1) + x.state(0), x.block(5, 1) + x.hash(5, 1) + x.state(5));
        x.tick(1);
        Check.same("there is no more", heights(x), "222222");
    }

    private static void fromNobody() {
        Orderledger x = blocks(1);
        x.down(1);
        x.down(2);
        x.tick(12);
        Check.same("never committed, never taken", heights(x) + x.ofOrderer(0, 10), "0000001");
        x.up(1);
        x.tick(2);
        Check.same("committed, taken", heights(x), "111111");
        Orderledger y = new Orderledger();
        y.tick(20);
        Check.same("there is none", heights(y), "000000");
    }

    private static void oneInATick() {
        Orderledger x = blocks(4);
        x.side(5, 1);
        x.tick(10);
        Check.same("all but one", heights(x), "044444");
        x.side(5, 0);
        for (int k = 1; k <= 4; k++) {
            x.tick(1);
            Check.same("one in each tick from its source", x.ofPeer(0, 0), k);
        }
        Orderledger y = blocks(4);
        y.down(5);
        y.tick(10);
        y.up(5);
        y.source(0, 4);
        for (int k = 1; k <= 4; k++) {
            y.tick(1);
            Check.same("one in each tick from another peer", y.ofPeer(0, 0), k);
        }
    }

    /** h = the HASH ahead * 31 + the number; then PROPOSAL, ENDORSERS and the signs of the RESULT. */
    private static int hash(int before, int block, Object... rows) {
        int h = before * 31 + block;
        for (int k = 0; k < rows.length; k += 3) {
            h = h * 31 + (Integer) rows[k];
            h = h * 31 + (Integer) rows[k + 1];
            for (char c : ((String) rows[k + 2]).toCharArray()) {
                h = h * 31 + c;
            }
        }
        return h;
    }

    private static void hashes() {
        Orderledger x = Check.led(0);
        Check.same("7 without", x.ofPeer(0, 2), 7);
        int a = endorsed(x, 0, 1, 5, 0, 0, 3);
        int b = endorsed(x, 0, 1, 6, 0, 5);
        int c = endorsed(x, 0, 2, 6, 0, 0, 1, 2, 3, 4, 5);
        Check.same("codes", codes(x, b, a, c, b), "0301");
        int first = hash(7, 0, b, 32, "r1@- w1=6 t0", a, 9, "r1@- w1=5 t0", c, 63, "r2@- w2=6 t0", b, 32, "r1@- w1=6 t0");
        Check.same("whatever the codes are", x.hash(1, 0), first);
        int p = x.ruling(0, 0);
        Check.same("no ruling by a contract", p, -9);
        x.sample(1, 7);
        p = x.ruling(2, 1);
        x.endorse(p, 4);
        Check.same("policy", codes(x, p), "2");
        int second = hash(first, 1, p, 16, "r42@- w42=232 t0");
        for (int peer = 0; peer < 6; peer++) {
            Check.same("the first one of " + peer, x.hash(peer, 0), first);
            Check.same("the second one of " + peer, x.hash(peer, 1), second);
            Check.same("the last one of " + peer, x.ofPeer(peer, 2), second);
        }
    }
}
