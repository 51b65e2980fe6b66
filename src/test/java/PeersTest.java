/** Promises 28 to 37. */
public final class PeersTest {
    public static void main(String[] args) {
        ofPeer();
        source();
        taking();
        valueAndVersion();
        state();
        codes();
        codeOrder();
        ranges();
        severalRanges();
        hash();
        holds();
        lookingForSecrets();
        aging();
        heldBack();
        lose();
        loseOld();
        Check.end("PeersTest");
    }

    private static void ofPeer() {
        Orderledger x = Check.led(3, 0);
        x.propose(0, 1, 5, 2);
        x.endorse(0, 2);
        x.propose(0, 2, 6, 3);
        x.endorse(1, 2);
        x.propose(1, 2, 6, 0);
        x.endorse(2, 5);
        x.lie(2, true);
        x.side(5, 1);
        x.side(6, 1);
        x.submit(0, 0);
        x.submit(1, 0);
        x.tick(5);
        int[] due = {2, 2, x.hash(2, 1), 4, 2, 0, 2, 0, 0, 1};
        for (int w = 0; w < 10; w++) {
            Check.same("of the peer 2, " + w, x.ofPeer(2, w), due[w]);
        }
        x.submit(0, 0);
        x.submit(2, 0);
        x.tick(5);
        int[] then = {4, 2, x.hash(2, 3), 4, 2, 2, 2, 0, 0, 1};
        for (int w = 0; w < 10; w++) {
            Check.same("then of the peer 2, " + w, x.ofPeer(2, w), then[w]);
        }
        Check.same("blocks", x.block(2, 0) + " " + x.block(2, 1) + " " + x.block(2, 2) + " " + x.block(2, 3),
                "0:0 1:0 0:1 2:3");
        x.side(7, 2);
        x.side(8, 2);
        x.side(5, 0);
        x.tick(4);
        Check.same("misses", x.ofPeer(0, 7) * 10 + x.ofPeer(0, 6), 20);
        Check.index(x, "peer -1", () -> x.ofPeer(-1, 0));
        Check.index(x, "peer 6", () -> x.ofPeer(6, 10));
        Check.argument(x, "what 10", () -> x.ofPeer(0, 10));
        Check.argument(x, "what -1", () -> x.ofPeer(5, -1));
    }

    private static void source() {
        Orderledger x = Check.led(0);
        Check.same("source", x.source(4, 4), 1);
        Check.same("source then", x.source(4, 0), 4);
        Check.same("told", x.ofPeer(4, 1), 0);
        Check.index(x, "peer -1", () -> x.source(-1, 0));
        Check.index(x, "peer 6", () -> x.source(6, 0));
        Check.index(x, "orderer -1", () -> x.source(0, -1));
        Check.index(x, "orderer 5", () -> x.source(0, 5));
    }

    /** From the source, if that has it committed; otherwise from another peer; one block in each tick. */
    private static void taking() {
        Orderledger x = Check.led(0);
        for (int k = 0; k < 4; k++) {
            x.propose(0, k, 2, 0);
            x.endorse(k, 0);
        }
        for (int p = 0; p < 6; p++) {
            x.source(p, 4);
        }
        x.source(3, 0);
        x.submit(0, 0);
        x.tick(2);
        Check.same("not committed yet", x.ofPeer(3, 0), 0);
        x.tick(1);
        String heights = "";
        for (int p = 0; p < 6; p++) {
            heights += x.ofPeer(p, 0);
        }
        Check.same("3 takes it, then 4 and 5 from 3", heights, "000111");
        x.tick(1);
        Check.same("the others in the next one", x.ofPeer(0, 0) + x.ofPeer(1, 0) + x.ofPeer(2, 0), 3);
        x.side(5, 1);
        x.side(6, 1);
        x.down(7);
        x.submit(1, 0);
        x.submit(2, 0);
        x.submit(3, 0);
        x.tick(6);
        Check.same("parted peers do not", x.ofPeer(0, 0) + x.ofPeer(1, 0), 2);
        Check.same("and one that is down", x.ofPeer(2, 0), 1);
        Check.same("the rest does", x.ofPeer(4, 0), 4);
        x.up(7);
        x.side(5, 0);
        x.tick(1);
        Check.same("one block in a tick", x.ofPeer(0, 0) * 10 + x.ofPeer(2, 0), 22);
        x.tick(2);
        Check.same("up to all", x.ofPeer(0, 0) * 10 + x.ofPeer(2, 0), 44);
        x.source(1, 0);
        x.side(0, 1);
        x.tick(1);
        Check.same("from a source beside it", x.ofPeer(1, 0), 2);
        x.down(0);
        x.tick(1);
        Check.same("not from one that is down", x.ofPeer(1, 0), 2);
        x.up(0);
        x.tick(1);
        Check.same("nor from one that forgot its commit", x.ofPeer(1, 0), 2);
        Check.same("sound", x.isSound(), true);
    }

    private static void valueAndVersion() {
        Orderledger x = Check.led(0, 3);
        x.size(2);
        x.propose(0, 1, -7, 0);
        x.propose(0, 39, 0, 0);
        x.propose(1, 4, 5, 1);
        x.endorse(0, 0);
        x.endorse(1, 0);
        x.submit(0, 0);
        x.submit(1, 0);
        x.tick(4);
        Check.same("value", x.value(5, 1), -7);
        Check.same("version", x.version(5, 1), "0.0");
        Check.same("a value 0", x.value(5, 39), 0);
        Check.same("has a version all the same", x.version(5, 39), "0.1");
        Check.same("no value", x.value(5, 2), 0);
        Check.same("no version", x.version(5, 2), "-");
        Check.order(x, 2, 1);
        x.tick(3);
        Check.same("the sum of a secret", x.value(4, 44 + 5 + 4), 5 * 31 + 4 * 7 + 2 * 101);
        Check.same("its version", x.version(4, 53), "1.0");
        Check.same("what it read first", x.result(2, 1), "r1@0.0 w1=2 w53=385 t0");
        Check.same("a rule without", x.value(0, 43) + x.version(0, 43), "0-");
        Check.index(x, "value of -1", () -> x.value(-1, 0));
        Check.index(x, "value of 6", () -> x.value(6, 0));
        Check.index(x, "value -1", () -> x.value(0, -1));
        Check.index(x, "value 64", () -> x.value(0, 64));
        Check.index(x, "version of -1", () -> x.version(-1, 0));
        Check.index(x, "version of 6", () -> x.version(6, 0));
        Check.index(x, "version -1", () -> x.version(0, -1));
        Check.index(x, "version 64", () -> x.version(0, 64));
        Check.same("the last key", x.value(0, 63) + x.version(0, 63), "0-");
    }

    private static void state() {
        Orderledger x = Check.led(0, 7);
        Check.write(x, 2, "put 9 = 1 ; put 3 = 0 - 4 ; secret 0 = 1");
        Check.write(x, 3, "del 9 ; del 20");
        Check.order(x, x.propose(2, 0, 0, 0), 0);
        Check.order(x, x.ruling(1, 1), 0, 2);
        Check.same("state", x.state(3), "3=-4 9=1 41=232 54=31");
        Check.order(x, x.propose(3, 0, 0, 0), 0);
        Check.same("without what was deleted", x.state(3), "3=-4 41=232 54=31");
        Check.same("no version of it", x.version(3, 9), "-");
        Check.same("three keys", x.ofPeer(3, 3), 3);
        Check.index(x, "state of -1", () -> x.state(-1));
        Check.index(x, "state of 6", () -> x.state(6));
        Check.index(x, "block of -1", () -> x.block(-1, 0));
        Check.index(x, "block of 6", () -> x.block(6, 0));
        Check.index(x, "block -1", () -> x.block(0, -1));
        Check.index(x, "block 3", () -> x.block(0, 3));
        Check.index(x, "hash of -1", () -> x.hash(-1, 0));
        Check.index(x, "hash of 6", () -> x.hash(6, 0));
        Check.index(x, "hash -1", () -> x.hash(0, -1));
        Check.index(x, "hash 3", () -> x.hash(0, 3));
    }

    private static void codes() {
        Orderledger x = Check.led(0, 0, 6);
        x.size(4);
        for (int k = 0; k < 4; k++) {
            x.propose(0, 1, 10 + k, 0);
            x.endorse(k, 0);
        }
        x.submit(0, 0);
        x.submit(1, 0);
        x.submit(0, 0);
        x.submit(1, 0);
        x.tick(4);
        Check.same("one valid, the other read what it wrote", x.block(0, 0), "0:0 1:3 0:1 1:1");
        Check.same("the first one is written", x.value(0, 1), 10);
        x.submit(2, 0);
        x.size(1);
        x.tick(4);
        Check.same("had none, has one", x.block(0, 1), "2:3");
        Check.write(x, 1, "del 1");
        x.propose(0, 1, 1, 0);
        x.endorse(4, 0);
        Check.order(x, x.propose(1, 0, 0, 0), 0);
        x.submit(4, 0);
        x.tick(4);
        Check.same("had one, has none", x.block(0, 3), "4:3");
        x.submit(3, 0);
        x.tick(4);
        Check.same("had none, has none again", x.block(0, 4), "3:0");
        x.propose(0, 1, 1, 0);
        x.endorse(6, 0);
        Check.order(x, 6);
        Check.same("same version", x.block(0, 5), "6:0");
        Check.same("valid ones, others", x.ofPeer(0, 4) * 10 + x.ofPeer(0, 5), 45);
        Check.order(x, x.ruling(0, 2), 0, 2);
        Check.order(x, x.propose(0, 7, 1, 0), 0, 1, 4, 5);
        Check.same("org 1 is not among them", x.block(0, 7), "8:2");
        Check.order(x, x.propose(0, 7, 1, 0), 3);
        Check.same("org 1 is", x.block(0, 8), "9:0");
    }

    /** TWICE goes ahead of POLICY, that of READ, that of RANGE. */
    private static void codeOrder() {
        Orderledger x = Check.led(0, 0, 6);
        Check.write(x, 1, "each k in 0 .. 9 do tell get k end ; put 9 = 1");
        x.propose(0, 1, 1, 0);
        x.propose(0, 1, 1, 0);
        x.endorse(0, 2);
        x.endorse(1, 0);
        x.propose(1, 0, 0, 0);
        x.propose(1, 0, 0, 0);
        x.endorse(2, 0);
        x.endorse(3, 2);
        x.ruling(0, 2);
        x.endorse(4, 0);
        x.submit(4, 0);
        x.tick(4);
        x.endorse(4, 2);
        x.submit(4, 0);
        x.tick(4);
        Check.same("policy counts as one ahead", x.block(0, 0) + " " + x.block(0, 1), "4:2 4:1");
        Check.order(x, x.ruling(0, 2), 0, 2);
        x.submit(0, 0);
        x.submit(0, 0);
        x.submit(1, 0);
        x.submit(2, 0);
        x.tick(8);
        Check.same("policy of org 1", x.block(0, 3), "0:0");
        Check.same("twice", x.block(0, 4), "0:1");
        Check.same("policy ahead of read", x.block(0, 5), "1:2");
        Check.same("range", x.block(0, 6), "2:4");
        x.endorse(3, 3);
        x.propose(0, 1, 1, 0);
        x.propose(1, 0, 0, 0);
        x.endorse(6, 2);
        x.endorse(7, 2);
        x.submit(6, 0);
        x.submit(7, 0);
        x.tick(5);
        Check.same("read ahead of range", x.block(0, 8), "7:3");
    }

    private static void ranges() {
        Orderledger x = Check.led(0);
        Check.write(x, 1, "each k in 3 .. 8 do tell k end ; put 20 + z = 1");
        Check.write(x, 2, "del x");
        Check.order(x, x.propose(0, 3, 1, 0), 0);
        Check.order(x, x.propose(0, 6, 1, 0), 0);
        for (int k = 0; k < 6; k++) {
            x.propose(1, 0, 0, k);
            x.endorse(2 + k, 0);
        }
        Check.order(x, x.propose(0, 8, 1, 0), 0);
        Check.order(x, x.propose(0, 2, 1, 0), 0);
        Check.order(x, 2);
        Check.same("keys beside it do not matter", x.block(0, 4), "2:0");
        Check.order(x, x.propose(0, 7, 1, 0), 0);
        Check.order(x, 3);
        Check.same("a key more", x.block(0, 6), "3:4");
        Check.order(x, x.propose(2, 7, 0, 0), 0);
        Check.order(x, 4);
        Check.same("the same ones again", x.block(0, 8), "4:0");
        Check.order(x, x.propose(2, 6, 0, 0), 0);
        Check.order(x, 5);
        Check.same("a key less", x.block(0, 10), "5:4");
        Check.order(x, x.propose(0, 6, 1, 0), 0);
        Check.order(x, 6);
        Check.same("another version", x.block(0, 12), "6:4");
        Check.write(x, 1, "each k in 30 .. 40 do tell k end");
        Check.order(x, x.propose(1, 0, 0, 0), 0);
        Check.same("an empty range that is empty still", x.block(0, 13), "14:0");
    }

    /** Each range is looked at with what was in it, not in another one. */
    private static void severalRanges() {
        Orderledger x = Check.led(0);
        Check.write(x, 1, "each k in 0 .. 5 do tell k end ; each k in 5 .. 9 do tell k end ; each k in 0 .. 9 do tell k end");
        Check.order(x, x.propose(0, 1, 1, 0), 0);
        Check.order(x, x.propose(0, 6, 1, 0), 0);
        Check.order(x, x.propose(0, 7, 1, 0), 0);
        for (int k = 0; k < 2; k++) {
            x.propose(1, 0, 0, 0);
            x.endorse(3 + k, 0);
        }
        Check.same("three ranges", x.result(3, 0), "a0-5:1@0.0 a5-9:6@1.0,7@2.0 a0-9:1@0.0,6@1.0,7@2.0 t7");
        Check.order(x, 3);
        Check.same("all of them as they were", x.block(0, 3), "3:0");
        Check.order(x, x.propose(0, 8, 1, 0), 0);
        Check.order(x, 4);
        Check.same("the second one is not", x.block(0, 5), "4:4");
    }

    private static void hash() {
        Orderledger x = Check.led(0);
        x.size(2);
        x.propose(0, 1, 2, 0);
        x.propose(0, 3, 4, 0);
        x.endorse(0, 5);
        x.endorse(0, 1);
        x.endorse(1, 0);
        x.submit(0, 0);
        x.submit(1, 0);
        x.tick(4);
        int h = 7 * 31;
        h = (h * 31) * 31 + 34;
        for (char c : "r1@- w1=2 t0".toCharArray()) {
            h = h * 31 + c;
        }
        h = (h * 31 + 1) * 31 + 1;
        for (char c : "r3@- w3=4 t0".toCharArray()) {
            h = h * 31 + c;
        }
        for (int p = 0; p < 6; p++) {
            Check.same("hash of " + p, x.hash(p, 0), h);
        }
        Check.same("of the last block", x.ofPeer(4, 2), h);
        x.size(1);
        x.submit(0, 0);
        x.tick(4);
        h = ((h * 31 + 1) * 31) * 31 + 34;
        for (char c : "r1@- w1=2 t0".toCharArray()) {
            h = h * 31 + c;
        }
        Check.same("the next one goes on from it", x.hash(2, 1), h);
        Check.same("the first one stays", x.hash(2, 0) != h, true);
    }

    private static void holds() {
        Orderledger x = Check.led(3, 3, 3, 3);
        for (int c = 0; c < 4; c++) {
            x.propose(c, 4, 70 + c, c);
            x.endorse(c, 0);
            x.endorse(c, 2);
            x.endorse(c, 4);
            Check.order(x, c);
        }
        String[] due = {"1100", "1010", "0110", "1100"};
        String[] orgs = {"110", "011", "101", "110"};
        for (int c = 0; c < 4; c++) {
            for (int p = 0; p < 6; p++) {
                int may = orgs[c].charAt(p / 2) - '0';
                Check.same("holds " + p + " " + c, x.holds(p, c, 4), may);
                Check.same("secret " + p + " " + c, x.secret(p, c, 4), may * (70 + c));
            }
        }
        Check.same("so many of each", due.length, 4);
        Check.same("another number", x.holds(0, 0, 3) + x.secret(0, 0, 3), 0);
        Check.same("the sums are with all", x.state(5).split(" ").length, 4 + 4);
        Check.index(x, "holds of -1", () -> x.holds(-1, 0, 0));
        Check.index(x, "holds of 6", () -> x.holds(6, 0, 0));
        Check.index(x, "holds -1", () -> x.holds(0, -1, 0));
        Check.index(x, "holds 4", () -> x.holds(0, 4, 0));
        Check.index(x, "holds secret -1", () -> x.holds(0, 0, -1));
        Check.index(x, "holds secret 5", () -> x.holds(0, 0, 5));
        Check.index(x, "secret of -1", () -> x.secret(-1, 0, 0));
        Check.index(x, "secret of 6", () -> x.secret(6, 0, 0));
        Check.index(x, "secret -1", () -> x.secret(0, -1, 0));
        Check.index(x, "secret 4", () -> x.secret(0, 4, 0));
        Check.index(x, "secret -1", () -> x.secret(0, 0, -1));
        Check.index(x, "secret 5", () -> x.secret(0, 0, 5));
    }

    /** One in each tick, the smallest key first, from one beside it that holds that version. */
    private static void lookingForSecrets() {
        Orderledger x = Check.led(0);
        Check.write(x, 0, "secret 0 = x ; secret 1 = y ; secret 2 = z");
        x.propose(0, 11, 22, 33);
        x.endorse(0, 2);
        x.side(7, 1);
        x.submit(0, 0);
        x.tick(4);
        Check.same("its holder is parted: missed", x.ofPeer(0, 7) * 100 + x.ofPeer(1, 7) * 10 + x.ofPeer(3, 7), 333);
        Check.same("not by the others", x.ofPeer(4, 7) * 10 + x.ofPeer(4, 6), 0);
        Check.same("missed", x.holds(0, 0, 1) * 100 + x.secret(0, 0, 1), 200);
        x.side(7, 0);
        x.tick(1);
        Check.same("the holder takes the block, after 0 and 1 looked", x.ofPeer(2, 6), 3);
        Check.same("0 has none yet", x.ofPeer(0, 6), 0);
        Check.same("3 looked behind it", x.holds(3, 0, 0) * 10 + x.holds(3, 0, 1), 12);
        x.tick(1);
        Check.same("one in each tick", x.ofPeer(0, 6) * 10 + x.ofPeer(0, 7), 12);
        Check.same("the smallest key", x.secret(0, 0, 0), 11);
        x.down(7);
        x.tick(2);
        Check.same("3 has two, from which 0 gets the second", x.secret(0, 0, 1), 22);
        Check.same("nobody beside them has the third", x.holds(0, 0, 2) + x.holds(3, 0, 2), 4);
        x.up(7);
        x.tick(2);
        Check.same("all then", x.secret(0, 0, 2) + x.secret(1, 0, 2) + x.secret(3, 0, 2), 99);
        Check.same("none missed", x.ofPeer(0, 7) + x.ofPeer(1, 7) + x.ofPeer(3, 7), 0);
    }

    private static void aging() {
        Orderledger x = Check.led(3, 0);
        x.propose(0, 1, 55, 2);
        x.endorse(0, 2);
        x.side(7, 1);
        x.side(2, 1);
        x.submit(0, 0);
        x.tick(4);
        for (int k = 0; k < 5; k++) {
            Check.same("missed still, height " + x.ofPeer(0, 0), x.holds(0, 0, 1), 2);
            Check.order(x, x.propose(1, 5, k, 0), 0);
        }
        Check.same("block 5 was taken", x.ofPeer(0, 0) * 10 + x.holds(0, 0, 1), 62);
        x.side(7, 0);
        x.tick(5);
        Check.same("found, as of block 0", x.ofPeer(2, 0) * 100 + x.holds(2, 0, 1) * 10 + x.holds(0, 0, 1), 511);
        x.tick(1);
        Check.same("held with block 5", x.ofPeer(2, 0) * 10 + x.holds(2, 0, 1), 61);
        x.side(8, 1);
        Check.order(x, x.propose(1, 5, 9, 0), 0);
        Check.same("block 6: gone", x.holds(2, 0, 1) * 10 + x.secret(2, 0, 1), 0);
        Check.same("one that is behind holds it", x.secret(3, 0, 1), 55);
        Check.same("the sum stays", x.version(2, 45), "0.0");
        x.sample(0, 4);
        Check.same("and can not be opened", x.would(x.propose(0, 1, 55, 2), 2), 3);
        Check.same("but by the one behind", x.would(7, 3), 0);
    }

    private static void heldBack() {
        Orderledger x = Check.led(3, 6);
        x.propose(0, 1, 5, 2);
        x.endorse(0, 0);
        x.endorse(0, 2);
        x.endorse(0, 4);
        x.propose(0, 1, 6, 2);
        x.endorse(1, 0);
        x.submit(0, 0);
        x.submit(1, 0);
        x.tick(5);
        Check.same("the second one is not valid", x.block(0, 1), "1:3");
        Check.same("held back goes all the same", x.ofPeer(0, 8), 0);
        Check.same("the first secret is held", x.secret(0, 0, 1), 5);
        x.endorse(1, 3);
        Check.same("what comes behind that stays", x.ofPeer(3, 8), 1);
        x.tick(5);
        Check.same("on and on", x.ofPeer(3, 8), 1);
        x.submit(1, 0);
        x.tick(4);
        Check.same("until it is taken again", x.block(0, 2) + " " + x.ofPeer(3, 8), "1:1 0");
        Check.write(x, 0, "put 1 = 1");
        x.endorse(x.propose(0, 0, 0, 0), 0);
        Check.same("nothing secret, nothing held back", x.ofPeer(0, 8), 0);
        x.sample(0, 3);
        x.propose(0, 1, 77, 20);
        x.endorse(3, 0);
        x.lie(2, true);
        x.endorse(3, 2);
        x.submit(3, 0);
        x.tick(3);
        Check.same("one that is no endorser misses it, and finds it", x.holds(2, 0, 1) * 100 + x.secret(2, 0, 1), 177);
        x.propose(0, 1, 88, 21);
        x.endorse(4, 2);
        x.endorse(4, 0);
        x.side(5, 1);
        x.submit(4, 0);
        x.tick(4);
        Check.same("the liar's is written, it holds its own", x.value(2, 21) * 100 + x.secret(2, 0, 1), 288);
        Check.same("held back by the other one, that is behind", x.ofPeer(0, 8), 1);
        x.side(6, 2);
        x.side(7, 2);
        x.side(8, 2);
        x.side(5, 0);
        x.tick(1);
        Check.same("which is no endorser of it, and misses it", x.holds(0, 0, 1) * 10 + x.ofPeer(0, 8), 20);
    }

    private static void lose() {
        Orderledger x = Check.led(3, 0);
        x.propose(0, 1, 55, 2);
        Check.order(x, 0, 0, 2);
        x.propose(0, 3, 66, 4);
        x.endorse(1, 0);
        Check.order(x, x.propose(1, 2, 1, 0), 0);
        String state = x.state(0);
        int hash = x.ofPeer(0, 2);
        for (int p = 5; p < 11; p++) {
            x.side(p, p == 5 ? 1 : 2);
        }
        Check.same("lose", x.lose(0), 2);
        Check.same("the state is made anew", x.state(0) + x.version(0, 2), state + "1.0");
        Check.same("the chain stays", x.ofPeer(0, 2), hash);
        Check.same("the counts too", x.ofPeer(0, 4) * 10 + x.ofPeer(0, 5), 20);
        Check.same("what it held is missed", x.holds(0, 0, 1) * 100 + x.secret(0, 0, 1), 200);
        Check.same("held back stays", x.ofPeer(0, 8), 1);
        Check.same("sound", x.isSound(), true);
        Check.same("lose again", x.lose(0), 2);
        x.lose(4);
        Check.same("another org misses nothing", x.ofPeer(4, 7), 0);
        x.side(5, 2);
        x.tick(1);
        Check.same("found again", x.secret(0, 0, 1), 55);
        x.down(5);
        Check.refused(x, "down", () -> x.lose(0));
        Check.index(x, "lose -1", () -> x.lose(-1));
        Check.index(x, "lose 6", () -> x.lose(6));
        Check.same("with nothing to lose", new Orderledger().lose(5), 0);
    }

    /** Of the last 6 blocks alone, and of each key the last version. */
    private static void loseOld() {
        Orderledger x = Check.led(3, 0);
        x.propose(0, 1, 55, 2);
        Check.order(x, 0, 0);
        x.propose(0, 2, 56, 3);
        Check.order(x, 1, 0);
        x.propose(0, 2, 57, 4);
        Check.order(x, 2, 0);
        for (int k = 0; k < 4; k++) {
            Check.order(x, x.propose(1, 5, k, 0), 0);
        }
        Check.same("height", x.ofPeer(0, 0), 7);
        x.down(6);
        x.down(7);
        x.down(8);
        x.lose(0);
        Check.same("of block 0: nothing", x.holds(0, 0, 1), 0);
        Check.same("the other one is missed", x.holds(0, 0, 2) * 10 + x.ofPeer(0, 7), 21);
        x.up(7);
        x.tick(1);
        Check.same("and found as of its last version", x.secret(0, 0, 2), 57);
        Check.same("two ahead of it: ", x.version(0, 46), "2.0");
    }
}
