/** The edges of section 6: who may have secrets, what is held back, held, missed, found, and lost. */
public final class SecretEdgesTest {
    public static void main(String[] args) {
        whoMayHave();
        whoHoldsBack();
        whatIsHeldBack();
        heldBackOfFifty();
        allTwenty();
        heldBackGoesWithEachCode();
        heldBackForOthersStays();
        heldOrMissed();
        endorsedBehindTheSubmit();
        whatWasAheadGoes();
        byRisingKeys();
        sixBlocks();
        sixBlocksByPlaces();
        missedForSixBlocks();
        foundInTheSameTurn();
        oneInEachTick();
        smallestThatIsThere();
        acrossContracts();
        ofTheSameVersion();
        loseFewBlocks();
        loseJustSixBlocks();
        loseMoreBlocks();
        loseKeepsAllElse();
        loseByCodes();
        loseAll();
        loseRefused();
        Check.end("SecretEdgesTest");
    }

    /** The contracts 0 to 3: secret x = y; SIZE 1, and the orderer 0 leads. */
    private static Orderledger sealing() {
        Orderledger x = Check.led();
        for (int c = 0; c < 4; c++) {
            Check.write(x, c, "secret x = y");
        }
        return x;
    }

    private static int seal(Orderledger x, int contract, int number, int secret, int... peers) {
        int p = x.propose(contract, number, secret, 0);
        for (int peer : peers) {
            x.endorse(p, peer);
        }
        return p;
    }

    private static String holds(Orderledger x, int contract, int number) {
        StringBuilder s = new StringBuilder();
        for (int p = 0; p < 6; p++) {
            s.append(x.holds(p, contract, number));
        }
        return s.toString();
    }

    private static String ofPeers(Orderledger x, int what) {
        StringBuilder s = new StringBuilder();
        for (int p = 0; p < 6; p++) {
            s.append(x.ofPeer(p, what));
        }
        return s.toString();
    }

    /** Blocks of which each has one secret of the contract 0 that nobody else's matter touches. */
    private static void fill(Orderledger x, int many) {
        for (int k = 0; k < many; k++) {
            Check.order(x, seal(x, 0, 4, k, 4));
        }
    }

    /** The orgs c modulo 3 and (c + 1) modulo 3. */
    private static void whoMayHave() {
        String[] missing = {"222200", "002222", "220022", "222200"};
        String[] missed = {"111100", "001111", "110011", "111100"};
        int[] outside = {4, 0, 2, 5};
        for (int c = 0; c < 4; c++) {
            Orderledger x = sealing();
            int p = seal(x, c, 3, 70 + c, outside[c]);
            Check.same("an org that may not have it holds nothing back, " + c, ofPeers(x, 8), "000000");
            Check.order(x, p);
            Check.same("missed by those that may have it, " + c, holds(x, c, 3), missing[c]);
            Check.same("so many", ofPeers(x, 7), missed[c]);
            Check.same("held by nobody", ofPeers(x, 6), "000000");
            for (int peer = 0; peer < 6; peer++) {
                Check.same("the sum is with all", x.value(peer, 44 + 5 * c + 3), (70 + c) * 31 + 21);
                Check.same("the secret with none", x.secret(peer, c, 3), 0);
            }
        }
    }

    private static void whoHoldsBack() {
        String[] due = {"111100", "001111", "110011", "111100"};
        String[] then = {"111100", "112211", "222222", "333322"};
        for (int c = 0; c < 4; c++) {
            Orderledger x = sealing();
            seal(x, c, 0, 9, 0, 1, 2, 3, 4, 5);
            Check.same("all endorse, those that may hold it back, " + c, ofPeers(x, 8), due[c]);
            Check.same("none hold it", ofPeers(x, 6), "000000");
        }
        Orderledger x = sealing();
        for (int c = 0; c < 4; c++) {
            seal(x, c, 4, 9, 0, 1, 2, 3, 4, 5);
            Check.same("proposals with something held back, " + c, ofPeers(x, 8), then[c]);
        }
    }

    private static void whatIsHeldBack() {
        Orderledger x = sealing();
        Check.write(x, 0, "secret 0 = 1 ; secret 4 = 2");
        seal(x, 0, 0, 0, 0);
        Check.same("two secrets of one proposal count once", x.ofPeer(0, 8), 1);
        Check.write(x, 0, "if x then secret 0 = 1 end ; put 39 = 1 ; tell open 2");
        seal(x, 0, 0, 0, 0);
        Check.same("no secret, nothing", x.ofPeer(0, 8), 1);
        seal(x, 0, 1, 0, 0);
        Check.same("a secret", x.ofPeer(0, 8), 2);
        x.sample(0, 7);
        for (int c = 0; c < 4; c++) {
            Check.same("a ruling", x.endorse(x.ruling(c, 0), 0), 0);
            Check.same("has none", x.ofPeer(0, 8), 2);
        }
        Check.write(x, 0, "secret 0 = 1 ; need 0");
        Check.same("fails", x.endorse(x.propose(0, 0, 0, 0), 0), 1);
        Check.same("one that failed has none", x.ofPeer(0, 8), 2);
        x.lie(0, true);
        seal(x, 3, 4, 5, 0);
        Check.same("one that lies holds it back, too", x.ofPeer(0, 8), 3);
        Check.refused(x, "again", () -> x.endorse(0, 0));
        Check.same("not twice", x.ofPeer(0, 8), 3);
    }

    /** Of all 50 proposals, the last one too. */
    private static void heldBackOfFifty() {
        Orderledger x = sealing();
        for (int k = 0; k < 50; k++) {
            seal(x, 0, k % 5, k, 0, 2);
            Check.same("held back", x.ofPeer(0, 8), k + 1);
        }
        Check.order(x, 49);
        Check.same("the last one is held", x.ofPeer(0, 8) * 100 + x.secret(0, 0, 4), 4949);
        Check.order(x, 0);
        Check.same("the first one too", x.ofPeer(0, 8) * 100 + x.secret(0, 0, 0) + x.holds(0, 0, 0), 4801);
    }

    /** All 20, with those that may have them: the first and the last one of each contract. */
    private static void allTwenty() {
        Orderledger x = sealing();
        x.size(4);
        for (int c = 0; c < 4; c++) {
            Check.write(x, c, "secret 0 = x ; secret 1 = x + 1 ; secret 2 = x + 2 ; secret 3 = x + 3 ; secret 4 = x + 4");
            x.submit(seal(x, c, 10 * c, 0, 0, 1, 2, 3, 4, 5), 0);
        }
        x.tick(4);
        String[] due = {"111100", "001111", "110011", "111100"};
        for (int c = 0; c < 4; c++) {
            for (int n = 0; n < 5; n++) {
                Check.same("held, " + c + " " + n, holds(x, c, n), due[c]);
                for (int p = 0; p < 6; p++) {
                    Check.same("the secret, " + c + " " + n, x.secret(p, c, n), due[c].charAt(p) == '1' ? 10 * c + n : 0);
                }
            }
        }
        Check.same("so many", x.ofPeer(0, 6) + x.ofPeer(2, 6) + x.ofPeer(4, 6), 15 + 15 + 10);
        Check.same("all sums", x.ofPeer(5, 3) + " " + x.version(5, 44) + " " + x.version(5, 63), "20 0.0 0.3");
        Check.same("sound", x.isSound(), true);
        x.lose(0);
        Check.same("missed, all of them", x.ofPeer(0, 6) * 100 + x.ofPeer(0, 7), 15);
        x.tick(15);
        Check.same("found, one in each tick", x.ofPeer(0, 6) * 100 + x.ofPeer(0, 7), 1500);
        Check.same("sound", x.isSound(), true);
    }

    /** Whatever the CODE is. */
    private static void heldBackGoesWithEachCode() {
        for (int code = 0; code < 5; code++) {
            Orderledger x = sealing();
            Check.write(x, 0, "tell get 1 ; each k in 5 .. 9 do tell 1 end ; secret x = y");
            Check.write(x, 1, "put x = 1");
            x.sample(2, 6);
            int p = seal(x, 0, 1, 77, 0);
            if (code == 1) {
                Check.order(x, p);
                Check.same("held", x.secret(0, 0, 1), 77);
                x.endorse(p, 1);
                Check.same("held back by another one, that has the secret, too", x.ofPeer(1, 8) * 10 + x.holds(1, 0, 1), 11);
            } else if (code == 2) {
                int rule = x.ruling(0, 2);
                Check.order(x, rule, 0, 2);
            } else if (code > 2) {
                Check.order(x, x.propose(1, code == 3 ? 1 : 6, 0, 0), 0);
            }
            Check.same("held back, " + code, x.ofPeer(code == 1 ? 1 : 0, 8), 1);
            Check.order(x, p);
            int height = x.ofPeer(0, 0);
            Check.same("the code", x.block(0, height - 1), p + ":" + code);
            Check.same("no more, " + code, ofPeers(x, 8), "000000");
            Check.same("held only if it is valid", x.secret(0, 0, 1), code < 2 ? 77 : 0);
            Check.same("nor missed, if it is not", holds(x, 0, 1), code < 2 ? "111100" : "000000");
            Check.same("no sum then", x.version(3, 45), code < 2 ? "0.0" : "-");
        }
    }

    private static void heldBackForOthersStays() {
        Orderledger x = sealing();
        int one = seal(x, 0, 1, 5, 0, 2);
        int same = seal(x, 0, 1, 5, 0, 2);
        int other = seal(x, 3, 2, 6, 0, 2);
        Check.same("three", x.ofPeer(0, 8) * 10 + x.ofPeer(2, 8), 33);
        Check.order(x, same);
        Check.same("the same secret by another proposal stays", x.ofPeer(0, 8) * 10 + x.ofPeer(2, 8), 22);
        Check.order(x, other);
        Check.same("one more", x.ofPeer(0, 8) * 10 + x.ofPeer(2, 8), 11);
        Check.order(x, one);
        Check.same("none", x.ofPeer(0, 8) + x.ofPeer(2, 8), 0);
        Check.same("and held", x.ofPeer(0, 6), 2);
    }

    /** ENDORSERS with it HELD BACK hold it; ENDORSERS without, and others of these ORGS, miss it. */
    private static void heldOrMissed() {
        Orderledger x = sealing();
        int p = seal(x, 0, 1, 5, 3, 1, 4);
        x.down(6);
        x.up(6);
        Check.same("one lost it", ofPeers(x, 8), "000100");
        x.side(8, 2);
        x.submit(p, 0);
        x.tick(4);
        Check.same("without the holder", holds(x, 0, 1), "222000");
        Check.same("the holder is not there", x.ofPeer(3, 0), 0);
        x.side(8, 0);
        x.tick(1);
        Check.same("as it takes the block it holds it", holds(x, 0, 1), "222100");
        x.tick(1);
        Check.same("from it the others", holds(x, 0, 1), "111100");
        Check.same("so many", ofPeers(x, 6) + ofPeers(x, 7), "111100000000");
        Check.same("the secret", x.secret(0, 0, 1) + x.secret(1, 0, 1) + x.secret(2, 0, 1) + x.secret(3, 0, 1), 20);
        Check.same("not by the endorser of another org", x.secret(4, 0, 1), 0);
    }

    /** Not one of its ENDORSERS, though it ENDORSED the PROPOSAL, and has the same RESULT. */
    private static void endorsedBehindTheSubmit() {
        Orderledger x = sealing();
        int p = seal(x, 0, 1, 5, 4);
        x.submit(p, 0);
        x.endorse(p, 0);
        Check.same("held back", x.ofPeer(0, 8), 1);
        x.tick(4);
        Check.same("missed by all, also by that one", holds(x, 0, 1), "222200");
        Check.same("held back is gone", x.ofPeer(0, 8), 0);
        x.submit(p, 0);
        x.tick(4);
        Check.same("as an endorser it is too late", x.block(0, 1) + holds(x, 0, 1), "0:1222200");
    }

    private static void whatWasAheadGoes() {
        Orderledger x = sealing();
        Check.order(x, seal(x, 0, 1, 5, 0));
        Check.order(x, seal(x, 0, 2, 6, 0));
        Check.same("held", holds(x, 0, 1) + holds(x, 0, 2), "111100111100");
        Check.order(x, seal(x, 0, 1, 7, 5));
        Check.same("the newer one is missed, the older one is gone", holds(x, 0, 1), "222200");
        Check.same("no secret", x.secret(0, 0, 1) + x.secret(3, 0, 1), 0);
        Check.same("the other key stays", x.secret(0, 0, 2), 6);
        Check.order(x, seal(x, 0, 1, 8, 2));
        Check.same("a newer one is held: none is missed", holds(x, 0, 1) + ofPeers(x, 7), "111100000000");
        Check.same("that one", x.secret(0, 0, 1) + x.secret(2, 0, 1), 16);
        x.down(5);
        Check.order(x, seal(x, 0, 1, 9, 3));
        x.down(8);
        x.down(7);
        x.down(6);
        x.up(5);
        x.tick(2);
        Check.same("one that held the older one misses the newer one", x.holds(0, 0, 1) * 100 + x.secret(0, 0, 1), 200);
        Check.same("and holds the other one", x.ofPeer(0, 6) * 10 + x.ofPeer(0, 7), 11);
    }

    /** All of the secrets of a transaction, each as of that block and place. */
    private static void byRisingKeys() {
        Orderledger x = sealing();
        x.size(2);
        Check.write(x, 0, "secret 4 = 14 ; secret 0 = 10 ; secret 2 = 12");
        int first = seal(x, 0, 0, 0, 0, 1, 2, 3);
        int other = seal(x, 1, 0, 99, 2, 3, 4, 5);
        x.submit(other, 0);
        x.submit(first, 0);
        x.tick(4);
        Check.same("held", holds(x, 0, 0) + holds(x, 0, 1) + holds(x, 0, 2) + holds(x, 0, 3) + holds(x, 0, 4),
                "111100000000111100000000111100");
        Check.same("secrets", x.secret(1, 0, 0) * 10000 + x.secret(1, 0, 2) * 100 + x.secret(1, 0, 4), 101214);
        Check.same("versions", x.version(5, 44) + x.version(5, 46) + x.version(5, 48) + x.version(5, 49), "0.10.10.10.0");
        Check.same("so many", ofPeers(x, 6), "334411");
        Check.same("the other contract's", x.secret(4, 1, 0) + x.secret(0, 1, 0), 99);
    }

    /** As the block 6 was taken, what is of the block 0 is gone. */
    private static void sixBlocks() {
        Orderledger x = sealing();
        Check.order(x, seal(x, 0, 0, 50, 0));
        Check.order(x, seal(x, 0, 1, 51, 0));
        fill(x, 4);
        Check.same("six blocks: all are held", ofPeers(x, 0) + holds(x, 0, 0) + holds(x, 0, 1), "666666111100111100");
        fill(x, 1);
        Check.same("seven: the first one is gone", ofPeers(x, 0) + holds(x, 0, 0) + holds(x, 0, 1), "777777000000111100");
        Check.same("its secret", x.secret(0, 0, 0) * 100 + x.secret(0, 0, 1), 51);
        Check.same("its sum stays", x.value(0, 44) + " " + x.version(0, 44), "1550 0.0");
        fill(x, 1);
        Check.same("eight: the second one, too", holds(x, 0, 0) + holds(x, 0, 1), "000000000000");
        Check.same("sums stay", x.version(3, 44) + " " + x.version(3, 45), "0.0 1.0");
        Check.same("what is missed is the newest one", ofPeers(x, 7) + ofPeers(x, 6), "111100000000");
    }

    private static void sixBlocksByPlaces() {
        Orderledger x = sealing();
        x.size(4);
        for (int k = 0; k < 4; k++) {
            x.submit(seal(x, 3, k, 60 + k, 1), 0);
        }
        x.tick(4);
        x.size(1);
        Check.order(x, seal(x, 3, 4, 64, 1));
        Check.same("the first block has four, the second one", x.block(1, 0) + "/" + x.block(1, 1), "0:0 1:0 2:0 3:0/4:0");
        x.tick(4);
        Check.same("all are held", x.ofPeer(0, 6) * 10 + x.ofPeer(1, 6), 55);
        fill(x, 4);
        Check.same("the block 5: still", x.ofPeer(0, 0) * 10 + x.ofPeer(0, 6), 65);
        fill(x, 1);
        Check.same("the block 6: all four places of the block 0 are gone", x.ofPeer(0, 6) * 10 + x.ofPeer(1, 6), 11);
        Check.same("the place 0 of the block 1 is there", x.secret(0, 3, 4) * 100 + x.secret(0, 3, 3), 6400);
        fill(x, 1);
        Check.same("the block 7: that is gone, too", x.ofPeer(0, 6) + x.ofPeer(1, 6), 0);
    }

    private static void missedForSixBlocks() {
        Orderledger x = sealing();
        Check.order(x, seal(x, 0, 0, 50, 4));
        Check.order(x, seal(x, 0, 1, 51, 4));
        fill(x, 4);
        Check.same("the block 5: missed", holds(x, 0, 0) + holds(x, 0, 1) + ofPeers(x, 7), "222200222200333300");
        fill(x, 1);
        Check.same("the block 6: the first one is missed no more", holds(x, 0, 0) + holds(x, 0, 1) + ofPeers(x, 7),
                "000000222200222200");
        fill(x, 1);
        Check.same("the block 7: nor the second one", holds(x, 0, 1) + ofPeers(x, 7), "000000111100");
        Check.same("sound", x.isSound(), true);
    }

    /** Those behind the holder find it as they take the block, those ahead of it in the next tick. */
    private static void foundInTheSameTurn() {
        Orderledger x = sealing();
        int p = seal(x, 0, 1, 5, 2);
        x.submit(p, 0);
        x.tick(3);
        Check.same("the block", ofPeers(x, 0), "111111");
        Check.same("0 and 1 looked ahead of 2, 3 behind it", holds(x, 0, 1), "221100");
        x.tick(1);
        Check.same("then all", holds(x, 0, 1), "111100");
    }

    private static void oneInEachTick() {
        Orderledger x = sealing();
        Check.write(x, 0, "secret 0 = 10 ; secret 1 = 11 ; secret 2 = 12 ; secret 3 = 13 ; secret 4 = 14");
        int p = seal(x, 0, 0, 0, 3);
        x.submit(p, 0);
        x.tick(3);
        Check.same("as it is taken", ofPeers(x, 6) + ofPeers(x, 7), "000500555000");
        for (int k = 1; k <= 5; k++) {
            x.tick(1);
            Check.same("one more, " + k, ofPeers(x, 6) + ofPeers(x, 7),
                    ("" + k).repeat(3) + "500" + ("" + (5 - k)).repeat(3) + "000");
            Check.same("the smallest key, " + k, x.secret(0, 0, k - 1), 9 + k);
        }
        x.tick(1);
        Check.same("none more", ofPeers(x, 6), "555500");
    }

    /** "The smallest KEY of those for which there is another PEER": a smaller one that nobody holds does not stop it. */
    private static void smallestThatIsThere() {
        Orderledger x = sealing();
        Check.order(x, seal(x, 0, 0, 10, 4));
        Check.order(x, seal(x, 0, 2, 12, 4));
        int p = seal(x, 0, 1, 11, 2);
        x.side(7, 1);
        Check.order(x, p);
        int q = seal(x, 0, 3, 13, 3);
        Check.order(x, q);
        Check.same("0 and 2 are with nobody, 1 with one that is elsewhere, 3 is found",
                holds(x, 0, 0) + "/" + holds(x, 0, 1) + "/" + holds(x, 0, 2) + "/" + holds(x, 0, 3),
                "222200/220200/222200/110100");
        x.side(7, 0);
        x.tick(3);
        Check.same("1 as soon as there is one", holds(x, 0, 1), "111100");
        Check.same("the others stay missed", ofPeers(x, 7), "222200");
        Check.same("the one that came found 3, too", x.secret(2, 0, 3), 13);
    }

    private static void acrossContracts() {
        Orderledger x = sealing();
        x.size(4);
        x.submit(seal(x, 3, 0, 30, 3), 0);
        x.submit(seal(x, 0, 4, 4, 3), 0);
        x.submit(seal(x, 2, 1, 21, 5), 0);
        x.submit(seal(x, 0, 3, 3, 3), 0);
        x.tick(3);
        Check.same("taken", ofPeers(x, 0) + ofPeers(x, 6), "111111000301");
        Check.same("missed by 0", x.ofPeer(0, 7), 4);
        String[] due = {"0 3", "0 4", "2 1", "3 0"};
        for (int k = 0; k < 4; k++) {
            int c = due[k].charAt(0) - '0';
            int n = due[k].charAt(2) - '0';
            Check.same("not yet, " + k, x.holds(0, c, n), 2);
            x.tick(1);
            Check.same("by rising keys, " + k, x.holds(0, c, n) * 10 + x.ofPeer(0, 6), 11 + k);
        }
    }

    /** A holder of an earlier version, or of a later one, is none. */
    private static void ofTheSameVersion() {
        Orderledger x = sealing();
        Check.order(x, seal(x, 0, 1, 5, 0));
        x.side(6, 1);
        x.source(1, 4);
        Check.order(x, seal(x, 0, 1, 6, 4));
        Check.same("1 is behind, and holds the earlier one", holds(x, 0, 1) + x.secret(1, 0, 1), "2122005");
        for (int p = 2; p < 6; p++) {
            x.down(5 + p);
        }
        x.side(6, 0);
        x.tick(1);
        Check.same("0 looked as 1 held the earlier one", x.holds(0, 0, 1) * 10 + x.secret(0, 0, 1), 20);
        Check.same("then 1 took the block", x.ofPeer(1, 0) * 10 + x.holds(1, 0, 1), 22);
        x.tick(3);
        Check.same("none is found", x.holds(0, 0, 1) * 10 + x.holds(1, 0, 1), 22);
        Orderledger y = sealing();
        Check.order(y, seal(y, 0, 1, 5, 4));
        y.side(5, 1);
        y.source(0, 4);
        Check.order(y, seal(y, 1, 1, 9, 4));
        Check.order(y, seal(y, 0, 1, 6, 2));
        y.tick(1);
        Check.same("0 is two behind, and misses the earlier one", y.ofPeer(0, 0) + holds(y, 0, 1), "1211100");
        y.side(5, 0);
        y.tick(1);
        Check.same("one behind, it misses it still", y.ofPeer(0, 0) * 100 + y.holds(0, 0, 1) * 10 + y.secret(0, 0, 1), 220);
        y.tick(1);
        Check.same("as it takes the later one, it finds that", y.ofPeer(0, 0) * 100 + y.holds(0, 0, 1) * 10
                + y.secret(0, 0, 1), 316);
    }

    private static Orderledger alone(Orderledger x, int peer) {
        for (int p = 0; p < 6; p++) {
            if (p != peer) {
                x.down(5 + p);
            }
        }
        return x;
    }

    private static void loseFewBlocks() {
        Orderledger x = sealing();
        Check.same("of nothing", x.lose(0), 0);
        Check.same("nothing is missed", x.ofPeer(0, 7), 0);
        Check.order(x, seal(x, 0, 0, 50, 0));
        Check.order(x, seal(x, 0, 1, 51, 4));
        Check.order(x, seal(x, 1, 2, 52, 0));
        Check.order(x, seal(x, 3, 4, 54, 0));
        Check.same("held and missed by 0", x.ofPeer(0, 6) * 10 + x.ofPeer(0, 7), 21);
        alone(x, 0);
        Check.same("HEIGHT", x.lose(0), 4);
        Check.same("all that it held or missed is missed", x.ofPeer(0, 6) * 10 + x.ofPeer(0, 7), 3);
        Check.same("these", "" + x.holds(0, 0, 0) + x.holds(0, 0, 1) + x.holds(0, 1, 2) + x.holds(0, 3, 4), "2202");
        Check.same("no secret", x.secret(0, 0, 0) + x.secret(0, 3, 4), 0);
        x.up(8);
        x.tick(1);
        Check.same("found by one that has it, one in each tick", x.ofPeer(0, 6) * 100 + x.secret(0, 0, 0), 150);
        x.tick(1);
        Check.same("the next one", x.ofPeer(0, 6) * 100 + x.secret(0, 3, 4), 254);
        x.tick(3);
        Check.same("one is missed for ever", x.ofPeer(0, 7) * 10 + x.holds(0, 0, 1), 12);
        x.up(9);
        Check.same("another org", x.lose(4), 4);
        Check.same("misses its own alone", x.ofPeer(4, 7) * 10 + x.holds(4, 1, 2), 12);
    }

    private static void loseJustSixBlocks() {
        Orderledger x = sealing();
        Check.order(x, seal(x, 0, 0, 50, 0));
        fill(x, 5);
        alone(x, 0);
        Check.same("held", x.ofPeer(0, 0) * 100 + x.secret(0, 0, 0), 650);
        Check.same("six", x.lose(0), 6);
        Check.same("of the block 0: missed", x.holds(0, 0, 0) * 10 + x.ofPeer(0, 7), 22);
    }

    private static void loseMoreBlocks() {
        Orderledger x = sealing();
        Check.order(x, seal(x, 0, 0, 50, 0));
        Check.order(x, seal(x, 0, 1, 51, 0));
        Check.order(x, seal(x, 0, 2, 52, 0));
        fill(x, 4);
        alone(x, 0);
        Check.same("two are held, one is missed", x.ofPeer(0, 6) * 10 + x.ofPeer(0, 7), 21);
        Check.same("seven", x.lose(0), 7);
        Check.same("of the block 0: nothing; of the block 1 and 2: missed",
                "" + x.holds(0, 0, 0) + x.holds(0, 0, 1) + x.holds(0, 0, 2) + x.ofPeer(0, 7), "0223");
        x.up(6);
        x.tick(4);
        Check.same("found", x.secret(0, 0, 1) * 100 + x.secret(0, 0, 2), 5152);
        Check.same("held", x.ofPeer(0, 6) * 10 + x.ofPeer(0, 7), 21);
        x.up(9);
        fill(x, 1);
        Check.same("the next block takes the one of the block 1", "" + x.holds(0, 0, 1) + x.holds(0, 0, 2), "01");
    }

    /** HELD BACK, the chain, its codes, hashes and counts, source and lie stay; the state is made anew. */
    private static void loseKeepsAllElse() {
        Orderledger x = sealing();
        Check.write(x, 1, "put x = y ; del x + 1");
        x.sample(2, 7);
        Check.order(x, x.propose(1, 5, 1, 0), 0);
        Check.order(x, x.propose(1, 4, 2, 0), 0);
        Check.order(x, x.propose(1, 0, 3, 0), 0);
        Check.order(x, x.ruling(0, 2), 0, 4);
        int p = seal(x, 0, 3, 7, 0, 2);
        Check.order(x, p);
        Check.order(x, p);
        int q = seal(x, 0, 2, 8, 0, 2);
        x.source(0, 4);
        x.lie(0, true);
        alone(x, 0);
        Check.same("its state", x.state(0), "0=3 4=2 40=232 47=642");
        String versions = x.version(0, 0) + x.version(0, 4) + x.version(0, 5) + x.version(0, 40) + x.version(0, 47);
        int[] due = {6, 4, x.hash(0, 5), 4, 5, 1, 0, 1, 1, 1};
        Check.same("lose", x.lose(0), 6);
        for (int w = 0; w < 10; w++) {
            Check.same("behind it, " + w, x.ofPeer(0, w), due[w]);
        }
        Check.same("its state, made anew", x.state(0), "0=3 4=2 40=232 47=642");
        Check.same("with its versions", x.version(0, 0) + x.version(0, 4) + x.version(0, 5) + x.version(0, 40)
                + x.version(0, 47), versions);
        Check.same("these", versions, "2.01.0-3.04.0");
        Check.same("its codes", x.block(0, 4) + " " + x.block(0, 5), "4:0 4:1");
        Check.same("sound", x.isSound(), true);
        x.submit(q, 0);
        x.submit(p, 0);
        x.side(5, 0);
        x.source(0, 0);
        x.tick(5);
        Check.same("what it held back it holds; what was there ahead is twice", x.secret(0, 0, 2) + " " + x.block(0, 6) + " "
                + x.block(0, 7), "8 5:0 4:1");
    }

    /** What is not VALID is neither written nor missed, in whatever place it stands. */
    private static void loseByCodes() {
        Orderledger x = sealing();
        Check.write(x, 1, "put x = get x + y");
        x.size(4);
        int[] row = {x.propose(1, 1, 5, 0), x.propose(1, 1, 6, 0), seal(x, 0, 1, 9, 0, 2), x.propose(1, 2, 7, 0)};
        for (int p : row) {
            x.endorse(p, 0);
            x.submit(p, 0);
        }
        x.tick(4);
        Check.same("the second one is not", x.block(0, 0), "0:0 1:3 2:0 3:0");
        int[] next = {row[2], seal(x, 0, 3, 9, 0), row[1], x.propose(1, 2, 8, 0)};
        for (int p : next) {
            x.endorse(p, 0);
            x.submit(p, 0);
        }
        x.tick(4);
        Check.same("the first and the third one are not", x.block(0, 1), "2:1 4:0 1:1 5:0");
        alone(x, 0);
        String state = x.state(0);
        Check.same("state", state, "1=5 2=15 45=488 47=704");
        x.lose(0);
        Check.same("made anew", x.state(0), state);
        Check.same("versions", x.version(0, 1) + " " + x.version(0, 2) + " " + x.version(0, 45) + " " + x.version(0, 47),
                "0.0 1.3 0.2 1.1");
        Check.same("missed", x.holds(0, 0, 1) * 100 + x.holds(0, 0, 3) * 10 + x.ofPeer(0, 7), 222);
        Check.same("counts", x.ofPeer(0, 4) * 10 + x.ofPeer(0, 5), 53);
        Check.same("sound", x.isSound(), true);
        x.up(7);
        x.tick(2);
        Check.same("found as of these versions", x.secret(0, 0, 1) + x.secret(0, 0, 3), 18);
    }

    private static void loseAll() {
        Orderledger x = sealing();
        Check.order(x, seal(x, 0, 1, 5, 0, 2));
        Check.same("held", holds(x, 0, 1), "111100");
        for (int p = 0; p < 6; p++) {
            Check.same("lose", x.lose(p), 1);
        }
        Check.same("missed", holds(x, 0, 1), "222200");
        x.tick(20);
        Check.same("there is nobody to find it by", holds(x, 0, 1), "222200");
        Check.write(x, 0, "tell open 1");
        Check.same("nobody can open it", x.would(x.propose(0, 0, 0, 0), 0), 3);
        Check.same("sound", x.isSound(), true);
    }

    private static void loseRefused() {
        Orderledger x = sealing();
        Check.order(x, seal(x, 0, 1, 5, 0, 2));
        x.down(5);
        Check.refused(x, "down", () -> x.lose(0));
        Check.same("it holds it still", x.secret(0, 0, 1), 5);
        x.up(5);
        Check.same("up", x.lose(0), 1);
    }
}
