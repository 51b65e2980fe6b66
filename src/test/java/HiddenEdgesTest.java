/**
 * Edges of section 2 that a sentence names, but that no run of calls comes to (a message lives for one tick, and a
 * candidate waits for four at least): these tests change by hand what lies inside a ledger.
 */
public final class HiddenEdgesTest {
    public static void main(String[] args) {
        aboveItsPatience();
        sayOfTermBelow();
        sayOfOneThatIsNoMember();
        toldOfTermBelow();
        askOfTheOneThatItVotedFor();
        appendOfTheSameTermToOneThatVotedForAnother();
        Check.end("HiddenEdgesTest");
    }

    private static void set(Orderledger x, int orderer, String name, Object value) {
        SoundTest.put(SoundTest.orderer(x, orderer), name, value);
    }

    /** "If it is its PATIENCE or more". */
    private static void aboveItsPatience() {
        Orderledger x = new Orderledger();
        set(x, 2, "waited", 6);
        x.tick(1);
        Check.orderer(x, "one less", 2, 0, 0, -1, 0, 0, 0, 7, -1);
        set(x, 2, "waited", 30);
        x.tick(1);
        Check.orderer(x, "more", 2, 1, 1, 2, 0, 0, 0, 0, -1);
    }

    /** "SAY with yes, of its own TERM". */
    private static void sayOfTermBelow() {
        Orderledger x = new Orderledger();
        x.tick(5);
        set(x, 0, "term", 2);
        x.tick(1);
        Check.orderer(x, "not elected by the votes of another term", 0, 1, 2, 0, 0, 0, 0, 2, -1);
        Check.same("nobody led", x.house(8), 0);
    }

    /** "If those of them that are MEMBERS are MANY of its MEMBERS". */
    private static void sayOfOneThatIsNoMember() {
        Orderledger x = Check.led();
        x.member(0, 3, true);
        x.tick(4);
        x.member(0, 1, false);
        x.tick(1);
        x.down(0);
        x.down(2);
        x.tick(1);
        x.up(0);
        Check.same("0, 2 and 3", x.ofOrderer(0, 9), 13);
        x.tick(4);
        Check.same("it asks these", Check.sent(x, "0>2") + "/" + Check.sent(x, "0>3"), "0>2 ask 2 3 1/0>3 ask 2 3 1");
        Check.same("it does not ask 1", Check.sent(x, "0>1 ask"), "");
        x.down(1);
        set(x, 0, "votes", 1 + 2 + 16);
        x.side(3, 1);
        x.tick(1);
        Check.orderer(x, "1 and 4 do not count, 2 and 3 said nothing", 0, 1, 2, 0, 3, 1);
        x.side(3, 0);
        x.tick(3);
        Check.messages(x, "again", "0>2 ask 3 3 1", "0>3 ask 3 3 1");
        set(x, 0, "votes", 1 + 2);
        x.tick(2);
        Check.orderer(x, "0 and 3 are two of three", 0, 2, 3, 0, 4, 3);
    }

    /** "TOLD of its own TERM". */
    private static void toldOfTermBelow() {
        Orderledger x = new Orderledger();
        x.tick(7);
        Check.same("told", Check.sent(x, "1>0"), "1>0 told 1 yes 1");
        set(x, 0, "term", 2);
        x.tick(1);
        Check.orderer(x, "nothing is known by that", 0, 2, 2, 0, 1, 1, 0, 1, 0);
        Check.same("it sends the same again", Check.sent(x, "0>1"), "0>1 append 2 0 0 1 0");
    }

    /** "If its VOTE is neither NONE nor c". */
    private static void askOfTheOneThatItVotedFor() {
        Orderledger x = new Orderledger();
        x.tick(4);
        for (int o = 1; o < 3; o++) {
            set(x, o, "term", 1);
            set(x, o, "vote", o == 1 ? 0 : 1);
        }
        x.tick(1);
        Check.messages(x, "for it, and for another one", "1>0 say 1 yes", "2>0 say 1 no");
        Check.orderer(x, "the vote begins the waiting anew", 1, 0, 1, 0, 0, 0, 0, 1, -1);
        Check.orderer(x, "a no does not", 2, 0, 1, 1, 0, 0, 0, 5, -1);
    }

    private static void appendOfTheSameTermToOneThatVotedForAnother() {
        Orderledger x = new Orderledger();
        x.tick(6);
        set(x, 2, "vote", 1);
        x.tick(1);
        Check.orderer(x, "it follows all the same, its vote stays", 2, 0, 1, 1, 1, 1, 0, 1, 0);
    }
}
