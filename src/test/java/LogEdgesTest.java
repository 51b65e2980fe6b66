/** The edges of section 2, logs: the turn of a LEADER, APPEND, TOLD, COMMIT, MEMBERS. */
public final class LogEdgesTest {
    public static void main(String[] args) {
        blocksBySize();
        blocksByAge();
        agesStayWithTheirTransactions();
        threeOrMore();
        sizeChanges();
        turnOfALeader();
        leaderBeginsBehindItsLast();
        backToWhatTheFollowerHas();
        nextAtLeastOne();
        prevJustBehindTheLast();
        entriesThatDifferInTheMiddle();
        commitNeverShrinks();
        commitOfAFollower();
        commitByTheSlowerOne();
        toldAndThenAGreaterTerm();
        toldToNoLeader();
        longLog();
        memberRefusedByTerm();
        memberRefusedByOthers();
        memberCounts();
        leaderThatIsOut();
        leaderThatIsOutLater();
        memberThatComesAgain();
        membersThatGo();
        Check.end("LogEdgesTest");
    }

    /** A ledger that is led, with one proposal that the peer 0 endorsed. */
    private static Orderledger ready() {
        Orderledger x = Check.led(0);
        x.propose(0, 1, 2, 0);
        x.endorse(0, 0);
        return x;
    }

    private static void submit(Orderledger x, int orderer, int many) {
        for (int k = 0; k < many; k++) {
            x.submit(0, orderer);
        }
    }

    /** SIZE or more are laid at once, fewer wait; a block has at most SIZE. */
    private static void blocksBySize() {
        for (int size = 1; size <= 4; size++) {
            Orderledger x = ready();
            x.size(size);
            submit(x, 0, size);
            x.tick(1);
            Check.same("SIZE are enough, " + size, x.entry(0, 2), "1 block" + " 0".repeat(size));
            Orderledger y = ready();
            y.size(size);
            submit(y, 0, size + 1);
            y.tick(1);
            Check.same("one more stays, " + size, y.entry(0, 2) + "/" + y.queue(0), "1 block" + " 0".repeat(size) + "/0");
            Orderledger z = ready();
            z.size(size);
            submit(z, 0, size - 1);
            z.tick(2);
            Check.same("one less waits, " + size, z.ofOrderer(0, 10) * 10 + z.ofOrderer(0, 8), size - 1);
            z.tick(1);
            Check.same("three ticks, or for ever with none, " + size, z.ofOrderer(0, 10), size == 1 ? 0 : 1);
        }
        Orderledger x = ready();
        submit(x, 0, 12);
        x.size(4);
        x.tick(1);
        Check.same("one block in a turn", x.ofOrderer(0, 10) * 100 + x.ofOrderer(0, 8), 108);
        Orderledger y = Check.led(0);
        y.size(2);
        Check.same("SIZE", y.size(2), 2);
        Check.same("SIZE at first", new Orderledger().size(3), 2);
    }

    private static void blocksByAge() {
        Orderledger x = ready();
        x.size(4);
        submit(x, 0, 1);
        x.tick(1);
        submit(x, 0, 1);
        x.tick(1);
        Check.same("the first one came two ticks ago", x.queue(0), "0 0");
        x.tick(1);
        Check.same("three: it goes with the second one", x.entry(0, 2) + "/" + x.queue(0), "1 block 0 0/");
    }

    private static void agesStayWithTheirTransactions() {
        Orderledger x = ready();
        x.size(2);
        submit(x, 0, 1);
        x.tick(1);
        submit(x, 0, 2);
        x.tick(1);
        Check.same("two of three are laid", x.entry(0, 2) + "/" + x.queue(0), "1 block 0 0/0");
        x.tick(1);
        Check.same("the third one came two ticks ago", x.ofOrderer(0, 10) + x.queue(0), "10");
        x.tick(1);
        Check.same("three", x.entry(0, 3) + "/" + x.queue(0), "1 block 0/");
    }

    private static void threeOrMore() {
        Orderledger x = ready();
        submit(x, 0, 10);
        x.tick(4);
        x.size(4);
        x.tick(1);
        Check.same("four of six", x.entry(0, 6) + "/" + x.queue(0), "1 block 0 0 0 0/0 0");
        x.tick(1);
        Check.same("six ticks are more than three", x.entry(0, 7) + "/" + x.queue(0), "1 block 0 0/");
    }

    private static void sizeChanges() {
        Orderledger x = ready();
        x.size(4);
        submit(x, 0, 3);
        x.tick(1);
        Check.same("three of four wait", x.queue(0), "0 0 0");
        x.size(3);
        x.tick(1);
        Check.same("three of three do not", x.entry(0, 2), "1 block 0 0 0");
        Check.same("what is laid stays as it is", x.size(1), 3);
        x.tick(3);
        Check.same("for all", x.entry(2, 2), "1 block 0 0 0");
        Check.same("and taken", x.block(5, 0), "0:0 0:1 0:1");
    }

    /** The block is laid ahead of the append, in one turn; a change of MEMBERS is laid as it is asked for. */
    private static void turnOfALeader() {
        Orderledger x = ready();
        submit(x, 0, 1);
        Check.same("as entry 2", x.member(0, 3, true), 2);
        Check.same("nothing is sent by that", Check.sent(x, "0>3"), "");
        x.tick(1);
        Check.messages(x, "members, block, and what is committed", "1>0 told 1 yes 1", "2>0 told 1 yes 1",
                "0>1 append 1 1 1 2 1", "0>2 append 1 1 1 2 1", "0>3 append 1 0 0 3 1");
        x.tick(1);
        Check.messages(x, "as long as nothing is told, the same again", "1>0 told 1 yes 3", "2>0 told 1 yes 3",
                "3>0 told 1 yes 3", "0>1 append 1 1 1 2 1", "0>2 append 1 1 1 2 1", "0>3 append 1 0 0 3 1");
        x.tick(1);
        Check.messages(x, "then what is behind it, with COMMIT", "1>0 told 1 yes 3", "2>0 told 1 yes 3", "3>0 told 1 yes 3",
                "0>1 append 1 3 1 0 3", "0>2 append 1 3 1 0 3", "0>3 append 1 3 1 0 3");
        Orderledger y = new Orderledger();
        y.tick(20);
        Check.same("without transactions no block", y.ofOrderer(0, 3) * 10 + y.ofOrderer(0, 10), 10);
    }

    /** 1 leads in the term 2 with five entries of the term 1, of which 2 has the first one; both forgot COMMIT. */
    private static Orderledger behind() {
        Orderledger x = ready();
        x.down(2);
        submit(x, 0, 4);
        x.tick(6);
        Check.orderer(x, "five entries", 1, 0, 1, 0, 5, 1);
        x.down(0);
        x.down(1);
        x.tick(1);
        x.up(1);
        x.up(2);
        x.tick(8);
        return x;
    }

    private static void leaderBeginsBehindItsLast() {
        Orderledger x = behind();
        Check.orderer(x, "elected, with an entry of its own", 1, 2, 2, 1, 6, 2, 0, 1, 1, 0, 7, 4, 0);
        Check.same("the own one", x.entry(1, 6), "2 empty");
        Check.messages(x, "from behind its last one on", "1>0 append 2 5 1 1 0", "1>2 append 2 5 1 1 0");
    }

    /** Of three, 2 has the entries of the old term, too: that is MANY, but no entry of the own term. */
    private static void backToWhatTheFollowerHas() {
        Orderledger x = behind();
        String other = "1>0 append 2 5 1 1 0";
        x.tick(1);
        Check.messages(x, "no: the smaller one of PREV - 1 and LAST is LAST", "2>1 told 2 no 1", other,
                "1>2 append 2 5 1 1 0");
        x.tick(1);
        Check.messages(x, "behind that one, three at most", "2>1 told 2 no 1", other, "1>2 append 2 1 1 3 0");
        x.tick(1);
        Check.messages(x, "told no twice: one less", "2>1 told 2 yes 4", other, "1>2 append 2 0 0 3 0");
        Check.orderer(x, "three are laid", 2, 0, 2, 1, 4, 1, 0, 1, 1);
        x.tick(1);
        Check.messages(x, "from what it has; what it has ahead of that stays", "2>1 told 2 yes 3", other,
                "1>2 append 2 4 1 2 0");
        Check.orderer(x, "four, as they were", 2, 0, 2, 1, 4, 1, 0, 1, 1);
        Check.same("MANY have four entries of an earlier term: not committed", x.ofOrderer(1, 5), 0);
        x.tick(1);
        Check.messages(x, "MATCH does not grow less", "2>1 told 2 yes 6", other, "1>2 append 2 4 1 2 0");
        Check.same("not committed", x.ofOrderer(1, 5), 0);
        x.tick(1);
        Check.messages(x, "one of the own term is, with all ahead of it", "2>1 told 2 yes 6",
                "1>0 append 2 5 1 1 6", "1>2 append 2 6 2 0 6");
        Check.orderer(x, "committed", 1, 2, 2, 1, 6, 2, 6, 1, 1, 0, 7, 4, 4);
        Check.same("not yet by the other one", x.ofOrderer(2, 5), 0);
        x.tick(1);
        Check.same("then by that, too", x.ofOrderer(2, 5), 6);
    }

    private static void nextAtLeastOne() {
        Orderledger x = Check.led(0);
        x.down(0);
        x.tick(10);
        Check.orderer(x, "1 leads", 1, 2, 2, 1, 2, 2, 2);
        Check.same("3 comes in", x.member(1, 3, true), 3);
        x.tick(1);
        Check.same("from NEXT, as it was elected", Check.sent(x, "1>3"), "1>3 append 2 1 1 2 2");
        x.tick(1);
        Check.same("a log without entries: 0", Check.sent(x, "3>1"), "3>1 told 2 no 0");
        x.tick(1);
        Check.same("from the first one on", Check.sent(x, "1>3"), "1>3 append 2 0 0 3 2");
        Check.same("no again", Check.sent(x, "3>1"), "3>1 told 2 no 0");
        x.tick(1);
        Check.same("there is none ahead of that", Check.sent(x, "1>3"), "1>3 append 2 0 0 3 2");
        Check.orderer(x, "all is there", 3, 0, 2, -1, 3, 2, 2, 1, 1, 0, 15);
        x.tick(1);
        Check.same("committed", x.ofOrderer(1, 5), 3);
    }

    private static void prevJustBehindTheLast() {
        Orderledger x = ready();
        submit(x, 0, 1);
        x.tick(4);
        x.down(2);
        submit(x, 0, 1);
        x.tick(4);
        x.down(0);
        x.down(1);
        x.tick(1);
        x.up(1);
        x.up(2);
        x.tick(8);
        Check.same("PREV is 1 more than what it has", Check.sent(x, "1>2"), "1>2 append 2 3 1 1 0");
        Check.same("two entries", x.ofOrderer(2, 3), 2);
        x.tick(1);
        Check.same("PREV - 1 and LAST are the same", Check.sent(x, "2>1"), "2>1 told 2 no 2");
        x.tick(1);
        Check.same("one less", Check.sent(x, "1>2"), "1>2 append 2 2 1 2 0");
        x.tick(1);
        Check.same("laid", x.ofOrderer(2, 3), 4);
    }

    /** An entry that is the same stays, the first one of another TERM goes with all behind it. */
    private static void entriesThatDifferInTheMiddle() {
        Orderledger x = ready();
        submit(x, 0, 1);
        x.tick(4);
        x.side(0, 1);
        submit(x, 0, 3);
        x.tick(10);
        Check.orderer(x, "0 alone has five entries of its term", 0, 2, 1, 0, 5, 1, 2);
        Check.orderer(x, "1 leads", 1, 2, 2, 1, 3, 2);
        submit(x, 1, 1);
        x.tick(4);
        Check.orderer(x, "and has four", 2, 0, 2, 1, 4, 2, 4);
        x.down(1);
        x.tick(1);
        x.up(1);
        x.tick(14);
        int leader = x.ofOrderer(1, 0) == 2 ? 1 : 2;
        int term = x.ofOrderer(leader, 1);
        Check.orderer(x, "a third leader has five", leader, 2, term, leader, 5, term, 5);
        String to = leader + ">0 append " + term + " ";
        String from = "0>" + leader + " told " + term + " ";
        x.side(0, 0);
        for (int k = 0; k < 12 && !Check.sent(x, from).endsWith("no 3"); k++) {
            x.tick(1);
        }
        Check.same("another TERM at 4: PREV - 1", Check.sent(x, from), from + "no 3");
        x.tick(1);
        Check.same("PREV 3", Check.sent(x, to), to + "3 2 2 5");
        Check.same("once more for the second one with PREV 4", Check.sent(x, from), from + "no 3");
        x.tick(1);
        Check.same("PREV 2", Check.sent(x, to), to + "2 1 3 5");
        Check.same("another TERM at 3", Check.sent(x, from), from + "no 2");
        x.down(0);
        x.tick(1);
        Check.same("PREV 1", Check.sent(x, to), to + "1 1 3 5");
        x.up(0);
        x.tick(1);
        Check.orderer(x, "2 stays, 3 to 5 go, 3 and 4 come", 0, 0, term, -1, 4, 2, 4, 1, leader);
        Check.same("told so", Check.sent(x, from), from + "yes 4");
        Check.same("the same", x.entry(0, 2) + "/" + x.entry(0, 3) + "/" + x.entry(0, 4), "1 block 0/2 empty/2 block 0");
        Check.same("blocks", x.ofOrderer(0, 10) * 10 + x.ofOrderer(0, 11), 22);
        x.tick(4);
        Check.orderer(x, "all of it", 0, 0, term, -1, 5, term, 5, 1, leader);
        Check.same("sound", x.isSound(), true);
    }

    /** A new leader that forgot its COMMIT does not take a follower's from it. */
    private static void commitNeverShrinks() {
        Orderledger x = Check.led(0);
        x.down(0);
        x.down(1);
        x.tick(1);
        x.up(1);
        x.tick(8);
        Check.orderer(x, "1 leads, and knows of none", 1, 2, 2, 1, 2, 2, 0);
        Check.same("so it tells", Check.sent(x, "1>2"), "1>2 append 2 1 1 1 0");
        x.tick(1);
        Check.orderer(x, "the follower knows of one all the same", 2, 0, 2, 1, 2, 2, 1, 1, 1);
        x.tick(1);
        Check.same("the leader of both", x.ofOrderer(1, 5) * 10 + x.house(7), 22);
        x.down(1);
        x.down(2);
        Check.same("the greatest that there ever was stays", x.house(7), 2);
    }

    /** The smaller one of the sender's COMMIT and PREV + how many were sent. */
    private static void commitOfAFollower() {
        Orderledger x = ready();
        x.down(2);
        submit(x, 0, 5);
        x.tick(8);
        Check.same("six are committed", x.ofOrderer(0, 5), 6);
        Check.same("three are sent behind PREV 1", Check.sent(x, "0>2"), "0>2 append 1 1 1 3 6");
        x.up(2);
        x.tick(1);
        Check.orderer(x, "1 + 3 is the smaller one", 2, 0, 1, 0, 4, 1, 4, 1, 0, 0, 7, 3, 3);
        x.tick(3);
        Check.orderer(x, "1 + 3, 1 + 3, then 4 + 2 and 6 are the same", 2, 0, 1, 0, 6, 1, 6);
        submit(x, 0, 1);
        x.tick(1);
        Check.same("behind PREV 6 one more", Check.sent(x, "0>2"), "0>2 append 1 6 1 1 6");
        x.tick(1);
        Check.orderer(x, "the sender's is the smaller one", 2, 0, 1, 0, 7, 1, 6);
    }

    /** Of five: the leader and 1 have seven entries, 2 has six: these are committed. */
    private static void commitByTheSlowerOne() {
        Orderledger x = Check.five(0);
        x.propose(0, 1, 2, 0);
        x.endorse(0, 0);
        x.down(2);
        x.down(3);
        x.down(4);
        submit(x, 0, 4);
        x.tick(8);
        Check.same("two of five", x.ofOrderer(0, 3) * 100 + x.ofOrderer(1, 3) * 10 + x.ofOrderer(0, 5), 773);
        x.up(2);
        x.tick(1);
        Check.same("told", Check.sent(x, "2>0"), "2>0 told 1 yes 6");
        x.tick(1);
        Check.same("the greatest number that three of five have", x.ofOrderer(0, 5), 6);
        x.tick(2);
        Check.same("then all", x.ofOrderer(0, 5), 7);
    }

    /** COMMIT grows as it is told, though a greater TERM comes behind in the same tick. */
    private static void toldAndThenAGreaterTerm() {
        Orderledger x = ready();
        x.side(2, 1);
        x.tick(5);
        submit(x, 0, 1);
        x.tick(2);
        Check.messages(x, "2 stands elsewhere", "1>0 told 1 yes 2", "0>1 append 1 1 1 1 1", "0>2 append 1 1 1 1 1",
                "2>0 ask 2 1 1", "2>1 ask 2 1 1");
        Check.same("not committed", x.ofOrderer(0, 5), 1);
        x.side(2, 0);
        x.tick(1);
        Check.orderer(x, "committed, and no leader any more", 0, 0, 2, -1, 2, 1, 2, 2, -1, 0, 7, 1, 1);
        Check.same("taken in that tick", x.ofPeer(0, 0) * 10 + x.house(7), 12);
        Check.messages(x, "both have a newer log", "1>0 told 1 yes 2", "2>0 told 2 no 0", "0>2 say 2 no", "1>2 say 2 no");
    }

    private static void toldToNoLeader() {
        Orderledger x = ready();
        submit(x, 0, 1);
        x.tick(2);
        Check.same("told", Check.sent(x, "1>0") + "/" + Check.sent(x, "2>0"), "1>0 told 1 yes 2/2>0 told 1 yes 2");
        x.down(0);
        x.up(0);
        x.tick(1);
        Check.orderer(x, "nothing is committed by a follower that is told", 0, 0, 1, 0, 2, 1, 0, 1, -1);
        Check.same("nothing is taken", x.ofPeer(0, 0), 0);
    }

    private static void longLog() {
        Orderledger x = ready();
        for (int k = 0; k < 4; k++) {
            submit(x, 0, 12);
            x.tick(12);
        }
        x.tick(4);
        for (int o = 0; o < 3; o++) {
            Check.orderer(x, "48 blocks", o, o == 0 ? 2 : 0, 1, 0, 49, 1, 49, 1, 0, 0, 7, 48, 48);
            Check.same("the first one", x.entry(o, 2), "1 block 0");
            Check.same("the last one", x.entry(o, 49), "1 block 0");
        }
        for (int p = 0; p < 6; p++) {
            Check.same("one valid, the others not, " + p, x.ofPeer(p, 0) * 10000 + x.ofPeer(p, 4) * 100 + x.ofPeer(p, 5),
                    480147);
            Check.same("twice", x.block(p, 0) + "/" + x.block(p, 1) + "/" + x.block(p, 47), "0:0/0:1/0:1");
        }
        Check.same("sound", x.isSound(), true);
        x.down(0);
        for (int k = 0; k < 20 && x.ofOrderer(1, 0) != 2; k++) {
            x.tick(1);
        }
        Check.same("50", x.entry(1, 50), "2 empty");
    }

    /** COMMIT is above 0, but of an earlier TERM. */
    private static void memberRefusedByTerm() {
        Orderledger x = Check.led(0);
        x.down(0);
        x.tick(7);
        Check.orderer(x, "a candidate", 1, 1, 2, 1, 1, 1, 1);
        Check.refused(x, "a candidate is no leader", () -> x.member(1, 3, true));
        x.tick(1);
        Check.orderer(x, "a leader that knows of one", 1, 2, 2, 1, 2, 2, 1);
        Check.refused(x, "no entry of its term up to its COMMIT", () -> x.member(1, 3, true));
        x.tick(1);
        Check.refused(x, "not yet", () -> x.member(1, 3, true));
        x.tick(1);
        Check.same("now there is", x.ofOrderer(1, 5), 2);
        Check.same("so it may", x.member(1, 3, true), 3);
    }

    private static void memberRefusedByOthers() {
        Orderledger x = Check.led(0);
        for (int k = 0; k < 5; k++) {
            int o = k;
            Check.refused(x, "it would change nothing, " + k, () -> x.member(0, o, o < 3));
        }
        Check.same("in", x.member(0, 3, true), 2);
        Check.refused(x, "an entry MEMBERS above COMMIT", () -> x.member(0, 3, false));
        x.tick(2);
        Check.same("not committed", x.ofOrderer(0, 5), 1);
        Check.refused(x, "still", () -> x.member(0, 4, true));
        x.tick(1);
        Check.same("just up to COMMIT", x.ofOrderer(0, 5), 2);
        Check.same("out again", x.member(0, 3, false), 3);
        x.tick(3);
        for (int which = 2; which > 0; which--) {
            Check.same("out", x.member(0, which, false), 6 - which);
            x.down(which);
            x.tick(which == 2 ? 4 : 1);
        }
        Check.same("alone", x.ofOrderer(0, 9) * 10 + x.ofOrderer(0, 5), 15);
        Check.refused(x, "it would leave none", () -> x.member(0, 0, false));
        Check.same("but in", x.member(0, 4, true), 6);
        Check.refused(x, "by one that is down", () -> x.member(1, 4, true));
        Check.refused(x, "by a follower", () -> x.member(4, 2, true));
    }

    private static void memberCounts() {
        Orderledger x = Check.led(0);
        int[] due = {15, 31, 30};
        x.member(0, 3, true);
        Check.same("four", x.ofOrderer(0, 9), due[0]);
        x.tick(4);
        x.member(0, 4, true);
        Check.same("all five", x.ofOrderer(0, 9), due[1]);
        Check.same("the others tell what their logs tell", x.ofOrderer(1, 9) * 100 + x.ofOrderer(4, 9), 1507);
        x.tick(1);
        Check.same("to all of them", Check.sent(x, "0>4"), "0>4 append 1 0 0 3 2");
        x.tick(3);
        for (int o = 0; o < 5; o++) {
            Check.same("all know it, " + o, x.ofOrderer(o, 9), due[1]);
        }
        Check.same("itself out", x.member(0, 0, false), 4);
        Check.same("at once", x.ofOrderer(0, 9), due[2]);
        Check.same("as an entry", x.entry(0, 4), "1 members 30");
    }

    /** It leads on, and lays blocks, as long as its going out is not committed; its own log does not count. */
    private static void leaderThatIsOut() {
        Orderledger x = ready();
        x.down(2);
        x.member(0, 0, false);
        x.tick(4);
        Check.orderer(x, "1 alone of 1 and 2 has it", 0, 2, 1, 0, 2, 1, 1, 1, 0, 0, 6);
        submit(x, 0, 1);
        x.tick(4);
        Check.orderer(x, "it lays a block", 0, 2, 1, 0, 3, 1, 1, 1, 0, 0, 6, 1, 0);
        x.up(2);
        x.tick(1);
        Check.same("2 has both", Check.sent(x, "2>0"), "2>0 told 1 yes 3");
        x.size(2);
        submit(x, 0, 1);
        Check.same("one is in the queue", x.queue(0), "0");
        x.tick(1);
        Check.messages(x, "it tells them, and goes", "1>0 told 1 yes 3", "2>0 told 1 yes 3", "0>1 append 1 3 1 0 3",
                "0>2 append 1 3 1 0 3");
        Check.orderer(x, "both are committed at once; it follows nobody", 0, 0, 1, 0, 3, 1, 3, 0, -1, 0, 6, 1, 1);
        Check.same("its queue is empty", x.queue(0), "");
        x.tick(1);
        Check.orderer(x, "they know it", 1, 0, 1, 0, 3, 1, 3, 1, 0, 0, 6);
        Check.same("no more appends", Check.sent(x, "0>"), "");
    }

    /** Just as its going out is committed, with nothing behind it. */
    private static void leaderThatIsOutLater() {
        Orderledger x = Check.led(0);
        x.member(0, 0, false);
        x.tick(2);
        Check.orderer(x, "told by both, in the next tick", 0, 2, 1, 0, 2, 1, 1, 1, 0, 0, 6);
        x.tick(1);
        Check.orderer(x, "gone", 0, 0, 1, 0, 2, 1, 2, 0, -1, 0, 6);
        x.tick(3);
        Check.orderer(x, "it waits", 0, 0, 1, 0, 2, 1, 2, 3, -1, 0, 6);
    }

    /** One that goes out and comes in again is sent what is behind the last thing that it told. */
    private static void memberThatComesAgain() {
        Orderledger x = Check.led(0);
        x.member(0, 2, false);
        x.tick(3);
        Check.messages(x, "nothing to one that is out", "1>0 told 1 yes 2", "0>1 append 1 2 1 0 2");
        Check.same("committed by 0 and 1", x.ofOrderer(0, 5), 2);
        Check.same("in again", x.member(0, 2, true), 3);
        x.tick(1);
        Check.same("all that it has not", Check.sent(x, "0>2"), "0>2 append 1 1 1 2 2");
        x.tick(3);
        Check.orderer(x, "it knows of both", 2, 0, 1, 0, 3, 1, 3, 1, 0, 0, 7);
    }

    /** MEMBERS that were not committed go with their entry. */
    private static void membersThatGo() {
        Orderledger x = Check.led(0);
        x.side(0, 1);
        x.side(3, 1);
        x.member(0, 3, true);
        x.tick(10);
        Check.same("two of four know it", x.ofOrderer(0, 9) * 100 + x.ofOrderer(3, 9), 1515);
        Check.orderer(x, "another one leads", 1, 2, 2, 1, 2, 2, 2);
        x.side(0, 0);
        x.tick(4);
        Check.same("as it was ahead", x.ofOrderer(0, 9), 7);
        Check.same("another entry", x.entry(0, 2), "2 empty");
        Check.same("the new one hears nothing of it", x.ofOrderer(3, 9), 15);
        Check.same("sound", x.isSound(), true);
    }
}
