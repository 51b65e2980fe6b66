/** The edges of section 2, elections: patience, votes, MANY, who asks and what is answered. */
public final class ElectionEdgesTest {
    public static void main(String[] args) {
        patience();
        patienceOfNewMembers();
        nonMembersNeverStand();
        standing();
        votesBeginAnew();
        manyOfTwo();
        manyOfFour();
        manyOfFive();
        manyOfOne();
        askOfTermBelow();
        askWhenVoted();
        askByLogOfSameTerm();
        askByLogsOfOtherTerms();
        sayOfGreaterTerm();
        sayToNoCandidate();
        askOfGreaterTerm();
        asksGoToMembersAlone();
        membersByTheOneThatAsks();
        manyTerms();
        Check.end("ElectionEdgesTest");
    }

    private static void downAll(Orderledger x, int... orderers) {
        for (int o : orderers) {
            x.down(o);
        }
    }

    /** 4 + 2 * n. */
    private static void patience() {
        for (int n = 0; n < 3; n++) {
            Orderledger x = new Orderledger();
            downAll(x, (n + 1) % 3, (n + 2) % 3);
            x.tick(4 + 2 * n - 1);
            Check.orderer(x, "one tick less", n, 0, 0, -1, 0, 0, 0, 4 + 2 * n - 1, -1);
            x.tick(1);
            Check.orderer(x, "its patience is over", n, 1, 1, n, 0, 0, 0, 0, -1);
            x.tick(4 + 2 * n - 1);
            Check.orderer(x, "a candidate waits as long", n, 1, 1, n, 0, 0, 0, 4 + 2 * n - 1, -1);
            x.tick(1);
            Check.orderer(x, "and stands again", n, 1, 2, n, 0, 0, 0, 0, -1);
        }
    }

    private static void patienceOfNewMembers() {
        for (int n = 0; n < 5; n++) {
            Orderledger x = Check.five();
            downAll(x, 0, 1, 2, 3, 4);
            x.tick(1);
            x.up(n);
            int vote = n < 3 ? 0 : -1;
            x.tick(4 + 2 * n - 1);
            Check.orderer(x, "one of five, one tick less", n, 0, 1, vote, 3, 1, 0, 4 + 2 * n - 1, -1);
            x.tick(1);
            Check.orderer(x, "one of five stands", n, 1, 2, n, 3, 1, 0, 0, -1, 0, 31);
            Check.same("asks of four", x.messages(), 4);
        }
    }

    private static void nonMembersNeverStand() {
        Orderledger x = new Orderledger();
        downAll(x, 0, 1, 2);
        x.tick(20);
        Check.orderer(x, "3 is no member", 3, 0, 0, -1, 0, 0, 0, 20, -1, 0, 7);
        Check.orderer(x, "4 is no member", 4, 0, 0, -1, 0, 0, 0, 20, -1, 0, 7);
        Check.same("nothing is sent", x.house(3), 0);
        Orderledger y = Check.led(0);
        y.member(0, 2, false);
        y.tick(4);
        y.down(0);
        y.tick(20);
        Check.same("one that went out hears nothing", y.ofOrderer(2, 9), 7);
        Check.same("and goes on as it was", y.ofOrderer(2, 1) > 1, true);
        Orderledger z = Check.led(0);
        z.member(0, 3, true);
        z.tick(4);
        Check.same("3 knows that it is in", z.ofOrderer(3, 9), 15);
        z.member(0, 3, false);
        z.tick(20);
        Check.same("out, it hears no more of it", z.ofOrderer(3, 9), 15);
        z.member(0, 3, true);
        z.tick(4);
        z.member(0, 0, false);
        z.tick(6);
        Check.same("0 knows that it is out", z.ofOrderer(0, 9), 14);
        Check.same("and follows nobody", z.ofOrderer(0, 0) * 10 + z.ofOrderer(0, 7), -1);
        int waited = z.ofOrderer(0, 6);
        int term = z.ofOrderer(0, 1);
        z.side(0, 1);
        z.tick(20);
        Check.same("it waits above its patience", z.ofOrderer(0, 6), waited + 20);
        Check.same("and does not stand", z.ofOrderer(0, 0) * 100 + z.ofOrderer(0, 1), term);
    }

    /** TERM 1 more, its own VOTE, WAITED 0, LEADER none, asks with LAST. */
    private static void standing() {
        Orderledger x = Check.led(0);
        x.side(0, 1);
        x.tick(4);
        Check.orderer(x, "a follower that hears nothing follows on", 1, 0, 1, 0, 1, 1, 1, 5, 0);
        x.tick(1);
        Check.orderer(x, "until it stands", 1, 1, 2, 1, 1, 1, 1, 0, -1);
        Check.same("with the number and the term of its last entry", Check.sent(x, "1>2"), "1>2 ask 2 1 1");
        Check.same("to each other member, rising", Check.sent(x, "1>"), "1>0 ask 2 1 1");
        x.down(2);
        x.tick(6);
        Check.orderer(x, "again", 1, 1, 3, 1, 1, 1, 1, 0, -1);
        Check.same("with its new term", Check.sent(x, "1>2"), "1>2 ask 3 1 1");
    }

    /** Of five: a vote in one term and another one's in the next are not two. */
    private static void votesBeginAnew() {
        Orderledger x = Check.five();
        downAll(x, 0, 3, 4);
        for (int k = 0; k < 8 && x.ofOrderer(1, 0) != 1; k++) {
            x.tick(1);
        }
        x.tick(2);
        Check.same("2 voted for it", x.ofOrderer(2, 2), 1);
        Check.same("two of five", x.ofOrderer(1, 0) * 10 + x.ofOrderer(1, 1), 12);
        x.down(2);
        x.up(3);
        x.tick(6);
        Check.same("3 voted for it in the next term", x.ofOrderer(3, 2) * 10 + x.ofOrderer(3, 1), 13);
        Check.same("two of five again", x.ofOrderer(1, 0) * 10 + x.ofOrderer(1, 1), 13);
    }

    private static void manyOfTwo() {
        Orderledger x = Check.led(0);
        x.member(0, 2, false);
        x.tick(4);
        Check.same("two members", x.ofOrderer(1, 9), 3);
        x.propose(0, 1, 2, 0);
        x.endorse(0, 0);
        downAll(x, 1, 2);
        x.submit(0, 0);
        x.tick(8);
        Check.same("one of two is not more than half: not committed", x.ofOrderer(0, 3) * 10 + x.ofOrderer(0, 5), 32);
        x.up(1);
        x.tick(2);
        Check.same("both are", x.ofOrderer(0, 5), 3);
        x.down(0);
        x.tick(6);
        Check.same("it waits since the last append", x.ofOrderer(1, 6), 6 - 6);
        x.tick(6);
        Check.orderer(x, "one vote of two is not enough, however often", 1, 1, 3, 1, 3, 1, 3, 0, -1, 0, 3);
        x.up(0);
        x.tick(1);
        Check.messages(x, "the other one's vote", "0>1 say 3 yes");
        Check.same("not counted yet", x.ofOrderer(1, 0), 1);
        x.tick(1);
        Check.orderer(x, "both votes of two", 1, 2, 3, 1, 4, 3, 3, 1, 1, 0, 3);
    }

    private static void manyOfFour() {
        Orderledger x = Check.led(0);
        x.member(0, 3, true);
        x.tick(4);
        Check.same("four members", x.ofOrderer(3, 9), 15);
        x.propose(0, 1, 2, 0);
        x.endorse(0, 0);
        downAll(x, 2, 3);
        x.submit(0, 0);
        x.tick(8);
        Check.same("two of four: not committed", x.ofOrderer(0, 3) * 10 + x.ofOrderer(0, 5), 32);
        x.up(3);
        x.tick(2);
        Check.same("three of four", x.ofOrderer(0, 5), 3);
        downAll(x, 0, 3);
        x.up(2);
        for (int k = 0; k < 8 && x.ofOrderer(1, 0) != 1; k++) {
            x.tick(1);
        }
        x.tick(1);
        Check.same("2, that is behind, votes for it", Check.sent(x, "2>1"), "2>1 say 2 yes");
        x.tick(1);
        Check.same("two votes of four", x.ofOrderer(1, 0), 1);
        x.up(3);
        x.tick(6);
        Check.same("three votes of four", x.ofOrderer(1, 0) * 10 + x.ofOrderer(1, 1), 23);
    }

    private static void manyOfFive() {
        Orderledger x = Check.five(0);
        x.propose(0, 1, 2, 0);
        x.endorse(0, 0);
        downAll(x, 1, 2, 3);
        x.submit(0, 0);
        x.tick(8);
        Check.same("two of five: not committed", x.ofOrderer(0, 3) * 10 + x.ofOrderer(0, 5), 43);
        x.up(2);
        x.tick(2);
        Check.same("three of five", x.ofOrderer(0, 5), 4);
        Orderledger y = Check.five();
        downAll(y, 0, 3, 4);
        y.tick(20);
        Check.same("two votes of five", y.house(6), 0);
        y.up(4);
        y.tick(20);
        Check.same("three votes of five", y.house(6) * 10 + y.house(8), 12);
    }

    private static void manyOfOne() {
        Orderledger x = Check.led(0);
        x.member(0, 1, false);
        x.tick(4);
        x.member(0, 2, false);
        Check.same("not yet, as it is laid", x.ofOrderer(0, 5), 2);
        downAll(x, 1, 2);
        x.tick(1);
        Check.same("its own log is enough, in its own turn", x.ofOrderer(0, 5), 3);
        Check.same("nobody else is sent anything", Check.sent(x, "0>"), "");
        x.down(0);
        x.up(0);
        x.tick(3);
        Check.orderer(x, "waits", 0, 0, 1, 0, 3, 1, 0, 3, -1, 0, 1);
        x.tick(1);
        Check.orderer(x, "stands and leads at once; its turn is over", 0, 2, 2, 0, 4, 2, 0, 0, 0, 0, 1);
        x.tick(1);
        Check.orderer(x, "commits", 0, 2, 2, 0, 4, 2, 4, 0, 0, 0, 1);
    }

    private static void askOfTermBelow() {
        Orderledger x = new Orderledger();
        x.side(0, 1);
        x.down(2);
        x.tick(2);
        x.down(1);
        x.up(1);
        x.tick(6);
        Check.messages(x, "0 stands a second time, 1 the first time", "0>1 ask 2 0 0", "0>2 ask 2 0 0", "1>0 ask 1 0 0",
                "1>2 ask 1 0 0");
        x.side(0, 0);
        x.tick(1);
        Check.messages(x, "a term above, and one below", "1>0 say 2 yes", "0>1 say 2 no");
        Check.orderer(x, "the one above is taken on by a candidate, its waiting begins anew with the vote", 1, 0, 2, 0, 0, 0,
                0, 1, -1);
        Check.orderer(x, "the one below changes nothing", 0, 1, 2, 0, 0, 0, 0, 1, -1);
        x.tick(1);
        Check.same("elected", x.ofOrderer(0, 0), 2);
    }

    private static void askWhenVoted() {
        Orderledger x = new Orderledger();
        x.tick(2);
        x.down(0);
        x.up(0);
        x.tick(5);
        Check.orderer(x, "2 voted for 0, and not for 1", 2, 0, 1, 0, 0, 0, 0, 1, -1);
        Check.orderer(x, "a candidate's vote is its own", 1, 1, 1, 1, 0, 0, 0, 1, -1);
        Check.orderer(x, "the other's too", 0, 1, 1, 0, 0, 0, 0, 1, -1);
        x.tick(2);
        Check.orderer(x, "a candidate follows the one that leads in its term", 1, 0, 1, 1, 1, 1, 0, 1, 0);
    }

    /** Of the same TERM the greater number is newer; the same is not. */
    private static void askByLogOfSameTerm() {
        Orderledger x = Check.led(0);
        x.propose(0, 1, 2, 0);
        x.endorse(0, 0);
        x.down(2);
        x.submit(0, 0);
        x.tick(4);
        downAll(x, 0, 1);
        x.tick(1);
        x.up(2);
        x.tick(8);
        Check.same("asks with one entry", Check.sent(x, "2>1"), "2>1 ask 2 1 1");
        x.up(1);
        x.tick(1);
        Check.messages(x, "an entry more is newer", "1>2 say 2 no");
        Check.orderer(x, "the term is taken on, there is no vote", 1, 0, 2, -1, 2, 1, 0, 1, -1);
        x.tick(5);
        Check.same("now the newer one asks", Check.sent(x, "1>2"), "1>2 ask 3 2 1");
        x.tick(1);
        Check.messages(x, "an entry less is not newer", "2>1 say 3 yes");
        Orderledger y = Check.led(0);
        downAll(y, 0, 1);
        y.tick(8);
        Check.same("asks with one entry", Check.sent(y, "2>1"), "2>1 ask 2 1 1");
        y.up(1);
        y.tick(1);
        Check.messages(y, "the same is not newer", "1>2 say 2 yes");
    }

    /** 0 has three entries of the term 1; 1 and 2 have one of it and one of the term 2. */
    private static Orderledger partedLogs() {
        Orderledger x = Check.led(0);
        x.propose(0, 1, 2, 0);
        x.endorse(0, 0);
        x.side(0, 1);
        x.submit(0, 0);
        x.submit(0, 0);
        x.tick(10);
        Check.orderer(x, "the old leader", 0, 2, 1, 0, 3, 1, 1);
        Check.orderer(x, "the new leader", 1, 2, 2, 1, 2, 2, 2);
        Check.orderer(x, "its follower", 2, 0, 2, 1, 2, 2, 2, 1, 1);
        return x;
    }

    private static void askByLogsOfOtherTerms() {
        Orderledger x = partedLogs();
        x.down(0);
        x.up(0);
        x.tick(8);
        Check.orderer(x, "stood twice", 0, 1, 3, 0, 3, 1, 0, 0, -1);
        x.side(0, 0);
        x.tick(1);
        Check.same("a greater term of the last entry is newer, though it is shorter", Check.sent(x, "1>0 say"), "1>0 say 3 no");
        Check.same("for the other one, too", Check.sent(x, "2>0 say"), "2>0 say 3 no");
        Check.orderer(x, "a leader that met a greater term", 1, 0, 3, -1, 2, 2, 2, 2, -1);
        Check.orderer(x, "a follower; who is told no does not begin its waiting anew", 2, 0, 3, -1, 2, 2, 2, 2, -1);
        Check.same("the append behind it is of a term below", Check.sent(x, "2>1 told"), "2>1 told 3 no 0");
        Orderledger y = partedLogs();
        y.down(1);
        y.side(0, 2);
        y.down(2);
        y.up(2);
        y.tick(8);
        y.side(0, 0);
        Check.same("the shorter one asks", Check.sent(y, "2>0"), "2>0 ask 3 2 2");
        y.tick(1);
        Check.messages(y, "a smaller term of the last entry is not newer, though it is longer", "2>0 told 3 no 0",
                "0>2 say 3 yes");
        Check.orderer(y, "it led, and votes", 0, 0, 3, 2, 3, 1, 1, 1, -1);
    }

    private static void sayOfGreaterTerm() {
        Orderledger x = new Orderledger();
        x.side(0, 1);
        x.down(2);
        x.tick(3);
        x.down(1);
        x.up(1);
        x.tick(6);
        Check.same("1 asks with the term 1", Check.sent(x, "1>0"), "1>0 ask 1 0 0");
        Check.orderer(x, "0 has the term 2", 0, 1, 2, 0, 0, 0, 0, 1);
        x.side(0, 0);
        x.tick(1);
        Check.messages(x, "told so", "0>1 say 2 no");
        x.tick(1);
        Check.orderer(x, "a follower of nobody, without a vote, that waits on", 1, 0, 2, -1, 0, 0, 0, 2, -1);
    }

    private static void sayToNoCandidate() {
        Orderledger x = new Orderledger();
        x.tick(6);
        Check.same("the second yes finds a leader: one entry", x.ofOrderer(0, 3), 1);
        Check.same("one term was led", x.house(8), 1);
        Orderledger y = new Orderledger();
        y.tick(5);
        y.down(0);
        y.up(0);
        y.tick(1);
        Check.orderer(y, "a follower is not elected", 0, 0, 1, 0, 0, 0, 0, 1, -1);
        Check.same("nobody leads", y.house(6) + y.house(8), 0);
    }

    /** A LEADER steps down, and its QUEUE is dropped; its WAITED stays. */
    private static void askOfGreaterTerm() {
        Orderledger x = Check.led(0);
        x.size(4);
        x.propose(0, 1, 2, 0);
        x.endorse(0, 0);
        x.side(2, 1);
        x.tick(7);
        Check.orderer(x, "2 stands", 2, 1, 2, 2, 1, 1, 1, 0, -1);
        x.submit(0, 0);
        x.side(2, 0);
        x.tick(1);
        Check.orderer(x, "the leader votes for it: its waiting begins anew", 0, 0, 2, 2, 1, 1, 1, 1, -1, 0, 7);
        Check.same("its queue is empty", x.queue(0), "");
        Check.same("it came to a queue all the same", x.house(2) * 10 + x.ofProposal(0, 8), 11);
        x.tick(1);
        Check.orderer(x, "elected", 2, 2, 2, 2, 2, 2, 1, 1, 2);
        Check.same("submitted again", x.submit(0, 2), 1);
    }

    private static void asksGoToMembersAlone() {
        Orderledger x = Check.led(0);
        x.member(0, 4, true);
        x.tick(4);
        x.member(0, 1, false);
        x.tick(4);
        x.down(0);
        x.tick(20);
        boolean isFound = false;
        for (int k = 0; k < 12 && !isFound; k++) {
            x.tick(1);
            isFound = !Check.sent(x, "2>0 ask").isEmpty() || !Check.sent(x, "2>0 append").isEmpty();
        }
        Check.same("2 goes on in its group", isFound, true);
        Check.same("of 0, 2 and 4", x.ofOrderer(2, 9) * 100 + x.ofOrderer(4, 9), 2121);
        Check.same("nothing to 1, but answers", Check.sent(x, "2>1 a") + Check.sent(x, "4>1 a"), "");
        Check.same("nothing to 3", Check.sent(x, "2>3") + Check.sent(x, "4>3"), "");
    }

    /** By the MEMBERS of the one that asks, though the one that is asked does not know that it is in. */
    private static void membersByTheOneThatAsks() {
        Orderledger x = Check.led(0);
        x.member(0, 3, true);
        x.down(0);
        x.up(0);
        x.down(2);
        x.tick(4);
        Check.messages(x, "to all of its members", "0>1 ask 2 2 1", "0>2 ask 2 2 1", "0>3 ask 2 2 1");
        x.tick(1);
        Check.messages(x, "3 votes, that is no member by its own log", "1>0 say 2 yes", "3>0 say 2 yes");
        Check.orderer(x, "two of four would not be enough", 3, 0, 2, 0, 0, 0, 0, 1, -1, 0, 7);
        x.down(1);
        x.tick(1);
        Check.orderer(x, "three of four are", 0, 2, 2, 0, 3, 2, 0, 1, 0, 0, 15);
    }

    /** More terms, each with a leader, than a row of 64 holds. */
    private static void manyTerms() {
        Orderledger x = Check.led(0);
        x.member(0, 2, false);
        x.tick(4);
        x.member(0, 1, false);
        x.tick(1);
        downAll(x, 1, 2);
        for (int k = 0; k < 100; k++) {
            x.down(0);
            x.up(0);
            x.tick(4);
        }
        Check.orderer(x, "a hundred terms more", 0, 2, 101, 0, 103, 101, 0, 0, 0, 0, 1);
        Check.same("each had a leader", x.house(8), 101);
        Check.same("the greatest term", x.house(5), 101);
        Check.same("the last entry", x.entry(0, 103), "101 empty");
        Check.same("the greatest commit that there ever was", x.house(7), 3);
        x.tick(1);
        Check.same("all at once", x.ofOrderer(0, 5) * 1000 + x.house(7), 103103);
        Check.same("sound", x.isSound(), true);
    }
}
