/** Promises 7 to 13. */
public final class OrderersTest {
    public static void main(String[] args) {
        ofOrderer();
        elections();
        newerLog();
        higherTerm();
        entryAndQueue();
        threeTicks();
        size();
        catchUp();
        truncation();
        firstEntryGoes();
        otherTermAtPrev();
        matchBeginsAnew();
        ownTermOnly();
        member();
        memberRefused();
        removedLeader();
        alone();
        messages();
        staleAppend();
        Check.end("OrderersTest");
    }

    private static void orderer(Orderledger x, String what, int o, int... due) {
        for (int w = 0; w < due.length; w++) {
            Check.same(what + ": of the orderer " + o + ", " + w, x.ofOrderer(o, w), due[w]);
        }
    }

    private static void ofOrderer() {
        Orderledger x = Check.led(0);
        orderer(x, "led; what it waited as a candidate stays", 0, 2, 1, 0, 1, 1, 1, 1, 0, 0, 7, 0, 0);
        orderer(x, "led", 1, 0, 1, 0, 1, 1, 1, 1, 0, 0, 7, 0, 0);
        orderer(x, "led", 4, 0, 0, -1, 0, 0, 0, 9, -1, 0, 7, 0, 0);
        x.propose(0, 1, 2, 0);
        x.endorse(0, 0);
        x.submit(0, 0);
        x.submit(0, 0);
        orderer(x, "queued", 0, 2, 1, 0, 1, 1, 1, 1, 0, 2, 7, 0, 0);
        x.tick(1);
        orderer(x, "laid", 0, 2, 1, 0, 2, 1, 1, 1, 0, 1, 7, 1, 0);
        x.tick(2);
        orderer(x, "committed", 0, 2, 1, 0, 3, 1, 2, 1, 0, 0, 7, 2, 1);
        Check.index(x, "orderer -1", () -> x.ofOrderer(-1, 0));
        Check.index(x, "orderer 5", () -> x.ofOrderer(5, 12));
        Check.argument(x, "what 12", () -> x.ofOrderer(0, 12));
        Check.argument(x, "what -1", () -> x.ofOrderer(4, -1));
    }

    private static void elections() {
        Orderledger x = new Orderledger();
        x.down(0);
        x.tick(5);
        Check.same("the orderer 1 waits to 6", x.ofOrderer(1, 0), 0);
        x.tick(1);
        orderer(x, "stands", 1, 1, 1, 1, 0, 0, 0, 0, -1, 0, 7);
        x.tick(1);
        Check.same("the vote of 2", x.ofOrderer(2, 2), 1);
        Check.same("voting ends the waiting, its own turn goes on", x.ofOrderer(2, 6), 1);
        x.tick(1);
        orderer(x, "leads with two of three", 1, 2, 1, 1, 1, 1, 0, 1, 1, 0, 7);
        Check.same("one leader", x.house(6), 1);
        Orderledger y = new Orderledger();
        y.side(0, 1);
        y.tick(20);
        orderer(y, "alone it stands again and again", 0, 1, 5, 0, 0, 0, 0, 0, -1);
        Check.same("the others agree", y.ofOrderer(1, 0), 2);
        Check.same("two of the terms had a leader", y.house(8), 1);
        Check.same("the greatest term", y.house(5), 5);
        y.side(0, 0);
        y.tick(12);
        Check.same("the one with the greater term makes all follow it", y.ofOrderer(2, 1) >= 5, true);
        Check.same("and one leads", y.house(6), 1);
        Orderledger z = new Orderledger();
        z.down(0);
        z.down(1);
        z.tick(8);
        z.up(0);
        z.up(1);
        z.tick(1);
        Check.same("each votes once", z.ofOrderer(0, 2) * 10 + z.ofOrderer(1, 2), 22);
    }

    /** A candidate with a log that is behind gets no vote. */
    private static void newerLog() {
        Orderledger x = new Orderledger();
        x.side(0, 1);
        x.tick(14);
        Check.same("1 and 2 have an entry", x.ofOrderer(2, 3), 1);
        x.down(1);
        x.side(0, 0);
        int term = x.ofOrderer(0, 1);
        for (int k = 0; k < 6 && x.ofOrderer(0, 1) == term; k++) {
            x.tick(1);
        }
        Check.same("an ask of the one behind", x.message(0), "0>1 ask " + (term + 1) + " 0 0");
        x.tick(1);
        Check.same("no", x.message(0), "2>0 say " + (term + 1) + " no");
        Check.same("the vote stays open", x.ofOrderer(2, 2), -1);
        Check.same("the greater term is taken on", x.ofOrderer(2, 1), term + 1);
        x.tick(20);
        Check.same("the one with the log leads in the end", x.ofOrderer(2, 0), 2);
    }

    private static void higherTerm() {
        Orderledger x = Check.led(0);
        x.propose(0, 1, 2, 0);
        x.endorse(0, 0);
        x.side(2, 1);
        x.tick(12);
        int term = x.ofOrderer(2, 1);
        Check.same("parted, it stood", term > 1, true);
        x.size(4);
        x.submit(0, 0);
        x.side(2, 0);
        x.tick(1);
        Check.same("still a leader", x.ofOrderer(0, 0), 2);
        Check.same("told of the greater term", x.message(x.messages() - 3).startsWith("2>0 told " + term + " no 0")
                || x.message(1).equals("2>0 told " + term + " no 0") || x.message(0).equals("2>0 told " + term + " no 0"),
                true);
        x.tick(1);
        orderer(x, "no leader any more, waiting goes on from where it was", 0, 0, term, -1, 1, 1, 1, 2, -1, 0, 7);
        Check.same("its queue is dropped", x.queue(0), "");
    }

    private static void entryAndQueue() {
        Orderledger x = Check.led(0, 1);
        x.size(3);
        for (int k = 0; k < 5; k++) {
            x.propose(0, k, 2, 0);
            x.endorse(k, 0);
            Check.same("in the queue", x.submit(k, 0), k + 1);
        }
        x.submit(1, 0);
        Check.same("queue", x.queue(0), "0 1 2 3 4 1");
        Check.same("queue of another one", x.queue(4), "");
        x.tick(1);
        Check.same("queue then", x.queue(0), "3 4 1");
        x.member(0, 4, true);
        x.tick(3);
        Check.same("empty", x.entry(0, 1), "1 empty");
        Check.same("block", x.entry(1, 2), "1 block 0 1 2");
        Check.same("members", x.entry(2, 3), "1 members 23");
        Check.same("block behind", x.entry(0, 4), "1 block 3 4 1");
        Check.index(x, "entry of -1", () -> x.entry(-1, 1));
        Check.index(x, "entry of 5", () -> x.entry(5, 1));
        Check.index(x, "entry 0", () -> x.entry(0, 0));
        Check.index(x, "entry 5", () -> x.entry(0, 5));
        Check.index(x, "entry of an empty log", () -> x.entry(3, 1));
        Check.index(x, "queue of -1", () -> x.queue(-1));
        Check.index(x, "queue of 5", () -> x.queue(5));
    }

    private static void threeTicks() {
        Orderledger x = Check.led(0);
        x.size(2);
        x.propose(0, 1, 2, 0);
        x.endorse(0, 0);
        x.submit(0, 0);
        x.tick(2);
        Check.same("two ticks are not enough", x.ofOrderer(0, 10), 0);
        x.tick(1);
        Check.same("three are", x.entry(0, 2), "1 block 0");
        for (int k = 0; k < 5; k++) {
            x.submit(0, 0);
        }
        x.tick(1);
        x.tick(1);
        Check.same("one block in each tick", x.ofOrderer(0, 10), 3);
        Check.same("the rest waits since it came", x.queue(0), "0");
        x.tick(1);
        Check.same("three ticks since it came", x.queue(0), "");
    }

    private static void size() {
        Orderledger x = new Orderledger();
        Check.same("size at first", x.size(4), 2);
        Check.same("size", x.size(1), 4);
        Check.same("size the same", x.size(1), 1);
        for (int size : new int[] {0, 5, -1, Integer.MAX_VALUE}) {
            Check.argument(x, "size " + size, () -> x.size(size));
        }
        Orderledger y = Check.led(0);
        y.size(4);
        y.propose(0, 1, 2, 0);
        y.endorse(0, 0);
        for (int k = 0; k < 6; k++) {
            y.submit(0, 0);
        }
        y.tick(1);
        Check.same("four in a block", y.entry(0, 2), "1 block 0 0 0 0");
        y.size(1);
        y.tick(1);
        Check.same("one in a block", y.entry(0, 3), "1 block 0");
    }

    /** At most three entries go with an append; NEXT goes back by what is told. */
    private static void catchUp() {
        Orderledger x = Check.led(0);
        x.propose(0, 1, 2, 0);
        x.endorse(0, 0);
        x.down(2);
        for (int k = 0; k < 5; k++) {
            x.submit(0, 0);
        }
        x.tick(8);
        Check.same("six entries", x.ofOrderer(0, 3) * 10 + x.ofOrderer(0, 5), 66);
        Check.same("all that it has not, three at most", x.message(x.messages() - 1).endsWith(" 1 1 3 6")
                || x.message(1).equals("0>2 append 1 1 1 3 6"), true);
        x.up(2);
        x.tick(1);
        Check.same("four then", x.ofOrderer(2, 3), 4);
        Check.same("its commit is not ahead of what it has", x.ofOrderer(2, 5), 4);
        x.tick(3);
        Check.same("all then", x.ofOrderer(2, 3) * 10 + x.ofOrderer(2, 5), 66);
    }

    /** What a parted leader laid alone goes, as the one of a greater term appends. */
    private static void truncation() {
        Orderledger x = Check.led(0);
        for (int k = 0; k < 6; k++) {
            x.propose(0, k, 2, 0);
            x.endorse(k, 0);
        }
        x.side(0, 1);
        x.submit(0, 0);
        x.submit(1, 0);
        x.tick(4);
        Check.same("laid, not committed", x.ofOrderer(0, 3) * 10 + x.ofOrderer(0, 5), 31);
        Check.same("laid alone", x.entry(0, 2), "1 block 0");
        x.tick(14);
        int leader = x.ofOrderer(1, 0) == 2 ? 1 : 2;
        Check.same("another one leads", x.ofOrderer(leader, 0), 2);
        Check.same("two leaders of two terms", x.house(6) * 10 + x.house(8), 22);
        int term = x.ofOrderer(leader, 1);
        x.submit(5, leader);
        x.tick(4);
        x.side(0, 0);
        x.tick(8);
        Check.same("one leader", x.house(6), 1);
        Check.same("its own went", x.entry(0, 2), term + " empty");
        Check.same("the other's came", x.entry(0, 3), term + " block 5");
        Check.same("no more", x.ofOrderer(0, 3), 3);
        Check.same("committed", x.ofOrderer(0, 5), 3);
        Check.same("sound", x.isSound(), true);
        Check.same("what was dropped was submitted", x.house(2), 3);
    }

    /** The very first entry, too, if it lay with one orderer alone. */
    private static void firstEntryGoes() {
        Orderledger x = new Orderledger();
        x.tick(6);
        Check.same("laid as it was elected", x.entry(0, 1), "1 empty");
        x.side(0, 1);
        x.tick(14);
        int leader = x.ofOrderer(1, 0) == 2 ? 1 : 2;
        int term = x.ofOrderer(leader, 1);
        Check.same("another one leads", x.ofOrderer(leader, 0) * 10 + x.ofOrderer(0, 0), 22);
        x.side(0, 0);
        x.tick(4);
        Check.same("the first one is another one now", x.entry(0, 1), term + " empty");
        Check.same("and the only one, committed", x.ofOrderer(0, 3) * 10 + x.ofOrderer(0, 5), 11);
        Check.same("sound", x.isSound(), true);
    }

    /** An entry of another term at PREV: NEXT goes back to it, however long the log is. */
    private static void otherTermAtPrev() {
        Orderledger x = Check.led(0);
        x.propose(0, 1, 2, 0);
        x.endorse(0, 0);
        x.side(0, 1);
        for (int k = 0; k < 4; k++) {
            x.submit(0, 0);
        }
        x.tick(16);
        int leader = x.ofOrderer(1, 0) == 2 ? 1 : 2;
        x.submit(0, leader);
        x.tick(4);
        int before = x.ofOrderer(leader, 1);
        Check.same("five and three entries", x.ofOrderer(0, 3) * 10 + x.ofOrderer(leader, 3), 53);
        x.down(leader);
        x.up(leader);
        for (int k = 0; k < 40 && x.house(8) < 3; k++) {
            x.tick(1);
        }
        leader = x.ofOrderer(1, 0) == 2 ? 1 : 2;
        int term = x.ofOrderer(leader, 1);
        Check.same("a third leader", x.ofOrderer(leader, 0) * 10 + x.house(8), 23);
        x.side(0, 0);
        x.tick(1);
        String told = "0>" + leader + " told ";
        Check.same("another term at 3", sent(x, told), told + term + " no 2");
        x.tick(1);
        Check.same("goes back to it", sent(x, leader + ">0 append "), leader + ">0 append " + term + " 2 " + before
                + " 2 " + x.ofOrderer(leader, 5));
        x.tick(1);
        Check.same("another term at 2", sent(x, told), told + term + " no 1");
        x.tick(1);
        Check.same("the same at 1: three are laid", sent(x, told), told + term + " yes 4");
        x.tick(1);
        Check.same("the append behind the last no, from the first one on", sent(x, told), told + term + " yes 3");
        x.tick(8);
        Check.same("all as the leader has it", x.entry(0, 2) + "/" + x.entry(0, 3) + "/" + x.entry(0, 4) + "/"
                + x.ofOrderer(0, 3), before + " empty/" + before + " block 0/" + term + " empty/4");
        Check.same("sound", x.isSound(), true);
    }

    /** The first message under way that begins so; "" without. */
    private static String sent(Orderledger x, String beginning) {
        for (int k = 0; k < x.messages(); k++) {
            if (x.message(k).startsWith(beginning)) {
                return x.message(k);
            }
        }
        return "";
    }

    /** One that leads again does not go by what the others had, when it led ahead. */
    private static void matchBeginsAnew() {
        Orderledger x = Check.led(0);
        x.propose(0, 1, 2, 0);
        x.endorse(0, 0);
        x.member(0, 3, true);
        x.tick(4);
        x.member(0, 4, true);
        x.tick(4);
        x.side(0, 1);
        x.side(1, 1);
        for (int k = 0; k < 3; k++) {
            x.submit(0, 0);
        }
        x.tick(7);
        Check.same("two of five have them", x.ofOrderer(1, 3) * 10 + x.ofOrderer(0, 5), 63);
        x.tick(20);
        int leader = x.ofOrderer(2, 0) == 2 ? 2 : x.ofOrderer(3, 0) == 2 ? 3 : 4;
        Check.same("the others have a leader", x.ofOrderer(leader, 0) * 10 + x.ofOrderer(leader, 5), 24);
        x.side(0, 0);
        x.side(1, 0);
        x.tick(8);
        Check.same("what two had is gone", x.ofOrderer(0, 3) * 10 + x.ofOrderer(1, 3), 44);
        x.down(leader);
        for (int k = 0; k < 20 && x.ofOrderer(0, 0) != 2; k++) {
            x.tick(1);
        }
        int term = x.ofOrderer(0, 1);
        Check.same("leads again", x.ofOrderer(0, 0) * 10 + x.ofOrderer(0, 3), 25);
        x.tick(2);
        for (int k = 0; k < 4; k++) {
            Check.same("what it sends begins behind its own last one", sent(x, "0>1 append "),
                    "0>1 append " + term + " 5 " + term + " 0 " + x.ofOrderer(0, 5));
            Check.same("and is not refused", sent(x, "1>0 told "), "1>0 told " + term + " yes 5");
            x.tick(1);
        }
    }

    /** An entry of an earlier term is committed only by one of the leader's own term. */
    private static void ownTermOnly() {
        Orderledger x = Check.led(0);
        x.down(0);
        x.up(0);
        Check.same("the commit is forgotten", x.ofOrderer(0, 5), 0);
        for (int k = 0; k < 20 && x.house(8) < 2; k++) {
            x.tick(1);
        }
        Check.same("a second term is led", x.house(8), 2);
        int leader = x.ofOrderer(0, 0) == 2 ? 0 : x.ofOrderer(1, 0) == 2 ? 1 : 2;
        Check.refused(x, "no entry of its own term up to its commit", () -> x.member(leader, 3, true));
        x.tick(3);
        Check.same("both entries are", x.ofOrderer(leader, 5), 2);
        Check.same("now it may", x.member(leader, 3, true), 3);
    }

    private static void member() {
        Orderledger x = Check.led(0);
        Check.same("member", x.member(0, 3, true), 2);
        Check.same("at once, for the one that laid it", x.ofOrderer(0, 9), 15);
        Check.same("not yet for another one", x.ofOrderer(1, 9), 7);
        x.tick(1);
        Check.same("an append to the new one too", x.message(4), "0>3 append 1 0 0 2 1");
        x.tick(3);
        Check.same("all know it", x.ofOrderer(1, 9) * 100 + x.ofOrderer(3, 9), 1515);
        Check.same("the new one has all", x.entry(3, 1) + "/" + x.entry(3, 2), "1 empty/1 members 15");
        x.tick(2);
        Check.same("out", x.member(0, 1, false), 3);
        Check.same("members", x.ofOrderer(0, 9), 13);
        Check.index(x, "member of -1", () -> x.member(-1, 0, true));
        Check.index(x, "member of 5", () -> x.member(5, 0, true));
        Check.index(x, "member -1", () -> x.member(0, -1, true));
        Check.index(x, "member 5", () -> x.member(0, 5, false));
        x.down(0);
        Check.index(x, "member 5 of one that is down", () -> x.member(0, 5, false));
    }

    private static void memberRefused() {
        Orderledger x = new Orderledger();
        Check.refused(x, "no leader", () -> x.member(0, 3, true));
        x.tick(6);
        Check.refused(x, "nothing committed yet", () -> x.member(0, 3, true));
        x.tick(3);
        Check.refused(x, "in, but in", () -> x.member(0, 2, true));
        Check.refused(x, "out, but out", () -> x.member(0, 4, false));
        Check.refused(x, "of a follower", () -> x.member(1, 4, true));
        x.member(0, 3, true);
        Check.refused(x, "one is not committed", () -> x.member(0, 4, true));
        x.tick(4);
        Check.same("then the next one", x.member(0, 4, true), 3);
        x.down(0);
        Check.refused(x, "down", () -> x.member(0, 4, true));
    }

    private static void removedLeader() {
        Orderledger x = Check.led(0);
        x.size(4);
        x.propose(0, 1, 2, 0);
        x.endorse(0, 0);
        x.member(0, 0, false);
        x.tick(2);
        x.submit(0, 0);
        Check.same("leads on until it is committed", x.ofOrderer(0, 0), 2);
        for (int k = 0; k < 6 && x.ofOrderer(0, 0) == 2; k++) {
            Check.same("its entry is not committed", x.ofOrderer(0, 5), 1);
            x.tick(1);
        }
        orderer(x, "gone", 0, 0, 1, 0, 2, 1, 2, 0, -1, 0, 6);
        x.tick(20);
        Check.same("another one leads", x.ofOrderer(1, 0) == 2 || x.ofOrderer(2, 0) == 2, true);
        Check.same("it stands no more", x.ofOrderer(0, 0) * 10 + x.ofOrderer(0, 2) / 9, 0);
        Check.same("its waiting goes on all the same", x.ofOrderer(0, 6) >= 19, true);
    }

    /** Out of two a leader throws the other one: alone, it is at once the leader as it stands. */
    private static void alone() {
        Orderledger x = Check.led(0);
        x.member(0, 2, false);
        x.tick(4);
        x.member(0, 1, false);
        Check.same("alone", x.ofOrderer(0, 9), 1);
        x.tick(1);
        Check.same("committed by itself", x.ofOrderer(0, 5), 3);
        x.down(1);
        x.down(2);
        Check.refused(x, "none would be left", () -> x.member(0, 0, false));
        x.tick(3);
        Check.same("it sends nothing", x.messages(), 0);
        x.down(0);
        x.up(0);
        x.tick(3);
        Check.same("waits", x.ofOrderer(0, 0), 0);
        x.tick(1);
        orderer(x, "leads at once, its turn is over", 0, 2, 2, 0, 4, 2, 0, 0, 0, 0, 1);
        x.tick(1);
        Check.same("commits in the next one", x.ofOrderer(0, 5), 4);
    }

    private static void messages() {
        Orderledger x = new Orderledger();
        Check.index(x, "no message", () -> x.message(0));
        x.tick(4);
        Check.same("messages", x.messages(), 2);
        Check.index(x, "message -1", () -> x.message(-1));
        Check.index(x, "message 2", () -> x.message(2));
        x.tick(3);
        Check.same("answers first, then appends", x.messages(), 4);
        Check.same("told", x.message(0), "1>0 told 1 yes 1");
        Check.same("told", x.message(1), "2>0 told 1 yes 1");
        Check.same("append", x.message(2), "0>1 append 1 0 0 1 0");
        x.tick(1);
        Check.same("append with a prev and a commit", x.message(2), "0>1 append 1 1 1 0 1");
        Check.same("sent in all", x.house(3), 2 + 2 + 2 + 4 + 4);
        x.side(1, 1);
        x.tick(1);
        Check.same("lost", x.house(4), 2);
        Check.same("under way", x.messages(), 3);
    }

    /** An append of a term that is over is answered with the greater term and 0. */
    private static void staleAppend() {
        Orderledger x = Check.led(0);
        x.side(0, 1);
        x.tick(20);
        int term = Math.max(x.ofOrderer(1, 1), x.ofOrderer(2, 1));
        Check.same("a greater term", term > 1, true);
        Check.same("it leads on, alone", x.ofOrderer(0, 0), 2);
        x.side(0, 0);
        x.tick(1);
        boolean isFound = false;
        for (int k = 0; k < x.messages(); k++) {
            isFound = isFound || x.message(k).equals("1>0 told " + x.ofOrderer(1, 1) + " no 0");
        }
        Check.same("told no, number 0", isFound, true);
        Check.same("the follower did not follow", x.ofOrderer(1, 7) != 0, true);
    }
}
