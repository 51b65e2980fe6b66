/** The edges of section 1: what is delivered and what is lost, the order within a tick, what stays of one that is down. */
public final class MachineEdgesTest {
    public static void main(String[] args) {
        deliveredBySidesNow();
        downAndUpAgain();
        theSendersSide();
        inTheOrderOfSending();
        messagesThenOrderersThenPeers();
        downFollower();
        downCandidate();
        downKeepsVote();
        downKeepsMembers();
        downDoesNothing();
        downPeerKeeps();
        downPeerLosesHeldBack();
        downPeerDoesNothing();
        sides();
        Check.end("MachineEdgesTest");
    }

    /** Where they stood as it was sent, or in between, does not matter. */
    private static void deliveredBySidesNow() {
        Orderledger x = new Orderledger();
        x.side(1, 1);
        x.tick(4);
        Check.messages(x, "sent across", "0>1 ask 1 0 0", "0>2 ask 1 0 0");
        x.side(1, 0);
        x.tick(1);
        Check.messages(x, "together as it is delivered", "1>0 say 1 yes", "2>0 say 1 yes");
        Check.same("none is lost", x.house(4), 0);
        x.side(0, 2);
        x.side(0, 1);
        x.side(2, 1);
        x.tick(1);
        Check.same("the one that stayed behind is lost, the other one is not", x.house(4), 1);
        Check.same("and that one was enough", x.ofOrderer(0, 0), 2);
        Orderledger y = new Orderledger();
        y.tick(4);
        y.side(0, 1);
        y.side(0, 0);
        y.tick(1);
        Check.same("away and back in between", y.house(4), 0);
        y.side(0, 2);
        y.tick(1);
        Check.same("away as they are delivered: both are lost", y.house(4), 2);
        Check.same("a candidate still", y.ofOrderer(0, 0), 1);
    }

    private static void downAndUpAgain() {
        Orderledger x = new Orderledger();
        x.tick(4);
        x.down(1);
        x.up(1);
        x.down(2);
        x.tick(1);
        Check.messages(x, "one was down and is up again, the other one is down", "1>0 say 1 yes");
        Check.same("lost", x.house(4), 1);
        Check.same("the one that was down waits anew", x.ofOrderer(1, 6), 1);
        x.tick(1);
        Check.same("two of three", x.ofOrderer(0, 0), 2);
    }

    /** Whether the sender is down does not matter; whether it is together with the receiver does. */
    private static void theSendersSide() {
        Orderledger x = new Orderledger();
        x.tick(4);
        x.down(0);
        x.tick(1);
        Check.messages(x, "by one that is down", "1>0 say 1 yes", "2>0 say 1 yes");
        x.tick(1);
        Check.same("to one that is down: lost", x.house(4), 2);
        Orderledger y = new Orderledger();
        y.tick(4);
        y.down(0);
        y.side(0, 1);
        y.tick(1);
        Check.messages(y, "by one that is down, and elsewhere");
        Check.same("lost", y.house(4), 2);
        Orderledger z = new Orderledger();
        z.tick(4);
        z.side(0, 2);
        z.side(1, 2);
        z.side(2, 2);
        z.tick(1);
        Check.messages(z, "all of them on another side", "1>0 say 1 yes", "2>0 say 1 yes");
        Check.same("not lost", z.house(4), 0);
        z.down(0);
        z.side(0, 0);
        z.tick(1);
        Check.same("down and parted: each is lost once", z.house(4), 2);
        Check.same("sent in all", z.house(3), 4);
    }

    /** 0 and 1 stand in the same tick: 0 asks first, and each gets its answers in the order of the asks. */
    private static Orderledger twoStand() {
        Orderledger x = new Orderledger();
        x.tick(2);
        x.down(0);
        x.up(0);
        x.tick(4);
        return x;
    }

    private static void inTheOrderOfSending() {
        Orderledger x = twoStand();
        Check.messages(x, "orderer by orderer", "0>1 ask 1 0 0", "0>2 ask 1 0 0", "1>0 ask 1 0 0", "1>2 ask 1 0 0");
        x.tick(1);
        Check.messages(x, "answered in that order", "1>0 say 1 no", "2>0 say 1 yes", "0>1 say 1 no", "2>1 say 1 no");
        x.tick(1);
        Check.same("the first one that asked leads", x.ofOrderer(0, 0) * 10 + x.ofOrderer(1, 0), 21);
        Check.messages(x, "what it sends", "0>1 append 1 0 0 1 0", "0>2 append 1 0 0 1 0");
        x.tick(1);
        Check.messages(x, "answers go ahead of what comes of own turns", "1>0 told 1 yes 1", "2>0 told 1 yes 1",
                "0>1 append 1 0 0 1 0", "0>2 append 1 0 0 1 0");
    }

    private static void messagesThenOrderersThenPeers() {
        Orderledger x = new Orderledger();
        x.tick(5);
        Check.orderer(x, "it waits again", 0, 1, 1, 0, 0, 0, 0, 1, -1);
        x.tick(1);
        Check.orderer(x, "elected by a message, its own turn comes behind", 0, 2, 1, 0, 1, 1, 0, 1, 0);
        Check.same("that sends", x.messages(), 2);
        Orderledger y = Check.led(0);
        y.propose(0, 1, 2, 0);
        y.endorse(0, 0);
        y.submit(0, 0);
        y.tick(2);
        Check.same("not committed", y.ofOrderer(0, 5) * 10 + y.ofPeer(0, 0), 10);
        y.tick(1);
        Check.same("told, committed, and taken in one tick", y.ofOrderer(0, 5) * 10 + y.ofPeer(0, 0), 21);
        Check.same("the peer 1 takes it behind the peer 0 in that tick", y.ofPeer(1, 0), 1);
        Check.same("its own source has not come to it", y.ofOrderer(1, 11), 0);
    }

    private static void downFollower() {
        Orderledger x = Check.led(0);
        Check.orderer(x, "a follower", 2, 0, 1, 0, 1, 1, 1, 1, 0, 0, 7, 0, 0);
        x.down(4);
        x.down(2);
        Check.orderer(x, "down", 2, 0, 1, 0, 1, 1, 0, 0, -1, 0, 7, 0, 0);
        Check.same("the log stays", x.entry(2, 1), "1 empty");
        x.up(2);
        Check.orderer(x, "up, as it was down", 2, 0, 1, 0, 1, 1, 0, 0, -1, 0, 7, 0, 0);
        x.tick(1);
        Check.orderer(x, "an append tells it all", 2, 0, 1, 0, 1, 1, 1, 1, 0, 0, 7, 0, 0);
    }

    private static void downCandidate() {
        Orderledger x = new Orderledger();
        x.tick(4);
        x.down(0);
        Check.orderer(x, "a candidate that went down", 0, 0, 1, 0, 0, 0, 0, 0, -1);
        x.up(0);
        x.tick(2);
        Check.orderer(x, "gets votes in vain", 0, 0, 1, 0, 0, 0, 0, 2, -1);
        x.tick(2);
        Check.orderer(x, "and stands again in the next term", 0, 1, 2, 0, 0, 0, 0, 0, -1);
    }

    /** One that voted, went down and came up, does not vote a second time in that term. */
    private static void downKeepsVote() {
        Orderledger x = new Orderledger();
        x.tick(4);
        x.side(1, 1);
        x.tick(1);
        x.down(0);
        x.down(2);
        x.up(2);
        Check.orderer(x, "it voted", 2, 0, 1, 0);
        x.side(1, 0);
        x.tick(1);
        Check.messages(x, "1 stands in the same term", "1>0 ask 1 0 0", "1>2 ask 1 0 0");
        x.tick(1);
        Check.messages(x, "no second vote", "2>1 say 1 no");
    }

    private static void downKeepsMembers() {
        Orderledger x = Check.led(0);
        x.member(0, 4, true);
        x.down(0);
        Check.same("an entry that is not committed stays, too", x.ofOrderer(0, 9) * 10 + x.ofOrderer(0, 3), 232);
        x.up(0);
        Check.same("and the members that it tells", x.ofOrderer(0, 9), 23);
        Check.same("the entry", x.entry(0, 2), "1 members 23");
    }

    private static void downDoesNothing() {
        Orderledger x = new Orderledger();
        x.down(0);
        x.down(1);
        x.tick(7);
        Check.same("they do not wait", x.ofOrderer(0, 6) + x.ofOrderer(1, 6), 0);
        Check.same("the other one does", x.ofOrderer(2, 6), 7);
        x.up(0);
        Check.same("nor does one that comes up", x.ofOrderer(0, 6), 0);
        x.tick(3);
        Check.orderer(x, "it waits from there", 0, 0, 1, 2, 0, 0, 0, 2);
        Check.same("sent to both, one got it", x.house(3) * 10 + x.house(4), 51);
    }

    /** Height, state, secrets, source and lie stay. */
    private static void downPeerKeeps() {
        Orderledger x = Check.led(3, 0);
        x.propose(0, 1, 55, 2);
        Check.order(x, 0, 2);
        x.propose(0, 2, 66, 3);
        x.endorse(1, 2);
        x.side(7, 1);
        x.submit(1, 0);
        x.tick(4);
        x.source(0, 4);
        x.lie(0, true);
        String due = x.state(0) + "/" + x.block(0, 0) + "/" + x.hash(0, 1) + "/" + x.version(0, 46);
        int[] told = {2, 4, x.hash(0, 1), 4, 2, 0, 1, 1, 0, 1};
        for (int k = 0; k < 2; k++) {
            for (int w = 0; w < 10; w++) {
                Check.same("of a peer, then down: " + w, x.ofPeer(0, w), told[w]);
            }
            x.down(5);
        }
        Check.same("its chain and state", x.state(0) + "/" + x.block(0, 0) + "/" + x.hash(0, 1) + "/" + x.version(0, 46),
                due);
        Check.same("what it holds", x.holds(0, 0, 1) * 100 + x.secret(0, 0, 1), 155);
        Check.same("what it misses", x.holds(0, 0, 2), 2);
    }

    private static void downPeerLosesHeldBack() {
        Orderledger x = Check.led(3, 3);
        for (int k = 0; k < 3; k++) {
            x.propose(k % 2, k, 5, 10 + k);
            x.endorse(k, 2);
        }
        Check.same("held back of three", x.ofPeer(2, 8), 3);
        x.down(5);
        Check.same("another peer's does not matter", x.ofPeer(2, 8), 3);
        x.down(7);
        Check.same("none any more", x.ofPeer(2, 8), 0);
        x.up(7);
        x.propose(0, 4, 5, 20);
        x.endorse(3, 2);
        Check.same("a new one is", x.ofPeer(2, 8), 1);
        x.down(8);
        x.down(6);
        x.submit(0, 0);
        x.submit(3, 0);
        x.tick(5);
        Check.same("an endorser that lost it misses it", x.holds(2, 0, 0) * 10 + x.holds(2, 0, 4), 21);
    }

    private static void downPeerDoesNothing() {
        Orderledger x = Check.led(3);
        x.propose(0, 1, 55, 2);
        x.endorse(0, 2);
        x.side(7, 1);
        Check.order(x, 0);
        x.down(5);
        x.down(6);
        x.side(7, 0);
        x.tick(3);
        Check.same("it does not look for a secret", x.holds(0, 0, 1), 2);
        Check.same("the others do", x.holds(3, 0, 1), 1);
        x.up(5);
        x.tick(1);
        Check.same("up again, it does", x.holds(0, 0, 1), 1);
        x.down(7);
        x.down(8);
        x.down(5);
        x.up(6);
        x.tick(2);
        Check.same("those that are down give none", x.holds(1, 0, 1), 2);
        x.up(8);
        x.tick(1);
        Check.same("one that is up does", x.secret(1, 0, 1), 55);
    }

    private static void sides() {
        Orderledger x = new Orderledger();
        x.side(0, 1);
        x.side(5, 1);
        x.side(10, 1);
        x.side(3, 2);
        x.side(9, 2);
        Check.same("side 0", x.ofMachine(1, 2), 4 + 16 + 64 + 128 + 256);
        Check.same("side 1, the first machine", x.ofMachine(0, 2), 32 + 1024);
        Check.same("side 1, the last machine", x.ofMachine(10, 2), 1 + 32);
        Check.same("side 2", x.ofMachine(3, 2), 512);
        x.down(9);
        Check.same("alone there", x.ofMachine(3, 2), 0);
        Check.same("down, with those that are up", x.ofMachine(9, 2), 8);
        x.up(9);
        Check.same("up again", x.ofMachine(3, 2), 512);
    }
}
