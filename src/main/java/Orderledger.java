import java.util.ArrayList;
import java.util.Arrays;

/**
 * A ledger that several parties keep together: peers execute and endorse proposals, orderers agree on a log of
 * blocks, peers validate the blocks and write what is valid. README.md tells how to use it.
 */
public final class Orderledger {
    private static final int NONE = -1;
    private static final int REFUSED = -9;
    private static final int MACHINES = 11;
    private static final int ORDERERS = 5;
    private static final int PEERS = 6;
    private static final int KEYS = 64;
    private static final int PLAIN_KEYS = 40;
    private static final int FIRST_SUM = 44;
    private static final int CONTRACTS = 4;
    private static final int SECRETS = 5;
    private static final int SEALS = CONTRACTS * SECRETS;
    private static final int MOST_PROPOSALS = 50;
    private static final int MOST_TOKENS = 60;
    private static final int MOST_QUEUED = 12;
    private static final int LAST_TOKEN = 136;
    private static final int FIRST_NAME = 100;
    private static final String NAMES = "x y z i j k put del secret let need tell if then else end each in .. do get has open ( ) = + - * < == ; org of and or , ";

    /** The samples in a row, each with NONE behind it. */
    private static final int[] SAMPLES = {
        106, 100, 125, 120, 100, 126, 101, NONE,
        110, 120, 100, 130, 102, 131, 106, 100, 125, 101, NONE,
        109, 103, 125, 0, 131, 116, 105, 117, 100, 118, 101, 119, 109, 103, 125, 103, 126, 120, 105, 115, 131,
        106, 102, 125, 103, NONE,
        108, 100, 125, 101, 131, 106, 102, 125, 121, 102, 126, 1, NONE,
        110, 122, 100, 130, 101, 131, 107, 102, NONE,
        112, 121, 100, 113, 106, 101, 125, 120, 100, 114, 111, 7, 115, NONE,
        132, 1, NONE,
        2, 133, 123, 132, 0, 136, 132, 1, 136, 132, 2, 124, NONE,
    };
    private static final int SAMPLE_COUNT = 8;

    private final Net net = new Net();
    private final Peer[] peers = new Peer[PEERS];
    private final int[][] sheets = new int[CONTRACTS][MOST_TOKENS];
    private final int[] lengths = new int[CONTRACTS];
    private final ArrayList<Proposal> proposals = new ArrayList<Proposal>();
    private final Parser parser = new Parser();
    private final Executor executor = new Executor();
    /** What a longest chain makes anew, for isSound() alone. */
    private final State anew = new State();
    /** The one builder for every text; what stands in it is of the present call. */
    private final StringBuilder out = new StringBuilder();
    private int submissions = 0;
    private int endorsements = 0;
    private int refusals = 0;
    private int blanks = 0;
    private int knocks = 0;

    /** Promise 1. */
    public Orderledger() {
        for (int k = 0; k < ORDERERS; k++) {
            net.orderers[k] = new Orderer(net, k);
        }
        for (int k = 0; k < PEERS; k++) {
            peers[k] = new Peer(k);
        }
    }

    // ---- machines

    /** Promise 2. */
    public int tick(int many) throws IllegalArgumentException {
        if (many < 1 || many > 20) {
            throw new IllegalArgumentException();
        }
        for (int k = 0; k < many; k++) {
            net.pass();
            for (int p = 0; p < PEERS; p++) {
                if (net.isUp[ORDERERS + p]) {
                    turnOf(peers[p]);
                }
            }
        }
        return net.now;
    }

    /** Promise 3. */
    public int side(int machine, int side) throws IndexOutOfBoundsException, IllegalArgumentException {
        if (!isBelow(machine, MACHINES)) {
            throw new IndexOutOfBoundsException();
        }
        if (!isBelow(side, 3)) {
            throw new IllegalArgumentException();
        }
        int before = net.sides[machine];
        net.sides[machine] = side;
        return before;
    }

    /** Promise 4. */
    public int down(int machine) throws IndexOutOfBoundsException {
        if (!isBelow(machine, MACHINES)) {
            throw new IndexOutOfBoundsException();
        }
        if (!net.isUp[machine]) {
            return refuse();
        }
        net.isUp[machine] = false;
        if (machine < ORDERERS) {
            net.orderers[machine].fall();
        } else {
            Arrays.fill(peers[machine - ORDERERS].heldBack, 0);
        }
        return net.countUp();
    }

    /** Promise 5. */
    public int up(int machine) throws IndexOutOfBoundsException {
        if (!isBelow(machine, MACHINES)) {
            throw new IndexOutOfBoundsException();
        }
        if (net.isUp[machine]) {
            return refuse();
        }
        net.isUp[machine] = true;
        return net.countUp();
    }

    /** Promise 6. */
    public int ofMachine(int machine, int what) throws IndexOutOfBoundsException, IllegalArgumentException {
        if (!isBelow(machine, MACHINES)) {
            throw new IndexOutOfBoundsException();
        }
        if (!isBelow(what, 3)) {
            throw new IllegalArgumentException();
        }
        return net.tellMachine(machine, what);
    }

    // ---- orderers

    /** Promise 7. */
    public int ofOrderer(int orderer, int what) throws IndexOutOfBoundsException, IllegalArgumentException {
        if (!isBelow(orderer, ORDERERS)) {
            throw new IndexOutOfBoundsException();
        }
        if (!isBelow(what, 12)) {
            throw new IllegalArgumentException();
        }
        return net.orderers[orderer].tell(what);
    }

    /** Promise 8. */
    public String entry(int orderer, int number) throws IndexOutOfBoundsException {
        if (!isBelow(orderer, ORDERERS) || number < 1 || number > net.orderers[orderer].last()) {
            throw new IndexOutOfBoundsException();
        }
        out.setLength(0);
        net.orderers[orderer].writeEntry(out, number);
        return out.toString();
    }

    /** Promise 9. */
    public String queue(int orderer) throws IndexOutOfBoundsException {
        if (!isBelow(orderer, ORDERERS)) {
            throw new IndexOutOfBoundsException();
        }
        out.setLength(0);
        net.orderers[orderer].writeQueue(out);
        return out.toString();
    }

    /** Promise 10. */
    public int size(int size) throws IllegalArgumentException {
        if (size < 1 || size > 4) {
            throw new IllegalArgumentException();
        }
        int before = net.size;
        net.size = size;
        return before;
    }

    /** Promise 11. */
    public int member(int orderer, int which, boolean isIn) throws IndexOutOfBoundsException {
        if (!isBelow(orderer, ORDERERS) || !isBelow(which, ORDERERS)) {
            throw new IndexOutOfBoundsException();
        }
        if (!net.isUp[orderer]) {
            return refuse();
        }
        int number = net.orderers[orderer].changeMember(which, isIn);
        return number == NONE ? refuse() : number;
    }

    /** Promise 12. */
    public int messages() {
        return net.posted;
    }

    /** Promise 13. */
    public String message(int k) throws IndexOutOfBoundsException {
        if (!isBelow(k, net.posted)) {
            throw new IndexOutOfBoundsException();
        }
        out.setLength(0);
        net.post.get(k).write(out);
        return out.toString();
    }

    // ---- texts

    /** Promise 14. */
    public int type(int sheet, int a, int b, int c, int d, int e)
            throws IndexOutOfBoundsException, IllegalArgumentException, IllegalStateException {
        if (!isBelow(sheet, CONTRACTS)) {
            throw new IndexOutOfBoundsException();
        }
        if (!isTyped(a) || !isTyped(b) || !isTyped(c) || !isTyped(d) || !isTyped(e)) {
            throw new IllegalArgumentException();
        }
        int many = countTyped(a) + countTyped(b) + countTyped(c) + countTyped(d) + countTyped(e);
        if (lengths[sheet] + many > MOST_TOKENS) {
            throw new IllegalStateException();
        }
        typeToken(sheet, a);
        typeToken(sheet, b);
        typeToken(sheet, c);
        typeToken(sheet, d);
        typeToken(sheet, e);
        return lengths[sheet];
    }

    /** Promise 15. */
    public int cut(int sheet, int many) throws IndexOutOfBoundsException, IllegalArgumentException {
        if (!isBelow(sheet, CONTRACTS)) {
            throw new IndexOutOfBoundsException();
        }
        if (many < 1 || many > MOST_TOKENS) {
            throw new IllegalArgumentException();
        }
        lengths[sheet] = Math.max(0, lengths[sheet] - many);
        return lengths[sheet];
    }

    /** Promise 16. */
    public int sample(int sheet, int k) throws IndexOutOfBoundsException, IllegalArgumentException {
        if (!isBelow(sheet, CONTRACTS)) {
            throw new IndexOutOfBoundsException();
        }
        if (!isBelow(k, SAMPLE_COUNT)) {
            throw new IllegalArgumentException();
        }
        lengths[sheet] = 0;
        int ends = 0;
        for (int at = 0; at < SAMPLES.length && ends <= k; at++) {
            if (SAMPLES[at] == NONE) {
                ends++;
            } else if (ends == k) {
                typeToken(sheet, SAMPLES[at]);
            }
        }
        return lengths[sheet];
    }

    /** Promise 17. */
    public String text(int sheet) throws IndexOutOfBoundsException {
        if (!isBelow(sheet, CONTRACTS)) {
            throw new IndexOutOfBoundsException();
        }
        writeSheet(sheet);
        return out.toString();
    }

    /** Promise 18. */
    public int fault(int sheet, boolean isPolicy) throws IndexOutOfBoundsException {
        if (!isBelow(sheet, CONTRACTS)) {
            throw new IndexOutOfBoundsException();
        }
        return parser.read(sheets[sheet], lengths[sheet], isPolicy);
    }

    /** Promise 19. */
    public int rule(int sheet) throws IndexOutOfBoundsException {
        if (!isBelow(sheet, CONTRACTS)) {
            throw new IndexOutOfBoundsException();
        }
        return parser.read(sheets[sheet], lengths[sheet], true) == NONE ? parser.rule : NONE;
    }

    // ---- proposals

    /** Promise 20. */
    public int propose(int contract, int x, int y, int z) throws IndexOutOfBoundsException {
        if (!isBelow(contract, CONTRACTS)) {
            throw new IndexOutOfBoundsException();
        }
        int number = proposals.size();
        if (number >= MOST_PROPOSALS || parser.read(sheets[contract], lengths[contract], false) != NONE) {
            return refuse();
        }
        proposals.add(new Proposal(number, contract, x, y, z, NONE, parser.copyCode()));
        return number;
    }

    /** Promise 21. */
    public int ruling(int contract, int sheet) throws IndexOutOfBoundsException {
        if (!isBelow(contract, CONTRACTS) || !isBelow(sheet, CONTRACTS)) {
            throw new IndexOutOfBoundsException();
        }
        int number = proposals.size();
        if (number >= MOST_PROPOSALS || parser.read(sheets[sheet], lengths[sheet], true) != NONE) {
            return refuse();
        }
        proposals.add(new Proposal(number, contract, 0, 0, 0, parser.rule, new int[0]));
        return number;
    }

    /** Promise 22. */
    public int endorse(int proposal, int peer) throws IndexOutOfBoundsException {
        if (!isBelow(proposal, proposals.size()) || !isBelow(peer, PEERS)) {
            throw new IndexOutOfBoundsException();
        }
        Proposal asked = proposals.get(proposal);
        if (!net.isUp[ORDERERS + peer] || asked.results[peer] != null) {
            return refuse();
        }
        Peer asking = peers[peer];
        int fail = executor.execute(asked, asking.state, asking.isLying);
        if (fail == 0) {
            executor.writeResult(out);
            asked.add(peer, executor.makeResult(out.toString()), asking.isLying);
            asking.holdBack(asked);
            endorsements++;
        }
        return fail;
    }

    /** Promise 23. */
    public int would(int proposal, int peer) throws IndexOutOfBoundsException {
        if (!isBelow(proposal, proposals.size()) || !isBelow(peer, PEERS)) {
            throw new IndexOutOfBoundsException();
        }
        return executor.execute(proposals.get(proposal), peers[peer].state, false);
    }

    /** Promise 24. */
    public int submit(int proposal, int orderer) throws IndexOutOfBoundsException {
        if (!isBelow(proposal, proposals.size()) || !isBelow(orderer, ORDERERS)) {
            throw new IndexOutOfBoundsException();
        }
        Proposal asked = proposals.get(proposal);
        Orderer asking = net.orderers[orderer];
        if (!net.isUp[orderer] || asking.role != Orderer.LEADER || asked.count == 0
                || asking.queued >= MOST_QUEUED) {
            return refuse();
        }
        asked.submitted++;
        submissions++;
        return asking.enqueue(new Transaction(asked));
    }

    /** Promise 25. */
    public int ofProposal(int proposal, int what) throws IndexOutOfBoundsException, IllegalArgumentException {
        if (!isBelow(proposal, proposals.size())) {
            throw new IndexOutOfBoundsException();
        }
        if (!isBelow(what, 9)) {
            throw new IllegalArgumentException();
        }
        return proposals.get(proposal).tell(what);
    }

    /** Promise 26. */
    public String result(int proposal, int peer) throws IndexOutOfBoundsException {
        if (!isBelow(proposal, proposals.size()) || !isBelow(peer, PEERS)) {
            throw new IndexOutOfBoundsException();
        }
        return proposals.get(proposal).textOf(peer);
    }

    /** Promise 27. */
    public int lie(int peer, boolean lies) throws IndexOutOfBoundsException {
        if (!isBelow(peer, PEERS)) {
            throw new IndexOutOfBoundsException();
        }
        int before = peers[peer].isLying ? 1 : 0;
        peers[peer].isLying = lies;
        return before;
    }

    // ---- peers

    /** Promise 28. */
    public int ofPeer(int peer, int what) throws IndexOutOfBoundsException, IllegalArgumentException {
        if (!isBelow(peer, PEERS)) {
            throw new IndexOutOfBoundsException();
        }
        if (!isBelow(what, 10)) {
            throw new IllegalArgumentException();
        }
        return peers[peer].tell(what);
    }

    /** Promise 29. */
    public int source(int peer, int orderer) throws IndexOutOfBoundsException {
        if (!isBelow(peer, PEERS) || !isBelow(orderer, ORDERERS)) {
            throw new IndexOutOfBoundsException();
        }
        int before = peers[peer].source;
        peers[peer].source = orderer;
        return before;
    }

    /** Promise 30. */
    public int value(int peer, int key) throws IndexOutOfBoundsException {
        if (!isBelow(peer, PEERS) || !isBelow(key, KEYS)) {
            throw new IndexOutOfBoundsException();
        }
        return peers[peer].state.values[key];
    }

    /** Promise 31. */
    public String version(int peer, int key) throws IndexOutOfBoundsException {
        if (!isBelow(peer, PEERS) || !isBelow(key, KEYS)) {
            throw new IndexOutOfBoundsException();
        }
        out.setLength(0);
        writeVersion(out, peers[peer].state.versions[key]);
        return out.toString();
    }

    /** Promise 32. */
    public String state(int peer) throws IndexOutOfBoundsException {
        if (!isBelow(peer, PEERS)) {
            throw new IndexOutOfBoundsException();
        }
        out.setLength(0);
        peers[peer].state.write(out);
        return out.toString();
    }

    /** Promise 33. */
    public String block(int peer, int block) throws IndexOutOfBoundsException {
        if (!isBelow(peer, PEERS) || !isBelow(block, peers[peer].height())) {
            throw new IndexOutOfBoundsException();
        }
        out.setLength(0);
        peers[peer].writeBlock(out, block);
        return out.toString();
    }

    /** Promise 34. */
    public int hash(int peer, int block) throws IndexOutOfBoundsException {
        if (!isBelow(peer, PEERS) || !isBelow(block, peers[peer].height())) {
            throw new IndexOutOfBoundsException();
        }
        return peers[peer].hashOf(block);
    }

    /** Promise 35. */
    public int holds(int peer, int contract, int secret) throws IndexOutOfBoundsException {
        if (!isBelow(peer, PEERS) || !isBelow(contract, CONTRACTS) || !isBelow(secret, SECRETS)) {
            throw new IndexOutOfBoundsException();
        }
        return peers[peer].state.tellSeal(contract * SECRETS + secret);
    }

    /** Promise 36. */
    public int secret(int peer, int contract, int secret) throws IndexOutOfBoundsException {
        if (!isBelow(peer, PEERS) || !isBelow(contract, CONTRACTS) || !isBelow(secret, SECRETS)) {
            throw new IndexOutOfBoundsException();
        }
        return peers[peer].state.heldValues[contract * SECRETS + secret];
    }

    /** Promise 37. */
    public int lose(int peer) throws IndexOutOfBoundsException {
        if (!isBelow(peer, PEERS)) {
            throw new IndexOutOfBoundsException();
        }
        if (!net.isUp[ORDERERS + peer]) {
            return refuse();
        }
        peers[peer].remake();
        return peers[peer].height();
    }

    // ---- the whole

    /** Promise 38. */
    public int house(int what) throws IllegalArgumentException {
        if (!isBelow(what, 14)) {
            throw new IllegalArgumentException();
        }
        return tellHouse(what);
    }

    /** Promise 39. */
    public int blank() {
        blanks++;
        return REFUSED;
    }

    /** Promise 40. */
    public int knock() {
        knocks++;
        return knocks;
    }

    /** Promise 41. */
    public boolean isSound() {
        Peer first = longest();
        boolean isFine = !net.hasSharedTerm && areLogsInOrder() && areChainsOf(first);
        anew.clear();
        isFine = isFine && haveState(0);
        // One walk along the longest chain; at each height the peers of that height are looked at.
        for (int n = 0; n < first.height() && isFine; n++) {
            isFine = isExecutedAnew(first.chain.get(n).transactions, n) && haveState(n + 1);
        }
        return isFine;
    }

    /** Promise 42. */
    public long digest() {
        long d = 7681;
        for (int what = 0; what < 14; what++) {
            d = mix(d, tellHouse(what));
        }
        for (int machine = 0; machine < MACHINES; machine++) {
            for (int what = 0; what < 3; what++) {
                d = mix(d, net.tellMachine(machine, what));
            }
        }
        for (int k = 0; k < ORDERERS; k++) {
            d = mixOrderer(d, net.orderers[k]);
        }
        for (int k = 0; k < net.posted && k < net.post.size(); k++) {
            out.setLength(0);
            net.post.get(k).write(out);
            d = mixText(d);
        }
        for (int sheet = 0; sheet < CONTRACTS; sheet++) {
            writeSheet(sheet);
            d = mixText(d);
            d = mix(d, parser.read(sheets[sheet], lengths[sheet], false));
            d = mix(d, parser.read(sheets[sheet], lengths[sheet], true));
        }
        for (int k = 0; k < proposals.size(); k++) {
            d = mixProposal(d, proposals.get(k));
        }
        for (int k = 0; k < PEERS; k++) {
            d = mixPeer(d, peers[k]);
        }
        return mix(d, isSound() ? 1 : 0);
    }

    // ---- what the face is made of

    private static boolean isBelow(int k, int bound) {
        return k >= 0 && k < bound;
    }

    /** The number in a row, or 0 where the row has no such place. */
    private static int cell(int[] row, int k) {
        return k >= 0 && k < row.length ? row[k] : 0;
    }

    private int refuse() {
        refusals++;
        return REFUSED;
    }

    private int tellHouse(int what) {
        switch (what) {
            case 0: return net.now;
            case 1: return proposals.size();
            case 2: return submissions;
            case 3: return net.sent;
            case 4: return net.lost;
            case 5: return net.greatestTerm();
            case 6: return net.countLeaders();
            case 7: return net.committed.size();
            case 8: return net.ledTerms;
            case 9: return longest().height();
            case 10: return endorsements;
            case 11: return refusals;
            case 12: return blanks;
            default: return knocks;
        }
    }

    // ---- sheets

    private static boolean isTyped(int token) {
        return token >= NONE && token <= LAST_TOKEN;
    }

    private static int countTyped(int token) {
        return token == NONE ? 0 : 1;
    }

    private void typeToken(int sheet, int token) {
        int at = lengths[sheet];
        if (token != NONE && at < sheets[sheet].length) {
            sheets[sheet][at] = token;
            lengths[sheet] = at + 1;
        }
    }

    private void writeSheet(int sheet) {
        out.setLength(0);
        for (int k = 0; k < lengths[sheet] && k < sheets[sheet].length; k++) {
            if (k > 0) {
                out.append(' ');
            }
            writeToken(out, sheets[sheet][k]);
        }
    }

    private static void writeToken(StringBuilder out, int token) {
        if (token < FIRST_NAME) {
            out.append(token);
            return;
        }
        int name = FIRST_NAME;
        for (int k = 0; k < NAMES.length() && name <= token; k++) {
            if (NAMES.charAt(k) == ' ') {
                name++;
            } else if (name == token) {
                out.append(NAMES.charAt(k));
            }
        }
    }

    private static void writeVersion(StringBuilder out, int version) {
        if (version == NONE) {
            out.append('-');
        } else {
            out.append(version / 4).append('.').append(version % 4);
        }
    }

    // ---- a peer's turn

    private void turnOf(Peer peer) {
        Entry next = nextBlock(peer);
        if (next != null) {
            peer.take(next);
        }
        lookForSecret(peer);
    }

    private Entry nextBlock(Peer peer) {
        int height = peer.height();
        int machine = ORDERERS + peer.number;
        if (isBelow(peer.source, ORDERERS) && net.isUp[peer.source] && net.areTogether(peer.source, machine)) {
            Entry told = net.orderers[peer.source].committedBlock(height);
            if (told != null) {
                return told;
            }
        }
        for (int k = 0; k < PEERS; k++) {
            if (isHelper(k, peer) && peers[k].height() > height) {
                return peers[k].chain.get(height);
            }
        }
        return null;
    }

    /** Whether another peer can give this one something now. */
    private boolean isHelper(int other, Peer peer) {
        return other != peer.number && net.isUp[ORDERERS + other]
                && net.areTogether(ORDERERS + other, ORDERERS + peer.number);
    }

    private void lookForSecret(Peer peer) {
        for (int seal = 0; seal < SEALS; seal++) {
            int version = peer.state.missedVersions[seal];
            for (int k = 0; k < PEERS && version != NONE; k++) {
                State other = peers[k].state;
                if (isHelper(k, peer) && other.heldVersions[seal] == version) {
                    peer.state.hold(seal, version, other.heldValues[seal]);
                    return;
                }
            }
        }
    }

    // ---- whether all is sound

    private Peer longest() {
        Peer first = peers[0];
        for (int k = 1; k < PEERS; k++) {
            if (peers[k].height() > first.height()) {
                first = peers[k];
            }
        }
        return first;
    }

    private boolean areLogsInOrder() {
        boolean isFine = true;
        for (int k = 0; k < ORDERERS && isFine; k++) {
            isFine = net.orderers[k].isInOrder();
        }
        return isFine;
    }

    private boolean areChainsOf(Peer longest) {
        boolean isFine = true;
        for (int k = 0; k < PEERS && isFine; k++) {
            isFine = peers[k].isBeginningOf(longest) && peers[k].hasOwnSecretsOnly();
        }
        return isFine;
    }

    private boolean isExecutedAnew(Transaction[] row, int block) {
        boolean isFine = true;
        for (int k = 0; k < row.length && isFine; k++) {
            if (anew.codeOf(row[k]) == State.VALID) {
                if (row[k].isHonest) {
                    int fail = executor.execute(row[k].proposal, anew, false);
                    executor.writeResult(out);
                    isFine = fail == 0 && isSameText(row[k].result.text);
                }
                anew.apply(row[k].result, 4 * block + k);
                anew.holdAll(row[k], 4 * block + k);
            }
            anew.isTaken[row[k].proposal.number] = true;
        }
        return isFine;
    }

    private boolean isSameText(String text) {
        boolean isSame = text.length() == out.length();
        for (int k = 0; k < text.length() && isSame; k++) {
            isSame = text.charAt(k) == out.charAt(k);
        }
        return isSame;
    }

    private boolean haveState(int height) {
        boolean isSame = true;
        for (int k = 0; k < PEERS && isSame; k++) {
            isSame = peers[k].height() != height || peers[k].state.isLike(anew);
        }
        return isSame;
    }

    // ---- the checksum

    private static long mix(long d, int v) {
        return d * 31 + v;
    }

    private long mixText(long d) {
        long mixed = d;
        for (int k = 0; k < out.length(); k++) {
            mixed = mix(mixed, out.charAt(k));
        }
        return mixed;
    }

    private long mixOrderer(long before, Orderer orderer) {
        long d = before;
        for (int what = 0; what < 12; what++) {
            d = mix(d, orderer.tell(what));
        }
        for (int n = 1; n <= orderer.last(); n++) {
            out.setLength(0);
            orderer.writeEntry(out, n);
            d = mixText(d);
        }
        out.setLength(0);
        orderer.writeQueue(out);
        return mixText(d);
    }

    private long mixProposal(long before, Proposal proposal) {
        long d = before;
        for (int what = 0; what < 9; what++) {
            d = mix(d, proposal.tell(what));
        }
        for (int k = 0; k < PEERS; k++) {
            String told = proposal.textOf(k);
            for (int at = 0; at < told.length(); at++) {
                d = mix(d, told.charAt(at));
            }
        }
        return d;
    }

    private long mixPeer(long before, Peer peer) {
        long d = before;
        for (int what = 0; what < 10; what++) {
            d = mix(d, peer.tell(what));
        }
        out.setLength(0);
        peer.state.write(out);
        d = mixText(d);
        for (int n = 0; n < peer.height(); n++) {
            out.setLength(0);
            peer.writeBlock(out, n);
            d = mixText(d);
            d = mix(d, peer.hashOf(n));
        }
        for (int seal = 0; seal < SEALS; seal++) {
            d = mix(d, peer.state.tellSeal(seal));
            d = mix(d, peer.state.heldValues[seal]);
        }
        return d;
    }

    /** An entry of a log; it never changes, and the logs and chains share it. */
    private static final class Entry {
        static final int EMPTY = 0;
        static final int BLOCK = 1;
        static final int MEMBERS = 2;

        final int term;
        final int kind;
        final int members;
        final Transaction[] transactions;

        Entry(int term, int kind, int members, Transaction[] transactions) {
            this.term = term;
            this.kind = kind;
            this.members = members;
            this.transactions = transactions;
        }

        boolean isLike(Entry other) {
            if (this == other) {
                return true;
            }
            boolean isSame = term == other.term && kind == other.kind && members == other.members
                    && transactions.length == other.transactions.length;
            for (int k = 0; k < transactions.length && isSame; k++) {
                isSame = transactions[k].isLike(other.transactions[k]);
            }
            return isSame;
        }

        void write(StringBuilder out) {
            out.append(term);
            if (kind == EMPTY) {
                out.append(" empty");
            } else if (kind == MEMBERS) {
                out.append(" members ").append(members);
            } else {
                out.append(" block");
                for (int k = 0; k < transactions.length; k++) {
                    out.append(' ').append(transactions[k].proposal.number);
                }
            }
        }
    }

    /** What a proposal's endorsements came to as it was submitted. */
    private static final class Transaction {
        final Proposal proposal;
        final int endorsers;
        final Result result;
        /** Whether one of the endorsers at least did not lie. */
        final boolean isHonest;

        /** Of a proposal that has an endorsement. */
        Transaction(Proposal proposal) {
            int head = proposal.bestHead();
            this.proposal = proposal;
            this.endorsers = proposal.groupOf(head);
            this.result = proposal.resultOf(head);
            this.isHonest = proposal.hasHonest(endorsers);
        }

        boolean isLike(Transaction other) {
            return proposal.number == other.proposal.number && endorsers == other.endorsers
                    && result.text.equals(other.result.text);
        }

        int orgs() {
            int set = 0;
            for (int k = 0; k < PEERS; k++) {
                if ((endorsers >> k & 1) != 0) {
                    set |= 1 << k / 2;
                }
            }
            return set;
        }
    }

    /** What an execution read and would write. */
    private static final class Result {
        final String text;
        /** Pairs: a key and its version. */
        final int[] reads;
        /** Threes: from, to, how many keys were there. */
        final int[] ranges;
        /** Pairs: the keys of all ranges in a row, with their versions. */
        final int[] items;
        /** Threes: a key, Executor.WRITTEN or Executor.DELETED, the value. */
        final int[] writes;
        /** The secrets by their numbers, where a sum is written. */
        final int[] secrets;

        Result(String text, int[] reads, int[] ranges, int[] items, int[] writes, int[] secrets) {
            this.text = text;
            this.reads = reads;
            this.ranges = ranges;
            this.items = items;
            this.writes = writes;
            this.secrets = secrets;
        }

        boolean hasSecrets() {
            return writes.length >= 3 && writes[writes.length - 3] >= FIRST_SUM;
        }
    }

    /** A proposal with its endorsements. */
    private static final class Proposal {
        final int number;
        final int contract;
        final int x;
        final int y;
        final int z;
        /** NONE, if it is no ruling. */
        final int rule;
        final int[] code;
        final Result[] results = new Result[PEERS];
        final boolean[] hasLied = new boolean[PEERS];
        /** The peers in the order of their endorsements. */
        final int[] order = new int[PEERS];
        /** Of each peer that endorsed, the first one with the same text. */
        final int[] heads = new int[PEERS];
        int count = 0;
        int submitted = 0;

        Proposal(int number, int contract, int x, int y, int z, int rule, int[] code) {
            this.number = number;
            this.contract = contract;
            this.x = x;
            this.y = y;
            this.z = z;
            this.rule = rule;
            this.code = code;
        }

        boolean isRuling() {
            return rule != NONE;
        }

        void add(int peer, Result result, boolean lies) {
            if (!isBelow(peer, PEERS) || count >= order.length) {
                return;
            }
            heads[peer] = peer;
            for (int k = count - 1; k >= 0; k--) {
                if (textOf(order[k]).equals(result.text)) {
                    heads[peer] = order[k];
                }
            }
            results[peer] = result;
            hasLied[peer] = lies;
            order[count] = peer;
            count++;
        }

        Result resultOf(int peer) {
            return isBelow(peer, PEERS) ? results[peer] : null;
        }

        String textOf(int peer) {
            Result told = resultOf(peer);
            return told == null ? "" : told.text;
        }

        int endorsers() {
            int set = 0;
            for (int k = 0; k < count && k < order.length; k++) {
                set |= 1 << order[k];
            }
            return set;
        }

        /** The peers that have the text of this one; none of NONE. */
        int groupOf(int head) {
            int set = 0;
            for (int k = 0; k < PEERS; k++) {
                if (results[k] != null && heads[k] == head) {
                    set |= 1 << k;
                }
            }
            return set;
        }

        /** The first peer with the text that most have; NONE without endorsements. */
        int bestHead() {
            int best = NONE;
            int most = 0;
            for (int k = 0; k < count && k < order.length; k++) {
                int many = Integer.bitCount(groupOf(order[k]));
                if (many > most) {
                    most = many;
                    best = order[k];
                }
            }
            return best;
        }

        boolean hasHonest(int set) {
            boolean isFound = false;
            for (int k = 0; k < PEERS; k++) {
                isFound = isFound || (set >> k & 1) != 0 && !hasLied[k];
            }
            return isFound;
        }

        int tell(int what) {
            switch (what) {
                case 0: return contract;
                case 1: return x;
                case 2: return y;
                case 3: return z;
                case 4: return isRuling() ? 1 : 0;
                case 5: return rule;
                case 6: return endorsers();
                case 7: return groupOf(bestHead());
                default: return submitted;
            }
        }
    }

    /** A message between orderers; used again as soon as it was delivered. */
    private static final class Message {
        static final int ASK = 0;
        static final int SAY = 1;
        static final int APPEND = 2;
        static final int TOLD = 3;
        static final int MOST_ENTRIES = 3;

        int sender = 0;
        int receiver = 0;
        int kind = 0;
        int term = 0;
        boolean isYes = false;
        /** The number of LAST of an ask, PREV of an append, the number of a told. */
        int number = 0;
        int numberTerm = 0;
        int many = 0;
        int commit = 0;
        final Entry[] entries = new Entry[MOST_ENTRIES];

        void write(StringBuilder out) {
            out.append(sender).append('>').append(receiver);
            switch (kind) {
                case ASK:
                    out.append(" ask ").append(term).append(' ').append(number).append(' ').append(numberTerm);
                    break;
                case SAY:
                    out.append(" say ").append(term).append(isYes ? " yes" : " no");
                    break;
                case APPEND:
                    out.append(" append ").append(term).append(' ').append(number).append(' ').append(numberTerm);
                    out.append(' ').append(many).append(' ').append(commit);
                    break;
                default:
                    out.append(" told ").append(term).append(isYes ? " yes " : " no ").append(number);
                    break;
            }
        }
    }

    /** The machines, the messages between them, and what became of the orderers' log as a whole. */
    private static final class Net {
        final boolean[] isUp = new boolean[MACHINES];
        final int[] sides = new int[MACHINES];
        final Orderer[] orderers = new Orderer[ORDERERS];
        final Transaction[] noTransactions = new Transaction[0];
        /** What is under way: the first ones of it, as many as were posted. */
        ArrayList<Message> post = new ArrayList<Message>();
        ArrayList<Message> spare = new ArrayList<Message>();
        int posted = 0;
        int now = 0;
        int size = 2;
        int sent = 0;
        int lost = 0;
        /** The entries as they were committed first. */
        final ArrayList<Entry> committed = new ArrayList<Entry>();
        /** By terms: 1 more than the orderer that led first in it, 0 without. */
        int[] leaders = new int[64];
        int ledTerms = 0;
        boolean hasSharedTerm = false;

        Net() {
            for (int k = 0; k < MACHINES; k++) {
                isUp[k] = true;
            }
        }

        boolean areTogether(int one, int other) {
            return sides[one] == sides[other];
        }

        int countUp() {
            int many = 0;
            for (int k = 0; k < MACHINES; k++) {
                many += isUp[k] ? 1 : 0;
            }
            return many;
        }

        int tellMachine(int machine, int what) {
            if (what == 0) {
                return isUp[machine] ? 1 : 0;
            }
            if (what == 1) {
                return sides[machine];
            }
            int set = 0;
            for (int k = 0; k < MACHINES; k++) {
                if (k != machine && isUp[k] && areTogether(k, machine)) {
                    set |= 1 << k;
                }
            }
            return set;
        }

        /** A tick, as far as the orderers go. */
        void pass() {
            now++;
            int many = posted;
            ArrayList<Message> mail = post;
            post = spare;
            spare = mail;
            posted = 0;
            for (int k = 0; k < many && k < mail.size(); k++) {
                Message letter = mail.get(k);
                if (areTogether(letter.sender, letter.receiver) && isUp[letter.receiver]) {
                    orderers[letter.receiver].receive(letter);
                } else {
                    lost++;
                }
            }
            for (int k = 0; k < ORDERERS; k++) {
                if (isUp[k]) {
                    orderers[k].takeTurn();
                }
            }
        }

        /** A message under way, for the sender to fill. */
        Message send(int sender, int receiver, int kind, int term) {
            if (posted >= post.size()) {
                post.add(new Message());
                posted = post.size() - 1;
            }
            Message mail = post.get(posted);
            posted++;
            sent++;
            mail.sender = sender;
            mail.receiver = receiver;
            mail.kind = kind;
            mail.term = term;
            mail.many = 0;
            return mail;
        }

        void noteCommit(Orderer orderer) {
            for (int n = committed.size() + 1; n <= orderer.commit && n <= orderer.last(); n++) {
                committed.add(orderer.at(n));
            }
        }

        void noteLeader(int orderer, int term) {
            if (term < 0) {
                return;
            }
            if (term >= leaders.length) {
                leaders = Arrays.copyOf(leaders, 2 * term);
            }
            if (leaders[term] == 0) {
                leaders[term] = orderer + 1;
                ledTerms++;
            } else if (leaders[term] != orderer + 1) {
                hasSharedTerm = true;
            }
        }

        int greatestTerm() {
            int greatest = 0;
            for (int k = 0; k < ORDERERS; k++) {
                greatest = Math.max(greatest, orderers[k].term);
            }
            return greatest;
        }

        int countLeaders() {
            int many = 0;
            for (int k = 0; k < ORDERERS; k++) {
                many += orderers[k].role == Orderer.LEADER ? 1 : 0;
            }
            return many;
        }
    }

    /** One of those that agree on the log. */
    private static final class Orderer {
        static final int FOLLOWER = 0;
        static final int CANDIDATE = 1;
        static final int LEADER = 2;
        static final int FIRST_MEMBERS = 7;
        static final int LONGEST_STAY = 3;

        final Net net;
        final int number;
        int term = 0;
        int vote = NONE;
        int role = FOLLOWER;
        int commit = 0;
        int waited = 0;
        int leader = NONE;
        int votes = 0;
        /** The entry n at n - 1. */
        final ArrayList<Entry> log = new ArrayList<Entry>();
        /** By numbers: that of the last entry MEMBERS up to there, 0 without. */
        int[] membersAt = new int[32];
        /** By numbers: how many entries BLOCK there are up to there. */
        int[] blocksAt = new int[32];
        final int[] next = new int[ORDERERS];
        final int[] match = new int[ORDERERS];
        final Transaction[] queue = new Transaction[MOST_QUEUED];
        final int[] came = new int[MOST_QUEUED];
        int queued = 0;

        Orderer(Net net, int number) {
            this.net = net;
            this.number = number;
        }

        int last() {
            return log.size();
        }

        /** The entry of that number, null without. */
        Entry at(int n) {
            return n >= 1 && n <= log.size() ? log.get(n - 1) : null;
        }

        int termAt(int n) {
            Entry found = at(n);
            return found == null ? 0 : found.term;
        }

        int members() {
            int n = cell(membersAt, log.size());
            return n >= 1 && n <= log.size() ? log.get(n - 1).members : FIRST_MEMBERS;
        }

        boolean isMember(int orderer) {
            return (members() >> orderer & 1) != 0;
        }

        private boolean isMany(int set) {
            int members = members();
            return 2 * Integer.bitCount(set & members) > Integer.bitCount(members);
        }

        int lay(Entry laid) {
            int n = log.size() + 1;
            if (n >= membersAt.length || n >= blocksAt.length) {
                membersAt = Arrays.copyOf(membersAt, 2 * n);
                blocksAt = Arrays.copyOf(blocksAt, 2 * n);
            }
            membersAt[n] = laid.kind == Entry.MEMBERS ? n : membersAt[n - 1];
            blocksAt[n] = blocksAt[n - 1] + (laid.kind == Entry.BLOCK ? 1 : 0);
            log.add(laid);
            return n;
        }

        private void layOwn(int kind, int members, Transaction[] transactions) {
            lay(new Entry(term, kind, members, transactions));
        }

        /** Keeps only what lies below n. */
        private void dropFrom(int n) {
            for (int k = log.size(); k >= n && k >= 1; k--) {
                log.remove(k - 1);
            }
        }

        /** The block of that number, if it is committed here; null without. */
        Entry committedBlock(int block) {
            if (cell(blocksAt, Math.min(commit, last())) <= block) {
                return null;
            }
            for (int n = 1; n <= last(); n++) {
                if (cell(blocksAt, n) > block) {
                    return at(n);
                }
            }
            return null;
        }

        void fall() {
            becomeFollower(NONE);
            waited = 0;
            commit = 0;
            queued = 0;
        }

        private void becomeFollower(int whom) {
            role = FOLLOWER;
            leader = whom;
        }

        void takeTurn() {
            if (role == LEADER) {
                lead();
            } else {
                await();
            }
        }

        private void await() {
            waited++;
            if (waited < 4 + 2 * number || !isMember(number)) {
                return;
            }
            role = CANDIDATE;
            term++;
            vote = number;
            waited = 0;
            leader = NONE;
            votes = 1 << number;
            for (int k = 0; k < ORDERERS; k++) {
                if (k != number && isMember(k)) {
                    Message ask = net.send(number, k, Message.ASK, term);
                    ask.number = last();
                    ask.numberTerm = termAt(last());
                }
            }
            becomeLeaderByVotes();
        }

        private void becomeLeaderByVotes() {
            if (!isMany(votes)) {
                return;
            }
            role = LEADER;
            leader = number;
            Arrays.fill(next, last() + 1);
            Arrays.fill(match, 0);
            net.noteLeader(number, term);
            layOwn(Entry.EMPTY, 0, net.noTransactions);
        }

        private void lead() {
            if (queued > 0 && (queued >= net.size || net.now - came[0] >= LONGEST_STAY)) {
                layBlock();
            }
            growCommit();
            for (int k = 0; k < ORDERERS; k++) {
                if (k != number && isMember(k)) {
                    append(k);
                }
            }
            if (!isMember(number) && cell(membersAt, last()) <= commit) {
                becomeFollower(NONE);
                waited = 0;
                queued = 0;
            }
        }

        private void layBlock() {
            int many = Math.min(queued, net.size);
            Transaction[] row = new Transaction[Math.max(0, many)];
            for (int k = 0; k < row.length; k++) {
                row[k] = queue[k];
            }
            for (int k = many; k < queued; k++) {
                queue[k - many] = queue[k];
                came[k - many] = came[k];
            }
            queued -= many;
            layOwn(Entry.BLOCK, 0, row);
        }

        private void append(int other) {
            Message mail = net.send(number, other, Message.APPEND, term);
            mail.number = next[other] - 1;
            mail.numberTerm = termAt(next[other] - 1);
            mail.commit = commit;
            for (int k = 0; k < Message.MOST_ENTRIES; k++) {
                Entry behind = at(next[other] + k);
                if (behind != null) {
                    mail.entries[k] = behind;
                    mail.many = k + 1;
                }
            }
        }

        private void growCommit() {
            int grown = commit;
            for (int n = last(); n > commit && grown == commit; n--) {
                if (termAt(n) == term && isMany(holdersOf(n))) {
                    grown = n;
                }
            }
            commitTo(grown);
        }

        private int holdersOf(int n) {
            int set = 1 << number;
            for (int k = 0; k < ORDERERS; k++) {
                if (match[k] >= n) {
                    set |= 1 << k;
                }
            }
            return set;
        }

        private void commitTo(int n) {
            if (n > commit) {
                commit = n;
                net.noteCommit(this);
            }
        }

        void receive(Message mail) {
            if (mail.term > term) {
                term = mail.term;
                vote = NONE;
                becomeFollower(NONE);
                queued = 0;
            }
            switch (mail.kind) {
                case Message.ASK: hearAsk(mail); break;
                case Message.SAY: hearSay(mail); break;
                case Message.APPEND: hearAppend(mail); break;
                default: hearTold(mail); break;
            }
        }

        private void hearAsk(Message ask) {
            int lastTerm = termAt(last());
            boolean isNewer = lastTerm > ask.numberTerm || lastTerm == ask.numberTerm && last() > ask.number;
            boolean isYes = ask.term >= term && (vote == NONE || vote == ask.sender) && !isNewer;
            if (isYes) {
                vote = ask.sender;
                waited = 0;
            }
            net.send(number, ask.sender, Message.SAY, term).isYes = isYes;
        }

        private void hearSay(Message say) {
            if (say.isYes && say.term == term && role == CANDIDATE) {
                votes |= 1 << say.sender;
                becomeLeaderByVotes();
            }
        }

        private void hearAppend(Message mail) {
            if (mail.term < term) {
                answer(mail.sender, false, 0);
                return;
            }
            becomeFollower(mail.sender);
            waited = 0;
            int prev = mail.number;
            if (prev > 0 && (prev > last() || termAt(prev) != mail.numberTerm)) {
                answer(mail.sender, false, Math.min(prev - 1, last()));
                return;
            }
            for (int k = 0; k < mail.many && k < Message.MOST_ENTRIES; k++) {
                place(prev + 1 + k, mail.entries[k]);
            }
            commitTo(Math.min(mail.commit, prev + mail.many));
            answer(mail.sender, true, prev + mail.many);
        }

        private void place(int n, Entry told) {
            if (told == null) {
                return;
            }
            if (n <= last() && termAt(n) != told.term) {
                dropFrom(n);
            }
            if (n > last()) {
                lay(told);
            }
        }

        private void answer(int whom, boolean isYes, int n) {
            Message told = net.send(number, whom, Message.TOLD, term);
            told.isYes = isYes;
            told.number = n;
        }

        private void hearTold(Message told) {
            if (told.term != term || role != LEADER) {
                return;
            }
            int other = told.sender;
            if (told.isYes) {
                match[other] = Math.max(match[other], told.number);
                next[other] = match[other] + 1;
                growCommit();
            } else {
                next[other] = Math.max(1, Math.min(next[other] - 1, told.number + 1));
            }
        }

        /** Lays the change and tells its number; NONE, if it is refused. */
        int changeMember(int which, boolean isIn) {
            int before = members();
            int after = isIn ? before | 1 << which : before & ~(1 << which);
            boolean isOpen = cell(membersAt, last()) > commit || commit == 0 || termAt(commit) != term;
            if (role != LEADER || isOpen || after == before || after == 0) {
                return NONE;
            }
            layOwn(Entry.MEMBERS, after, net.noTransactions);
            return last();
        }

        /** Lays a transaction into the queue, which has room, and tells how many are there. */
        int enqueue(Transaction transaction) {
            if (queued < MOST_QUEUED) {
                queue[queued] = transaction;
                came[queued] = net.now;
                queued++;
            }
            return queued;
        }

        int tell(int what) {
            switch (what) {
                case 0: return role;
                case 1: return term;
                case 2: return vote;
                case 3: return last();
                case 4: return termAt(last());
                case 5: return commit;
                case 6: return waited;
                case 7: return leader;
                case 8: return queued;
                case 9: return members();
                case 10: return cell(blocksAt, last());
                default: return cell(blocksAt, commit);
            }
        }

        void writeEntry(StringBuilder out, int n) {
            Entry told = at(n);
            if (told != null) {
                told.write(out);
            }
        }

        void writeQueue(StringBuilder out) {
            for (int k = 0; k < queued && k < MOST_QUEUED; k++) {
                if (k > 0) {
                    out.append(' ');
                }
                out.append(queue[k].proposal.number);
            }
        }

        /** Whether its log is what was committed first, and its terms never grow less. */
        boolean isInOrder() {
            boolean isFine = commit <= last() && commit <= net.committed.size();
            for (int n = 1; n <= last() && isFine; n++) {
                isFine = termAt(n) >= termAt(n - 1)
                        && (n > commit || n > net.committed.size() || log.get(n - 1).isLike(net.committed.get(n - 1)));
            }
            return isFine;
        }
    }

    /** The keys of a peer, the secrets that it holds or misses, and the proposals that its chain has. */
    private static final class State {
        static final int VALID = 0;
        static final int TWICE = 1;
        static final int POLICY = 2;
        static final int READ = 3;
        static final int RANGE = 4;
        static final int FIRST_RULE = 40;
        static final int ANY_ORG = 254;
        static final int LAST_BLOCKS = 6;

        /** 0 without. */
        final int[] values = new int[KEYS];
        /** Four times the block and the place in it; NONE without. */
        final int[] versions = new int[KEYS];
        final int[] heldVersions = new int[SEALS];
        final int[] heldValues = new int[SEALS];
        final int[] missedVersions = new int[SEALS];
        final boolean[] isTaken = new boolean[MOST_PROPOSALS];

        State() {
            Arrays.fill(versions, NONE);
            Arrays.fill(heldVersions, NONE);
            Arrays.fill(missedVersions, NONE);
        }

        void clear() {
            Arrays.fill(values, 0);
            Arrays.fill(versions, NONE);
            for (int seal = 0; seal < SEALS; seal++) {
                forget(seal);
            }
            for (int k = 0; k < MOST_PROPOSALS; k++) {
                isTaken[k] = false;
            }
        }

        int codeOf(Transaction transaction) {
            if (isTaken[transaction.proposal.number]) {
                return TWICE;
            }
            if (!isEnough(transaction)) {
                return POLICY;
            }
            if (!hasReads(transaction.result.reads)) {
                return READ;
            }
            return hasRanges(transaction.result) ? VALID : RANGE;
        }

        private boolean isEnough(Transaction transaction) {
            int orgs = transaction.orgs();
            if (transaction.proposal.isRuling()) {
                return Integer.bitCount(orgs) >= 2;
            }
            int key = FIRST_RULE + transaction.proposal.contract;
            int rule = versions[key] == NONE ? ANY_ORG : values[key];
            return (rule >> orgs & 1) != 0;
        }

        private boolean hasReads(int[] reads) {
            boolean isSame = true;
            for (int k = 0; k + 1 < reads.length && isSame; k += 2) {
                isSame = isBelow(reads[k], KEYS) && versions[reads[k]] == reads[k + 1];
            }
            return isSame;
        }

        private boolean hasRanges(Result result) {
            int from = 0;
            boolean isSame = true;
            for (int k = 0; k + 2 < result.ranges.length && isSame; k += 3) {
                isSame = hasRange(result, k, from);
                from += result.ranges[k + 2];
            }
            return isSame;
        }

        /** Whether the range, told from k on, has just the items from there on. */
        private boolean hasRange(Result result, int k, int from) {
            int to = cell(result.ranges, k + 1);
            int found = 0;
            boolean isSame = true;
            for (int key = Math.max(0, cell(result.ranges, k)); key < to && key < KEYS && isSame; key++) {
                if (versions[key] != NONE) {
                    int at = 2 * (from + found);
                    isSame = cell(result.items, at) == key && cell(result.items, at + 1) == versions[key];
                    found++;
                }
            }
            return isSame && found == cell(result.ranges, k + 2);
        }

        void apply(Result result, int version) {
            int[] writes = result.writes;
            for (int k = 0; k + 2 < writes.length; k += 3) {
                int key = writes[k];
                if (isBelow(key, KEYS)) {
                    boolean isGone = writes[k + 1] == Executor.DELETED;
                    values[key] = isGone ? 0 : writes[k + 2];
                    versions[key] = isGone ? NONE : version;
                }
            }
        }

        /** As if the holder were one of those that may have the secrets, and had held all of them back. */
        void holdAll(Transaction transaction, int version) {
            int[] writes = transaction.result.writes;
            for (int k = 0; k + 2 < writes.length; k += 3) {
                int seal = writes[k] - FIRST_SUM;
                if (isBelow(seal, SEALS)) {
                    hold(seal, version, cell(transaction.result.secrets, seal % SECRETS));
                }
            }
        }

        void missAll(Transaction transaction, int version) {
            int[] writes = transaction.result.writes;
            for (int k = 0; k + 2 < writes.length; k += 3) {
                int seal = writes[k] - FIRST_SUM;
                if (isBelow(seal, SEALS)) {
                    forget(seal);
                    missedVersions[seal] = version;
                }
            }
        }

        void hold(int seal, int version, int held) {
            forget(seal);
            heldVersions[seal] = version;
            heldValues[seal] = held;
        }

        private void forget(int seal) {
            heldVersions[seal] = NONE;
            heldValues[seal] = 0;
            missedVersions[seal] = NONE;
        }

        /** What is held or missed of a block too far behind this one goes. */
        void age(int block) {
            int bound = 4 * (block - LAST_BLOCKS + 1);
            for (int seal = 0; seal < SEALS; seal++) {
                if (Math.max(heldVersions[seal], missedVersions[seal]) < bound) {
                    forget(seal);
                }
            }
        }

        int tellSeal(int seal) {
            return heldVersions[seal] != NONE ? 1 : missedVersions[seal] != NONE ? 2 : 0;
        }

        int countSeals(int told) {
            int many = 0;
            for (int seal = 0; seal < SEALS; seal++) {
                many += tellSeal(seal) == told ? 1 : 0;
            }
            return many;
        }

        int countKeys() {
            int many = 0;
            for (int key = 0; key < KEYS; key++) {
                many += versions[key] != NONE ? 1 : 0;
            }
            return many;
        }

        boolean isLike(State other) {
            boolean isSame = true;
            for (int key = 0; key < KEYS && isSame; key++) {
                isSame = values[key] == other.values[key] && versions[key] == other.versions[key];
            }
            return isSame;
        }

        void write(StringBuilder out) {
            for (int key = 0; key < KEYS; key++) {
                if (versions[key] != NONE) {
                    if (out.length() > 0) {
                        out.append(' ');
                    }
                    out.append(key).append('=').append(values[key]);
                }
            }
        }
    }

    /** One of those that keep the chain and its state. */
    private static final class Peer {
        static final int FIRST_HASH = 7;

        final int number;
        int source;
        boolean isLying = false;
        final State state = new State();
        /** By proposals: 1, if their secrets are held back, otherwise 0. */
        final int[] heldBack = new int[MOST_PROPOSALS];
        final ArrayList<Entry> chain = new ArrayList<Entry>();
        /** By versions. */
        int[] codes = new int[64];
        int[] hashes = new int[16];
        int valid = 0;
        int invalid = 0;

        Peer(int number) {
            this.number = number;
            this.source = number % 3;
        }

        int height() {
            return chain.size();
        }

        int hashOf(int block) {
            return block < 0 ? FIRST_HASH : cell(hashes, block);
        }

        boolean mayHave(int contract) {
            return number / 2 == contract % 3 || number / 2 == (contract + 1) % 3;
        }

        /** Of a proposal that it endorsed just now. */
        void holdBack(Proposal proposal) {
            Result told = proposal.resultOf(number);
            if (told != null && told.hasSecrets() && mayHave(proposal.contract)) {
                heldBack[proposal.number] = 1;
            }
        }

        void take(Entry block) {
            int n = height();
            if (n >= hashes.length || 4 * n + 3 >= codes.length) {
                hashes = Arrays.copyOf(hashes, 2 * n + 2);
                codes = Arrays.copyOf(codes, 8 * n + 8);
            }
            int h = hashOf(n - 1) * 31 + n;
            for (int k = 0; k < block.transactions.length && k < 4; k++) {
                takeTransaction(block.transactions[k], 4 * n + k);
                h = hashOn(h, block.transactions[k]);
            }
            hashes[n] = h;
            chain.add(block);
            state.age(n);
        }

        private void takeTransaction(Transaction transaction, int version) {
            int code = state.codeOf(transaction);
            codes[version] = code;
            if (code == State.VALID) {
                valid++;
                state.apply(transaction.result, version);
                keepSecrets(transaction, version);
            } else {
                invalid++;
            }
            state.isTaken[transaction.proposal.number] = true;
            heldBack[transaction.proposal.number] = 0;
        }

        private void keepSecrets(Transaction transaction, int version) {
            if (!mayHave(transaction.proposal.contract)) {
                return;
            }
            boolean isEndorser = (transaction.endorsers >> number & 1) != 0;
            if (isEndorser && heldBack[transaction.proposal.number] != 0) {
                state.holdAll(transaction, version);
            } else {
                state.missAll(transaction, version);
            }
        }

        private static int hashOn(int before, Transaction transaction) {
            int h = (before * 31 + transaction.proposal.number) * 31 + transaction.endorsers;
            String told = transaction.result.text;
            for (int k = 0; k < told.length(); k++) {
                h = h * 31 + told.charAt(k);
            }
            return h;
        }

        /** All is lost but the chain, its codes, and what is held back. */
        void remake() {
            state.clear();
            for (int n = 0; n < height(); n++) {
                Transaction[] row = chain.get(n).transactions;
                for (int k = 0; k < row.length; k++) {
                    if (cell(codes, 4 * n + k) == State.VALID) {
                        state.apply(row[k].result, 4 * n + k);
                        if (mayHave(row[k].proposal.contract)) {
                            state.missAll(row[k], 4 * n + k);
                        }
                    }
                    state.isTaken[row[k].proposal.number] = true;
                }
                state.age(n);
            }
        }

        int tell(int what) {
            switch (what) {
                case 0: return height();
                case 1: return source;
                case 2: return hashOf(height() - 1);
                case 3: return state.countKeys();
                case 4: return valid;
                case 5: return invalid;
                case 6: return state.countSeals(1);
                case 7: return state.countSeals(2);
                case 8: return countHeldBack();
                default: return isLying ? 1 : 0;
            }
        }

        private int countHeldBack() {
            int many = 0;
            for (int k = 0; k < MOST_PROPOSALS; k++) {
                many += heldBack[k];
            }
            return many;
        }

        void writeBlock(StringBuilder out, int block) {
            if (!isBelow(block, height())) {
                return;
            }
            Transaction[] row = chain.get(block).transactions;
            for (int k = 0; k < row.length; k++) {
                if (k > 0) {
                    out.append(' ');
                }
                out.append(row[k].proposal.number).append(':').append(cell(codes, 4 * block + k));
            }
        }

        boolean isBeginningOf(Peer longer) {
            boolean isSame = height() <= longer.height();
            for (int n = 0; n < height() && isSame; n++) {
                isSame = hashOf(n) == longer.hashOf(n) && chain.get(n).isLike(longer.chain.get(n));
                for (int k = 0; k < 4 && isSame; k++) {
                    isSame = cell(codes, 4 * n + k) == cell(longer.codes, 4 * n + k);
                }
            }
            return isSame;
        }

        /** Whether each secret that it holds may be here, and has its sum if that was not written again. */
        boolean hasOwnSecretsOnly() {
            boolean isFine = true;
            for (int seal = 0; seal < SEALS && isFine; seal++) {
                int version = state.heldVersions[seal];
                if (version != NONE) {
                    isFine = mayHave(seal / SECRETS)
                            && (state.versions[FIRST_SUM + seal] != version || hasSum(seal, version));
                }
            }
            return isFine;
        }

        private boolean hasSum(int seal, int version) {
            if (!isBelow(version / 4, height())) {
                return false;
            }
            Transaction[] row = chain.get(version / 4).transactions;
            if (version % 4 >= row.length) {
                return false;
            }
            int sum = Executor.sumOf(seal % SECRETS, state.heldValues[seal], row[version % 4].proposal.number);
            return sum == state.values[FIRST_SUM + seal];
        }
    }

    /** Reads a sheet as a contract, which it puts into the executor's code, or as a policy. */
    private static final class Parser {
        static final int FIRST_VARIABLE = 100;
        static final int LAST_VARIABLE = 105;
        static final int PUT = 106;
        static final int DEL = 107;
        static final int SECRET = 108;
        static final int LET = 109;
        static final int NEED = 110;
        static final int TELL = 111;
        static final int IF = 112;
        static final int THEN = 113;
        static final int ELSE = 114;
        static final int END = 115;
        static final int EACH = 116;
        static final int IN = 117;
        static final int DOTS = 118;
        static final int DO = 119;
        static final int GET = 120;
        static final int OPEN = 122;
        static final int LEFT = 123;
        static final int RIGHT = 124;
        static final int EQUALS = 125;
        static final int PLUS = 126;
        static final int SAME = 130;
        static final int SEMICOLON = 131;
        static final int ORG = 132;
        static final int OF = 133;
        static final int AND = 134;
        static final int OR = 135;
        static final int COMMA = 136;
        /** A text has fewer tokens than that, and a level takes one at least. */
        static final int DEEPEST = 62;

        int[] tokens = new int[0];
        int count = 0;
        int place = 0;
        /** The one at the place; NONE at the end, and behind a fault. */
        int token = NONE;
        int fault = NONE;
        /** The first number that a policy must not have there. */
        int doubt = NONE;
        int rule = 0;
        final int[] code = new int[512];
        int length = 0;

        /** Tells the fault; what was read stays until the next reading. */
        int read(int[] sheet, int many, boolean isPolicy) {
            start(sheet, many);
            if (isPolicy) {
                rule = readParty(0);
            } else {
                readRun(0);
            }
            if (fault == NONE) {
                fault = place < count ? place : doubt;
            }
            return fault;
        }

        int[] copyCode() {
            return Arrays.copyOf(code, length);
        }

        private void start(int[] sheet, int many) {
            tokens = sheet;
            count = Math.min(many, sheet.length);
            place = NONE;
            fault = NONE;
            doubt = NONE;
            length = 0;
            step();
        }

        private void step() {
            place++;
            token = fault == NONE && place >= 0 && place < count ? tokens[place] : NONE;
        }

        private void fail() {
            if (fault == NONE) {
                fault = place;
                token = NONE;
            }
        }

        private void want(int wanted) {
            if (fault == NONE && token == wanted) {
                step();
            } else {
                fail();
            }
        }

        private boolean isNumber() {
            return token >= 0 && token < FIRST_VARIABLE;
        }

        private boolean isVariable() {
            return token >= FIRST_VARIABLE && token <= LAST_VARIABLE;
        }

        /** Lays an instruction and tells where. */
        private int emit(int instruction, int argument) {
            int at = length;
            if (at + 1 < code.length) {
                code[at] = instruction;
                code[at + 1] = argument;
                length = at + 2;
            }
            return at;
        }

        /** The jump laid there leads to what comes next. */
        private void leadHere(int at) {
            if (isBelow(at + 1, code.length)) {
                code[at + 1] = length;
            }
        }

        private void readRun(int depth) {
            if (depth > DEEPEST) {
                fail();
                return;
            }
            boolean hasMore = true;
            for (int k = 0; k < MOST_TOKENS && hasMore; k++) {
                emit(Executor.BEGIN, 0);
                switch (token) {
                    case PUT: readSetting(Executor.KEY, Executor.PUT, depth); break;
                    case SECRET: readSetting(Executor.SLOT, Executor.SEAL, depth); break;
                    case DEL: readSingle(Executor.DEL, depth); break;
                    case NEED: readSingle(Executor.NEED, depth); break;
                    case TELL: readSingle(Executor.TELL, depth); break;
                    case LET: readLet(depth); break;
                    case IF: readIf(depth); break;
                    case EACH: readEach(depth); break;
                    default: fail(); break;
                }
                hasMore = token == SEMICOLON;
                if (hasMore) {
                    step();
                }
            }
        }

        private void readSetting(int look, int act, int depth) {
            step();
            readSum(depth + 1);
            emit(look, 0);
            want(EQUALS);
            readSum(depth + 1);
            emit(act, 0);
        }

        private void readSingle(int act, int depth) {
            step();
            readSum(depth + 1);
            emit(act, 0);
        }

        /** Tells which variable stands there; 0 with a fault. */
        private int readVariable() {
            if (!isVariable()) {
                fail();
                return 0;
            }
            int variable = token - FIRST_VARIABLE;
            step();
            return variable;
        }

        private void readLet(int depth) {
            step();
            int variable = readVariable();
            want(EQUALS);
            readSum(depth + 1);
            emit(Executor.LET, variable);
        }

        private void readIf(int depth) {
            step();
            readSum(depth + 1);
            want(THEN);
            int unless = emit(Executor.UNLESS, 0);
            readRun(depth + 1);
            if (token == ELSE) {
                step();
                int jump = emit(Executor.JUMP, 0);
                leadHere(unless);
                readRun(depth + 1);
                leadHere(jump);
            } else {
                leadHere(unless);
            }
            want(END);
        }

        private void readEach(int depth) {
            step();
            int variable = readVariable();
            want(IN);
            readSum(depth + 1);
            want(DOTS);
            readSum(depth + 1);
            want(DO);
            emit(Executor.EACH, variable);
            int next = emit(Executor.NEXT, 0);
            readRun(depth + 1);
            want(END);
            emit(Executor.JUMP, next);
            leadHere(next);
        }

        private void readSum(int depth) {
            readTerm(depth);
            for (int k = 0; k < MOST_TOKENS && token >= PLUS && token <= SAME; k++) {
                int act = Executor.ADD + token - PLUS;
                step();
                readTerm(depth);
                emit(act, 0);
            }
        }

        private void readTerm(int depth) {
            if (depth > DEEPEST) {
                fail();
            } else if (isNumber()) {
                emit(Executor.PUSH, token);
                step();
            } else if (isVariable()) {
                emit(Executor.LOAD, readVariable());
            } else if (token >= GET && token <= OPEN) {
                int act = Executor.GET + token - GET;
                step();
                readTerm(depth + 1);
                emit(act, 0);
            } else {
                want(LEFT);
                if (fault == NONE) {
                    readSum(depth + 1);
                }
                want(RIGHT);
            }
        }

        /** A P of a policy; tells its rule. */
        private int readParty(int depth) {
            if (depth > DEEPEST) {
                fail();
                return 0;
            }
            if (token == ORG) {
                return readOrg();
            }
            if (token == LEFT) {
                return readPair(depth);
            }
            return readSeveral(depth);
        }

        private int readOrg() {
            step();
            if (!isNumber()) {
                fail();
                return 0;
            }
            int org = token;
            if (org > 2) {
                doubtAt(place);
            }
            step();
            return org == 0 ? 170 : org == 1 ? 204 : 240;
        }

        private int readPair(int depth) {
            step();
            int one = readParty(depth + 1);
            boolean isBoth = token == AND;
            if (token == OR) {
                step();
            } else {
                want(AND);
            }
            int other = fault == NONE ? readParty(depth + 1) : 0;
            want(RIGHT);
            return isBoth ? one & other : one | other;
        }

        private int readSeveral(int depth) {
            if (!isNumber()) {
                fail();
                return 0;
            }
            int at = place;
            int least = token;
            step();
            want(OF);
            want(LEFT);
            int many = 1;
            long counts = countIn(0, readParty(depth + 1));
            for (int k = 0; k < MOST_TOKENS && token == COMMA; k++) {
                step();
                counts = countIn(counts, readParty(depth + 1));
                many++;
            }
            want(RIGHT);
            if (least < 1 || least > many) {
                doubtAt(at);
            }
            return setsOf(counts, least);
        }

        private void doubtAt(int at) {
            if (doubt == NONE || at < doubt) {
                doubt = at;
            }
        }

        /** Eight counters in one number, one for each set of orgs. */
        private static long countIn(long counts, int enough) {
            long counted = counts;
            for (int set = 0; set < 8; set++) {
                counted += (long) (enough >> set & 1) << 8 * set;
            }
            return counted;
        }

        private static int setsOf(long counts, int least) {
            int sets = 0;
            for (int set = 0; set < 8; set++) {
                if ((counts >> 8 * set & 255) >= least) {
                    sets |= 1 << set;
                }
            }
            return sets;
        }
    }

    /** Runs a proposal's code on a state, which it does not change, and keeps the result until the next run. */
    private static final class Executor {
        static final int PUSH = 0;
        static final int LOAD = 1;
        static final int ADD = 2;
        static final int SUB = 3;
        static final int MUL = 4;
        static final int LESS = 5;
        static final int SAME = 6;
        static final int GET = 7;
        static final int HAS = 8;
        static final int OPEN = 9;
        static final int BEGIN = 10;
        static final int KEY = 11;
        static final int SLOT = 12;
        static final int PUT = 13;
        static final int DEL = 14;
        static final int SEAL = 15;
        static final int LET = 16;
        static final int NEED = 17;
        static final int TELL = 18;
        static final int EACH = 19;
        static final int NEXT = 20;
        static final int UNLESS = 21;
        static final int JUMP = 22;

        static final int WRITTEN = 1;
        static final int DELETED = 2;
        static final int MOST_STATEMENTS = 100;
        static final int MOST_STEPS = 1000000;
        static final int SUMS = 10007;

        final int[] stack = new int[64];
        int depth = 0;
        /** Threes for each loop that is open: the key to go on from, the end, the variable. */
        final int[] frames = new int[3 * 32];
        int framed = 0;
        final int[] variables = new int[6];
        final boolean[] isRead = new boolean[KEYS];
        final int[] kinds = new int[KEYS];
        final int[] written = new int[KEYS];
        final int[] secrets = new int[SECRETS];
        final int[] ranges = new int[3 * (MOST_STATEMENTS + 4)];
        int ranged = 0;
        final int[] items = new int[2 * 1024];
        int itemed = 0;
        int statements = 0;
        int told = 0;
        int fail = 0;
        State state = null;
        Proposal proposal = null;

        static int sumOf(int secret, int v, int proposal) {
            return Math.floorMod(v * 31 + secret * 7 + proposal * 101, SUMS);
        }

        /** Tells how it fails, 0 if it does not. */
        int execute(Proposal asked, State on, boolean lies) {
            proposal = asked;
            state = on;
            start();
            if (asked.isRuling()) {
                int key = State.FIRST_RULE + asked.contract;
                isRead[key] = true;
                kinds[key] = WRITTEN;
                written[key] = asked.rule;
            } else {
                runCode(asked.code);
            }
            for (int key = 0; key < PLAIN_KEYS && lies; key++) {
                written[key]++;
            }
            return fail;
        }

        private void start() {
            depth = 0;
            framed = 0;
            ranged = 0;
            itemed = 0;
            statements = 0;
            told = 0;
            fail = 0;
            Arrays.fill(variables, 0);
            variables[0] = proposal.x;
            variables[1] = proposal.y;
            variables[2] = proposal.z;
            Arrays.fill(kinds, 0);
            Arrays.fill(written, 0);
            Arrays.fill(secrets, 0);
            for (int key = 0; key < KEYS; key++) {
                isRead[key] = false;
            }
        }

        private void runCode(int[] code) {
            int at = 0;
            for (int step = 0; step < MOST_STEPS && fail == 0 && isBelow(at, code.length - 1); step++) {
                int act = code[at];
                int argument = code[at + 1];
                at += 2;
                if (act == JUMP || act == UNLESS && pop() == 0 || act == NEXT && !hasNextKey()) {
                    at = argument;
                } else if (act < BEGIN) {
                    reckon(act, argument);
                } else if (act < NEXT) {
                    perform(act, argument);
                }
            }
        }

        private void push(int v) {
            if (depth < stack.length) {
                stack[depth] = v;
                depth++;
            }
        }

        private int pop() {
            if (depth <= 0) {
                return 0;
            }
            depth--;
            return stack[depth];
        }

        private void reckon(int act, int argument) {
            if (act == PUSH) {
                push(argument);
            } else if (act == LOAD) {
                push(cell(variables, argument));
            } else if (act == OPEN) {
                openSecret();
            } else if (act >= GET) {
                lookUp(act);
            } else {
                int right = pop();
                int left = pop();
                push(join(act, left, right));
            }
        }

        private static int join(int act, int left, int right) {
            switch (act) {
                case ADD: return left + right;
                case SUB: return left - right;
                case MUL: return left * right;
                case LESS: return left < right ? 1 : 0;
                default: return left == right ? 1 : 0;
            }
        }

        private void lookUp(int act) {
            int key = pop();
            if (key < 0 || key >= PLAIN_KEYS) {
                fail = 2;
                return;
            }
            isRead[key] = true;
            push(act == GET ? state.values[key] : state.versions[key] == NONE ? 0 : 1);
        }

        private void openSecret() {
            int number = pop();
            int seal = SECRETS * proposal.contract + number;
            if (number < 0 || number >= SECRETS || seal < 0 || seal >= SEALS) {
                fail = 2;
                return;
            }
            int version = state.versions[FIRST_SUM + seal];
            isRead[FIRST_SUM + seal] = true;
            if (version == NONE) {
                push(0);
            } else if (state.heldVersions[seal] == version) {
                push(state.heldValues[seal]);
            } else {
                fail = 3;
            }
        }

        private void perform(int act, int argument) {
            switch (act) {
                case BEGIN:
                    statements++;
                    fail = statements > MOST_STATEMENTS ? 4 : 0;
                    break;
                case KEY: lookAt(PLAIN_KEYS); break;
                case SLOT: lookAt(SECRETS); break;
                case PUT:
                    int v = pop();
                    write(pop(), WRITTEN, v);
                    break;
                case DEL:
                    lookAt(PLAIN_KEYS);
                    write(pop(), DELETED, 0);
                    break;
                case SEAL:
                    int secret = pop();
                    keepSecret(pop(), secret);
                    break;
                case LET: set(argument, pop()); break;
                case NEED: fail = pop() == 0 ? 1 : 0; break;
                case TELL: told = pop(); break;
                default: makeRange(argument); break;
            }
        }

        /** The number on top must be below the bound; it stays there. */
        private void lookAt(int bound) {
            int number = pop();
            if (!isBelow(number, bound)) {
                fail = 2;
            }
            push(number);
        }

        private void write(int key, int kind, int v) {
            if (key >= 0 && key < KEYS) {
                kinds[key] = kind;
                written[key] = v;
            }
        }

        private void keepSecret(int number, int secret) {
            int key = FIRST_SUM + SECRETS * proposal.contract + number;
            if (number >= 0 && number < SECRETS) {
                write(key, WRITTEN, sumOf(number, secret, proposal.number));
                secrets[number] = secret;
            }
        }

        private void set(int variable, int v) {
            if (variable >= 0 && variable < variables.length) {
                variables[variable] = v;
            }
        }

        private void makeRange(int variable) {
            int to = pop();
            int from = pop();
            if (from < 0 || from > to || to > PLAIN_KEYS) {
                fail = 2;
                return;
            }
            int many = 0;
            for (int key = from; key < to; key++) {
                if (state.versions[key] != NONE && 2 * itemed + 1 < items.length) {
                    items[2 * itemed] = key;
                    items[2 * itemed + 1] = state.versions[key];
                    itemed++;
                    many++;
                }
            }
            if (3 * ranged + 2 < ranges.length && 3 * framed + 2 < frames.length) {
                ranges[3 * ranged] = from;
                ranges[3 * ranged + 1] = to;
                ranges[3 * ranged + 2] = many;
                ranged++;
                frames[3 * framed] = from;
                frames[3 * framed + 1] = to;
                frames[3 * framed + 2] = variable;
                framed++;
            }
        }

        /** The variable of the innermost loop goes to its next key; without one the loop is closed. */
        private boolean hasNextKey() {
            if (framed <= 0) {
                return false;
            }
            int at = 3 * (framed - 1);
            int to = Math.min(frames[at + 1], PLAIN_KEYS);
            for (int key = Math.max(0, frames[at]); key < to; key++) {
                if (state.versions[key] != NONE) {
                    frames[at] = key + 1;
                    set(frames[at + 2], key);
                    return true;
                }
            }
            framed--;
            return false;
        }

        /** Writes the text of the last run's result, and nothing but that. */
        void writeResult(StringBuilder out) {
            out.setLength(0);
            for (int key = 0; key < KEYS; key++) {
                if (isRead[key]) {
                    out.append('r').append(key).append('@');
                    writeVersion(out, state.versions[key]);
                    out.append(' ');
                }
            }
            writeRanges(out);
            for (int key = 0; key < KEYS; key++) {
                if (kinds[key] == WRITTEN) {
                    out.append('w').append(key).append('=').append(written[key]).append(' ');
                } else if (kinds[key] == DELETED) {
                    out.append('w').append(key).append("x ");
                }
            }
            out.append('t').append(told);
        }

        private void writeRanges(StringBuilder out) {
            int item = 0;
            for (int k = 0; k < ranged; k++) {
                out.append('a').append(cell(ranges, 3 * k)).append('-').append(cell(ranges, 3 * k + 1)).append(':');
                int many = cell(ranges, 3 * k + 2);
                for (int n = 0; n < many; n++) {
                    if (n > 0) {
                        out.append(',');
                    }
                    out.append(cell(items, 2 * item)).append('@');
                    writeVersion(out, cell(items, 2 * item + 1));
                    item++;
                }
                out.append(' ');
            }
        }

        Result makeResult(String text) {
            return new Result(text, copyReads(), Arrays.copyOf(ranges, 3 * ranged), Arrays.copyOf(items, 2 * itemed),
                    copyWrites(), secrets.clone());
        }

        private int[] copyReads() {
            int many = 0;
            for (int key = 0; key < KEYS; key++) {
                many += isRead[key] ? 1 : 0;
            }
            int[] reads = new int[2 * many];
            int at = 0;
            for (int key = 0; key < KEYS && at + 1 < reads.length; key++) {
                if (isRead[key]) {
                    reads[at] = key;
                    reads[at + 1] = state.versions[key];
                    at += 2;
                }
            }
            return reads;
        }

        private int[] copyWrites() {
            int many = 0;
            for (int key = 0; key < KEYS; key++) {
                many += kinds[key] != 0 ? 1 : 0;
            }
            int[] writes = new int[3 * many];
            int at = 0;
            for (int key = 0; key < KEYS && at + 2 < writes.length; key++) {
                if (kinds[key] != 0) {
                    writes[at] = key;
                    writes[at + 1] = kinds[key];
                    writes[at + 2] = written[key];
                    at += 3;
                }
            }
            return writes;
        }
    }
}
