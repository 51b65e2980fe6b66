import java.util.ArrayList;
import java.util.Collections;
import java.util.List;
import java.util.Map;
import java.util.Random;
import java.util.TreeMap;

/**
 * Long runs of 512 calls that are led where the document has its depths: LEADERS change, LOGS part and are mended,
 * MEMBERS come and go, RULINGS change what a later TRANSACTION of their BLOCK needs, SECRETS grow old. Each answer must
 * be the Model's, the last ones are house() of 0 to 13, isSound() and digest(); and all that MUST_MEET names must have
 * been met by the runs together. With arguments: how many runs, from which seed on, and what they met.
 */
public final class LongRunsTest {
    private static final String[] MUST_MEET = {
        "two LEADERS", "three LEADERS", "a greater TERM than a LEADER's", "a greater TERM drops a QUEUE",
        "DOWN with a QUEUE", "DOWN with something HELD BACK", "TOLD by one that is no MEMBER",
        "TOLD a number below MATCH", "no ENTRY at PREV",
        "an ENTRY of another TERM at PREV", "an ENTRY empty goes", "an ENTRY block goes", "an ENTRY members goes",
        "a LEADER that is no MEMBER goes on", "a LEADER leaves", "a LEADER leaves with a QUEUE",
        "a change ahead of an ENTRY of its TERM", "a MEMBER comes back within a TERM", "one MEMBER alone",
        "FAIL 1", "FAIL 2", "FAIL 3", "FAIL 4", "RANGES with KEYS inside one another", "a lie",
        "SUBMITTED again with other ENDORSERS", "ENDORSEMENTS that differ", "a BLOCK from another PEER",
        "CODE 0", "CODE 1", "CODE 2", "CODE 3", "CODE 4", "three CODES or more in a BLOCK",
        "a RULING of its BLOCK makes it CODE 0", "a RULING of its BLOCK makes it CODE 2",
        "HELD BACK goes with CODE 1", "HELD BACK goes with CODE 2", "HELD BACK goes with CODE 3",
        "HELD BACK goes with CODE 4", "held", "an ENDORSER misses", "HELD BACK, but no ENDORSER",
        "a SECRET is found", "a SECRET is found behind a loss", "LOSES what it holds", "too old to be held",
        "too old to be missed",
    };
    private static final String[] READERS = {
        "let i = 0 ; each k in x .. y do let i = i + get k end ; put z = i",
        "each i in x .. y do each j in i .. 40 do let k = k + get j * i end end ; put z = k ; tell k",
        "if has x then put y = get x else tell 7 end", "need get x == z ; put x = y",
        "each k in x .. y do if get k < z then del k else put k = z end end", "put get x = has y - get z",
    };
    private static final String[] SEALERS = {
        "secret x = y ; put z = has z + 1", "secret x = y ; secret x + 1 = y * z",
        "let i = get z ; secret x = y ; each k in 0 .. 40 do let i = i + k end ; tell i", "secret x = open y + z",
    };
    private static final String[] OPENERS = {
        "need open x == y ; del z", "put z = open x", "if open x < y then tell open x else put 30 + z = open x end",
    };
    private static final String[] POLICIES = {
        "org 1", "2 of ( org 0 , org 1 , org 2 )", "org 0", "org 2", "( org 0 or org 1 )", "( org 2 and org 0 )",
        "1 of ( org 2 , ( org 0 and org 1 ) )",
    };

    private final Random random;
    private final Twin twin = new Twin();
    private final Model model = twin.model;
    private final int theme;

    private LongRunsTest(long seed) {
        random = new Random(seed * 104729 + 3);
        theme = (int) Math.floorMod(seed, 5L);
    }

    private Object call(String name, Object... with) {
        return twin.call(name, with);
    }

    private boolean chance(int percent) {
        return random.nextInt(100) < percent;
    }

    private int below(int n) {
        return random.nextInt(n);
    }

    private String one(String[] of) {
        return of[below(of.length)];
    }

    // ---- machines and orderers

    /** The LEADER of the greatest TERM that is UP; NONE without. */
    private int leader() {
        int found = -1;
        for (int o = 0; o < 5; o++) {
            if (model.up[o] && model.ords[o].role == 2 && (found < 0 || model.ords[o].term > model.ords[found].term)) {
                found = o;
            }
        }
        return found;
    }

    private int leaderOrAny() {
        int found = leader();
        return found < 0 ? below(5) : found;
    }

    private void elect() {
        for (int k = 0; k < 4 && leader() < 0; k++) {
            call("tick", 4 + below(10));
        }
    }

    private void settle() {
        for (int m = 0; m < 11; m++) {
            if (model.side[m] != 0) {
                call("side", m, 0);
            }
            if (!model.up[m]) {
                call("up", m);
            }
        }
        call("tick", 1 + below(7));
        elect();
    }

    /** The LEADER stands apart, and goes on to lay; the others elect another one; then they meet again. */
    private void part() {
        elect();
        int old = leaderOrAny();
        call("side", old, 1);
        if (chance(50)) {
            call("side", (old + 1 + below(4)) % 5, 1 + below(2));
        }
        call("side", 5 + below(6), 1 + below(2));
        for (int k = below(3); k >= 0; k--) {
            submitTo(old);
        }
        if (chance(40)) {
            call("member", old, below(5), chance(60));
        }
        call("tick", 1 + below(4));
        call("tick", 8 + below(12));
        int fresh = leaderOrAny();
        for (int k = below(3); k >= 0; k--) {
            submitTo(fresh);
        }
        call("tick", 1 + below(4));
        if (chance(50)) {
            submitTo(old);
        }
        if (chance(30)) {
            call("side", fresh, 2);
            call("tick", 10 + below(10));
        }
        if (chance(30)) {
            call("member", fresh, below(5), chance(60));
        }
        settle();
        submitTo(leaderOrAny());
        lookAtOrderers();
    }

    private void members() {
        elect();
        int leads = leaderOrAny();
        for (int k = 1 + below(3); k > 0; k--) {
            int which = chance(30) ? leads : below(5);
            boolean isIn = !Model.members(model.ords[leads]).contains(which);
            call("member", leads, which, chance(90) == isIn);
            if (chance(30)) {
                submitTo(leads);
            }
            call("tick", chance(25) ? 1 : 3 + below(2));
        }
        if (chance(30)) {
            call("side", leads, 1);
            call("tick", 12 + below(8));
            settle();
        }
        elect();
    }

    private void leavesAndComesBack() {
        elect();
        int leads = leaderOrAny();
        int which = (leads + 1 + below(4)) % 5;
        boolean isIn = Model.members(model.ords[leads]).contains(which);
        call("member", leads, which, !isIn);
        call("tick", chance(50) ? 2 : 3);
        if (chance(50)) {
            submitTo(leads);
            call("tick", 1 + below(4));
        }
        call("member", leads, which, isIn);
        call("tick", 1);
        call("message", Math.max(0, model.underWay.size() - 1));
        call("ofOrderer", which, 3);
        call("tick", 2 + below(3));
    }

    private void downWithQueue() {
        elect();
        int leads = leaderOrAny();
        call("size", 4);
        int first = Math.max(0, model.props.size() - 2);
        for (int k = 1 + below(3); k > 0; k--) {
            submitTo(leads);
        }
        call("queue", leads);
        call("down", leads);
        if (chance(50)) {
            call("tick", 8 + below(12));
        }
        if (chance(30)) {
            call("down", below(5));
        }
        settle();
        for (int p = first; p < model.props.size() && p < first + 3; p++) {
            if (chance(60)) {
                call("endorse", p, below(6));
            }
            call("submit", p, leaderOrAny());
        }
        call("tick", 2 + below(4));
    }

    private void lookAtOrderers() {
        for (int k = 0; k < 3; k++) {
            int o = below(5);
            call("ofOrderer", o, below(12));
            call("entry", o, 1 + below(model.ords[o].log.size() + 1));
        }
        call("message", below(1 + model.underWay.size()));
    }

    // ---- texts and proposals

    private void write(int sheet, String text) {
        for (int k = 0; k < Model.SAMPLES.length; k++) {
            if (Model.SAMPLES[k].equals(text)) {
                call("sample", sheet, k);
                return;
            }
        }
        List<Integer> tokens = Model.tokensOf(text);
        if (tokens.equals(model.sheets.get(sheet))) {
            return;
        }
        call("cut", sheet, 60);
        for (int k = 0; k < tokens.size(); k += 5) {
            Object[] with = {sheet, -1, -1, -1, -1, -1};
            for (int n = 0; n < 5 && k + n < tokens.size(); n++) {
                with[1 + n] = tokens.get(k + n);
            }
            call("type", with);
        }
    }

    /** Proposes with arguments that mostly do not FAIL; the number, NONE without. */
    private int propose(int contract) {
        int x = below(6);
        String text = String.valueOf(model.text(contract));
        int y = text.contains(".. y") ? x + below(chance(90) ? 40 - x : 50) : text.contains("open y") ? below(5) : below(9);
        int z = below(8);
        if (text.startsWith("need get x") && chance(80)) {
            z = model.value(below(6), x);
        }
        if (text.contains("secret") || text.contains("open")) {
            x = below(chance(90) ? 4 : 7);
        }
        if (text.startsWith("need open x") && chance(90)) {
            y = model.secret(below(6), contract, Math.min(4, x));
        }
        Object number = call("propose", contract, x, chance(3) ? random.nextInt() : y, chance(2) ? random.nextInt() : z);
        return number instanceof Integer k && k >= 0 ? k : -1;
    }

    private void endorse(int proposal, int many) {
        int first = below(6);
        for (int k = 0; k < many && proposal >= 0; k++) {
            call("endorse", proposal, (first + k) % 6);
        }
    }

    private void submitTo(int orderer) {
        if (chance(30) && !model.props.isEmpty()) {
            call("submit", below(model.props.size()), orderer);
            return;
        }
        int p = propose(below(3));
        endorse(p, 1 + below(3));
        if (p >= 0) {
            call("submit", p, orderer);
        }
    }

    private void tickOn() {
        call("tick", 4 + below(3));
        elect();
    }

    /** TRANSACTIONS that are in one another's way, in one or two BLOCKS. */
    private void block() {
        elect();
        call("size", 2 + below(3));
        write(below(3), chance(50) ? Model.SAMPLES[0] : one(READERS));
        List<Integer> row = new ArrayList<>();
        for (int k = 2 + below(3); k > 0; k--) {
            int p = propose(below(3));
            if (p >= 0) {
                endorse(p, 1 + below(3));
                row.add(p);
            }
        }
        if (chance(40) && !row.isEmpty()) {
            row.add(row.get(below(row.size())));
        }
        if (chance(30)) {
            row.add(below(1 + model.props.size()));
        }
        Collections.shuffle(row, random);
        for (int p : row) {
            call("submit", p, leaderOrAny());
        }
        tickOn();
        int peer = below(6);
        call("block", peer, Math.max(0, model.pees[peer].chain.size() - 1));
    }

    /** A RULING ahead of TRANSACTIONS of its CONTRACT, in their BLOCK. */
    private void ruling() {
        elect();
        call("size", 4);
        write(3, one(POLICIES));
        int contract = below(3);
        Object number = call("ruling", contract, 3);
        if (!(number instanceof Integer k) || k < 0) {
            return;
        }
        int rule = k;
        int first = below(6);
        call("endorse", rule, first);
        call("endorse", rule, chance(90) ? (first + 2 + below(3)) % 6 : first ^ 1);
        int ahead = propose(contract);
        endorse(ahead, 1 + below(4));
        int behind = propose(contract);
        endorse(behind, 1 + below(4));
        int leads = leaderOrAny();
        if (chance(30)) {
            call("submit", Math.max(0, ahead), leads);
        }
        call("submit", rule, leads);
        call("submit", Math.max(0, behind), leads);
        call("submit", Math.max(0, chance(50) ? ahead : rule), leads);
        tickOn();
        call("version", below(6), 40 + contract);
    }

    private void lie() {
        elect();
        int liar = below(6);
        call("lie", liar, true);
        if (chance(50)) {
            call("lie", (liar + 2) % 6, true);
        }
        int p = propose(below(3));
        endorse(p, 2 + below(4));
        if (p >= 0) {
            call("ofProposal", p, 7);
            call("result", p, liar);
            call("submit", p, leaderOrAny());
            tickOn();
            if (chance(60)) {
                endorse(p, 4);
                call("submit", p, leaderOrAny());
                tickOn();
            }
        }
        if (chance(70)) {
            call("lie", liar, false);
        }
    }

    /** Many KEYS, and loops over them that are too long. */
    private void loops() {
        elect();
        write(0, "put x = y ; put x + 1 = y ; put x + 2 = y ; put x + 3 = y");
        for (int k = 0; k < 3; k++) {
            Object p = call("propose", 0, below(36), below(9), 0);
            endorse(p instanceof Integer n ? n : -1, 1);
            call("submit", Math.max(0, model.props.size() - 1), leaderOrAny());
            tickOn();
        }
        write(1, READERS[1]);
        Object p = call("propose", 1, 0, 40, 39);
        endorse(p instanceof Integer n ? n : -1, 1);
        p = call("propose", 1, 20 + below(10), 40, 38);
        if (p instanceof Integer n && n >= 0) {
            endorse(n, 2);
            call("result", n, below(6));
            call("submit", n, leaderOrAny());
        }
        tickOn();
    }

    // ---- secrets

    private void seal() {
        elect();
        int contract = below(3);
        write(contract, one(SEALERS));
        for (int k = 1 + below(3); k > 0; k--) {
            int p = propose(contract);
            endorse(p, 1 + below(4));
            if (p < 0) {
                return;
            }
            if (chance(35)) {
                int peer = 5 + below(6);
                call("down", peer);
                call("up", peer);
            }
            call("submit", p, leaderOrAny());
            if (chance(25)) {
                call("endorse", p, below(6));
            }
            if (chance(25)) {
                call("submit", p, leaderOrAny());
            }
        }
        tickOn();
        lookForSecrets(contract);
    }

    private void open() {
        elect();
        int contract = below(3);
        write(contract, one(OPENERS));
        int p = propose(contract);
        if (p >= 0) {
            for (int peer = 0; peer < 6; peer++) {
                call(chance(40) ? "would" : "endorse", p, peer);
            }
            call("submit", p, leaderOrAny());
            tickOn();
        }
    }

    private void lose() {
        int peer = below(6);
        boolean isParted = chance(50);
        if (isParted) {
            call("side", 5 + peer, 2);
        }
        for (int k = 1 + below(4); k > 0; k--) {
            call("lose", chance(50) ? peer : below(6));
        }
        call("ofPeer", peer, 7);
        call("tick", 1);
        if (isParted) {
            submitTo(leaderOrAny());
            call("tick", 3);
            call("side", 5 + peer, 0);
        }
        call("tick", 1 + below(2));
        lookForSecrets(below(3));
    }

    private void lookForSecrets(int contract) {
        int peer = below(6);
        call("ofPeer", peer, 6 + below(3));
        for (int k = 0; k < 2; k++) {
            int secret = below(5);
            call("holds", peer, contract, secret);
            call("secret", peer, contract, secret);
        }
    }

    /** BLOCKS with nothing but time in them. */
    private void grow() {
        elect();
        call("size", 1);
        for (int k = 0; k < 3 + below(4) && !model.props.isEmpty(); k++) {
            call("submit", below(model.props.size()), leaderOrAny());
        }
        call("tick", 8 + below(4));
    }

    private void unrest() {
        for (int k = 0; k < 3; k++) {
            int machine = below(11);
            call(model.up[machine] && chance(40) ? "down" : "up", machine);
            call("side", below(11), below(3));
            call("source", below(6), below(5));
            call("tick", 1 + below(12));
        }
        settle();
    }

    private void look() {
        int peer = below(6);
        call("state", peer);
        call("ofPeer", peer, below(10));
        call("hash", peer, below(1 + model.pees[peer].chain.size()));
        call("isSound");
        call("digest");
    }

    // ---- the runs

    private void act() {
        int what = below(chance(60) ? 3 : 15);
        int[][] themes = {{0, 3, 0}, {1, 2, 0}, {4, 5, 6}, {8, 9, 10}, {7, 8, 11}};
        switch (what < 3 ? themes[theme][what] : what) {
            case 0: part(); break;
            case 1: members(); break;
            case 2: leavesAndComesBack(); break;
            case 3: downWithQueue(); break;
            case 4: block(); break;
            case 5: ruling(); break;
            case 6: lie(); break;
            case 7: if (theme == 4 && chance(40)) { loops(); } else { block(); } break;
            case 8: seal(); break;
            case 9: open(); break;
            case 10: lose(); break;
            case 11: grow(); break;
            case 12: unrest(); break;
            case 13: settle(); break;
            default: look(); break;
        }
    }

    private boolean holds() {
        for (int sheet = 0; sheet < 3; sheet++) {
            write(sheet, Model.SAMPLES[chance(70) ? 0 : 5]);
        }
        for (int k = 0; k < 400 && twin.left() > 0; k++) {
            act();
        }
        return twin.ends();
    }

    public static void main(String[] args) {
        int runs = args.length > 0 ? Integer.parseInt(args[0]) : 250;
        int from = args.length > 1 ? Integer.parseInt(args[1]) : 0;
        Map<String, Integer> met = new TreeMap<>();
        int wrong = 0;
        for (int seed = from; seed < from + runs && wrong < 3; seed++) {
            LongRunsTest test = new LongRunsTest(seed);
            if (!test.holds()) {
                wrong++;
                test.twin.tell(seed);
            }
            test.model.met.forEach((what, times) -> met.merge(what, times, Integer::sum));
        }
        for (String what : MUST_MEET) {
            if (!met.containsKey(what) && args.length == 0) {
                wrong++;
                System.out.println("never met: " + what);
            }
        }
        if (args.length > 0) {
            met.forEach((what, times) -> System.out.println(what + ": " + times));
        }
        System.out.println(wrong == 0 ? runs + " long runs are as the model tells" : wrong + " faults");
        System.exit(wrong == 0 ? 0 : 1);
    }
}
