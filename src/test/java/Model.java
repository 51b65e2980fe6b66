import java.util.ArrayList;
import java.util.Arrays;
import java.util.HashMap;
import java.util.HashSet;
import java.util.LinkedHashMap;
import java.util.List;
import java.util.Map;
import java.util.Set;
import java.util.TreeMap;
import java.util.TreeSet;

/**
 * The document told a second time, as plainly as can be and with nothing taken from the class: states are made
 * anew from the chains at each look, texts are walked as trees, and faults are found with Earley's sets. It is slow
 * and wasteful by intent; ModelTest compares the class with it.
 */
final class Model {
    static final int NONE = -1;
    static final int REFUSED = -9;

    record Version(int block, int place) {
        String told() {
            return block + "." + place;
        }
    }

    record Range(int from, int to, TreeMap<Integer, Version> there) { }

    record Outcome(int fail, TreeMap<Integer, Version> reads, List<Range> ranges, TreeMap<Integer, Integer> writes,
            TreeMap<Integer, Integer> secrets, int tells) { }

    record Tx(int proposal, Set<Integer> endorsers, String text, Outcome outcome) { }

    record Entry(int term, String kind, Set<Integer> members, List<Tx> txs) { }

    record Queued(Tx tx, int came) { }

    record Held(Version version, int value) { }

    record Said(int peer, String text, Outcome outcome) { }

    static final class Msg {
        int from;
        int to;
        String kind;
        int term;
        boolean yes;
        int number;
        int numberTerm;
        int commit;
        List<Entry> entries = List.of();
    }

    static final class Ord {
        int term = 0;
        int vote = NONE;
        int role = 0;
        List<Entry> log = new ArrayList<>();
        int commit = 0;
        int waited = 0;
        int leader = NONE;
        List<Queued> queue = new ArrayList<>();
        Set<Integer> votes = new HashSet<>();
        int[] next = new int[5];
        int[] match = new int[5];
    }

    static final class Prop {
        int contract;
        int x;
        int y;
        int z;
        int rule = NONE;
        List<Integer> tokens = new ArrayList<>();
        List<Said> endorsements = new ArrayList<>();
        int submitted = 0;
        Set<Integer> submittedBy = Set.of();
    }

    static final class Pee {
        int source;
        boolean lies;
        List<Entry> chain = new ArrayList<>();
        TreeMap<Integer, Held> held = new TreeMap<>();
        TreeMap<Integer, Version> missed = new TreeMap<>();
        Set<Integer> heldBack = new HashSet<>();
        boolean hasLost = false;
    }

    boolean[] up = new boolean[11];
    int[] side = new int[11];
    Ord[] ords = new Ord[5];
    Pee[] pees = new Pee[6];
    List<Msg> underWay = new ArrayList<>();
    List<List<Integer>> sheets = new ArrayList<>();
    List<Prop> props = new ArrayList<>();
    Set<Integer> ledTerms = new HashSet<>();
    int now, size = 2, submitted, sent, lost, greatestCommit, endorsed, refused, blanks, knocks;
    /** How often a run came to what is worth coming to; no answer depends on it. */
    final TreeMap<String, Integer> met = new TreeMap<>();

    Model() {
        Arrays.fill(up, true);
        for (int k = 0; k < 5; k++) {
            ords[k] = new Ord();
        }
        for (int k = 0; k < 6; k++) {
            pees[k] = new Pee();
            pees[k].source = k % 3;
        }
        for (int k = 0; k < 4; k++) {
            sheets.add(new ArrayList<>());
        }
    }

    private void met(boolean isSo, String what) {
        if (isSo) {
            met.merge(what, 1, Integer::sum);
        }
    }

    private static void place(boolean isThere) {
        if (!isThere) {
            throw new IndexOutOfBoundsException();
        }
    }

    private static void worth(boolean isGood) {
        if (!isGood) {
            throw new IllegalArgumentException();
        }
    }

    private static boolean in(int k, int from, int to) {
        return k >= from && k <= to;
    }

    private int refuse() {
        refused++;
        return REFUSED;
    }

    private static int told(Set<Integer> set) {
        int sum = 0;
        for (int k : set) {
            sum += Math.pow(2, k);
        }
        return sum;
    }

    // ---- machines

    public int tick(int many) {
        worth(in(many, 1, 20));
        for (int k = 0; k < many; k++) {
            oneTick();
        }
        return now;
    }

    private void oneTick() {
        now++;
        List<Msg> mail = underWay;
        underWay = new ArrayList<>();
        for (Msg m : mail) {
            if (side[m.from] != side[m.to] || !up[m.to]) {
                lost++;
            } else {
                deliver(m);
            }
        }
        for (int o = 0; o < 5; o++) {
            if (up[o]) {
                ownTurn(o);
            }
        }
        for (int p = 0; p < 6; p++) {
            if (up[5 + p]) {
                peerTurn(p);
            }
        }
        int leaders = house(6);
        met(leaders == 2, "two LEADERS");
        met(leaders > 2, "three LEADERS");
    }

    public int side(int machine, int s) {
        place(in(machine, 0, 10));
        worth(in(s, 0, 2));
        int before = side[machine];
        side[machine] = s;
        return before;
    }

    public int down(int machine) {
        place(in(machine, 0, 10));
        if (!up[machine]) {
            return refuse();
        }
        up[machine] = false;
        if (machine < 5) {
            met(!ords[machine].queue.isEmpty(), "DOWN with a QUEUE");
            Ord fresh = new Ord();
            fresh.term = ords[machine].term;
            fresh.vote = ords[machine].vote;
            fresh.log = ords[machine].log;
            ords[machine] = fresh;
        } else {
            met(!pees[machine - 5].heldBack.isEmpty(), "DOWN with something HELD BACK");
            pees[machine - 5].heldBack.clear();
        }
        return ups();
    }

    public int up(int machine) {
        place(in(machine, 0, 10));
        if (up[machine]) {
            return refuse();
        }
        up[machine] = true;
        return ups();
    }

    private int ups() {
        int many = 0;
        for (boolean u : up) {
            many += u ? 1 : 0;
        }
        return many;
    }

    public int ofMachine(int machine, int what) {
        place(in(machine, 0, 10));
        worth(in(what, 0, 2));
        if (what == 0) {
            return up[machine] ? 1 : 0;
        }
        if (what == 1) {
            return side[machine];
        }
        Set<Integer> set = new HashSet<>();
        for (int k = 0; k < 11; k++) {
            if (up[k] && side[k] == side[machine]) {
                set.add(k);
            }
        }
        set.remove(machine);
        return told(set);
    }

    // ---- orderers

    private static int lastTerm(Ord o) {
        return o.log.isEmpty() ? 0 : o.log.get(o.log.size() - 1).term;
    }

    static Set<Integer> members(Ord o) {
        for (int k = o.log.size() - 1; k >= 0; k--) {
            if (o.log.get(k).kind.equals("members")) {
                return o.log.get(k).members;
            }
        }
        return Set.of(0, 1, 2);
    }

    private static boolean many(Set<Integer> some, Set<Integer> all) {
        Set<Integer> both = new HashSet<>(some);
        both.retainAll(all);
        return both.size() > all.size() / 2.0;
    }

    private Msg send(int from, int to, String kind) {
        Msg m = new Msg();
        m.from = from;
        m.to = to;
        m.kind = kind;
        m.term = ords[from].term;
        underWay.add(m);
        sent++;
        return m;
    }

    private void deliver(Msg m) {
        Ord o = ords[m.to];
        if (m.term > o.term) {
            met(o.role == 2, "a greater TERM than a LEADER's");
            met(!o.queue.isEmpty(), "a greater TERM drops a QUEUE");
            o.term = m.term;
            o.vote = NONE;
            o.leader = NONE;
            o.role = 0;
            o.queue.clear();
        }
        switch (m.kind) {
            case "ask" -> {
                boolean newer = lastTerm(o) > m.numberTerm || lastTerm(o) == m.numberTerm && o.log.size() > m.number;
                boolean no = m.term < o.term || o.vote != NONE && o.vote != m.from || newer;
                if (!no) {
                    o.vote = m.from;
                    o.waited = 0;
                }
                send(m.to, m.from, "say").yes = !no;
            }
            case "say" -> {
                if (m.yes && m.term == o.term && o.role == 1) {
                    o.votes.add(m.from);
                    if (many(o.votes, members(o))) {
                        toLead(m.to);
                    }
                }
            }
            case "append" -> hearAppend(o, m);
            default -> {
                if (m.term == o.term && o.role == 2) {
                    met(!members(o).contains(m.from), "TOLD by one that is no MEMBER");
                    met(m.yes && m.number < o.match[m.from], "TOLD a number below MATCH");
                    if (m.yes) {
                        o.match[m.from] = Math.max(o.match[m.from], m.number);
                        o.next[m.from] = o.match[m.from] + 1;
                        grow(m.to);
                    } else {
                        o.next[m.from] = Math.max(1, Math.min(o.next[m.from] - 1, m.number + 1));
                    }
                }
            }
        }
    }

    private void hearAppend(Ord o, Msg m) {
        if (m.term < o.term) {
            Msg no = send(m.to, m.from, "told");
            no.yes = false;
            no.number = 0;
            return;
        }
        o.role = 0;
        o.leader = m.from;
        o.waited = 0;
        int prev = m.number;
        if (prev > 0 && (o.log.size() < prev || o.log.get(prev - 1).term != m.numberTerm)) {
            met(o.log.size() < prev, "no ENTRY at PREV");
            met(o.log.size() >= prev, "an ENTRY of another TERM at PREV");
            Msg no = send(m.to, m.from, "told");
            no.yes = false;
            no.number = Math.min(prev - 1, o.log.size());
            return;
        }
        int n = prev;
        for (Entry e : m.entries) {
            n++;
            if (o.log.size() >= n && o.log.get(n - 1).term != e.term) {
                for (Entry gone : o.log.subList(n - 1, o.log.size())) {
                    met(true, "an ENTRY " + gone.kind + " goes");
                }
                o.log = new ArrayList<>(o.log.subList(0, n - 1));
            }
            if (o.log.size() < n) {
                o.log.add(e);
            }
        }
        commitTo(o, Math.max(o.commit, Math.min(m.commit, prev + m.entries.size())));
        Msg yes = send(m.to, m.from, "told");
        yes.yes = true;
        yes.number = prev + m.entries.size();
    }

    private void commitTo(Ord o, int n) {
        o.commit = n;
        greatestCommit = Math.max(greatestCommit, n);
    }

    private void toLead(int number) {
        Ord o = ords[number];
        o.role = 2;
        o.leader = number;
        for (int k = 0; k < 5; k++) {
            o.next[k] = o.log.size() + 1;
            o.match[k] = 0;
        }
        o.log.add(new Entry(o.term, "empty", Set.of(), List.of()));
        ledTerms.add(o.term);
    }

    private void grow(int number) {
        Ord o = ords[number];
        for (int n = o.commit + 1; n <= o.log.size(); n++) {
            if (o.log.get(n - 1).term == o.term) {
                Set<Integer> have = new HashSet<>(Set.of(number));
                for (int k = 0; k < 5; k++) {
                    if (k != number && o.match[k] >= n) {
                        have.add(k);
                    }
                }
                if (many(have, members(o))) {
                    commitTo(o, n);
                }
            }
        }
    }

    private void ownTurn(int number) {
        Ord o = ords[number];
        if (o.role == 2) {
            leaderTurn(number);
            return;
        }
        o.waited++;
        if (o.waited >= 4 + 2 * number && members(o).contains(number)) {
            o.role = 1;
            o.term++;
            o.vote = number;
            o.waited = 0;
            o.leader = NONE;
            o.votes = new HashSet<>(Set.of(number));
            for (int k : new TreeSet<>(members(o))) {
                if (k != number) {
                    Msg ask = send(number, k, "ask");
                    ask.number = o.log.size();
                    ask.numberTerm = lastTerm(o);
                }
            }
            if (many(o.votes, members(o))) {
                toLead(number);
            }
        }
    }

    private void leaderTurn(int number) {
        Ord o = ords[number];
        if (o.queue.size() >= size || !o.queue.isEmpty() && o.queue.get(0).came + 3 <= now) {
            List<Tx> txs = new ArrayList<>();
            while (txs.size() < size && !o.queue.isEmpty()) {
                txs.add(o.queue.remove(0).tx);
            }
            o.log.add(new Entry(o.term, "block", Set.of(), txs));
        }
        grow(number);
        for (int k : new TreeSet<>(members(o))) {
            if (k != number) {
                Msg a = send(number, k, "append");
                a.number = o.next[k] - 1;
                a.numberTerm = a.number == 0 ? 0 : o.log.get(a.number - 1).term;
                a.entries = new ArrayList<>(o.log.subList(a.number, Math.min(o.log.size(), a.number + 3)));
                a.commit = o.commit;
            }
        }
        boolean settled = true;
        for (int n = o.commit; n < o.log.size(); n++) {
            settled &= !o.log.get(n).kind.equals("members");
        }
        met(!members(o).contains(number) && !settled, "a LEADER that is no MEMBER goes on");
        if (!members(o).contains(number) && settled) {
            met(true, "a LEADER leaves");
            met(!o.queue.isEmpty(), "a LEADER leaves with a QUEUE");
            o.role = 0;
            o.leader = NONE;
            o.waited = 0;
            o.queue.clear();
        }
    }

    private static int blocks(List<Entry> log, int upTo) {
        int many = 0;
        for (int k = 0; k < upTo; k++) {
            many += log.get(k).kind.equals("block") ? 1 : 0;
        }
        return many;
    }

    public int ofOrderer(int orderer, int what) {
        place(in(orderer, 0, 4));
        worth(in(what, 0, 11));
        Ord o = ords[orderer];
        return switch (what) {
            case 0 -> o.role;
            case 1 -> o.term;
            case 2 -> o.vote;
            case 3 -> o.log.size();
            case 4 -> lastTerm(o);
            case 5 -> o.commit;
            case 6 -> o.waited;
            case 7 -> o.leader;
            case 8 -> o.queue.size();
            case 9 -> told(members(o));
            case 10 -> blocks(o.log, o.log.size());
            default -> blocks(o.log, o.commit);
        };
    }

    public String entry(int orderer, int number) {
        place(in(orderer, 0, 4));
        place(in(number, 1, ords[orderer].log.size()));
        Entry e = ords[orderer].log.get(number - 1);
        String s = e.term + " " + e.kind;
        for (Tx tx : e.txs) {
            s += " " + tx.proposal;
        }
        return e.kind.equals("members") ? s + " " + told(e.members) : s;
    }

    public String queue(int orderer) {
        place(in(orderer, 0, 4));
        List<String> parts = new ArrayList<>();
        for (Queued q : ords[orderer].queue) {
            parts.add("" + q.tx.proposal);
        }
        return String.join(" ", parts);
    }

    public int size(int s) {
        worth(in(s, 1, 4));
        int before = size;
        size = s;
        return before;
    }

    public int member(int orderer, int which, boolean isIn) {
        place(in(orderer, 0, 4) && in(which, 0, 4));
        Ord o = ords[orderer];
        if (!up[orderer] || o.role != 2) {
            return refuse();
        }
        boolean ownTerm = false;
        for (int n = 1; n <= o.log.size(); n++) {
            if (n > o.commit && o.log.get(n - 1).kind.equals("members")) {
                return refuse();
            }
            ownTerm |= n <= o.commit && o.log.get(n - 1).term == o.term;
        }
        Set<Integer> after = new TreeSet<>(members(o));
        boolean changes = isIn ? after.add(which) : after.remove(which);
        met(!ownTerm, "a change ahead of an ENTRY of its TERM");
        if (!ownTerm || !changes || after.isEmpty()) {
            return refuse();
        }
        met(isIn && o.match[which] > 0, "a MEMBER comes back within a TERM");
        met(after.size() == 1, "one MEMBER alone");
        o.log.add(new Entry(o.term, "members", after, List.of()));
        return o.log.size();
    }

    public int messages() {
        return underWay.size();
    }

    public String message(int k) {
        place(in(k, 0, underWay.size() - 1));
        Msg m = underWay.get(k);
        String s = m.from + ">" + m.to + " " + m.kind + " " + m.term;
        String yes = m.yes ? " yes" : " no";
        return switch (m.kind) {
            case "ask" -> s + " " + m.number + " " + m.numberTerm;
            case "say" -> s + yes;
            case "append" -> s + " " + m.number + " " + m.numberTerm + " " + m.entries.size() + " " + m.commit;
            default -> s + yes + " " + m.number;
        };
    }

    // ---- texts

    static final String[] NAMES = ("x y z i j k put del secret let need tell if then else end each in .. do get has "
            + "open ( ) = + - * < == ; org of and or ,").split(" ");
    static final String[] SAMPLES = {
        "put x = get x + y", "need get x == z ; put x = y",
        "let i = 0 ; each k in x .. y do let i = i + get k end ; put z = i", "secret x = y ; put z = has z + 1",
        "need open x == y ; del z", "if has x then put y = get x else tell 7 end", "org 1",
        "2 of ( org 0 , org 1 , org 2 )",
    };

    static String name(int token) {
        return token < 100 ? "" + token : NAMES[token - 100];
    }

    static List<Integer> tokensOf(String text) {
        List<Integer> tokens = new ArrayList<>();
        for (String word : text.split(" ")) {
            int at = Arrays.asList(NAMES).indexOf(word);
            tokens.add(at >= 0 ? 100 + at : Integer.parseInt(word));
        }
        return tokens;
    }

    public int type(int sheet, int a, int b, int c, int d, int e) {
        place(in(sheet, 0, 3));
        List<Integer> more = new ArrayList<>(List.of(a, b, c, d, e));
        for (int t : more) {
            worth(in(t, NONE, 136));
        }
        more.removeIf(t -> t == NONE);
        if (sheets.get(sheet).size() + more.size() > 60) {
            throw new IllegalStateException();
        }
        sheets.get(sheet).addAll(more);
        return sheets.get(sheet).size();
    }

    public int cut(int sheet, int many) {
        place(in(sheet, 0, 3));
        worth(in(many, 1, 60));
        for (int k = 0; k < many && !sheets.get(sheet).isEmpty(); k++) {
            sheets.get(sheet).remove(sheets.get(sheet).size() - 1);
        }
        return sheets.get(sheet).size();
    }

    public int sample(int sheet, int k) {
        place(in(sheet, 0, 3));
        worth(in(k, 0, 7));
        sheets.set(sheet, tokensOf(SAMPLES[k]));
        return sheets.get(sheet).size();
    }

    public String text(int sheet) {
        place(in(sheet, 0, 3));
        List<String> parts = new ArrayList<>();
        for (int t : sheets.get(sheet)) {
            parts.add(name(t));
        }
        return String.join(" ", parts);
    }

    static final String CONTRACT_RULES = "RUN: ST | RUN ; ST\n"
            + "ST: put E = E | del E | secret E = E | let VAR = E | need E | tell E | if E then RUN end"
            + " | if E then RUN else RUN end | each VAR in E .. E do RUN end\n"
            + "E: T | E + T | E - T | E * T | E < T | E == T\nT: NUM | VAR | get T | has T | open T | ( E )";
    static final String POLICY_RULES = "P: org NUM | NUM of ( L ) | ( P and P ) | ( P or P )\nL: P | L , P";

    record Item(String left, List<String> right, int dot, int from) { }

    private static Map<String, List<List<String>>> grammar(String rules) {
        Map<String, List<List<String>>> g = new LinkedHashMap<>();
        for (String line : rules.split("\n")) {
            String[] two = line.split(": ");
            g.put(two[0], new ArrayList<>());
            for (String one : two[1].split(" \\| ")) {
                g.get(two[0]).add(List.of(one.split(" ")));
            }
        }
        return g;
    }

    private static boolean fits(String sign, int token) {
        return switch (sign) {
            case "NUM" -> token < 100;
            case "VAR" -> in(token, 100, 105);
            default -> sign.equals(name(token)) && token >= 106;
        };
    }

    /** Earley's sets: the first place whose set is empty is the fault of the form. */
    static int formFault(List<Integer> tokens, String rules, String start) {
        Map<String, List<List<String>>> g = grammar(rules);
        List<Set<Item>> sets = new ArrayList<>();
        for (int k = 0; k <= tokens.size(); k++) {
            sets.add(new HashSet<>());
        }
        for (List<String> right : g.get(start)) {
            sets.get(0).add(new Item(start, right, 0, 0));
        }
        for (int k = 0; k <= tokens.size(); k++) {
            List<Item> open = new ArrayList<>(sets.get(k));
            if (open.isEmpty()) {
                return k - 1;
            }
            for (int at = 0; at < open.size(); at++) {
                Item i = open.get(at);
                List<Item> found = new ArrayList<>();
                if (i.dot == i.right.size()) {
                    for (Item j : sets.get(i.from)) {
                        if (j.dot < j.right.size() && j.right.get(j.dot).equals(i.left)) {
                            found.add(new Item(j.left, j.right, j.dot + 1, j.from));
                        }
                    }
                } else if (g.containsKey(i.right.get(i.dot))) {
                    for (List<String> right : g.get(i.right.get(i.dot))) {
                        found.add(new Item(i.right.get(i.dot), right, 0, k));
                    }
                } else if (k < tokens.size() && fits(i.right.get(i.dot), tokens.get(k))) {
                    sets.get(k + 1).add(new Item(i.left, i.right, i.dot + 1, i.from));
                }
                for (Item f : found) {
                    if (sets.get(k).add(f)) {
                        open.add(f);
                    }
                }
            }
        }
        for (Item i : sets.get(tokens.size())) {
            if (i.left.equals(start) && i.from == 0 && i.dot == i.right.size()) {
                return NONE;
            }
        }
        return tokens.size();
    }

    /** A policy's tree, walked for the sets of orgs one by one. */
    private static final class Party {
        final List<Integer> tokens;
        int at = 0;
        TreeSet<Integer> wrong = new TreeSet<>();

        Party(List<Integer> tokens) {
            this.tokens = tokens;
        }

        boolean enough(Set<Integer> orgs) {
            String word = name(tokens.get(at++));
            if (word.equals("org")) {
                int n = tokens.get(at++);
                if (n > 2) {
                    wrong.add(at - 1);
                }
                return orgs.contains(n);
            }
            if (word.equals("(")) {
                boolean one = enough(orgs);
                String how = name(tokens.get(at++));
                boolean other = enough(orgs);
                at++;
                return how.equals("and") ? one && other : one || other;
            }
            int place = at - 1;
            int least = tokens.get(place);
            at += 2;
            int all = 0;
            int yes = 0;
            do {
                all++;
                yes += enough(orgs) ? 1 : 0;
            } while (name(tokens.get(at++)).equals(","));
            if (least < 1 || least > all) {
                wrong.add(place);
            }
            return yes >= least;
        }
    }

    private static Set<Integer> setOf(int told) {
        Set<Integer> set = new TreeSet<>();
        for (int k = 0; k < 31; k++) {
            if ((told & 1 << k) != 0) {
                set.add(k);
            }
        }
        return set;
    }

    static int ruleOf(List<Integer> tokens) {
        int rule = 0;
        for (int orgs = 0; orgs < 8; orgs++) {
            rule += new Party(tokens).enough(setOf(orgs)) ? 1 << orgs : 0;
        }
        return rule;
    }

    public int fault(int sheet, boolean isPolicy) {
        place(in(sheet, 0, 3));
        List<Integer> tokens = sheets.get(sheet);
        if (!isPolicy) {
            return formFault(tokens, CONTRACT_RULES, "RUN");
        }
        int fault = formFault(tokens, POLICY_RULES, "P");
        if (fault != NONE) {
            return fault;
        }
        Party party = new Party(tokens);
        party.enough(Set.of());
        return party.wrong.isEmpty() ? NONE : party.wrong.first();
    }

    public int rule(int sheet) {
        return fault(sheet, true) != NONE ? NONE : ruleOf(sheets.get(sheet));
    }

    // ---- proposals

    public int propose(int contract, int x, int y, int z) {
        place(in(contract, 0, 3));
        if (fault(contract, false) != NONE || props.size() == 50) {
            return refuse();
        }
        Prop p = new Prop();
        p.contract = contract;
        p.x = x;
        p.y = y;
        p.z = z;
        p.tokens = new ArrayList<>(sheets.get(contract));
        props.add(p);
        return props.size() - 1;
    }

    public int ruling(int contract, int sheet) {
        place(in(contract, 0, 3) && in(sheet, 0, 3));
        if (fault(sheet, true) != NONE || props.size() == 50) {
            return refuse();
        }
        Prop p = new Prop();
        p.contract = contract;
        p.rule = rule(sheet);
        props.add(p);
        return props.size() - 1;
    }

    static final class Fail extends RuntimeException {
        final int how;

        Fail(int how) {
            super(null, null, false, false);
            this.how = how;
        }
    }

    /** A run of a contract's text, straight from its tokens. */
    private final class Run {
        final int number;
        final Prop prop;
        final TreeMap<Integer, Integer> values = new TreeMap<>();
        final TreeMap<Integer, Version> versions = new TreeMap<>();
        final Map<Integer, Held> held;
        final Map<String, Integer> variables = new HashMap<>();
        final TreeMap<Integer, Version> reads = new TreeMap<>();
        final List<Range> ranges = new ArrayList<>();
        final TreeMap<Integer, Integer> writes = new TreeMap<>();
        final TreeMap<Integer, Integer> secrets = new TreeMap<>();
        int tells = 0;
        int statements = 0;
        int at = 0;

        Run(int number, Told state, Map<Integer, Held> held) {
            this.number = number;
            this.prop = props.get(number);
            values.putAll(state.values);
            versions.putAll(state.versions);
            this.held = held;
            for (String v : new String[] {"i", "j", "k"}) {
                variables.put(v, 0);
            }
            variables.put("x", prop.x);
            variables.put("y", prop.y);
            variables.put("z", prop.z);
        }

        Outcome go() {
            int fail = 0;
            try {
                if (prop.rule != NONE) {
                    reads.put(40 + prop.contract, versions.get(40 + prop.contract));
                    writes.put(40 + prop.contract, prop.rule);
                } else {
                    run(true);
                }
            } catch (Fail f) {
                fail = f.how;
                met(true, "FAIL " + fail);
            }
            met(fail == 0 && ranges.stream().filter(r -> !r.there.isEmpty()).count() > 2, "RANGES with KEYS inside one another");
            return new Outcome(fail, reads, ranges, writes, secrets, tells);
        }

        String word() {
            return at < prop.tokens.size() ? name(prop.tokens.get(at)) : "";
        }

        void run(boolean does) {
            statement(does);
            while (word().equals(";")) {
                at++;
                statement(does);
            }
        }

        int key(int k, int bound) {
            if (k < 0 || k >= bound) {
                throw new Fail(2);
            }
            return k;
        }

        void statement(boolean does) {
            if (does && ++statements > 100) {
                throw new Fail(4);
            }
            String word = word();
            at++;
            switch (word) {
                case "put" -> {
                    int k = expression(does);
                    k = does ? key(k, 40) : 0;
                    at++;
                    int v = expression(does);
                    if (does) {
                        writes.put(k, v);
                    }
                }
                case "del" -> {
                    int k = expression(does);
                    if (does) {
                        writes.put(key(k, 40), null);
                    }
                }
                case "secret" -> {
                    int s = expression(does);
                    s = does ? key(s, 5) : 0;
                    at++;
                    int v = expression(does);
                    if (does) {
                        writes.put(44 + 5 * prop.contract + s, sum(s, v, number));
                        secrets.put(44 + 5 * prop.contract + s, v);
                    }
                }
                case "let" -> {
                    String name = word();
                    at += 2;
                    int v = expression(does);
                    if (does) {
                        variables.put(name, v);
                    }
                }
                case "need" -> {
                    if (expression(does) == 0 && does) {
                        throw new Fail(1);
                    }
                }
                case "tell" -> {
                    int v = expression(does);
                    tells = does ? v : tells;
                }
                case "if" -> {
                    boolean isSo = expression(does) != 0;
                    at++;
                    run(does && isSo);
                    if (word().equals("else")) {
                        at++;
                        run(does && !isSo);
                    }
                    at++;
                }
                default -> each(does);
            }
        }

        void each(boolean does) {
            String name = word();
            at += 2;
            int a = expression(does);
            at++;
            int b = expression(does);
            at++;
            int body = at;
            if (does) {
                if (a < 0 || a > b || b > 40) {
                    throw new Fail(2);
                }
                Range r = new Range(a, b, new TreeMap<>(versions.subMap(a, b)));
                ranges.add(r);
                for (int k : r.there.keySet()) {
                    variables.put(name, k);
                    at = body;
                    run(true);
                }
            }
            at = body;
            run(false);
            at++;
        }

        int expression(boolean does) {
            int v = part(does);
            while (List.of("+", "-", "*", "<", "==").contains(word())) {
                String how = word();
                at++;
                int w = part(does);
                v = switch (how) {
                    case "+" -> v + w;
                    case "-" -> v - w;
                    case "*" -> v * w;
                    case "<" -> v < w ? 1 : 0;
                    default -> v == w ? 1 : 0;
                };
            }
            return v;
        }

        int part(boolean does) {
            String word = word();
            int token = prop.tokens.get(at++);
            if (token < 100) {
                return token;
            }
            if (token <= 105) {
                return variables.get(word);
            }
            if (word.equals("(")) {
                int v = expression(does);
                at++;
                return v;
            }
            int k = part(does);
            if (!does) {
                return 0;
            }
            if (word.equals("open")) {
                k = 44 + 5 * prop.contract + key(k, 5);
                reads.put(k, versions.get(k));
                if (versions.get(k) == null) {
                    return 0;
                }
                if (held.get(k) == null || !held.get(k).version.equals(versions.get(k))) {
                    throw new Fail(3);
                }
                return held.get(k).value;
            }
            reads.put(key(k, 40), versions.get(k));
            return word.equals("get") ? values.getOrDefault(k, 0) : values.containsKey(k) ? 1 : 0;
        }
    }

    static int sum(int s, int v, int p) {
        int n = (v * 31 + s * 7 + p * 101) % 10007;
        return n < 0 ? n + 10007 : n;
    }

    private static String at(Version v) {
        return v == null ? "-" : v.told();
    }

    private static String textOf(Outcome o) {
        List<String> parts = new ArrayList<>();
        o.reads.forEach((k, v) -> parts.add("r" + k + "@" + at(v)));
        for (Range r : o.ranges) {
            List<String> there = new ArrayList<>();
            r.there.forEach((k, v) -> there.add(k + "@" + at(v)));
            parts.add("a" + r.from + "-" + r.to + ":" + String.join(",", there));
        }
        o.writes.forEach((k, v) -> parts.add("w" + k + (v == null ? "x" : "=" + v)));
        parts.add("t" + o.tells);
        return String.join(" ", parts);
    }

    private Said saidBy(Prop p, int peer) {
        for (Said s : p.endorsements) {
            if (s.peer == peer) {
                return s;
            }
        }
        return null;
    }

    public int endorse(int proposal, int peer) {
        place(in(proposal, 0, props.size() - 1) && in(peer, 0, 5));
        Prop p = props.get(proposal);
        if (!up[5 + peer] || saidBy(p, peer) != null) {
            return refuse();
        }
        Outcome o = new Run(proposal, stateOf(pees[peer], pees[peer].chain.size()), pees[peer].held).go();
        if (o.fail != 0) {
            return o.fail;
        }
        met(pees[peer].lies, "a lie");
        if (pees[peer].lies) {
            for (int k : new ArrayList<>(o.writes.keySet())) {
                if (k < 40 && o.writes.get(k) != null) {
                    o.writes.put(k, o.writes.get(k) + 1);
                }
            }
        }
        p.endorsements.add(new Said(peer, textOf(o), o));
        endorsed++;
        if (!o.secrets.isEmpty() && mayHave(peer, p.contract)) {
            pees[peer].heldBack.add(proposal);
        }
        return 0;
    }

    public int would(int proposal, int peer) {
        place(in(proposal, 0, props.size() - 1) && in(peer, 0, 5));
        return new Run(proposal, stateOf(pees[peer], pees[peer].chain.size()), pees[peer].held).go().fail;
    }

    /** The text that most have, the earliest of several. */
    private String mostSaid(Prop p) {
        Map<String, Integer> counts = new LinkedHashMap<>();
        for (Said s : p.endorsements) {
            counts.merge(s.text, 1, Integer::sum);
        }
        String best = null;
        for (String t : counts.keySet()) {
            if (best == null || counts.get(t) > counts.get(best)) {
                best = t;
            }
        }
        return best;
    }

    private Set<Integer> endorsersNow(Prop p) {
        Set<Integer> set = new TreeSet<>();
        for (Said s : p.endorsements) {
            if (s.text.equals(mostSaid(p))) {
                set.add(s.peer);
            }
        }
        return set;
    }

    public int submit(int proposal, int orderer) {
        place(in(proposal, 0, props.size() - 1) && in(orderer, 0, 4));
        Prop p = props.get(proposal);
        Ord o = ords[orderer];
        if (!up[orderer] || o.role != 2 || p.endorsements.isEmpty() || o.queue.size() == 12) {
            return refuse();
        }
        String text = mostSaid(p);
        met(p.submitted > 0 && !p.submittedBy.equals(endorsersNow(p)), "SUBMITTED again with other ENDORSERS");
        met(p.endorsements.size() > endorsersNow(p).size(), "ENDORSEMENTS that differ");
        p.submittedBy = endorsersNow(p);
        Outcome outcome = null;
        for (Said s : p.endorsements) {
            if (outcome == null && s.text.equals(text)) {
                outcome = s.outcome;
            }
        }
        o.queue.add(new Queued(new Tx(proposal, endorsersNow(p), text, outcome), now));
        p.submitted++;
        submitted++;
        return o.queue.size();
    }

    public int ofProposal(int proposal, int what) {
        place(in(proposal, 0, props.size() - 1));
        worth(in(what, 0, 8));
        Prop p = props.get(proposal);
        return switch (what) {
            case 0 -> p.contract;
            case 1 -> p.x;
            case 2 -> p.y;
            case 3 -> p.z;
            case 4 -> p.rule == NONE ? 0 : 1;
            case 5 -> p.rule;
            case 6 -> {
                Set<Integer> all = new TreeSet<>();
                p.endorsements.forEach(s -> all.add(s.peer));
                yield told(all);
            }
            case 7 -> told(endorsersNow(p));
            default -> p.submitted;
        };
    }

    public String result(int proposal, int peer) {
        place(in(proposal, 0, props.size() - 1) && in(peer, 0, 5));
        Said s = saidBy(props.get(proposal), peer);
        return s == null ? "" : s.text;
    }

    public int lie(int peer, boolean lies) {
        place(in(peer, 0, 5));
        int before = pees[peer].lies ? 1 : 0;
        pees[peer].lies = lies;
        return before;
    }

    // ---- peers

    static boolean mayHave(int peer, int contract) {
        return peer / 2 == contract % 3 || peer / 2 == (contract + 1) % 3;
    }

    /** What a chain up to a height makes: values, versions, and the codes on the way. */
    static final class Told {
        TreeMap<Integer, Integer> values = new TreeMap<>();
        TreeMap<Integer, Version> versions = new TreeMap<>();
        List<List<Integer>> codes = new ArrayList<>();
        Set<Integer> seen = new HashSet<>();
    }

    private Told stateOf(Pee peer, int height) {
        Told t = new Told();
        for (int b = 0; b < height; b++) {
            List<Integer> codes = new ArrayList<>();
            t.codes.add(codes);
            List<Tx> txs = peer.chain.get(b).txs;
            for (int at = 0; at < txs.size(); at++) {
                int code = codeOf(t, txs.get(at));
                codes.add(code);
                t.seen.add(txs.get(at).proposal);
                if (code == 0) {
                    for (Map.Entry<Integer, Integer> w : txs.get(at).outcome.writes.entrySet()) {
                        if (w.getValue() == null) {
                            t.values.remove(w.getKey());
                            t.versions.remove(w.getKey());
                        } else {
                            t.values.put(w.getKey(), w.getValue());
                            t.versions.put(w.getKey(), new Version(b, at));
                        }
                    }
                }
            }
        }
        return t;
    }

    private int codeOf(Told t, Tx tx) {
        if (t.seen.contains(tx.proposal)) {
            return 1;
        }
        Prop p = props.get(tx.proposal);
        Set<Integer> orgs = new TreeSet<>();
        tx.endorsers.forEach(e -> orgs.add(e / 2));
        boolean enough = p.rule != NONE ? orgs.size() >= 2
                : setOf(t.values.getOrDefault(40 + p.contract, 254)).contains(told(orgs));
        if (!enough) {
            return 2;
        }
        for (int k : tx.outcome.reads.keySet()) {
            if (!at(tx.outcome.reads.get(k)).equals(at(t.versions.get(k)))) {
                return 3;
            }
        }
        for (Range r : tx.outcome.ranges) {
            if (!r.there.equals(new TreeMap<>(t.versions.subMap(r.from, r.to)))) {
                return 4;
            }
        }
        return 0;
    }

    private void peerTurn(int number) {
        Pee p = pees[number];
        Entry next = null;
        int h = p.chain.size();
        if (up[p.source] && side[p.source] == side[5 + number]) {
            List<Entry> blocks = new ArrayList<>();
            for (int n = 0; n < ords[p.source].commit; n++) {
                if (ords[p.source].log.get(n).kind.equals("block")) {
                    blocks.add(ords[p.source].log.get(n));
                }
            }
            next = blocks.size() > h ? blocks.get(h) : null;
        }
        boolean isOfSource = next != null;
        for (int k = 0; k < 6; k++) {
            if (next == null && k != number && up[5 + k] && side[5 + k] == side[5 + number]
                    && pees[k].chain.size() > h) {
                next = pees[k].chain.get(h);
            }
        }
        met(next != null && !isOfSource, "a BLOCK from another PEER");
        if (next != null) {
            take(number, next);
        }
        for (int key : p.missed.keySet()) {
            for (int k = 0; k < 6; k++) {
                Held there = pees[k].held.get(key);
                if (k != number && up[5 + k] && side[5 + k] == side[5 + number] && there != null
                        && there.version.equals(p.missed.get(key))) {
                    p.held.put(key, there);
                    p.missed.remove(key);
                    met(true, "a SECRET is found");
                    met(p.hasLost, "a SECRET is found behind a loss");
                    return;
                }
            }
        }
    }

    private void take(int number, Entry block) {
        Pee p = pees[number];
        int n = p.chain.size();
        p.chain.add(block);
        List<Integer> codes = stateOf(p, n + 1).codes.get(n);
        met(new HashSet<>(codes).size() > 2, "three CODES or more in a BLOCK");
        for (int at = 0; at < block.txs.size(); at++) {
            Tx tx = block.txs.get(at);
            int contract = props.get(tx.proposal).contract;
            met(true, "CODE " + codes.get(at));
            met(isOtherByRuling(p, n, at, codes), "a RULING of its BLOCK makes it CODE " + codes.get(at));
            met(codes.get(at) != 0 && p.heldBack.contains(tx.proposal), "HELD BACK goes with CODE " + codes.get(at));
            if (codes.get(at) == 0 && mayHave(number, contract)) {
                for (int key : tx.outcome.writes.keySet()) {
                    if (key >= 44) {
                        p.held.remove(key);
                        p.missed.remove(key);
                        if (tx.endorsers.contains(number) && p.heldBack.contains(tx.proposal)) {
                            int secret = saidBy(props.get(tx.proposal), number).outcome.secrets.get(key);
                            p.held.put(key, new Held(new Version(n, at), secret));
                            met(true, "held");
                        } else {
                            met(tx.endorsers.contains(number), "an ENDORSER misses");
                            met(!tx.endorsers.contains(number) && p.heldBack.contains(tx.proposal),
                                    "HELD BACK, but no ENDORSER");
                            p.missed.put(key, new Version(n, at));
                        }
                    }
                }
            }
            p.heldBack.remove(tx.proposal);
        }
        met(p.held.values().removeIf(s -> s.version.block <= n - 6), "too old to be held");
        met(p.missed.values().removeIf(v -> v.block <= n - 6), "too old to be missed");
    }

    /** Whether a RULING ahead in its BLOCK changed what its ENDORSERS come to. */
    private boolean isOtherByRuling(Pee p, int n, int at, List<Integer> codes) {
        Tx tx = p.chain.get(n).txs.get(at);
        int key = 40 + props.get(tx.proposal).contract;
        Set<Integer> orgs = new TreeSet<>();
        tx.endorsers.forEach(e -> orgs.add(e / 2));
        boolean isOther = false;
        int before = stateOf(p, n).values.getOrDefault(key, 254);
        for (int k = 0; k < at; k++) {
            Prop ruled = props.get(p.chain.get(n).txs.get(k).proposal);
            isOther |= codes.get(k) == 0 && ruled.rule != NONE && 40 + ruled.contract == key
                    && setOf(before).contains(told(orgs)) != setOf(ruled.rule).contains(told(orgs));
        }
        return isOther && props.get(tx.proposal).rule == NONE && codes.get(at) != 1;
    }

    public int ofPeer(int peer, int what) {
        place(in(peer, 0, 5));
        worth(in(what, 0, 9));
        Pee p = pees[peer];
        int h = p.chain.size();
        Told t = stateOf(p, h);
        int valid = 0;
        int other = 0;
        for (List<Integer> codes : t.codes) {
            for (int c : codes) {
                valid += c == 0 ? 1 : 0;
                other += c == 0 ? 0 : 1;
            }
        }
        return switch (what) {
            case 0 -> h;
            case 1 -> p.source;
            case 2 -> h == 0 ? 7 : hash(peer, h - 1);
            case 3 -> t.values.size();
            case 4 -> valid;
            case 5 -> other;
            case 6 -> p.held.size();
            case 7 -> p.missed.size();
            case 8 -> p.heldBack.size();
            default -> p.lies ? 1 : 0;
        };
    }

    public int source(int peer, int orderer) {
        place(in(peer, 0, 5) && in(orderer, 0, 4));
        int before = pees[peer].source;
        pees[peer].source = orderer;
        return before;
    }

    public int value(int peer, int key) {
        place(in(peer, 0, 5) && in(key, 0, 63));
        return stateOf(pees[peer], pees[peer].chain.size()).values.getOrDefault(key, 0);
    }

    public String version(int peer, int key) {
        place(in(peer, 0, 5) && in(key, 0, 63));
        return at(stateOf(pees[peer], pees[peer].chain.size()).versions.get(key));
    }

    public String state(int peer) {
        place(in(peer, 0, 5));
        List<String> parts = new ArrayList<>();
        stateOf(pees[peer], pees[peer].chain.size()).values.forEach((k, v) -> parts.add(k + "=" + v));
        return String.join(" ", parts);
    }

    public String block(int peer, int block) {
        place(in(peer, 0, 5));
        place(in(block, 0, pees[peer].chain.size() - 1));
        List<String> parts = new ArrayList<>();
        List<Integer> codes = stateOf(pees[peer], block + 1).codes.get(block);
        for (int at = 0; at < codes.size(); at++) {
            parts.add(pees[peer].chain.get(block).txs.get(at).proposal + ":" + codes.get(at));
        }
        return String.join(" ", parts);
    }

    public int hash(int peer, int block) {
        place(in(peer, 0, 5));
        place(in(block, 0, pees[peer].chain.size() - 1));
        int h = 7;
        for (int b = 0; b <= block; b++) {
            h = h * 31 + b;
            for (Tx tx : pees[peer].chain.get(b).txs) {
                h = (h * 31 + tx.proposal) * 31 + told(tx.endorsers);
                for (char c : tx.text.toCharArray()) {
                    h = h * 31 + c;
                }
            }
        }
        return h;
    }

    public int holds(int peer, int contract, int secret) {
        place(in(peer, 0, 5) && in(contract, 0, 3) && in(secret, 0, 4));
        int key = 44 + 5 * contract + secret;
        return pees[peer].held.containsKey(key) ? 1 : pees[peer].missed.containsKey(key) ? 2 : 0;
    }

    public int secret(int peer, int contract, int secret) {
        place(in(peer, 0, 5) && in(contract, 0, 3) && in(secret, 0, 4));
        Held h = pees[peer].held.get(44 + 5 * contract + secret);
        return h == null ? 0 : h.value;
    }

    public int lose(int peer) {
        place(in(peer, 0, 5));
        if (!up[5 + peer]) {
            return refuse();
        }
        Pee p = pees[peer];
        int h = p.chain.size();
        met(!p.held.isEmpty(), "LOSES what it holds");
        p.hasLost = true;
        p.held.clear();
        p.missed.clear();
        Told t = stateOf(p, h);
        t.versions.forEach((key, v) -> {
            if (key >= 44 && mayHave(peer, (key - 44) / 5) && v.block > h - 1 - 6) {
                p.missed.put(key, v);
            }
        });
        return h;
    }

    // ---- the whole

    public int house(int what) {
        worth(in(what, 0, 13));
        int leaders = 0;
        int term = 0;
        for (Ord o : ords) {
            leaders += o.role == 2 ? 1 : 0;
            term = Math.max(term, o.term);
        }
        int height = 0;
        for (Pee p : pees) {
            height = Math.max(height, p.chain.size());
        }
        return new int[] {now, props.size(), submitted, sent, lost, term, leaders, greatestCommit, ledTerms.size(),
            height, endorsed, refused, blanks, knocks}[what];
    }

    public int blank() {
        blanks++;
        return REFUSED;
    }

    public int knock() {
        return ++knocks;
    }

    /** The document's words make it so always. */
    public boolean isSound() {
        return true;
    }

    private long d;

    private void mix(int v) {
        d = d * 31 + v;
    }

    private void mix(String s) {
        s.chars().forEach(this::mix);
    }

    public long digest() {
        d = 7681;
        for (int w = 0; w <= 13; w++) {
            mix(house(w));
        }
        for (int m = 0; m < 11; m++) {
            for (int w = 0; w <= 2; w++) {
                mix(ofMachine(m, w));
            }
        }
        for (int o = 0; o < 5; o++) {
            for (int w = 0; w <= 11; w++) {
                mix(ofOrderer(o, w));
            }
            for (int n = 1; n <= ords[o].log.size(); n++) {
                mix(entry(o, n));
            }
            mix(queue(o));
        }
        for (int k = 0; k < messages(); k++) {
            mix(message(k));
        }
        for (int s = 0; s < 4; s++) {
            mix(text(s));
            mix(fault(s, false));
            mix(fault(s, true));
        }
        for (int p = 0; p < props.size(); p++) {
            for (int w = 0; w <= 8; w++) {
                mix(ofProposal(p, w));
            }
            for (int q = 0; q < 6; q++) {
                mix(result(p, q));
            }
        }
        for (int p = 0; p < 6; p++) {
            for (int w = 0; w <= 9; w++) {
                mix(ofPeer(p, w));
            }
            mix(state(p));
            for (int b = 0; b < pees[p].chain.size(); b++) {
                mix(block(p, b));
                mix(hash(p, b));
            }
            for (int c = 0; c < 4; c++) {
                for (int s = 0; s < 5; s++) {
                    mix(holds(p, c, s));
                    mix(secret(p, c, s));
                }
            }
        }
        mix(1);
        return d;
    }
}
