import java.util.ArrayList;
import java.util.HashMap;
import java.util.List;
import java.util.Map;
import java.util.Random;

/**
 * Runs of calls, drawn from fixed seeds, on the class and on the Model side by side; each answer and each exception
 * must be the same. With an argument: that many runs.
 */
public final class ModelTest {
    private static final Map<String, Integer> SEEN = new HashMap<>();

    private final Random random;
    private final Twin twin = new Twin();
    private final Model model = twin.model;
    private final int temper;

    private ModelTest(long seed) {
        random = new Random(seed * 7919 + 17);
        temper = random.nextInt(6);
    }

    private Object call(String name, Object... with) {
        Object got = twin.call(name, with);
        if (got == null) {
            return 0;
        }
        String kind = name + " " + (got instanceof String s && s.startsWith("throws") ? got
                : got.equals(-9) ? "REFUSED" : "answer");
        if (name.equals("endorse") || name.equals("would") || name.equals("holds")) {
            kind = name + " " + got;
        }
        SEEN.merge(kind, 1, Integer::sum);
        return got;
    }

    private boolean chance(int percent) {
        return random.nextInt(100) < percent;
    }

    private int below(int n) {
        return random.nextInt(n);
    }

    /** Mostly a number below the bound, seldom one outside. */
    private int about(int bound) {
        return chance(97) ? below(bound) : chance(50) ? -1 - below(3) : bound + below(3);
    }

    private int leader() {
        List<Integer> leaders = new ArrayList<>();
        for (int k = 0; k < 5; k++) {
            if (model.ords[k].role == 2 && model.up[k]) {
                leaders.add(k);
            }
        }
        return leaders.isEmpty() || chance(4) ? about(5) : leaders.get(below(leaders.size()));
    }

    private int proposal() {
        int many = model.props.size();
        if (many == 0 || chance(2)) {
            return about(Math.max(1, many));
        }
        for (int k = many - 1; k >= 0 && chance(85); k--) {
            if (model.props.get(k).submitted == 0) {
                return k;
            }
        }
        return chance(75) ? Math.max(0, many - 1 - below(4)) : below(many);
    }

    // ---- texts

    private String expression(int depth) {
        String s = part(depth);
        while (chance(25)) {
            s += " " + new String[] {"+", "-", "*", "<", "=="}[below(5)] + " " + part(depth);
        }
        return s;
    }

    private String part(int depth) {
        int k = below(depth > 2 ? 6 : 10);
        if (k < 3) {
            return "" + (chance(90) ? below(6) : below(100));
        }
        if (k < 6) {
            return "x y z i j k".split(" ")[below(6)];
        }
        return k < 9 ? new String[] {"get", "has", "open"}[below(3)] + " " + part(depth + 1)
                : "( " + expression(depth + 1) + " )";
    }

    private String run(int depth) {
        String s = statement(depth);
        while (chance(45)) {
            s += " ; " + statement(depth);
        }
        return s;
    }

    private String statement(int depth) {
        switch (below(depth > 1 ? 8 : 10)) {
            case 0: case 1: return "put " + expression(0) + " = " + expression(0);
            case 2: return "del " + part(0);
            case 3: case 4: return "secret " + part(2) + " = " + expression(0);
            case 5: return "let " + "x y z i j k".split(" ")[below(6)] + " = " + expression(0);
            case 6: return "need " + expression(0);
            case 7: return "tell " + expression(0);
            case 8: return "if " + expression(0) + " then " + run(depth + 1)
                    + (chance(50) ? " else " + run(depth + 1) : "") + " end";
            default: return "each " + "x y z i j k".split(" ")[below(6)] + " in " + (chance(80) ? "" + below(4) : part(1))
                    + " .. " + (chance(80) ? "" + (4 + below(37)) : part(1)) + " do " + run(depth + 1) + " end";
        }
    }

    private String party(int depth) {
        int k = below(depth > 2 ? 3 : 6);
        if (k < 3) {
            return "org " + (chance(97) ? below(3) : below(100));
        }
        if (k < 5) {
            return "( " + party(depth + 1) + (chance(50) ? " and " : " or ") + party(depth + 1) + " )";
        }
        int many = 1 + below(4);
        String s = (chance(95) ? 1 + below(many) : below(6)) + " of (";
        for (int n = 0; n < many; n++) {
            s += (n > 0 ? " , " : " ") + party(depth + 1);
        }
        return s + " )";
    }

    private void write(int sheet, boolean isPolicy) {
        List<Integer> tokens = Model.tokensOf(isPolicy ? party(0) : run(0));
        while (tokens.size() > 60) {
            tokens = Model.tokensOf(isPolicy ? party(0) : run(0));
        }
        if (chance(12)) {
            int at = below(tokens.size());
            switch (below(4)) {
                case 0: tokens.remove(at); break;
                case 1: tokens.set(at, below(137)); break;
                case 2: tokens.add(at, chance(50) ? 100 + below(37) : below(100)); break;
                default: tokens = new ArrayList<>(tokens.subList(0, at)); break;
            }
        }
        call("cut", sheet, 60);
        for (int k = 0; k < tokens.size(); k += 5) {
            Object[] with = {sheet, -1, -1, -1, -1, -1};
            for (int n = 0; n < 5 && k + n < tokens.size(); n++) {
                with[1 + n] = tokens.get(k + n);
            }
            call("type", with);
        }
    }

    private void textCalls() {
        int sheet = about(4);
        switch (below(9)) {
            case 0: call("type", sheet, about(137), about(137), below(3) - 1, -1, about(137)); break;
            case 1: call("cut", sheet, about(8)); break;
            case 2: case 3: call("sample", sheet, about(8)); break;
            case 4: call("text", sheet); break;
            case 5: call("fault", sheet, random.nextBoolean()); break;
            case 6: call("rule", sheet); break;
            default:
                if (twin.left() > 78) {
                    write(below(4), chance(15));
                    call("fault", below(4), random.nextBoolean());
                }
                break;
        }
    }

    // ---- the rest

    private void machineCalls() {
        switch (below(7)) {
            case 0: case 1: call("side", about(11), about(3)); break;
            case 2: call("down", about(11)); break;
            case 3: case 4: {
                int machine = below(11);
                for (int k = 0; k < 11; k++) {
                    machine = model.up[machine] ? (machine + 1) % 11 : machine;
                }
                call("up", chance(85) ? machine : about(11));
                break;
            }
            case 5: {
                for (int k = 0; k < 11; k++) {
                    if (model.side[k] != 0 && chance(70)) {
                        call("side", k, 0);
                    }
                }
                break;
            }
            default: call("ofMachine", about(11), about(3)); break;
        }
    }

    private void ordererCalls() {
        switch (below(9)) {
            case 0: case 1: call("ofOrderer", about(5), about(12)); break;
            case 2: {
                int o = about(5);
                int last = o >= 0 && o < 5 ? model.ords[o].log.size() : 1;
                call("entry", o, chance(90) ? 1 + below(last + 1) : about(last + 1));
                break;
            }
            case 3: call("queue", leader()); break;
            case 4: call("size", chance(90) ? 1 + below(4) : about(7)); break;
            case 5: case 6: call("member", leader(), about(5), chance(60)); break;
            case 7: call("messages"); break;
            default: call("message", about(Math.max(1, model.underWay.size()))); break;
        }
    }

    /** A ruling by way of a sheet that is a policy for as long as that takes. */
    private void rule() {
        int sheet = below(4);
        if (chance(60)) {
            call("sample", sheet, 6 + below(2));
        } else {
            write(sheet, true);
        }
        call("fault", sheet, true);
        call("rule", sheet);
        call("ruling", about(4), chance(95) ? sheet : about(4));
        call("sample", sheet, below(6));
    }

    private void trade() {
        int what = below(12);
        if (what < 3) {
            int contract = chance(97) ? below(4) : about(4);
            call("propose", contract, below(6), below(6), chance(90) ? below(6) : random.nextInt());
            what = 3;
        } else if (what == 3 && chance(50)) {
            rule();
        }
        int p = proposal();
        if (what < 7) {
            int many = 1 + below(4);
            int first = below(6);
            for (int k = 0; k < many; k++) {
                call("endorse", p, chance(80) ? (first + k) % 6 : about(6));
            }
            call("submit", p, leader());
            if (chance(20)) {
                call("endorse", p, below(6));
            }
        } else if (what == 7) {
            call("endorse", p, about(6));
        } else if (what == 8) {
            call("submit", p, leader());
        } else if (what == 9) {
            call("would", p, about(6));
        } else if (what == 10) {
            call("ofProposal", p, about(9));
        } else {
            call("result", p, about(6));
        }
    }

    private void peerCalls() {
        int peer = about(6);
        int height = peer >= 0 && peer < 6 ? model.pees[peer].chain.size() : 1;
        switch (below(13)) {
            case 0: case 1: call("ofPeer", peer, about(10)); break;
            case 2: call("source", peer, about(5)); break;
            case 3: call("value", peer, about(64)); break;
            case 4: call("version", peer, about(64)); break;
            case 5: call("state", peer); break;
            case 6: case 7: call("block", peer, about(Math.max(1, height))); break;
            case 8: call("hash", peer, about(Math.max(1, height))); break;
            case 9: call("holds", peer, about(4), about(5)); break;
            case 10: call("secret", peer, about(4), about(5)); break;
            case 11: call("lose", peer); break;
            default: call("lie", peer, chance(40)); break;
        }
    }

    private void wholeCalls() {
        switch (below(6)) {
            case 0: case 1: call("house", about(14)); break;
            case 2: call("blank"); break;
            case 3: call("knock"); break;
            case 4: call("isSound"); break;
            default: call("digest"); break;
        }
    }

    private boolean holds() {
        boolean isSecret = chance(35);
        for (int k = 0; k < 4; k++) {
            if (chance(70)) {
                call("sample", k, isSecret ? 3 + below(2) : below(6));
            } else {
                write(k, false);
            }
        }
        call("tick", 4 + below(14));
        int disorder = new int[] {0, 2, 5, 10, 20, 35}[temper];
        for (int step = 0; step < 600 && twin.left() > 0; step++) {
            int k = below(100);
            if (k < disorder) {
                machineCalls();
            } else if (k < disorder + 20) {
                call("tick", chance(98) ? 1 + below(chance(85) ? 3 : 20) : about(23));
            } else if (k < disorder + 27) {
                ordererCalls();
            } else if (k < disorder + 31) {
                textCalls();
            } else if (k < disorder + 42) {
                peerCalls();
            } else if (k < disorder + 45) {
                wholeCalls();
            } else {
                trade();
            }
        }
        return twin.ends();
    }

    /** What the runs came to, so that one sees whether they go where the document has its edges. */
    private void count() {
        for (int p = 0; p < 6; p++) {
            for (int b = 0; b < model.pees[p].chain.size(); b++) {
                for (String part : model.block(p, b).split(" ")) {
                    SEEN.merge("code " + part.substring(part.indexOf(':') + 1), 1, Integer::sum);
                }
            }
            SEEN.merge("held at the end", model.pees[p].held.size(), Integer::sum);
            SEEN.merge("missed at the end", model.pees[p].missed.size(), Integer::sum);
            SEEN.merge("held back at the end", model.pees[p].heldBack.size(), Integer::sum);
            SEEN.merge("rules at the end " + (model.version(p, 40) + model.version(p, 41)).length(), 1, Integer::sum);
        }
        for (Model.Ord o : model.ords) {
            SEEN.merge("members " + o.log.stream().filter(e -> e.kind().equals("members")).count(), 1, Integer::sum);
        }
        SEEN.merge("terms led", model.ledTerms.size(), Integer::sum);
        SEEN.merge("lost", model.lost, Integer::sum);
    }

    public static void main(String[] args) {
        int runs = args.length > 0 ? Integer.parseInt(args[0]) : 150;
        int from = args.length > 1 ? Integer.parseInt(args[1]) : 0;
        int wrong = 0;
        for (int seed = from; seed < from + runs && wrong < 3; seed++) {
            ModelTest test = new ModelTest(seed);
            boolean isFine = test.holds();
            if (args.length > 0) {
                test.count();
            }
            if (!isFine) {
                wrong++;
                test.twin.tell(seed);
            }
        }
        if (args.length > 0) {
            SEEN.entrySet().stream().sorted(Map.Entry.comparingByKey()).forEach(System.out::println);
        }
        System.out.println(wrong == 0 ? runs + " runs are as the model tells" : wrong + " runs are not");
        System.exit(wrong == 0 ? 0 : 1);
    }
}
