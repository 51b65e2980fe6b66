import java.util.ArrayList;
import java.util.List;

/**
 * FAULT for texts of every kind of STATEMENT, T and P: cut off at each place, and with each TOKEN changed for each
 * other one, left out, or doubled. The Model finds faults by Earley's sets, and has no parser in common with the class.
 */
public final class FaultsTest {
    private static final String[] CONTRACTS = {
        "put x + 1 = get y", "del has 3", "secret i = ( z * 2 )", "let j = open k - 4", "need x < 1 == y",
        "tell get get ( has open 5 )", "if x then del 1 end", "if 1 then tell 2 ; need 3 else let z = 4 end ; del 5",
        "each k in 0 .. 9 do put k = 1 ; del i end", "if x then if y then del 1 else del 2 end else del 3 end",
        "each i in x .. ( y + 1 ) do each j in i .. get i do tell j end end",
        "if has x then each k in 1 .. 2 do if k then tell k end end else secret 1 = 2 end",
    };
    private static final String[] POLICIES = {
        "org 2", "( org 0 and org 1 )", "( org 0 or ( org 1 and org 2 ) )", "2 of ( org 0 , org 1 , org 2 )",
        "1 of ( org 0 )", "2 of ( 1 of ( org 0 , org 2 ) , ( org 1 or org 0 ) )", "3 of ( org 0 , org 7 )",
        "0 of ( org 1 , 4 of ( org 2 , org 0 ) )",
    };

    public static void main(String[] args) {
        for (String text : CONTRACTS) {
            change(Model.tokensOf(text), false);
        }
        for (String text : POLICIES) {
            change(Model.tokensOf(text), true);
        }
        Check.end("FaultsTest");
    }

    private static void change(List<Integer> tokens, boolean isPolicy) {
        look(tokens, isPolicy);
        for (int at = 0; at < tokens.size(); at++) {
            look(tokens.subList(0, at), isPolicy);
            List<Integer> changed = new ArrayList<>(tokens);
            changed.remove(at);
            look(changed, isPolicy);
            changed.add(at, tokens.get(at));
            changed.add(at, tokens.get(at));
            look(changed, isPolicy);
            changed.remove(at);
            int first = isPolicy ? 0 : 98;
            for (int token = first; token <= 136; token++) {
                if (token < 9 || token > 98) {
                    changed.set(at, token);
                    look(changed, isPolicy);
                }
            }
        }
    }

    private static void look(List<Integer> tokens, boolean isPolicy) {
        Orderledger x = new Orderledger();
        Model model = new Model();
        model.sheets.get(2).addAll(tokens);
        for (int k = 0; k < tokens.size(); k++) {
            x.type(2, tokens.get(k), -1, -1, -1, -1);
        }
        int due = model.fault(2, isPolicy);
        Check.same("fault of " + model.text(2), x.fault(2, isPolicy), due);
        Check.same("rule of " + model.text(2), isPolicy ? x.rule(2) : 0, isPolicy ? model.rule(2) : 0);
        Check.same("number of " + model.text(2), isPolicy ? x.ruling(0, 2) : x.propose(2, 1, 2, 3), due == -1 ? 0 : -9);
    }
}
