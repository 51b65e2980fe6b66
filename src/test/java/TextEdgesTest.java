/** The edges of section 3: what can stand where, token by token; full sheets; the deepest texts; rules. */
public final class TextEdgesTest {
    private static final String OPS = " + - * < ==";
    private static final String STARTS = " put del secret let need tell if each";
    private static final String TERMS = " NUMBER VARIABLE get has open (";
    private static final String PARTIES = " NUMBER org (";

    public static void main(String[] args) {
        contracts();
        policies();
        beginnings();
        behindAWholeText();
        fullSheet();
        cutting();
        samplesInPlaceOfTexts();
        deepestContracts();
        deepestPolicies();
        numbersOfPolicies();
        severalNumbers();
        widestPolicy();
        rulesOfForms();
        oneAfterTheOther();
        Check.end("TextEdgesTest");
    }

    private static boolean isAmong(String kinds, int token) {
        for (String kind : kinds.trim().split(" ")) {
            boolean isKind = kind.equals("NUMBER") ? token < 100
                    : kind.equals("VARIABLE") ? token >= 100 && token <= 105
                    : !kind.isEmpty() && token == Check.token(kind);
            if (isKind) {
                return true;
            }
        }
        return false;
    }

    /** Behind that beginning just these can stand; each other token is the fault, at its place. */
    private static void follows(String beginning, boolean isPolicy, String kinds, boolean isWhole) {
        Orderledger x = new Orderledger();
        Check.write(x, 0, beginning);
        int place = beginning.isEmpty() ? 0 : beginning.split(" ").length;
        Check.same("'" + beginning + "' as it is", x.fault(0, isPolicy), isWhole ? -1 : place);
        for (int token = 0; token <= 136; token++) {
            x.type(0, token, -1, -1, -1, -1);
            int fault = x.fault(0, isPolicy);
            boolean canStand = fault > place || fault == -1;
            Check.same("'" + beginning + "' and the token " + token, canStand, isAmong(kinds, token));
            if (!canStand) {
                Check.same("'" + beginning + "' and the token " + token + ", the place", fault, place);
            }
            x.type(0, 0, 131, -1, -1, -1);
            if (!canStand) {
                Check.same("whatever stands behind it", x.fault(0, isPolicy), place);
            }
            x.cut(0, 3);
        }
    }

    private static void contract(String beginning, String kinds, boolean isWhole) {
        follows(beginning, false, kinds, isWhole);
    }

    private static void contracts() {
        contract("", STARTS, false);
        contract("put", TERMS, false);
        contract("put 1", OPS + " =", false);
        contract("put 1 =", TERMS, false);
        contract("put 1 = 2", OPS + " ;", true);
        contract("put 1 = 2 ;", STARTS, false);
        contract("del", TERMS, false);
        contract("del x", OPS + " ;", true);
        contract("secret", TERMS, false);
        contract("secret 1", OPS + " =", false);
        contract("secret 1 = 2", OPS + " ;", true);
        contract("let", " VARIABLE", false);
        contract("let x", " =", false);
        contract("let x =", TERMS, false);
        contract("let x = y", OPS + " ;", true);
        contract("need", TERMS, false);
        contract("need 1", OPS + " ;", true);
        contract("tell", TERMS, false);
        contract("tell 1 +", TERMS, false);
        contract("tell 1 == 2", OPS + " ;", true);
        contract("tell get", TERMS, false);
        contract("tell has", TERMS, false);
        contract("tell open", TERMS, false);
        contract("tell open get 1", OPS + " ;", true);
        contract("tell (", TERMS, false);
        contract("tell ( 1", OPS + " )", false);
        contract("tell ( 1 )", OPS + " ;", true);
        contract("tell get ( 1", OPS + " )", false);
        contract("if", TERMS, false);
        contract("if 1", OPS + " then", false);
        contract("if 1 then", STARTS, false);
        contract("if 1 then del 1", OPS + " ; else end", false);
        contract("if 1 then del 1 ;", STARTS, false);
        contract("if 1 then del 1 else", STARTS, false);
        contract("if 1 then del 1 else del 2", OPS + " ; end", false);
        contract("if 1 then del 1 else del 2 end", " ;", true);
        contract("if 1 then del 1 end", " ;", true);
        contract("if 1 then if 2 then del 1 end", " ; else end", false);
        contract("each", " VARIABLE", false);
        contract("each k", " in", false);
        contract("each k in", TERMS, false);
        contract("each k in 1", OPS + " ..", false);
        contract("each k in 1 ..", TERMS, false);
        contract("each k in 1 .. 2", OPS + " do", false);
        contract("each k in 1 .. 2 do", STARTS, false);
        contract("each k in 1 .. 2 do del k", OPS + " ; end", false);
        contract("each k in 1 .. 2 do del k end", " ;", true);
    }

    private static void policy(String beginning, String kinds, boolean isWhole) {
        follows(beginning, true, kinds, isWhole);
    }

    private static void policies() {
        policy("", PARTIES, false);
        policy("org 1", "", true);
        policy("1", " of", false);
        policy("1 of", " (", false);
        policy("1 of (", PARTIES, false);
        policy("1 of ( org 1", " , )", false);
        policy("1 of ( org 1 ,", PARTIES, false);
        policy("1 of ( org 1 )", "", true);
        policy("(", PARTIES, false);
        policy("( org 1", " and or", false);
        policy("( org 1 and", PARTIES, false);
        policy("( org 1 or", PARTIES, false);
        policy("( org 1 and org 2", " )", false);
        policy("( org 1 or org 2 )", "", true);
        policy("( 1 of ( org 1 )", " and or", false);
        Orderledger x = new Orderledger();
        x.type(0, 132, -1, -1, -1, -1);
        for (int token = 0; token <= 136; token++) {
            x.type(0, token, -1, -1, -1, -1);
            Check.same("org and the token " + token, x.fault(0, true), token < 3 ? -1 : 1);
            x.type(0, 0, -1, -1, -1, -1);
            Check.same("org, the token " + token + " and one too many", x.fault(0, true), token < 100 ? 2 : 1);
            x.cut(0, 2);
        }
    }

    /** Each beginning of a text that is not whole is one of that length; nothing is the fault 0. */
    private static void beginnings() {
        String[] words = ("if has x then put y = get x ; tell 1 else each k in 0 .. ( 3 + 4 ) do secret 0 = open k end "
                + "; let i = 2 end ; need i < 3 * 4 == 0 - 1 ; del 5").split(" ");
        boolean[] isWhole = new boolean[words.length + 1];
        for (int whole : new int[] {36, 39, 41, 43, 45, 47, 50}) {
            isWhole[whole] = true;
        }
        Orderledger x = new Orderledger();
        for (int k = 0; k < words.length; k++) {
            Check.same("the first " + k, x.fault(1, false), isWhole[k] ? -1 : k);
            Check.same("no policy either", x.fault(1, true), 0);
            x.type(1, Check.token(words[k]), -1, -1, -1, -1);
        }
        Check.same("all of it", x.fault(1, false), -1);
        words = "2 of ( org 1 , ( org 0 or 1 of ( org 2 , org 2 ) ) , org 0 )".split(" ");
        for (int k = 0; k < words.length; k++) {
            Check.same("the first " + k + " of a policy", x.fault(2, true), k);
            Check.same("no contract", x.fault(2, false), 0);
            Check.same("no rule", x.rule(2), -1);
            x.type(2, Check.token(words[k]), -1, -1, -1, -1);
        }
        Check.same("all of it", x.fault(2, true), -1);
    }

    private static void fault(String text, boolean isPolicy, int due) {
        Orderledger x = new Orderledger();
        Check.write(x, 3, text);
        Check.same("fault of " + text, x.fault(3, isPolicy), due);
        Check.same("proposed " + text, isPolicy ? x.ruling(3, 3) : x.propose(3, 0, 0, 0), due == -1 ? 0 : -9);
        if (isPolicy) {
            Check.same("a rule only without, " + text, x.rule(3) == -1, due != -1);
        }
    }

    private static void behindAWholeText() {
        fault("del 1 del 2", false, 2);
        fault("del 1 1", false, 2);
        fault("del 1 )", false, 2);
        fault("del 1 end", false, 2);
        fault("if 1 then del 1 end end", false, 6);
        fault("if 1 then del 1 end del 1", false, 6);
        fault("org 1 and org 2", true, 2);
        fault("org 1 1", true, 2);
        fault("( org 1 and org 2 ) )", true, 7);
        fault("1 of ( org 1 ) ,", true, 6);
    }

    private static void fullSheet() {
        Orderledger x = new Orderledger();
        for (int k = 0; k < 11; k++) {
            Check.same("five more", x.type(2, 136, 99, 0, 100, 118), 5 * k + 5);
        }
        Check.same("59", x.type(2, 1, 2, -1, 3, 4), 59);
        Check.state(x, "61", () -> x.type(2, 1, -1, -1, -1, 2));
        Check.same("60", x.type(2, -1, -1, -1, -1, 7), 60);
        for (int at = 0; at < 5; at++) {
            int k = at;
            Check.state(x, "one more, at " + at, () -> x.type(2, k == 0 ? 1 : -1, k == 1 ? 1 : -1, k == 2 ? 1 : -1,
                    k == 3 ? 1 : -1, k == 4 ? 1 : -1));
        }
        Check.same("none more", x.type(2, -1, -1, -1, -1, -1), 60);
        Check.same("all of it", x.text(2), ", 99 0 x .. ".repeat(11) + "1 2 3 4 7");
        Orderledger y = new Orderledger();
        for (int k = 0; k < 11; k++) {
            y.type(0, 1, 1, 1, 1, 1);
        }
        Check.same("55 and 5", y.type(0, 2, 2, 2, 2, 2), 60);
        y.cut(0, 4);
        Check.state(y, "56 and 5", () -> y.type(0, 3, 3, 3, 3, 3));
        Check.same("56 and 4", y.type(0, 3, 3, 3, -1, 3), 60);
        Check.same("other sheets are empty", y.text(1) + y.text(2) + y.text(3), "");
    }

    private static void cutting() {
        Orderledger x = new Orderledger();
        for (int k = 0; k < 12; k++) {
            x.type(1, 1, 2, 3, 4, 5);
        }
        Check.same("one of 60", x.cut(1, 1), 59);
        Check.same("59 of 59", x.cut(1, 59), 0);
        Check.same("empty", x.text(1), "");
        Check.same("all of nothing", x.cut(1, 60), 0);
        x.type(1, 1, 2, 3, 4, 5);
        Check.same("more than it has", x.cut(1, 6), 0);
        x.type(1, 1, 2, 3, 4, 5);
        Check.same("all but one", x.cut(1, 4), 1);
        Check.same("the first one is left", x.text(1), "1");
        Check.same("behind it", x.type(1, 9, -1, -1, -1, -1), 2);
        Check.same("text", x.text(1), "1 9");
        for (int k = 0; k < 11; k++) {
            x.type(1, 7, 7, 7, 7, 7);
        }
        x.type(1, 7, 7, 7, -1, -1);
        Check.same("60 of 60", x.cut(1, 60), 0);
    }

    private static void samplesInPlaceOfTexts() {
        int[] due = {7, 10, 25, 12, 8, 13, 2, 12};
        Orderledger x = new Orderledger();
        for (int k = 0; k < 12; k++) {
            x.type(3, 99, 99, 99, 99, 99);
        }
        for (int k = 0; k < 8; k++) {
            Check.same("so many tokens, " + k, x.sample(3, k), due[k]);
            Check.same("so many are there", x.text(3).split(" ").length, due[k]);
            Check.same("of a contract, or of a policy", x.fault(3, k > 5), -1);
            Check.same("not of the other one", x.fault(3, k < 6), 0);
        }
        Check.same("the rules", x.rule(3), 232);
        x.sample(3, 6);
        Check.same("the rules", x.rule(3), 204);
    }

    /** As deep as 60 tokens allow, whole, and one token less. */
    private static void deepest(String open, int many, String inner, String close, String due) {
        Orderledger x = new Orderledger();
        String text = (open + " ").repeat(many) + inner + (" " + close).repeat(many);
        int tokens = text.split(" ").length;
        Check.write(x, 0, text);
        Check.same(tokens + " tokens, " + open, x.fault(0, false), -1);
        Check.same("proposed", x.propose(0, 1, 0, 0), 0);
        Check.same("endorsed", x.endorse(0, 0), 0);
        Check.same("its result", x.result(0, 0), due);
        x.cut(0, 1);
        Check.same("one less", x.fault(0, false), tokens - 1);
    }

    private static void deepestContracts() {
        deepest("tell" + " (".repeat(29), 1, "7", ") ".repeat(29).trim(), "t7");
        deepest("tell" + " ( 1 +".repeat(14), 1, "7", ") ".repeat(14).trim(), "t21");
        deepest("if 1 then", 14, "tell 8", "end", "t8");
        deepest("if 0 then tell 1 else", 8, "tell 9", "end", "t9");
        deepest("if 1 then tell 3 ;", 8, "tell 9", "end", "t9");
        deepest("each k in 0 .. 1 do", 7, "tell 9", "end", "a0-1: t0");
        Orderledger x = new Orderledger();
        Check.write(x, 0, "tell" + " get".repeat(58) + " 3");
        Check.same("58 gets", x.fault(0, false) * 100 + x.type(0, -1, -1, -1, -1, -1), -40);
        String[] open = {"(", "if 1 then", "each k in 0 .. 1 do", "if 1 then tell 1 else", "get"};
        for (String part : open) {
            Orderledger y = new Orderledger();
            String text = part.equals("(") || part.equals("get") ? "tell" : "";
            while ((text + " " + part).trim().split(" ").length <= 60) {
                text = (text + " " + part).trim();
            }
            Check.write(y, 0, text);
            Check.same("all open: " + part, y.fault(0, false), text.split(" ").length);
        }
        Orderledger z = new Orderledger();
        Check.write(z, 0, "each k in " + "( ".repeat(25) + "0" + " )".repeat(25) + " .. 9 do del k end");
        Check.same("deep in a statement", z.fault(0, false), -1);
        Check.same("60 tokens", z.type(0, -1, -1, -1, -1, -1), 60);
    }

    private static void rule(String text, int due) {
        Orderledger x = new Orderledger();
        Check.write(x, 1, text);
        Check.same("rule of " + text, x.rule(1), due);
    }

    private static void deepestPolicies() {
        rule("( ".repeat(11) + "org 0" + " or org 1 )".repeat(11), 238);
        rule("( org 2 and ".repeat(11) + "org 0" + " )".repeat(11), 160);
        rule("1 of ( ".repeat(14) + "org 2" + " )".repeat(14), 240);
        rule("2 of ( org 0 , ".repeat(8) + "org 1" + " )".repeat(8), 136);
        fault("( ".repeat(59).trim(), true, 59);
        fault("( ".repeat(60).trim(), true, 60);
        fault("1 of ( ".repeat(20).trim(), true, 60);
        fault("( org 0 and ".repeat(15).trim(), true, 60);
        fault("1 of ( ".repeat(14) + "org 2" + " )".repeat(13), true, 57);
        fault("1 of ( ".repeat(14) + "org 2" + " )".repeat(15), true, 58);
        fault("1 of ( ".repeat(13) + "2 of ( org 2" + " )".repeat(14), true, 39);
    }

    /** "org" 0 to 2; ahead of "of" 1 to how many P there are. */
    private static void numbersOfPolicies() {
        fault("org 0", true, -1);
        fault("org 2", true, -1);
        fault("org 3", true, 1);
        fault("org 99", true, 1);
        for (int many = 1; many <= 5; many++) {
            String row = " of ( org 0" + " , org 1".repeat(many - 1) + " )";
            fault("0" + row, true, 0);
            fault("1" + row, true, -1);
            fault(many + row, true, -1);
            fault((many + 1) + row, true, 0);
            fault("99" + row, true, 0);
        }
        fault("2 of ( 1 of ( org 0 , org 1 ) )", true, 0);
        fault("1 of ( 3 of ( org 0 , org 1 ) )", true, 3);
        fault("1 of ( ( org 0 and org 1 ) )", true, -1);
        fault("2 of ( ( org 0 and org 1 ) )", true, 0);
    }

    /** A fault of the form goes ahead, wherever it is; of several numbers the first. */
    private static void severalNumbers() {
        fault("org 3 org", true, 2);
        fault("0 of ( org 3 ) )", true, 6);
        fault("0 of ( org 3", true, 5);
        fault("0 of ( org 3 , org", true, 7);
        fault("0 of ( org 3 and org 1 )", true, 5);
        fault("0 of ( org 3 , org 4 )", true, 0);
        fault("1 of ( org 3 , org 4 )", true, 4);
        fault("1 of ( org 2 , org 4 )", true, 7);
        fault("3 of ( org 2 , org 4 )", true, 0);
        fault("( org 5 and org 6 )", true, 2);
        fault("( org 1 and org 6 )", true, 5);
        fault("( 2 of ( org 1 ) or org 6 )", true, 1);
        fault("( org 6 or 2 of ( org 1 ) )", true, 2);
        fault("1 of ( 1 of ( org 9 ) , 0 of ( org 1 ) )", true, 7);
        fault("3 of ( 2 of ( org 9 ) , 0 of ( org 1 ) )", true, 0);
        fault("2 of ( 2 of ( org 9 ) , 0 of ( org 1 ) )", true, 3);
    }

    /** 19 P in 60 tokens. */
    private static void widestPolicy() {
        String row = " of ( " + "org 0 , ".repeat(17) + "org 1 , org 2 )";
        Orderledger x = new Orderledger();
        Check.write(x, 0, "19" + row);
        Check.same("60 tokens", x.type(0, -1, -1, -1, -1, -1), 60);
        Check.same("all 19", x.rule(0), 128);
        rule("18" + row, 8 + 32 + 128);
        rule("17" + row, 2 + 8 + 32 + 128);
        rule("3" + row, 2 + 8 + 32 + 128);
        rule("2" + row, 2 + 8 + 32 + 64 + 128);
        rule("1" + row, 254);
        fault("20" + row, true, 0);
        fault("0" + row, true, 0);
    }

    private static void rulesOfForms() {
        rule("org 0", 170);
        rule("org 1", 204);
        rule("org 2", 240);
        rule("( org 0 and org 0 )", 170);
        rule("( org 0 or org 0 )", 170);
        rule("( org 0 and org 2 )", 160);
        rule("( org 1 and org 2 )", 192);
        rule("( org 0 or org 2 )", 250);
        rule("( org 1 or org 2 )", 252);
        rule("( ( org 0 and org 1 ) and org 2 )", 128);
        rule("( org 0 and ( org 1 or org 2 ) )", 168);
        rule("( org 0 or ( org 1 and org 2 ) )", 234);
        rule("1 of ( ( org 0 and org 1 ) , org 2 )", 248);
        rule("2 of ( ( org 0 or org 1 ) , org 2 )", 224);
        rule("2 of ( org 0 , org 0 , org 1 )", 170);
        rule("3 of ( org 0 , org 0 , org 1 )", 136);
        rule("2 of ( 1 of ( org 0 , org 1 ) , 2 of ( org 1 , org 2 ) )", 192);
        rule("2 of ( 2 of ( org 0 , org 1 ) , ( org 0 and org 2 ) , org 1 )", 136 | 128);
    }

    /** A fault does not stay for the next look, nor a rule. */
    private static void oneAfterTheOther() {
        Orderledger x = new Orderledger();
        Check.write(x, 0, "0 of ( org 7 )");
        x.sample(1, 6);
        x.sample(2, 0);
        Check.same("a number", x.fault(0, true), 0);
        Check.same("then none", x.fault(1, true), -1);
        Check.same("then one of the form", x.fault(2, true), 0);
        Check.same("none", x.fault(2, false), -1);
        Check.same("of the form again", x.fault(1, false), 0);
        Check.same("no rule", x.rule(0), -1);
        Check.same("a rule", x.rule(1), 204);
        Check.same("no rule again", x.rule(2), -1);
        Check.same("a number once more", x.fault(0, true), 0);
        Check.same("a ruling by a sheet that is right", x.ruling(0, 1), 0);
        Check.same("its rule", x.ofProposal(0, 5), 204);
        Check.same("the sheet can go", x.cut(1, 60), 0);
        Check.same("its rule stays", x.ofProposal(0, 5), 204);
    }
}
