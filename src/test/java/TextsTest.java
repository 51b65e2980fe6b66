/** Promises 14 to 19. */
public final class TextsTest {
    public static void main(String[] args) {
        type();
        cut();
        sample();
        names();
        contractFaults();
        policyFaults();
        faultsWrong();
        rules();
        deep();
        Check.end("TextsTest");
    }

    private static void type() {
        Orderledger x = new Orderledger();
        Check.same("nones are left out", x.type(0, -1, 106, -1, 100, -1), 2);
        Check.same("text", x.text(0), "put x");
        Check.same("nothing typed", x.type(0, -1, -1, -1, -1, -1), 2);
        Check.same("five", x.type(0, 125, 0, 126, 99, 131), 7);
        Check.same("behind it", x.text(0), "put x = 0 + 99 ;");
        Check.same("another sheet", x.type(3, 136, -1, -1, -1, -1), 1);
        Check.index(x, "sheet -1", () -> x.type(-1, 0, 0, 0, 0, 0));
        Check.index(x, "sheet 4", () -> x.type(4, 137, 0, 0, 0, 0));
        Check.argument(x, "a", () -> x.type(0, 137, 0, 0, 0, 0));
        Check.argument(x, "b", () -> x.type(0, 0, -2, 0, 0, 0));
        Check.argument(x, "c", () -> x.type(0, 0, 0, 137, 0, 0));
        Check.argument(x, "d", () -> x.type(0, 0, 0, 0, 137, 0));
        Check.argument(x, "e", () -> x.type(0, 0, 0, 0, 0, Integer.MIN_VALUE));
        for (int k = 0; k < 10; k++) {
            x.type(0, 1, 2, 3, 4, 5);
        }
        Check.same("57", x.type(0, -1, -1, -1, -1, -1), 57);
        Check.state(x, "61", () -> x.type(0, 1, 2, 3, 4, -1));
        Check.state(x, "62", () -> x.type(0, 1, 2, 3, 4, 5));
        Check.argument(x, "too many, and a wrong one", () -> x.type(0, 1, 2, 3, 4, 137));
        Check.same("60", x.type(0, 7, -1, 8, -1, 9), 60);
        Check.state(x, "61", () -> x.type(0, -1, -1, 3, -1, -1));
        Check.same("none more", x.type(0, -1, -1, -1, -1, -1), 60);
    }

    private static void cut() {
        Orderledger x = new Orderledger();
        x.sample(1, 3);
        Check.same("cut", x.cut(1, 1), 11);
        Check.same("text", x.text(1), "secret x = y ; put z = has z +");
        Check.same("cut more", x.cut(1, 7), 4);
        Check.same("text", x.text(1), "secret x = y");
        Check.same("cut all", x.cut(1, 60), 0);
        Check.same("cut nothing", x.cut(1, 1), 0);
        Check.index(x, "cut of -1", () -> x.cut(-1, 1));
        Check.index(x, "cut of 4", () -> x.cut(4, 0));
        Check.argument(x, "cut 0", () -> x.cut(1, 0));
        Check.argument(x, "cut 61", () -> x.cut(1, 61));
        Check.argument(x, "cut -1", () -> x.cut(1, -1));
    }

    private static void sample() {
        String[] due = {
            "put x = get x + y", "need get x == z ; put x = y",
            "let i = 0 ; each k in x .. y do let i = i + get k end ; put z = i",
            "secret x = y ; put z = has z + 1", "need open x == y ; del z",
            "if has x then put y = get x else tell 7 end", "org 1", "2 of ( org 0 , org 1 , org 2 )",
        };
        Orderledger x = new Orderledger();
        for (int k = 0; k < 8; k++) {
            int sheet = k % 4;
            Check.same("sample " + k, x.sample(sheet, k), due[k].split(" ").length);
            Check.same("text of the sample " + k, x.text(sheet), due[k]);
            Check.same("fault of the sample " + k, x.fault(sheet, k > 5), -1);
        }
        Check.same("as counted by hand", x.sample(0, 0) * 100 + x.sample(0, 6), 702);
        Check.index(x, "sample of -1", () -> x.sample(-1, 0));
        Check.index(x, "sample of 4", () -> x.sample(4, 8));
        Check.argument(x, "sample 8", () -> x.sample(0, 8));
        Check.argument(x, "sample -1", () -> x.sample(0, -1));
    }

    private static void names() {
        String[] due = ("x y z i j k put del secret let need tell if then else end each in .. do get has open ( ) = + - "
                + "* < == ; org of and or ,").split(" ");
        Orderledger x = new Orderledger();
        for (int k = 0; k < due.length; k++) {
            x.cut(0, 60);
            x.type(0, 100 + k, -1, -1, -1, -1);
            Check.same("the token " + (100 + k), x.text(0), due[k]);
        }
        for (int k = 0; k < 100; k += 9) {
            x.cut(0, 60);
            x.type(0, k, -1, -1, -1, -1);
            Check.same("the token " + k, x.text(0), "" + k);
        }
        Check.index(x, "text of -1", () -> x.text(-1));
        Check.index(x, "text of 4", () -> x.text(4));
    }

    private static void fault(String text, boolean isPolicy, int due) {
        Orderledger x = new Orderledger();
        Check.write(x, 2, text);
        Check.same("fault of " + text, x.fault(2, isPolicy), due);
    }

    private static void contractFaults() {
        fault("", false, 0);
        fault("put", false, 1);
        fault("put 1", false, 2);
        fault("put 1 =", false, 3);
        fault("put 1 = 2", false, -1);
        fault("put 1 = 2 ;", false, 5);
        fault("put 1 = 2 ; ;", false, 5);
        fault("put 1 = 2 end", false, 4);
        fault("put 1 2", false, 2);
        fault("1", false, 0);
        fault("x = 1", false, 0);
        fault("del 1 = 2", false, 2);
        fault("secret 0 = get 1 + has 2 * open 3 - x < y == 5", false, -1);
        fault("let x = 1", false, -1);
        fault("let 1 = 1", false, 1);
        fault("let x 1", false, 2);
        fault("let put = 1", false, 1);
        fault("need", false, 1);
        fault("need get", false, 2);
        fault("need get get has open k", false, -1);
        fault("need + 1", false, 1);
        fault("need 1 + + 1", false, 3);
        fault("need ( 1", false, 3);
        fault("need ( )", false, 2);
        fault("need ( 1 ) )", false, 4);
        fault("need 1 1", false, 2);
        fault("tell 1 = 2", false, 2);
        fault("if 1 then tell 1 end", false, -1);
        fault("if 1 then tell 1", false, 5);
        fault("if 1 tell 1 end", false, 2);
        fault("if 1 then end", false, 3);
        fault("if 1 then tell 1 else end", false, 6);
        fault("if 1 then tell 1 else tell 2 else tell 3 end", false, 8);
        fault("if 1 then tell 1 ; if 2 then del 3 end end ; tell 3", false, -1);
        fault("else", false, 0);
        fault("each k in 1 .. 3 do tell k end", false, -1);
        fault("each 1 in 1 .. 3 do tell k end", false, 1);
        fault("each k 1 .. 3 do tell k end", false, 2);
        fault("each k in 1 3 do tell k end", false, 4);
        fault("each k in 1 .. 3 tell k end", false, 6);
        fault("each k in 1 .. 3 do tell k", false, 9);
        fault("each k in 1 .. 3 do tell k else", false, 9);
        fault("tell 1 then", false, 2);
        fault("tell org", false, 1);
        fault("tell of", false, 1);
        fault("tell 1 , 2", false, 2);
        fault("tell 99", false, -1);
        fault("org 1", false, 0);
    }

    private static void policyFaults() {
        fault("", true, 0);
        fault("org", true, 1);
        fault("org 0", true, -1);
        fault("org 2", true, -1);
        fault("org 3", true, 1);
        fault("org x", true, 1);
        fault("org 1 org", true, 2);
        fault("org 3 org", true, 2);
        fault("1", true, 1);
        fault("1 of", true, 2);
        fault("1 of (", true, 3);
        fault("1 of ( )", true, 3);
        fault("1 of ( org 1", true, 5);
        fault("1 of ( org 1 )", true, -1);
        fault("0 of ( org 1 )", true, 0);
        fault("2 of ( org 1 )", true, 0);
        fault("2 of ( org 1 ,", true, 6);
        fault("2 of ( org 1 , org 5 )", true, 7);
        fault("3 of ( org 1 , org 5 )", true, 0);
        fault("2 of ( org 4 , org 5 )", true, 4);
        fault("2 of ( 2 of ( org 1 ) , org 9 )", true, 3);
        fault("2 of ( org 1 , org 2 and", true, 8);
        fault("( org 0 and org 1 )", true, -1);
        fault("( org 0 or org 1 )", true, -1);
        fault("( org 0 and org 1", true, 6);
        fault("( org 0 and org 1 and org 2 )", true, 6);
        fault("( org 0 )", true, 3);
        fault("( org 0 , org 1 )", true, 3);
        fault("( )", true, 1);
        fault("( org 7 and 0 of ( org 1 ) )", true, 2);
        fault("( org 0 and 0 of ( org 8 ) )", true, 4);
        fault("x", true, 0);
        fault("and", true, 0);
        fault("put 1 = 2", true, 0);
        fault("org 1 ;", true, 2);
    }

    private static void faultsWrong() {
        Orderledger x = new Orderledger();
        Check.index(x, "fault of -1", () -> x.fault(-1, true));
        Check.index(x, "fault of 4", () -> x.fault(4, false));
        Check.index(x, "rule of -1", () -> x.rule(-1));
        Check.index(x, "rule of 4", () -> x.rule(4));
    }

    private static void rule(String text, int due) {
        Orderledger x = new Orderledger();
        Check.write(x, 1, text);
        Check.same("rule of " + text, x.rule(1), due);
    }

    private static void rules() {
        rule("org 0", 2 + 8 + 32 + 128);
        rule("org 1", 4 + 8 + 64 + 128);
        rule("org 2", 16 + 32 + 64 + 128);
        rule("( org 0 and org 1 )", 8 + 128);
        rule("( org 0 or org 1 )", 254 - 16);
        rule("1 of ( org 0 , org 1 , org 2 )", 254);
        rule("2 of ( org 0 , org 1 , org 2 )", 8 + 32 + 64 + 128);
        rule("3 of ( org 0 , org 1 , org 2 )", 128);
        rule("2 of ( org 0 , org 0 )", 170);
        rule("2 of ( org 0 , org 0 , org 1 )", 170);
        rule("( 2 of ( org 0 , org 1 , org 2 ) and org 2 )", 32 + 64 + 128);
        rule("( ( org 0 and org 1 ) or ( org 1 and org 2 ) )", 8 + 64 + 128);
        rule("org 3", -1);
        rule("org", -1);
        rule("", -1);
        rule("0 of ( org 1 )", -1);
        rule("put 1 = 1", -1);
    }

    /** As deep as 60 tokens can lead. */
    private static void deep() {
        Orderledger x = new Orderledger();
        x.type(0, 111, -1, -1, -1, -1);
        for (int k = 0; k < 59; k++) {
            x.type(0, 123, -1, -1, -1, -1);
            x.type(1, 123, -1, -1, -1, -1);
            x.type(2, k == 0 ? 111 : 120, -1, -1, -1, -1);
        }
        x.type(1, 123, -1, -1, -1, -1);
        x.type(2, 5, -1, -1, -1, -1);
        Check.same("59 open", x.fault(0, false), 60);
        Check.same("60 open", x.fault(1, true), 60);
        Check.same("not of a contract", x.fault(1, false), 0);
        Check.same("58 gets", x.fault(2, false), -1);
        Check.same("they run", x.propose(2, 0, 0, 0), 0);
        Check.same("they run", x.endorse(0, 0), 0);
        Check.same("each of them reads", x.result(0, 0), "r0@- r5@- t0");
        x.cut(0, 30);
        x.type(0, 1, -1, -1, -1, -1);
        for (int k = 0; k < 29; k++) {
            x.type(0, 124, -1, -1, -1, -1);
        }
        Check.same("29 open and closed", x.fault(0, false), -1);
    }
}
