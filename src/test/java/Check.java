import java.util.function.Supplier;

/** What the tests have in common: comparing, and looking whether a call that must change nothing does so. */
final class Check {
    private static int done = 0;
    private static int wrong = 0;

    private Check() { }

    static void same(String what, Object got, Object due) {
        done++;
        if (!due.equals(got)) {
            wrong++;
            System.out.println(what + " answered " + got + ", due is " + due);
        }
    }

    /** The call throws just that, and changes nothing. */
    static void failing(Orderledger x, String what, Class<?> due, Supplier<Object> call) {
        String before = look(x, true);
        Object got;
        try {
            got = call.get();
        } catch (RuntimeException e) {
            got = e.getClass();
            same(what + ", thrown by the ledger itself", e.getStackTrace()[0].getClassName(), "Orderledger");
        }
        same(what, got, due);
        same(what + ", behind it", look(x, true), before);
    }

    static void index(Orderledger x, String what, Supplier<Object> call) {
        failing(x, what, IndexOutOfBoundsException.class, call);
    }

    static void argument(Orderledger x, String what, Supplier<Object> call) {
        failing(x, what, IllegalArgumentException.class, call);
    }

    static void state(Orderledger x, String what, Supplier<Object> call) {
        failing(x, what, IllegalStateException.class, call);
    }

    /** The call tells REFUSED, which is counted, and changes nothing else. */
    static void refused(Orderledger x, String what, Supplier<Object> call) {
        String before = look(x, false);
        int count = x.house(11);
        same(what, call.get(), -9);
        same(what + ", counted", x.house(11), count + 1);
        same(what + ", behind it", look(x, false), before);
    }

    /** Says how it went and ends the test. */
    static void end(String name) {
        System.out.println(name + ": " + (done - wrong) + " of " + done + " as due");
        System.exit(wrong == 0 ? 0 : 1);
    }

    /** All that can be seen of it; without or with the count of REFUSED. */
    static String look(Orderledger x, boolean withRefused) {
        StringBuilder s = new StringBuilder();
        for (int k = 0; k < 14; k++) {
            s.append(k == 11 && !withRefused ? "" : x.house(k) + "/");
        }
        for (int k = 0; k < 11; k++) {
            s.append(x.ofMachine(k, 0)).append(x.ofMachine(k, 1)).append(x.ofMachine(k, 2)).append('/');
        }
        for (int k = 0; k < 5; k++) {
            for (int w = 0; w < 12; w++) {
                s.append(x.ofOrderer(k, w)).append('/');
            }
            for (int n = 1; n <= x.ofOrderer(k, 3); n++) {
                s.append(x.entry(k, n)).append('/');
            }
            s.append(x.queue(k)).append('/');
        }
        for (int k = 0; k < x.messages(); k++) {
            s.append(x.message(k)).append('/');
        }
        for (int k = 0; k < 4; k++) {
            s.append(x.text(k)).append('/').append(x.fault(k, false)).append('/').append(x.fault(k, true));
            s.append('/').append(x.rule(k)).append('/');
        }
        for (int k = 0; k < x.house(1); k++) {
            for (int w = 0; w < 9; w++) {
                s.append(x.ofProposal(k, w)).append('/');
            }
            for (int p = 0; p < 6; p++) {
                s.append(x.result(k, p)).append('/').append(x.would(k, p)).append('/');
            }
        }
        for (int p = 0; p < 6; p++) {
            lookAtPeer(x, p, s);
        }
        return s.append(x.isSound()).toString();
    }

    private static void lookAtPeer(Orderledger x, int p, StringBuilder s) {
        for (int w = 0; w < 10; w++) {
            s.append(x.ofPeer(p, w)).append('/');
        }
        s.append(x.state(p)).append('/');
        for (int k = 0; k < 64; k++) {
            s.append(x.version(p, k)).append(',');
        }
        for (int b = 0; b < x.ofPeer(p, 0); b++) {
            s.append(x.block(p, b)).append('/').append(x.hash(p, b)).append('/');
        }
        for (int c = 0; c < 4; c++) {
            for (int k = 0; k < 5; k++) {
                s.append(x.holds(p, c, k)).append('=').append(x.secret(p, c, k)).append(',');
            }
        }
    }

    // ---- scenes

    /** A ledger whose orderer 0 leads since the tick 6, with SIZE 1 and the contracts 0 to 3 by samples. */
    static Orderledger led(int... samples) {
        Orderledger x = new Orderledger();
        for (int k = 0; k < samples.length; k++) {
            x.sample(k, samples[k]);
        }
        x.size(1);
        x.tick(9);
        return x;
    }

    /** Endorses, submits to the orderer 0, and waits until the peers have taken it. */
    static void order(Orderledger x, int proposal, int... peers) {
        for (int p : peers) {
            x.endorse(proposal, p);
        }
        x.submit(proposal, 0);
        x.tick(4);
    }

    /** All five orderers are members, and know it; the orderer 0 leads in the term 1, three entries are committed. */
    static Orderledger five(int... samples) {
        Orderledger x = led(samples);
        x.member(0, 3, true);
        x.tick(4);
        x.member(0, 4, true);
        x.tick(4);
        return x;
    }

    // ---- looks at what orderers do

    /** The first answers of ofOrderer(), from 0 on. */
    static void orderer(Orderledger x, String what, int o, int... due) {
        for (int w = 0; w < due.length; w++) {
            same(what + ": of the orderer " + o + ", " + w, x.ofOrderer(o, w), due[w]);
        }
    }

    /** All messages that are under way, in their order. */
    static void messages(Orderledger x, String what, String... due) {
        same(what + ", so many messages", x.messages(), due.length);
        for (int k = 0; k < Math.min(due.length, x.messages()); k++) {
            same(what + ", the message " + k, x.message(k), due[k]);
        }
    }

    /** The first message under way that begins so; "" without. */
    static String sent(Orderledger x, String beginning) {
        for (int k = 0; k < x.messages(); k++) {
            if (x.message(k).startsWith(beginning)) {
                return x.message(k);
            }
        }
        return "";
    }

    // ---- texts

    private static final String NAMES = " x y z i j k put del secret let need tell if then else end each in .. do get "
            + "has open ( ) = + - * < == ; org of and or , ";

    /** The sheet's text becomes that one, written with blanks between its tokens. */
    static void write(Orderledger x, int sheet, String text) {
        x.cut(sheet, 60);
        if (text.isEmpty()) {
            return;
        }
        for (String word : text.split(" ")) {
            x.type(sheet, token(word), -1, -1, -1, -1);
        }
    }

    static int token(String word) {
        int at = NAMES.indexOf(" " + word + " ");
        if (at < 0) {
            int number = Integer.parseInt(word);
            if (number > 99) {
                throw new IllegalArgumentException(word + " is no NUMBER");
            }
            return number;
        }
        return 100 + NAMES.substring(0, at + 1).split(" ").length - (at == 0 ? 0 : 1);
    }
}
