import java.io.DataInputStream;
import java.io.IOException;
import java.lang.reflect.Field;
import java.lang.reflect.Method;
import java.lang.reflect.Modifier;
import java.nio.file.Files;
import java.nio.file.Path;
import java.util.ArrayList;
import java.util.Arrays;
import java.util.HashSet;
import java.util.List;
import java.util.Set;
import java.util.regex.Matcher;
import java.util.regex.Pattern;

/** What of ../shared/LANGUAGE.md can be seen by a plain look at the source and at the compiled class. */
public final class LanguageTest {
    private static final int LONGEST_METHOD = 60;

    public static void main(String[] args) throws IOException {
        String source = Files.readString(Path.of("src/main/java/Orderledger.java"));
        String bare = bare(source);
        words(bare);
        library(bare);
        lengths(bare);
        members();
        compiled();
        signs(source);
        Check.end("LanguageTest");
    }

    /** Without comments; what stands in quotes becomes empty quotes. */
    private static String bare(String source) {
        return source.replaceAll("(?s)/\\*.*?\\*/", "").replaceAll("//[^\n]*", "")
                .replaceAll("\"(\\\\.|[^\"\\\\])*\"", "\"\"").replaceAll("'(\\\\.|[^'\\\\])'", "' '");
    }

    private static void none(String bare, String what, String regex) {
        Matcher m = Pattern.compile(regex).matcher(bare);
        Check.same("no " + what, m.find() ? m.group() : "", "");
    }

    private static void words(String bare) {
        none(bare, "package", "(?m)^\\s*package\\b");
        none(bare, "lambda", "->");
        none(bare, "method reference", "::");
        none(bare, "try, catch, finally", "\\b(try|catch|finally)\\b");
        none(bare, "synchronized, assert and their like", "\\b(synchronized|assert|volatile|native|transient)\\b");
        none(bare, "static block", "\\bstatic\\s*\\{");
        none(bare, "joining of texts by +", "\"\"\\s*\\+|\\+\\s*\"\"|\\+=\\s*\"\"");
        none(bare, "doubles", "\\b(double|float)\\b");
        none(bare, "own equals, hashCode, toString", "\\b(boolean equals|int hashCode|String toString)\\s*\\(");
        none(bare, "endless loop", "while\\s*\\(\\s*true|for\\s*\\(\\s*;");
        none(bare, "anonymous class", "new\\s+\\w+\\s*\\([^()]*\\)\\s*\\{");
        Matcher m = Pattern.compile("throw\\s+(?!new (IllegalArgument|IndexOutOfBounds|IllegalState)Exception\\(\\);)")
                .matcher(bare);
        Check.same("only the document's exceptions are thrown", m.find(), false);
    }

    private static void library(String bare) {
        Set<String> imports = new HashSet<>();
        Matcher m = Pattern.compile("import ([\\w.]+);").matcher(bare);
        while (m.find()) {
            imports.add(m.group(1));
        }
        Check.same("imports", imports, Set.of("java.util.ArrayList", "java.util.Arrays"));
        Set<String> used = new HashSet<>();
        m = Pattern.compile("\\b(Arrays|Math|Integer|Long|System|Character|String|Objects)\\.(\\w+)").matcher(bare);
        while (m.find()) {
            used.add(m.group());
        }
        used.removeAll(List.of("Arrays.copyOf", "Arrays.fill", "Math.max", "Math.min", "Math.floorMod",
                "Integer.bitCount"));
        Check.same("of the library but what is listed", used, Set.of());
    }

    private static void lengths(String bare) {
        String[] lines = bare.split("\n", -1);
        Pattern head = Pattern.compile("^( {4}| {8})(?! )(?!.*\\b(class|if|for|switch|return|else)\\b).*\\(.*\\{$|^ {12}throws .*\\{$");
        List<String> tooLong = new ArrayList<>();
        int methods = 0;
        for (int k = 0; k < lines.length; k++) {
            Matcher m = head.matcher(lines[k]);
            if (m.find() && m.group(1) != null) {
                methods++;
                int end = k + 1;
                while (!lines[end].equals(m.group(1) + "}")) {
                    end++;
                }
                if (end - k + 1 > LONGEST_METHOD) {
                    tooLong.add(lines[k].trim());
                }
            }
        }
        Check.same("methods were found", methods > 150, true);
        Check.same("long methods", tooLong, List.of());
    }

    private static void members() {
        Set<String> face = new HashSet<>();
        for (Method m : Orderledger.class.getDeclaredMethods()) {
            if (Modifier.isPublic(m.getModifiers())) {
                face.add(m.getName());
            }
        }
        Check.same("the face", face.size(), 41);
        List<Class<?>> classes = new ArrayList<>(Arrays.asList(Orderledger.class.getDeclaredClasses()));
        Check.same("classes", classes.size() + 1 <= 12, true);
        classes.add(Orderledger.class);
        for (Class<?> c : classes) {
            boolean isFace = c == Orderledger.class;
            Check.same(c + " is final", Modifier.isFinal(c.getModifiers()), true);
            Check.same(c + " is static", isFace || Modifier.isStatic(c.getModifiers()), true);
            int fields = 0;
            for (Field f : c.getDeclaredFields()) {
                fields += Modifier.isStatic(f.getModifiers()) ? 0 : 1;
                boolean isFixed = Modifier.isFinal(f.getModifiers());
                Check.same(f + " is final if static", isFixed || !Modifier.isStatic(f.getModifiers()), true);
                Check.same(f + " is private in the face", !isFace || Modifier.isPrivate(f.getModifiers()), true);
            }
            Check.same(c + " has some twenty fields at most", fields <= 20, true);
            for (Method m : c.getDeclaredMethods()) {
                boolean isPublic = Modifier.isPublic(m.getModifiers());
                Check.same(m + " has seven parameters at most", m.getParameterCount() <= 7, true);
                Check.same(m + " does not bear a name of the face", isPublic && isFace || !face.contains(m.getName()),
                        true);
                Check.same(m + " is private in the face", !isFace || isPublic || m.isSynthetic()
                        || Modifier.isPrivate(m.getModifiers()), true);
            }
        }
    }

    /** Rule 4, by what the compiled classes call in the library; and no call that is bound only as it runs. */
    private static void compiled() throws IOException {
        Set<String> called = new HashSet<>();
        List<Class<?>> classes = new ArrayList<>(Arrays.asList(Orderledger.class.getDeclaredClasses()));
        classes.add(Orderledger.class);
        for (Class<?> c : classes) {
            try (DataInputStream in = new DataInputStream(c.getResourceAsStream(c.getName() + ".class"))) {
                addCalls(in, called);
            }
        }
        Check.same("calls of the library were found", called.contains("java/lang/StringBuilder.setLength"), true);
        called.removeIf(call -> !call.startsWith("java") && !call.startsWith("bound"));
        called.removeAll(ALLOWED);
        Check.same("calls of the library but what is listed", called, Set.of());
    }

    private static final Set<String> ALLOWED = allowed(
            "lang/Object <init>", "lang/IllegalArgumentException <init>", "lang/IllegalStateException <init>",
            "lang/IndexOutOfBoundsException <init>", "lang/Integer bitCount", "lang/Math floorMod max min",
            "lang/String length charAt equals", "lang/StringBuilder <init> append charAt setLength length toString",
            "util/ArrayList <init> add get remove size", "util/Arrays copyOf fill");

    private static Set<String> allowed(String... rows) {
        Set<String> all = new HashSet<>();
        for (String row : rows) {
            String[] words = row.split(" ");
            for (int k = 1; k < words.length; k++) {
                all.add("java/" + words[0] + "." + words[k]);
            }
        }
        return all;
    }

    /** From the table of constants that a class file begins with. */
    private static void addCalls(DataInputStream in, Set<String> called) throws IOException {
        in.readInt();
        in.readInt();
        int many = in.readUnsignedShort();
        String[] texts = new String[many];
        int[][] pairs = new int[many][];
        List<Integer> calls = new ArrayList<>();
        for (int k = 1; k < many; k++) {
            int tag = in.readUnsignedByte();
            switch (tag) {
                case 1: texts[k] = in.readUTF(); break;
                case 3: case 4: in.readInt(); break;
                case 5: case 6: in.readLong(); k++; break;
                case 7: case 8: case 16: case 19: case 20: pairs[k] = new int[] {in.readUnsignedShort()}; break;
                case 15: in.readUnsignedByte(); in.readUnsignedShort(); break;
                default:
                    pairs[k] = new int[] {in.readUnsignedShort(), in.readUnsignedShort()};
                    if (tag == 10 || tag == 11) {
                        calls.add(k);
                    } else if (tag == 17 || tag == 18) {
                        called.add("bound as it runs, by constant " + k);
                    }
                    break;
            }
        }
        for (int k : calls) {
            called.add(texts[pairs[pairs[k][0]][0]] + "." + texts[pairs[pairs[k][1]][0]]);
        }
    }

    private static void signs(String source) {
        boolean isPlain = true;
        for (char c : source.toCharArray()) {
            isPlain = isPlain && (c == '\n' || c >= ' ' && c < 127);
        }
        Check.same("plain signs", isPlain, true);
    }
}
