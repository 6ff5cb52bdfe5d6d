import java.io.IOException;
import java.lang.reflect.Constructor;
import java.lang.reflect.Field;
import java.lang.reflect.Method;
import java.lang.reflect.Modifier;
import java.nio.file.Files;
import java.nio.file.Path;
import java.util.ArrayList;
import java.util.HashSet;
import java.util.List;
import java.util.Set;
import java.util.TreeSet;
import java.util.regex.Matcher;
import java.util.regex.Pattern;

/** What of ../shared/LANGUAGE.md can be seen in the file and by reflection. */
public final class LanguageTests {
    private static int wrong = 0;

    private static final String FACE = """
        RakeTables() int size(int,int) int tell(int,int,int) int mark(int,int,int) int margin(int,int,int)
        int three(boolean) int of(int,int,int) int marginOf(int,int) int feed(int) int read() int begin() int fit(int)
        int rounds(int) long cell(int,int,int) long sum(int,int,int) long gap(int,int,int) int farthest() int told(int)
        int rounded(int,int) int together(int,int) long cross(int,int,int,int,int) long orders() int rank(int)
        int see(int,int,int) int fitting(int,int,int) long odds(int,int,int) long mean(int) int event(int,int)
        long after(int) int book(int,int,int) int looked() int judge(int,int) int image() int undo() int count(int)
        int tape(int,int,int) int item(int,int,long) long peek(int,int) int shift(int,int,int,int,int)
        int NONE int BAD int STATE int FULL int FINE long NO""";

    public static void main(String[] args) throws IOException {
        String source = Files.readString(Path.of("src/main/java/RakeTables.java"));
        String code = withoutTexts(source);
        rule(1, face().equals(new TreeSet<>(words(FACE))), "the face is otherwise: " + differing());
        rule(1, Modifier.isFinal(RakeTables.class.getModifiers()), "the class isn't final");
        checkClasses();
        checkWords(code);
        checkLibrary(code);
        checkMethods(code);
        rule(4, source.chars().allMatch(sign -> sign >= 1 && sign <= 127), "a sign above 127");
        System.out.println(wrong == 0 ? "all rules looked at are kept" : wrong + " rules are broken");
        if (wrong != 0) System.exit(1);
    }

    private static void rule(int rule, boolean isKept, String fault) {
        if (isKept) return;
        wrong++;
        System.out.println("rule " + rule + ": " + fault);
    }

    private static List<String> words(String face) {
        List<String> all = new ArrayList<>();
        Matcher word = Pattern.compile("(?:(?:int|long) )?\\w+(?:\\([^)]*\\))?").matcher(face.replaceAll("\\s+", " "));
        while (word.find()) all.add(word.group());
        return all;
    }

    /** All of the class that isn't private. */
    private static Set<String> face() {
        Set<String> all = new TreeSet<>();
        for (Method m : RakeTables.class.getDeclaredMethods()) {
            if (Modifier.isPrivate(m.getModifiers()) || m.isSynthetic()) continue;
            all.add(m.getReturnType() + " " + m.getName() + parameters(m.getParameterTypes()));
            rule(1, Modifier.isPublic(m.getModifiers()) && !Modifier.isStatic(m.getModifiers()), m.getName());
        }
        for (Constructor<?> c : RakeTables.class.getDeclaredConstructors()) {
            all.add("RakeTables" + parameters(c.getParameterTypes()));
        }
        for (Field f : RakeTables.class.getDeclaredFields()) {
            if (!Modifier.isPrivate(f.getModifiers())) all.add(f.getType() + " " + f.getName());
        }
        return all;
    }

    private static String parameters(Class<?>[] types) {
        StringBuilder all = new StringBuilder("(");
        for (Class<?> type : types) all.append(all.length() > 1 ? "," : "").append(type);
        return all.append(")").toString();
    }

    private static Set<String> differing() {
        Set<String> all = new TreeSet<>(face());
        for (String word : words(FACE)) if (!all.remove(word)) all.add(word);
        return all;
    }

    private static void checkClasses() {
        Set<String> publics = new HashSet<>();
        for (Method m : RakeTables.class.getDeclaredMethods()) {
            if (Modifier.isPublic(m.getModifiers())) publics.add(m.getName());
        }
        List<Class<?>> all = new ArrayList<>(List.of(RakeTables.class.getDeclaredClasses()));
        rule(11, all.size() < 12, "more than twelve classes");
        all.add(RakeTables.class);
        for (Class<?> one : all) {
            int fields = 0;
            for (Field f : one.getDeclaredFields()) {
                if (Modifier.isStatic(f.getModifiers())) rule(5, Modifier.isFinal(f.getModifiers()), f + " isn't final");
                else fields++;
            }
            rule(11, fields <= 20, one + " has more than twenty fields");
            for (Method m : one.getDeclaredMethods()) {
                rule(11, m.getParameterCount() <= 7, m + " takes more than seven");
                if (Modifier.isPrivate(m.getModifiers())) rule(1, !publics.contains(m.getName()), m + " bears a public name");
                if (one != RakeTables.class) rule(1, !Modifier.isPublic(m.getModifiers()), m + " is public");
            }
            if (one == RakeTables.class) continue;
            rule(2, Modifier.isStatic(one.getModifiers()), one + " isn't static");
            rule(1, !Modifier.isPublic(one.getModifiers()) && !Modifier.isProtected(one.getModifiers()), one + " is public");
        }
    }

    private static void checkWords(String code) {
        String[] words = {"throw", "throws", "try", "catch", "finally", "synchronized", "assert", "package", "import",
            "protected", "native", "volatile", "transient", "Exact", "hashCode", "toString", "Random", "Thread", "Object"};
        for (String word : words) rule(6, !Pattern.compile("\\b\\w*" + word + "\\b").matcher(code).find(), word);
        rule(2, !code.contains("->") && !code.contains("::"), "a lambda or a method reference");
        rule(3, !code.matches("(?s).*\\b(?:double|float)\\b.*"), "doubles are not needed here");
        rule(9, !code.contains("while (true)") && !code.contains("for (;;)"), "a loop without an end");
        for (String line : code.split("\n")) {
            boolean isConstant = line.contains("static final") || !line.contains(" static ");
            boolean isMember = line.contains("(") || line.contains("class ");
            rule(5, isConstant || isMember, "static state: " + line.trim());
            // Objects come from fields and constructors alone, so that calls cost no room.
            if (!line.contains("new ")) continue;
            boolean isField = line.contains("final ") && line.contains(" = new ");
            rule(12, isField || line.contains("= new int[this.most]"), "made in a call: " + line.trim());
        }
    }

    private static void checkLibrary(String code) {
        Set<String> allowed = Set.of("System.arraycopy", "Math.abs", "Math.min", "Math.max", "Integer.bitCount", "Long.compare",
            "Long.MIN_VALUE");
        Matcher use = Pattern.compile("\\b(System|Math|Integer|Long|String|Arrays|List|Short|Byte|Character)\\.\\w+").matcher(code);
        while (use.find()) rule(4, allowed.contains(use.group()), use.group());
    }

    /** A method begins at a line that ends with ") {" and isn't a statement, and ends at the brace below its first sign. */
    private static void checkMethods(String code) {
        String[] lines = code.split("\n");
        Pattern head = Pattern.compile("^( +)(?!if|for|while|switch|else|do|return|\\})[\\w\\[\\]]+ .*\\) \\{$");
        int methods = 0;
        for (int at = 0; at < lines.length; at++) {
            Matcher m = head.matcher(lines[at]);
            if (!m.find()) continue;
            methods++;
            int end = at;
            while (end < lines.length && !lines[end].equals(m.group(1) + "}")) end++;
            rule(11, end - at <= 60, "a long method: " + lines[at].trim());
        }
        rule(11, methods > 39, "methods are not seen any more");
    }

    private static String withoutTexts(String source) {
        return source.replaceAll("(?s)/\\*.*?\\*/", "").replaceAll("//[^\n]*", "").replaceAll("'.'", "'_'");
    }
}
