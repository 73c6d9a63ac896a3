import java.io.IOException;
import java.lang.reflect.Field;
import java.lang.reflect.Method;
import java.lang.reflect.Modifier;
import java.nio.file.Files;
import java.nio.file.Path;
import java.util.ArrayList;
import java.util.HashSet;
import java.util.List;
import java.util.Set;
import java.util.TreeSet;
import java.util.regex.Matcher;
import java.util.regex.Pattern;

/** The public face as the document writes it, and what of LANGUAGE.md can be read off the classes and the text. */
public final class FaceTest {
    private static final Path PROGRAM = Path.of("src/main/java/SkinShow.java"), DOC = Path.of("../shared/DOC.md");
    private static int wrong = 0;

    public static void main(String[] args) throws IOException {
        face();
        List<Class<?>> all = new ArrayList<>(List.of(SkinShow.class.getDeclaredClasses()));
        all.add(SkinShow.class);
        due(all.size() <= 12, "at most twelve classes");
        Set<String> publicNames = new HashSet<>();
        for (Method m : SkinShow.class.getDeclaredMethods()) {
            if (Modifier.isPublic(m.getModifiers())) publicNames.add(m.getName());
        }
        for (Class<?> c : all) members(c, publicNames);
        words();
        lengths();
        System.out.println("FaceTest: " + wrong + " wrong");
        if (wrong != 0) System.exit(1);
    }

    private static void due(boolean holds, String what) {
        if (!holds) {
            wrong++;
            System.out.println("FaceTest: not so: " + what);
        }
    }

    private static void face() throws IOException {
        String doc = Files.readString(DOC);
        Set<String> told = new TreeSet<>();
        Matcher m = Pattern.compile("    public int (\\w+)\\(([^)]*)\\);").matcher(doc);
        while (m.find()) told.add(m.group(1) + " " + (m.group(2).isEmpty() ? 0 : m.group(2).split(",").length));
        Set<String> there = new TreeSet<>();
        for (Method method : SkinShow.class.getDeclaredMethods()) {
            if (!Modifier.isPublic(method.getModifiers())) continue;
            there.add(method.getName() + " " + method.getParameterCount());
            due(method.getReturnType() == int.class, method.getName() + " answers an int");
            for (Class<?> type : method.getParameterTypes()) due(type == int.class, method.getName() + " takes ints");
        }
        due(told.size() == 41, "the document tells 41 calls");
        due(told.equals(there), "the calls are " + told + " and not " + there);
        due(Modifier.isFinal(SkinShow.class.getModifiers()), "the class is final");
        due(SkinShow.class.getConstructors().length == 1, "one public constructor");
        due(SkinShow.class.getDeclaredConstructors().length == 1, "no other constructor");
        int[] constants = {SkinShow.BAD, SkinShow.NO, SkinShow.FULL, SkinShow.NONE, SkinShow.NOTHING, SkinShow.KIND,
            SkinShow.INDEX, SkinShow.SIZE};
        int[] ends = {1, 2, 3, 5, 11, 12, 13, 14};
        for (int i = 0; i < ends.length; i++) due(constants[i] == -1000000000 - ends[i], "constant " + i);
        Set<String> fields = new TreeSet<>();
        for (Field f : SkinShow.class.getDeclaredFields()) if (Modifier.isPublic(f.getModifiers())) fields.add(f.getName());
        due(fields.equals(new TreeSet<>(Set.of("BAD", "NO", "FULL", "NONE", "NOTHING", "KIND", "INDEX", "SIZE"))), "constants " + fields);
    }

    private static void members(Class<?> c, Set<String> publicNames) {
        boolean outer = c == SkinShow.class;
        due(outer || Modifier.isStatic(c.getModifiers()), c + " is static");
        int own = 0;
        for (Field f : c.getDeclaredFields()) {
            boolean isStatic = Modifier.isStatic(f.getModifiers());
            own += isStatic ? 0 : 1;
            due(!isStatic || Modifier.isFinal(f.getModifiers()), f + " is final");
            due(!outer || Modifier.isPrivate(f.getModifiers()) || Modifier.isPublic(f.getModifiers()), f + " is private");
        }
        due(own <= 20, c + " has at most twenty fields");
        for (Method m : c.getDeclaredMethods()) {
            due(!outer || Modifier.isPrivate(m.getModifiers()) || Modifier.isPublic(m.getModifiers()), m + " is private");
            due(!Modifier.isPrivate(m.getModifiers()) || !publicNames.contains(m.getName()), m + " has a name of its own");
            due(m.getParameterCount() <= 7, m + " takes at most seven");
        }
    }

    private static void words() throws IOException {
        String bare = Files.readString(PROGRAM).replaceAll("(?s)/\\*.*?\\*/", "").replaceAll("//[^\n]*", "");
        String[] never = {"\\bthrow\\b", "\\bthrows\\b", "\\btry\\b", "\\bcatch\\b", "\\bsynchronized\\b", "\\bassert\\b",
            "\\bpackage\\b", "\\bimport\\b(?! java\\.util\\.(ArrayList|Arrays|Iterator|List);)", "\\bprotected\\b", "::",
            "(?m)^(?!\\s*(case|default)\\b).*->", "\\w+Exact\\b", "\\bSystem\\.(?!arraycopy\\()", "\\bMAX_VALUE\\b",
            "\\bMIN_VALUE\\b", "\\bThread\\b", "\\bObject\\b", "boolean\\[\\]\\[\\]"};
        for (String word : never) due(!Pattern.compile(word).matcher(bare).find(), "none of " + word);
        for (char c : Files.readString(PROGRAM).toCharArray()) due(c < 128, "a sign within 0 to 127");
    }

    /** A method starts at a line that ends with ") {" four or eight columns in, and ends with its brace there. */
    private static void lengths() throws IOException {
        List<String> lines = Files.readAllLines(PROGRAM);
        for (int i = 0; i < lines.size(); i++) {
            Matcher m = Pattern.compile("( {4}| {8})(public|private)[^=]*\\) \\{").matcher(lines.get(i));
            if (!m.matches()) continue;
            int end = i;
            while (!lines.get(end).equals(m.group(1) + "}")) end++;
            due(end - i <= 65, "a short method in line " + (i + 1));
        }
    }
}
