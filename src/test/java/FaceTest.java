import java.lang.reflect.Field;
import java.lang.reflect.Member;
import java.lang.reflect.Method;
import java.lang.reflect.Modifier;
import java.nio.file.Files;
import java.nio.file.Path;
import java.util.ArrayList;
import java.util.Arrays;
import java.util.List;
import java.util.TreeSet;
import java.util.regex.Matcher;
import java.util.regex.Pattern;

/** The face is the document's and no more; the source keeps to those rules of LANGUAGE.md that can be seen in it. */
public final class FaceTest {
    private static final String DOCUMENT = "../shared/DOC.md";
    private static final Pattern TOLD = Pattern.compile("    public int (\\w+)\\(([^)]*)\\);");
    private static final String[] RULED_OUT = {"throw", "throws", "try", "catch", "synchronized", "assert", "import",
        "package", "protected", "goto", "->", "::", "Object", "Random", "System.out", "hashCode", "getClass", "volatile",
        "transient", "native", "strictfp", "Exact"};
    private static int wrong = 0;

    public static void main(String[] args) throws Exception {
        TreeSet<String> told = toldFace(Files.readString(Path.of(DOCUMENT)));
        face(told);
        members(told);
        nested();
        source(Files.readString(Path.of(args.length > 0 ? args[0] : "src/main/java/DiverBottle.java")));
        System.out.println(wrong == 0 ? "the face is as due" : wrong + " faults of the face or the source");
        if (wrong != 0) System.exit(1);
    }

    private static void check(boolean good, String what) {
        if (good) return;
        wrong++;
        System.out.println(what);
    }

    /** The methods under 'The public face', as name(type,type). */
    private static TreeSet<String> toldFace(String document) {
        TreeSet<String> told = new TreeSet<>();
        Matcher m = TOLD.matcher(document);
        while (m.find()) told.add(m.group(1) + "(" + m.group(2).replaceAll(" \\w+(, )?", ",").replaceFirst(",$", "") + ")");
        return told;
    }

    private static void face(TreeSet<String> due) throws Exception {
        TreeSet<String> is = new TreeSet<>();
        for (Method m : DiverBottle.class.getDeclaredMethods()) {
            if (!Modifier.isPublic(m.getModifiers())) continue;
            StringBuilder types = new StringBuilder();
            for (Class<?> c : m.getParameterTypes()) types.append(types.length() > 0 ? "," : "").append(c.getName());
            is.add(m.getName() + "(" + types + ")");
            check(m.getReturnType() == int.class && !Modifier.isStatic(m.getModifiers()), "no int method: " + m);
        }
        check(is.equals(due), "the methods are " + is);
        check(is.size() == 42, "there are " + is.size() + " methods");
        int mods = DiverBottle.class.getModifiers();
        check(Modifier.isFinal(mods) && Modifier.isPublic(mods), "the class is not public and final");
        check(DiverBottle.class.getDeclaredConstructors().length == 1, "more than one constructor");
        check(DiverBottle.class.getConstructor() != null, "no public constructor");
        String[] names = {"BAD", "STATE", "FULL", "NONE"};
        for (int i = 0; i < 4; i++) {
            check(DiverBottle.class.getField(names[i]).getInt(null) == -1 - i, "the constant " + names[i]);
        }
        check(DiverBottle.class.getFields().length == 4, "other public constants");
    }

    private static void members(TreeSet<String> told) {
        TreeSet<String> publicNames = new TreeSet<>();
        for (String f : told) publicNames.add(f.replaceFirst("\\(.*", ""));
        List<Member> all = new ArrayList<>();
        all.addAll(Arrays.asList(DiverBottle.class.getDeclaredMethods()));
        all.addAll(Arrays.asList(DiverBottle.class.getDeclaredFields()));
        for (Member m : all) {
            int mods = m.getModifiers();
            if (Modifier.isPublic(mods)) continue;
            check(Modifier.isPrivate(mods), "rule 1: visible: " + m);
            check(!(m instanceof Method) || !publicNames.contains(m.getName()), "rule 1: a public name: " + m);
        }
        for (Class<?> c : DiverBottle.class.getDeclaredClasses()) {
            for (Method m : c.getDeclaredMethods()) {
                check(!publicNames.contains(m.getName()), "rule 1: a public name inside: " + m);
            }
        }
    }

    private static void nested() {
        Class<?>[] inside = DiverBottle.class.getDeclaredClasses();
        check(inside.length < 12, "rule 11: classes: " + inside.length);
        List<Class<?>> all = new ArrayList<>(Arrays.asList(inside));
        all.add(DiverBottle.class);
        for (Class<?> c : all) {
            int fields = 0;
            check(c == DiverBottle.class || Modifier.isStatic(c.getModifiers()), "rule 2: not static: " + c);
            for (Field f : c.getDeclaredFields()) {
                boolean isStatic = Modifier.isStatic(f.getModifiers());
                if (!isStatic) fields++;
                check(!isStatic || Modifier.isFinal(f.getModifiers()), "rule 5: static and not final: " + f);
            }
            check(fields <= 20, "rule 11: fields of " + c + ": " + fields);
            for (Method m : c.getDeclaredMethods()) check(m.getParameterCount() <= 7, "rule 11: parameters: " + m);
        }
    }

    private static void source(String text) {
        String bare = text.replaceAll("(?s)/\\*.*?\\*/", "").replaceAll("//[^\n]*", "").replaceAll("\"[^\"\n]*\"", "\"\"");
        for (String word : RULED_OUT) {
            String edge = Character.isLetter(word.charAt(0)) ? "\\b" : "";
            Matcher m = Pattern.compile(edge + Pattern.quote(word) + (word.equals("Exact") ? "" : edge)).matcher(bare);
            check(!m.find(), "the source has " + word);
        }
        check(!Pattern.compile("\\w+Exact\\b").matcher(bare).find(), "rule 4: a function that ends in Exact");
        check(text.chars().allMatch(c -> c == '\n' || (c >= 32 && c < 127)), "a sign that is not ASCII");
        int length = 0;
        for (String line : text.split("\n")) {
            length = line.matches("    }|        }") ? 0 : length + 1;
            if (line.matches("    (    )?(public|private|boolean|int|void).*\\{")) length = 1;
            check(length <= 60 || !line.startsWith("            "), "rule 11: a long method: " + line);
        }
    }
}
