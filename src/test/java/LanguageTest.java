import java.lang.reflect.Constructor;
import java.lang.reflect.Field;
import java.lang.reflect.Method;
import java.lang.reflect.Modifier;
import java.nio.file.Files;
import java.nio.file.Path;
import java.util.ArrayList;
import java.util.Arrays;
import java.util.List;
import java.util.TreeSet;
import java.util.regex.Matcher;
import java.util.regex.Pattern;

/** The face of the class, and what of the rules of LANGUAGE.md can be seen from its text and members. */
public final class LanguageTest {
    private static final String[] FORBIDDEN = {"\\bthrow\\b", "\\bthrows\\b", "\\btry\\b", "\\bcatch\\b",
        "\\bfinally\\b", "\\bsynchronized\\b", "\\bassert\\b", "->", "::", "\\bprotected\\b", "static \\{",
        "Exact\\(", "\\bSystem\\.(?!arraycopy)", "\\bRandom\\b", "\\bThread\\b", "\\bString\\[\\]", "\\bhashCode\\b",
        "\\bvar\\b", "\\bObject\\b", "@Override", "\\bnew int\\[[^\\]]*\\]\\[[^\\]]*\\]"};
    private static int wrong = 0;

    private static void say(String what) {
        wrong++;
        System.out.println(what);
    }

    /** The methods of the document's face, or its constants, as the document writes them. */
    private static TreeSet<String> faceOf(String pattern) throws Exception {
        String doc = Files.readString(Path.of("../shared/DOC.md"));
        int from = doc.indexOf("public final class OutgrownCoats {");
        String face = from < 0 ? "" : doc.substring(from, doc.indexOf("```", from));
        TreeSet<String> all = new TreeSet<>();
        Matcher m = Pattern.compile(pattern).matcher(face);
        while (m.find()) all.add(m.group(1).replaceAll("(int|long) \\w+(?=[,)])", "$1"));
        return all;
    }

    private static void checkConstants() throws Exception {
        TreeSet<String> got = new TreeSet<>();
        for (Field f : OutgrownCoats.class.getDeclaredFields()) {
            if (Modifier.isPublic(f.getModifiers())) got.add(f.getType() + " " + f.getName() + " = " + f.get(null));
        }
        TreeSet<String> want = faceOf("public static final ([^;]+);");
        if (want.size() != 2 || !got.equals(want)) say("the constants are " + got + " and not " + want);
    }

    private static void checkFace() throws Exception {
        TreeSet<String> got = new TreeSet<>();
        TreeSet<String> hiddenNames = new TreeSet<>();
        for (Method m : OutgrownCoats.class.getDeclaredMethods()) {
            if (Modifier.isPublic(m.getModifiers())) {
                List<String> types = new ArrayList<>();
                for (Class<?> t : m.getParameterTypes()) types.add(t.getName());
                got.add(m.getReturnType().getName() + " " + m.getName() + "(" + String.join(", ", types) + ")");
            } else if (!Modifier.isPrivate(m.getModifiers())) {
                say("visible beside the face: " + m);
            }
        }
        TreeSet<String> want = faceOf("public ((?:int|long) \\w+\\([^)]*\\));");
        if (want.size() != 39 || !got.equals(want)) say("the face is " + got + " and not " + want);
        List<Class<?>> classes = new ArrayList<>(Arrays.asList(OutgrownCoats.class.getDeclaredClasses()));
        if (classes.size() + 1 > 12) say(classes.size() + 1 + " classes");
        classes.add(OutgrownCoats.class);
        TreeSet<String> names = new TreeSet<>();
        for (String f : want) names.add(f.replaceAll("^\\w+ |\\(.*", ""));
        for (Class<?> c : classes) checkClass(c, names);
        Constructor<?>[] made = OutgrownCoats.class.getDeclaredConstructors();
        if (made.length != 1 || !Modifier.isPublic(made[0].getModifiers()) || made[0].getParameterCount() != 0) say("constructors");
    }

    private static void checkClass(Class<?> c, TreeSet<String> names) {
        boolean outer = c == OutgrownCoats.class;
        if (!outer && (!Modifier.isStatic(c.getModifiers()) || Modifier.isPublic(c.getModifiers()))) say("class " + c);
        for (Method m : c.getDeclaredMethods()) {
            if (m.getParameterCount() > 7) say("more than seven parameters: " + m);
            boolean isFace = outer && Modifier.isPublic(m.getModifiers());
            if (!isFace && names.contains(m.getName())) say("bears the name of a public one: " + m);
        }
        int fields = 0;
        for (Field f : c.getDeclaredFields()) {
            boolean isStatic = Modifier.isStatic(f.getModifiers());
            if (isStatic && !Modifier.isFinal(f.getModifiers())) say("static and not final: " + f);
            if (!isStatic) fields++;
            boolean isConstant = outer && (f.getName().equals("NONE") || f.getName().equals("NOTHING"));
            if (outer && isConstant != Modifier.isPublic(f.getModifiers())) say("field " + f);
            if (outer && !isConstant && !Modifier.isPrivate(f.getModifiers())) say("field " + f);
        }
        if (fields > 20) say(fields + " fields: " + c);
    }

    private static void checkText() throws Exception {
        String text = Files.readString(Path.of("src/main/java/OutgrownCoats.java"));
        for (char sign : text.toCharArray()) {
            if (sign > 126 || sign < 32 && sign != '\n') {
                say("a sign beyond plain text: " + (int) sign);
                break;
            }
        }
        String code = text.replaceAll("(?s)/\\*.*?\\*/", "").replaceAll("//[^\n]*", "").replaceAll("\"[^\"\n]*\"", "\"\"");
        for (String f : FORBIDDEN) {
            Matcher m = Pattern.compile(f).matcher(code);
            if (m.find()) say("forbidden: " + m.group());
        }
        Matcher imports = Pattern.compile("import ([\\w.]+);").matcher(code);
        while (imports.find()) {
            if (!imports.group(1).equals("java.util.Arrays")) say("import " + imports.group(1));
        }
        checkLengths(text.split("\n", -1));
    }

    private static void checkLengths(String[] lines) {
        Pattern head = Pattern.compile("^(    |        )(?! )[^=;]*\\([^;]*\\) \\{$");
        int start = -1;
        String indent = "";
        for (int i = 0; i < lines.length; i++) {
            if (lines[i].length() > 120) say("line " + (i + 1) + " is long");
            Matcher m = head.matcher(lines[i]);
            if (m.find() && !lines[i].trim().matches("(if|for|while|switch|else)\\b.*")) {
                start = i;
                indent = m.group(1);
            } else if (start >= 0 && lines[i].equals(indent + "}")) {
                if (i - start + 1 > 60) say("a method of " + (i - start + 1) + " lines at line " + (start + 1));
                start = -1;
            }
        }
    }

    public static void main(String[] args) throws Exception {
        checkFace();
        checkConstants();
        checkText();
        System.out.println(wrong == 0 ? "the rules hold" : wrong + " rules broken");
        if (wrong != 0) System.exit(1);
    }
}
