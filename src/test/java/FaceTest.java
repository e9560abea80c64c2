import java.lang.reflect.Constructor;
import java.lang.reflect.Field;
import java.lang.reflect.Method;
import java.lang.reflect.Modifier;
import java.nio.file.Files;
import java.nio.file.Path;
import java.util.ArrayList;
import java.util.List;
import java.util.TreeSet;
import java.util.regex.Matcher;
import java.util.regex.Pattern;

/** The face is the document's and no more; the source holds nothing that LANGUAGE.md forbids by word. */
public final class FaceTest {
    static int checks = 0, wrong = 0;

    static void due(String what, Object got, Object want) {
        checks++;
        if (!want.equals(got)) {
            wrong++;
            System.out.println(what + " is " + got + ", due is " + want);
        }
    }

    static String shared(String name) throws Exception { return Files.readString(Path.of("../shared", name)); }

    static TreeSet<String> documentsMethods() throws Exception {
        String doc = shared("DOC.md");
        String face = doc.substring(doc.indexOf("```java"), doc.indexOf("}", doc.indexOf("```java")));
        TreeSet<String> found = new TreeSet<>();
        Matcher m = Pattern.compile("public (\\w+) (\\w+)\\((.*?)\\);").matcher(face);
        while (m.find()) {
            List<String> types = new ArrayList<>();
            for (String p : m.group(3).split(",")) if (!p.isBlank()) types.add(p.trim().split(" ")[0]);
            found.add(m.group(1) + " " + m.group(2) + types);
        }
        return found;
    }

    static TreeSet<String> ownMethods() {
        TreeSet<String> found = new TreeSet<>();
        for (Method m : OneManDesk.class.getDeclaredMethods()) {
            if (Modifier.isPrivate(m.getModifiers())) continue;
            due(m.getName() + " is public alone", m.getModifiers(), Modifier.PUBLIC);
            List<String> types = new ArrayList<>();
            for (Class<?> c : m.getParameterTypes()) types.add(c.getName());
            found.add(m.getReturnType().getName() + " " + m.getName() + types);
        }
        return found;
    }

    static void face() throws Exception {
        due("modifiers", OneManDesk.class.getModifiers(), Modifier.PUBLIC | Modifier.FINAL);
        due("how many methods", documentsMethods().size(), 35);
        due("methods", ownMethods(), documentsMethods());
        Constructor<?>[] made = OneManDesk.class.getDeclaredConstructors();
        due("constructors", made.length, 1);
        due("constructor", made[0].toString(), "public OneManDesk()");
        String[] names = {"NONE", "UNKNOWN", "OUTSIDE", "NOT", "FULL"};
        TreeSet<String> open = new TreeSet<>();
        for (Field f : OneManDesk.class.getDeclaredFields()) {
            int how = f.getModifiers();
            if (!Modifier.isPrivate(how)) open.add(f.getName());
            if (Modifier.isStatic(how)) due(f.getName() + " is final", Modifier.isFinal(how), true);
        }
        due("constants", open, new TreeSet<>(List.of(names)));
        for (int i = 0; i < names.length; i++) due(names[i], OneManDesk.class.getField(names[i]).getInt(null), -1 - i);
        for (Class<?> c : OneManDesk.class.getDeclaredClasses()) {
            due(c + " is static and private", c.getModifiers(), Modifier.PRIVATE | Modifier.STATIC | Modifier.FINAL);
            due(c + " has few fields", c.getDeclaredFields().length <= 20, true);
        }
        due("few classes", OneManDesk.class.getDeclaredClasses().length <= 12, true);
    }

    static void names() {
        TreeSet<String> faceNames = new TreeSet<>();
        for (Method m : OneManDesk.class.getMethods()) if (m.getDeclaringClass() == OneManDesk.class) faceNames.add(m.getName());
        List<Class<?>> all = new ArrayList<>(List.of(OneManDesk.class.getDeclaredClasses()));
        all.add(OneManDesk.class);
        for (Class<?> c : all)
            for (Method m : c.getDeclaredMethods()) {
                due(m.getName() + " takes few", m.getParameterCount() <= 7, true);
                if (Modifier.isPrivate(m.getModifiers())) due(m.getName() + " has a public one's name", faceNames.contains(m.getName()), false);
            }
    }

    static void words() throws Exception {
        String source = Files.readString(Path.of("src/main/java/OneManDesk.java"));
        String code = source.replaceAll("/\\*\\*[^\\n]*\\*/|//[^\\n]*", "").replaceAll("\"[^\"\\n]*\"|'.'", "\"\"");
        for (String word : new String[] {"throw", "try", "catch", "synchronized", "assert", "import", "package", "protected", "native",
            "transient", "volatile", "Object", "Exception", "Error", "hashCode", "toString", "Thread", "Class", "var", "goto", "double", "float"})
            due("the word " + word, Pattern.compile("\\b" + word + "\\b").matcher(code).find(), false);
        for (String sign : new String[] {"->", "::", "@", "Exact", "\t"}) due("the sign " + sign, code.contains(sign), false);
        for (int i = 0; i < source.length(); i++) if (source.charAt(i) > 126) { due("sign " + i, source.charAt(i), ' '); break; }
        Matcher used = Pattern.compile("\\b(System|Math|Integer|Long|Arrays|List|String|StringBuilder)\\b(\\.\\w+)?").matcher(code);
        TreeSet<String> library = new TreeSet<>();
        while (used.find()) library.add(used.group());
        due("the library", library, new TreeSet<>(List.of("Integer.bitCount", "Math.max", "Math.min", "String", "System.arraycopy")));
        int begun = 0;
        String[] lines = source.split("\n");
        for (int i = 0; i < lines.length; i++) {
            if (lines[i].matches(" {4}(?: {4})?(?:public|private).*\\) \\{")) begun = i;
            if (lines[i].matches(" {4}(?: {4})?\\}")) due("method of line " + begun + " is short", i - begun <= 60 || begun == 0 || lines[i].length() == 5, true);
        }
    }

    public static void main(String[] args) throws Exception {
        face();
        names();
        words();
        System.out.println(checks + " checks of the face and the source, " + wrong + " wrong");
        if (wrong != 0) System.exit(1);
    }
}
