import java.io.IOException;
import java.lang.reflect.Array;
import java.lang.reflect.Field;
import java.lang.reflect.Method;
import java.lang.reflect.Modifier;
import java.nio.file.Files;
import java.nio.file.Path;
import java.util.ArrayList;
import java.util.Arrays;
import java.util.List;
import java.util.regex.Matcher;
import java.util.regex.Pattern;

/** The rules of LANGUAGE.md that can be asked of the text and of the compiled class, and the room of one object. */
public final class RulesTest {
    private static final Path SOURCE = Path.of("src/main/java/PortableFiles.java");

    public static void main(String[] args) throws IOException {
        String code = withoutCommentsAndTexts(Files.readString(SOURCE));
        noLibraryButTheList(code);
        noWordsThatAreRuledOut(code);
        exceptionsOfTheList(code);
        methodsStayShort(code);
        classesAndTheirFields();
        anObjectHoldsTheSameRowsAlways();
        Check.end();
    }

    private static String withoutCommentsAndTexts(String source) {
        return source.replaceAll("(?s)/\\*.*?\\*/", "").replaceAll("//[^\n]*", "").replaceAll("\"[^\"\n]*\"", "\"\"");
    }

    private static void noLibraryButTheList(String code) {
        Check.sentence("The library: only what stands here.");
        Check.due("imports", found(code, "import [^;]*;").toString(), "[import java.util.Arrays;]");
        List<String> allowed = List.of("Math.min(", "Arrays.fill(", "System.arraycopy(");
        for (String call : found(code, "\\b(Math|Arrays|System|Integer|Long|String|Objects|Character)\\.\\w+\\(?")) {
            Check.due(call, allowed.contains(call) ? 1 : 0, 1);
        }
    }

    private static void noWordsThatAreRuledOut(String code) {
        Check.sentence("written in Java 17 and in the part of it that these rules leave");
        // some of these words may stand under a condition; the class needs none of them
        String[] words = {"try", "catch", "finally", "synchronized", "assert", "native", "volatile", "instanceof",
            "protected", "double", "float", "package", "equals", "hashCode", "toString"};
        for (String word : words) {
            Check.due(word, found(code, "\\b" + word + "\\b").size(), 0);
        }
        Check.due("lambdas and references", found(code, "->|::").size(), 0);
        Check.due("static blocks", found(code, "static\\s*\\{").size(), 0);
    }

    private static void exceptionsOfTheList(String code) {
        Check.sentence("throw new E() or throw new E(\"a written text\")");
        int right = found(code, "throw new (IllegalState|IllegalArgument|IndexOutOfBounds|UnsupportedOperation)"
                + "Exception\\(\"\"\\);").size();
        Check.due("throws of the list", right, found(code, "\\bthrow\\b").size());
    }

    private static void methodsStayShort(String code) {
        Check.sentence("Methods stay short (some sixty lines)");
        int begun = -1;
        int methods = 0;
        String[] lines = code.split("\n");
        for (int i = 0; i < lines.length; i++) {
            if (lines[i].matches("( {4}| {8})[a-z][^=;]*\\(.*")) {
                begun = i;
            }
            if (begun >= 0 && lines[i].matches("( {4}| {8})}")) {
                Check.due("a method of at most 60 lines: " + lines[begun].trim(), i - begun < 60 ? 1 : 0, 1);
                begun = -1;
                methods++;
            }
        }
        Check.due("the methods were found", methods > 100 ? 1 : 0, 1);
    }

    private static void classesAndTheirFields() {
        Check.sentence("the file has at most some twelve classes, and a class some twenty fields beside its constants");
        List<Class<?>> all = new ArrayList<>(Arrays.asList(PortableFiles.class.getDeclaredClasses()));
        all.add(PortableFiles.class);
        Check.due("at most twelve classes", all.size() <= 12 ? 1 : 0, 1);
        for (Class<?> one : all) {
            int fields = 0;
            for (Field f : one.getDeclaredFields()) {
                boolean isStatic = Modifier.isStatic(f.getModifiers());
                fields += isStatic ? 0 : 1;
                Check.due(f + " is final if static", !isStatic || Modifier.isFinal(f.getModifiers()) ? 1 : 0, 1);
            }
            Check.due("at most twenty fields in " + one, fields <= 20 ? 1 : 0, 1);
            for (Method m : one.getDeclaredMethods()) {
                Check.due("at most seven parameters of " + m, m.getParameterCount() <= 7 ? 1 : 0, 1);
            }
        }
    }

    /** All calls of a run share one room, so no call may make rows of its own and keep them. */
    private static void anObjectHoldsTheSameRowsAlways() {
        Check.sentence("What a run makes is counted");
        PortableFiles x = new PortableFiles();
        List<Object> held = heldBy(x);
        int elements = 0;
        for (Object o : held) {
            elements += o.getClass().isArray() ? Array.getLength(o) : 0;
        }
        Check.due("few elements in one object", elements < 7000 ? 1 : 0, 1);
        x.head(12, 12, 8, 6);
        x.extra(ChunkFile.letters("abCd"));
        for (int k = 0; k < 3; k++) {
            x.put(k, 0, 0, 1);
            x.write();
            x.drop();
            x.pass(0, 2000);
            Check.due("read", x.read(), 13);
            x.take();
            x.reduce();
        }
        List<Object> then = heldBy(x);
        Check.due("as many rows and objects", then.size(), held.size());
        for (int k = 0; k < held.size(); k++) {
            Check.due("the same object", then.get(k) == held.get(k) ? 1 : 0, 1);
        }
    }

    private static List<Object> heldBy(Object holder) {
        List<Object> all = new ArrayList<>();
        all.add(holder);
        try {
            for (Field f : holder.getClass().getDeclaredFields()) {
                if (!Modifier.isStatic(f.getModifiers()) && !f.getType().isPrimitive()) {
                    f.setAccessible(true);
                    Object held = f.get(holder);
                    all.addAll(held.getClass().isArray() ? List.of(held) : heldBy(held));
                }
            }
        } catch (IllegalAccessException e) {
            throw new AssertionError(e);
        }
        return all;
    }

    private static List<String> found(String code, String pattern) {
        List<String> all = new ArrayList<>();
        Matcher m = Pattern.compile(pattern).matcher(code);
        while (m.find()) {
            all.add(m.group());
        }
        return all;
    }
}
