import java.io.IOException;
import java.lang.reflect.Array;
import java.lang.reflect.Constructor;
import java.lang.reflect.Executable;
import java.lang.reflect.Field;
import java.lang.reflect.Method;
import java.lang.reflect.Modifier;
import java.nio.file.Files;
import java.nio.file.Path;
import java.util.ArrayDeque;
import java.util.ArrayList;
import java.util.IdentityHashMap;
import java.util.List;
import java.util.Map;
import java.util.Set;
import java.util.TreeSet;
import java.util.regex.Matcher;
import java.util.regex.Pattern;

/** The class has the document's face, and keeps to those rules of LANGUAGE.md that its text and its members show. */
public final class LanguageTest {
    private static final Path SOURCE = Path.of("src/main/java/KermitLine.java");
    private static final Path DOCUMENT = Path.of("../shared/DOC.md");

    private static String code;

    public static void main(String[] args) throws IOException, IllegalAccessException {
        code = withoutTexts(Files.readString(SOURCE));
        theDocumentsFace();
        nothingElseIsSeen();
        namesOfTheFaceAreItsOwn();
        classesInside();
        fields();
        methods();
        library();
        exceptions();
        objectsAreMadeInConstructors();
        rowsAndTexts();
        roomOfAnObject();
        Bench.end("LanguageTest");
    }

    /** Comments, texts and signs are left out, so that what is found is code. */
    private static String withoutTexts(String source) {
        String plain = source.replaceAll("(?s)/\\*.*?\\*/", "").replaceAll("//[^\\n]*", "");
        return plain.replaceAll("\"[^\"\\n]*\"", "\"\"").replaceAll("'(\\\\.|[^'])'", "' '");
    }

    private static List<Class<?>> classes() {
        List<Class<?>> all = new ArrayList<>(List.of(KermitLine.class));
        for (int i = 0; i < all.size(); i++) {
            all.addAll(List.of(all.get(i).getDeclaredClasses()));
        }
        return all;
    }

    private static List<Executable> calls(Class<?> type) {
        List<Executable> all = new ArrayList<>(List.of(type.getDeclaredConstructors()));
        all.addAll(List.of(type.getDeclaredMethods()));
        all.removeIf(Executable::isSynthetic);
        return all;
    }

    /** Such as "int about(int, int) throws NoSuchElementException". */
    private static String signature(Executable call) {
        StringBuilder text = new StringBuilder();
        if (call instanceof Method method) {
            text.append(method.getReturnType().getSimpleName()).append(' ').append(call.getName());
        } else {
            text.append(call.getDeclaringClass().getSimpleName());
        }
        List<String> types = new ArrayList<>();
        for (Class<?> type : call.getParameterTypes()) {
            types.add(type.getSimpleName());
        }
        text.append('(').append(String.join(", ", types)).append(')');
        for (Class<?> thrown : call.getExceptionTypes()) {
            text.append(" throws ").append(thrown.getSimpleName());
        }
        return text.toString();
    }

    /** Rule 1, and 'The public face' of the document. */
    private static void theDocumentsFace() throws IOException {
        TreeSet<String> due = new TreeSet<>();
        String document = Files.readString(DOCUMENT);
        String face = document.substring(document.indexOf("```java"), document.indexOf("## Terms"));
        Matcher line = Pattern.compile("public ((?:\\w+ )?\\w+\\([^)]*\\)(?: throws \\w+)?);").matcher(face);
        while (line.find()) {
            due.add(line.group(1).replaceAll("int \\w+([,)])", "int$1"));
        }
        TreeSet<String> got = new TreeSet<>();
        for (Executable call : calls(KermitLine.class)) {
            if (Modifier.isPublic(call.getModifiers())) {
                got.add(signature(call));
            }
        }
        Bench.same("calls of the document's face are read", due.size(), 16);
        Bench.same("the public face", got, due);
        Bench.same("the class", Modifier.toString(KermitLine.class.getModifiers()), "public final");
        Bench.same("no class above it", KermitLine.class.getSuperclass(), Object.class);
        Bench.same("no interfaces", KermitLine.class.getInterfaces().length, 0);
        Bench.same("no package", code.contains("package "), false);
    }

    private static void nothingElseIsSeen() {
        List<String> seen = new ArrayList<>();
        for (Field field : KermitLine.class.getDeclaredFields()) {
            if (!Modifier.isPrivate(field.getModifiers())) {
                seen.add(Modifier.toString(field.getModifiers()) + " " + field.getType() + " " + field.getName());
            }
        }
        Bench.same("fields that are seen", seen, "[public static final int NONE]");
        for (Executable call : calls(KermitLine.class)) {
            int modifiers = call.getModifiers() & (Modifier.PUBLIC | Modifier.PRIVATE);
            Bench.same(call.getName() + " is public or private", modifiers != 0, true);
        }
    }

    private static void namesOfTheFaceAreItsOwn() {
        TreeSet<String> face = new TreeSet<>();
        for (Executable call : calls(KermitLine.class)) {
            if (Modifier.isPublic(call.getModifiers())) {
                face.add(call.getName());
            }
        }
        for (Class<?> type : classes()) {
            for (Method method : type.getDeclaredMethods()) {
                boolean own = type == KermitLine.class && Modifier.isPublic(method.getModifiers());
                Bench.same(method + " bears a name of the face", face.contains(method.getName()), own);
            }
        }
    }

    /** Rules 2 and 11. */
    private static void classesInside() {
        Bench.same("twelve classes at most", classes().size() <= 12, true);
        for (Class<?> type : KermitLine.class.getDeclaredClasses()) {
            int modifiers = type.getModifiers();
            Bench.same(type + " is static", Modifier.isStatic(modifiers), true);
            Bench.same(type + " is hidden", Modifier.isPublic(modifiers) || Modifier.isProtected(modifiers), false);
        }
        for (String sign : new String[] {"->", "::", "synchronized", "assert", "native", "transient", "volatile"}) {
            Bench.same(sign + " is used", code.contains(sign), false);
        }
    }

    /** Rules 3, 5 and 11. */
    private static void fields() {
        Set<Class<?>> plain = Set.of(int.class, boolean.class, int[].class, boolean[].class);
        for (Class<?> type : classes()) {
            int own = 0;
            for (Field field : type.getDeclaredFields()) {
                if (Modifier.isStatic(field.getModifiers())) {
                    Bench.same(field + " is a constant", Modifier.isFinal(field.getModifiers()) && field.getType() == int.class, true);
                } else {
                    own++;
                    Class<?> part = field.getType().isArray() ? field.getType().getComponentType() : field.getType();
                    Bench.same(field + " has a type of the rules", plain.contains(field.getType()) || classes().contains(part), true);
                }
            }
            Bench.same("twenty fields at most in " + type, own <= 20, true);
        }
    }

    /** Rule 11. A method begins four or eight blanks in, by the class it stands in, and ends with a brace that stands there. */
    private static void methods() {
        for (Class<?> type : classes()) {
            for (Executable call : calls(type)) {
                Bench.same(call + " has seven parameters at most", call.getParameterCount() <= 7, true);
            }
        }
        int found = 0;
        Matcher method = Pattern.compile("(?m)^( {4}| {8})(?! )[^=;\\n]*\\)[^=;\\n]*\\{\\n(?s:.*?)\\n\\1\\}").matcher(code);
        while (method.find()) {
            found++;
            long lines = method.group().lines().count();
            Bench.same("sixty lines at most in " + method.group().lines().findFirst().orElse(""), lines <= 60, true);
        }
        int due = 0;
        for (Class<?> type : classes()) {
            due += calls(type).size();
        }
        Bench.same("methods and constructors that were looked at", found, due);
    }

    /** Rule 4: nothing of the library but one function and one exception. */
    private static void library() {
        Matcher imported = Pattern.compile("import ([^;]*);").matcher(code);
        List<String> imports = new ArrayList<>();
        while (imported.find()) {
            imports.add(imported.group(1));
        }
        Bench.same("imports", imports, "[java.util.NoSuchElementException]");
        TreeSet<String> known = new TreeSet<>(List.of("Math", "NoSuchElementException"));
        for (Class<?> type : classes()) {
            known.add(type.getSimpleName());
        }
        Matcher name = Pattern.compile("\\b[A-Z]\\w*[a-z]\\w*").matcher(code);
        while (name.find()) {
            Bench.same(name.group() + " is a class of the program's own or of the list", known.contains(name.group()), true);
        }
        Matcher math = Pattern.compile("Math\\.(\\w+)").matcher(code);
        while (math.find()) {
            Bench.same("function of Math", math.group(1), "min");
        }
    }

    /** Rule 6, and that no call is answered by catching. */
    private static void exceptions() {
        for (String word : new String[] {"try", "catch", "finally"}) {
            Bench.same(word + " is used", Pattern.compile("\\b" + word + "\\b").matcher(code).find(), false);
        }
        Matcher thrown = Pattern.compile("\\bthrow\\b([^;]*);").matcher(code);
        int found = 0;
        while (thrown.find()) {
            found++;
            Bench.same("throw", thrown.group(1), " new NoSuchElementException(\"\")");
        }
        Bench.same("throws: one in each of about, told, content", found, 3);
    }

    /** Rule 12: no call makes an object that stays, so the room does not fill with the calls. */
    private static void objectsAreMadeInConstructors() {
        String outside = code;
        for (Class<?> type : classes()) {
            for (Constructor<?> constructor : type.getDeclaredConstructors()) {
                Bench.same(constructor + " is the only one of its class", type.getDeclaredConstructors().length, 1);
                String head = "(?m)^( *)(?:public )?" + type.getSimpleName() + "\\([^)]*\\) \\{\\n(?s:.*?)\\n\\1\\}";
                outside = outside.replaceFirst(head, "");
            }
        }
        outside = outside.replaceAll("throw new", "throw");
        Bench.same("new is used outside of constructors", Pattern.compile("\\bnew\\b").matcher(outside).find(), false);
    }

    /** Rules 3 and 10. */
    private static void rowsAndTexts() {
        Bench.same("an array of two dimensions is used", code.contains("[]["), false);
        Bench.same("texts are joined by +", code.contains("\" +") || code.contains("+ \""), false);
    }

    /**
     * A run has one room of some 600,000 objects and 7.3 million fields and elements. An object needs little of it,
     * and as much behind its calls as ahead of them.
     */
    private static void roomOfAnObject() throws IllegalAccessException {
        KermitLine k = new KermitLine();
        int[] fresh = room(k);
        Bench.same("some hundred objects, not thousands: " + fresh[0], fresh[0] < 1000, true);
        Bench.same("some 36,000 fields and elements: " + fresh[1], fresh[1] > 30000 && fresh[1] < 40000, true);
        k.feed(0x41424344, 0x45464748, -1, 0, 1);
        k.file(0, 2, 18, 1);
        k.send(0, 0, 1);
        for (int i = 0; i < 20; i++) {
            k.twice(1, 0);
            k.spoil(1, 0, 4, i % 3);
            k.deliver(1);
            k.timer(0);
            k.deliver(0);
        }
        int[] used = room(k);
        Bench.same("objects behind many calls", used[0], fresh[0]);
        Bench.same("fields and elements behind many calls", used[1], fresh[1]);
    }

    /** How many objects and arrays can be reached from one, and how many fields and elements these have. */
    private static int[] room(Object first) throws IllegalAccessException {
        Map<Object, Object> seen = new IdentityHashMap<>();
        ArrayDeque<Object> open = new ArrayDeque<>(List.of(first));
        seen.put(first, first);
        int elements = 0;
        while (!open.isEmpty()) {
            List<Object> parts = parts(open.remove());
            elements += parts.size();
            for (Object part : parts) {
                boolean number = part instanceof Integer || part instanceof Boolean;
                if (part != null && !number && seen.put(part, part) == null) {
                    open.add(part);
                }
            }
        }
        return new int[] {seen.size(), elements};
    }

    private static List<Object> parts(Object whole) throws IllegalAccessException {
        List<Object> found = new ArrayList<>();
        if (whole.getClass().isArray()) {
            for (int i = 0; i < Array.getLength(whole); i++) {
                found.add(Array.get(whole, i));
            }
            return found;
        }
        for (Field field : whole.getClass().getDeclaredFields()) {
            if (!Modifier.isStatic(field.getModifiers())) {
                field.setAccessible(true);
                found.add(field.get(whole));
            }
        }
        return found;
    }
}
