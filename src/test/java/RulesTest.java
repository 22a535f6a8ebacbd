import java.io.IOException;
import java.lang.reflect.Constructor;
import java.lang.reflect.Field;
import java.lang.reflect.Method;
import java.lang.reflect.Modifier;
import java.nio.charset.StandardCharsets;
import java.nio.file.Files;
import java.nio.file.Path;
import java.util.HashSet;
import java.util.Set;
import java.util.TreeSet;
import java.util.regex.Matcher;
import java.util.regex.Pattern;

/** The public face of the document, and those rules of LANGUAGE.md that a look at the text or the class shows. */
public final class RulesTest {
    private static final Due DUE = new Due("RulesTest");
    private static final String[] FACE = {
        "feed(int,long)", "beds()", "bed(int)", "cavern(int,int,int)", "string(int,int,int,int)", "law(int,int)",
        "step(int,int)", "half(int,int)", "ring(int,int,int)", "of(int,int)", "years(int)", "set(int,int)",
        "between(int,int,int,boolean)", "fill(int,boolean,int,boolean)", "owner(int)", "has(int,int,boolean)",
        "spread(int)", "sinks(int)", "close(int)", "giveUp(int)", "breach(int,boolean)", "wall(int,int,int)",
        "near(int,int)", "fall(int,int)", "mend(int)", "hidden(int,int)", "reading(int,int,int,int)",
        "bounds(int,int,int)", "quarrel(int)", "nextEcho(int,int)", "test(int,int,int,int,int,int)", "leak(int,int)",
        "howLong(int,int,int)", "need(int,int)", "gives(int,int)", "given(int)", "proof(int)", "aim(int,int)",
        "choice(int,int,int)", "noChoices()", "plan(int,int,int)", "undo()", "count(int)"
    };

    public static void main(String[] args) throws IOException {
        face();
        members(SaltRooms.class);
        for (Class<?> inside : SaltRooms.class.getDeclaredClasses()) {
            DUE.is(inside + " is static", Modifier.isStatic(inside.getModifiers()) ? 1 : 0, 1);
            DUE.is(inside + " is not public", inside.getModifiers() & (Modifier.PUBLIC | Modifier.PROTECTED), 0);
            DUE.is(inside + " has none inside", inside.getDeclaredClasses().length, 0);
            members(inside);
        }
        DUE.is("classes", SaltRooms.class.getDeclaredClasses().length < 12 ? 1 : 0, 1);
        String source = Files.readString(Path.of("src/main/java/SaltRooms.java"), StandardCharsets.ISO_8859_1);
        text(source);
        DUE.end();
    }

    private static void face() {
        Set<String> want = new TreeSet<>(Set.of(FACE));
        Set<String> got = new TreeSet<>();
        Set<String> names = new HashSet<>();
        for (Method method : SaltRooms.class.getDeclaredMethods()) {
            int marks = method.getModifiers();
            if (Modifier.isPublic(marks)) {
                got.add(signature(method));
                names.add(method.getName());
                DUE.is(method + " answers int", method.getReturnType() == int.class ? 1 : 0, 1);
            } else {
                DUE.is(method + " is private", Modifier.isPrivate(marks) ? 1 : 0, 1);
            }
        }
        DUE.is("the face: " + want + " and " + got, want.equals(got) ? 1 : 0, 1);
        for (Constructor<?> one : SaltRooms.class.getDeclaredConstructors()) {
            DUE.is(one + " is public, without parameters", one.getParameterCount() + one.getModifiers(), 1);
        }
        for (Field field : SaltRooms.class.getDeclaredFields()) {
            DUE.is(field + " is private", Modifier.isPrivate(field.getModifiers()) ? 1 : 0, 1);
        }
        for (Class<?> inside : SaltRooms.class.getDeclaredClasses()) {
            for (Method method : inside.getDeclaredMethods()) {
                DUE.is(method + " bears no public one's name", names.contains(method.getName()) ? 1 : 0, 0);
            }
        }
        for (Method method : SaltRooms.class.getDeclaredMethods()) {
            boolean both = !Modifier.isPublic(method.getModifiers()) && names.contains(method.getName());
            DUE.is(method + " bears no public one's name", both ? 1 : 0, 0);
        }
        DUE.is("final", SaltRooms.class.getModifiers(), Modifier.PUBLIC | Modifier.FINAL);
    }

    private static String signature(Method method) {
        StringBuilder all = new StringBuilder(method.getName()).append('(');
        for (Class<?> type : method.getParameterTypes()) {
            all.append(all.charAt(all.length() - 1) == '(' ? "" : ",").append(type.getName());
        }
        return all.append(')').toString();
    }

    private static void members(Class<?> owner) {
        int fields = 0;
        for (Field field : owner.getDeclaredFields()) {
            if (Modifier.isStatic(field.getModifiers())) {
                DUE.is(field + " is final", Modifier.isFinal(field.getModifiers()) ? 1 : 0, 1);
            } else {
                fields++;
            }
        }
        DUE.is(owner + " has some twenty fields", fields <= 20 ? 1 : 0, 1);
        for (Method method : owner.getDeclaredMethods()) {
            DUE.is(method + " takes seven at most", method.getParameterCount() <= 7 ? 1 : 0, 1);
            DUE.is(method + " is its object's own", Set.of("equals", "hashCode", "toString")
                    .contains(method.getName()) ? 1 : 0, 0);
        }
    }

    private static void text(String source) {
        for (int i = 0; i < source.length(); i++) {
            if (source.charAt(i) > 126) {
                DUE.is("a plain sign at " + i, source.charAt(i), 126);
            }
        }
        String code = source.replaceAll("(?s)/\\*.*?\\*/", " ").replaceAll("//[^\n]*", " ")
                .replaceAll("'[^']'", "0");
        String[] words = {"throw", "throws", "try", "catch", "finally", "synchronized", "assert", "import", "package",
            "Object", "Random", "Thread", "volatile", "native", "transient", "yield", "record", "interface", "abstract",
            "float", "double", "Math\\s*\\.\\s*\\w+Exact", "MAX_VALUE", "MIN_VALUE", "while", "instanceof"};
        for (String word : words) {
            DUE.is("no " + word, Pattern.compile("\\b" + word + "\\b").matcher(code).find() ? 1 : 0, 0);
        }
        DUE.is("no lambda", code.contains("->") ? 1 : 0, 0);
        DUE.is("no method reference", code.contains("::") ? 1 : 0, 0);
        DUE.is("no text", code.contains("\"") ? 1 : 0, 0);
        libraries(code);
        lengths(code);
    }

    private static void libraries(String code) {
        Set<String> may = Set.of("Math.abs", "Math.min", "Math.max", "Math.floorDiv", "System.arraycopy");
        Matcher calls = Pattern.compile("\\b([A-Z]\\w*)\\s*\\.\\s*(\\w+)\\s*\\(").matcher(code);
        while (calls.find()) {
            String name = calls.group(1) + "." + calls.group(2);
            DUE.is(name + " is of the library's part", may.contains(name) ? 1 : 0, 1);
        }
        Matcher made = Pattern.compile("\\bnew\\s+([A-Za-z]+)").matcher(code);
        Set<String> own = new HashSet<>(Set.of("int", "boolean"));
        for (Class<?> inside : SaltRooms.class.getDeclaredClasses()) {
            own.add(inside.getSimpleName());
        }
        while (made.find()) {
            DUE.is("new " + made.group(1), own.contains(made.group(1)) ? 1 : 0, 1);
        }
    }

    /** Methods have some sixty lines at most. */
    private static void lengths(String code) {
        Matcher heads = Pattern.compile("\\n( {4}| {8})(public|private)[^;={}]*\\([^;{}]*\\)\\s*\\{").matcher(code);
        int methods = 0;
        while (heads.find()) {
            int end = code.indexOf("\n" + heads.group(1) + "}", heads.end());
            long lines = end < 0 ? 1000 : code.substring(heads.end(), end).chars().filter(c -> c == '\n').count();
            DUE.is(heads.group().trim() + " is short", lines <= 60 ? 1 : 0, 1);
            methods++;
        }
        DUE.is("methods found", methods > 100 ? 1 : 0, 1);
    }
}
