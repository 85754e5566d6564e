import java.io.IOException;
import java.lang.reflect.Executable;
import java.lang.reflect.Field;
import java.lang.reflect.Method;
import java.lang.reflect.Modifier;
import java.nio.file.Files;
import java.nio.file.Path;
import java.util.ArrayList;
import java.util.List;
import java.util.Set;
import java.util.regex.Matcher;
import java.util.regex.Pattern;

/** The rules of LANGUAGE.md, as far as the file's words and its classes show them; a rule's number stands ahead of each check. */
public final class LanguageTest {

    private static final Path PROGRAM = Path.of("src/main/java/MergePost.java");
    /** What the rules leave out, and try and catch, without which the program does. */
    private static final String[] NEVER = {"import", "package", "->", "::", "try", "catch", "finally", "synchronized",
        "assert", "native", "volatile", "\\w+Exact", "hashCode", "toString", "protected", "throws Exception"};
    private static final Set<String> LIBRARY = Set.of("Math.min", "Math.max", "System.arraycopy");
    private static final Set<String> EXCEPTIONS =
            Set.of("IllegalStateException", "IllegalArgumentException", "IndexOutOfBoundsException");

    private static final Due due = new Due();

    public static void main(String[] args) throws IOException {
        String program = Files.readString(PROGRAM);
        String words = withoutComments(program);
        due.is("signs that are not 1 to 127", program.chars().filter(sign -> sign < 1 || sign > 127).count(), 0);
        words(words);
        library(words);
        exceptions(words);
        methods(words);
        for (Class<?> one : classes()) {
            fields(one);
            parameters(one);
        }
        due.is("rule 11: at most 12 classes", classes().size() <= 12 ? 1 : 0, 1);
        due.end();
    }

    private static String withoutComments(String program) {
        return program.replaceAll("(?s)/\\*.*?\\*/", "").replaceAll("//[^\n]*", "");
    }

    private static int count(String words, String pattern) {
        int found = 0;
        for (Matcher matcher = Pattern.compile(pattern).matcher(words); matcher.find();) {
            found++;
        }
        return found;
    }

    private static void words(String words) {
        for (String never : NEVER) {
            String pattern = Character.isLetter(never.charAt(0)) ? "\\b" + never + "\\b" : never;
            due.is("left out by the rules: " + never, count(words, pattern), 0);
        }
        due.is("rule 5: a static initialiser", count(words, "static\\s*\\{"), 0);
        due.is("rule 10: texts joined by +", count(words, "\"\\s*\\+|\\+\\s*\""), 0);
    }

    private static void library(String words) {
        for (Matcher call = Pattern.compile("\\b([A-Z]\\w*[a-z]\\w*\\.\\w+)").matcher(words); call.find();) {
            due.is("rule 4: " + call.group(1), LIBRARY.contains(call.group(1)) ? 1 : 0, 1);
        }
        due.is("rule 4: texts are FIELDS alone, and only looked through",
                count(words, "FIELDS\\b(?!\\.indexOf\\(| = \")"), 0);
    }

    private static void exceptions(String words) {
        int told = 0;
        for (Matcher thrown = Pattern.compile("throw new (\\w+)\\(\"[^\"]*\"\\);").matcher(words); thrown.find();) {
            due.is("rule 6: " + thrown.group(1), EXCEPTIONS.contains(thrown.group(1)) ? 1 : 0, 1);
            told++;
        }
        due.is("rule 6: each throw is of such a form", told, count(words, "\\bthrow\\b"));
    }

    /** A method, or a constructor, ends at the first closing brace that stands as far in as its head. */
    private static void methods(String words) {
        String[] lines = words.split("\n");
        for (int head = 0; head < lines.length; head++) {
            String margin = lines[head].replaceAll("\\S.*", "");
            if (lines[head].matches("\\s+(public|private) [^=;]*\\(.*")) {
                StringBuilder body = new StringBuilder();
                int end = head;
                for (; end < lines.length && !lines[end].equals(margin + "}"); end++) {
                    body.append(lines[end]).append('\n');
                }
                due.is("rule 11: at most 60 lines: " + lines[head].strip(), end - head < 60 ? 1 : 0, 1);
                boolean isConstructor = lines[head].matches("\\s+(public|private) \\w+\\(.*");
                due.is("rule 12: objects made, or thrown in a constructor: " + lines[head].strip(),
                        count(body.toString(), isConstructor ? "\\bthrow\\b" : "(?<!throw )\\bnew\\b"), 0);
            }
        }
    }

    private static List<Class<?>> classes() {
        List<Class<?>> classes = new ArrayList<>(List.of(MergePost.class.getDeclaredClasses()));
        classes.add(MergePost.class);
        return classes;
    }

    private static void fields(Class<?> one) {
        int ofObjects = 0;
        for (Field field : one.getDeclaredFields()) {
            boolean isStatic = Modifier.isStatic(field.getModifiers());
            Class<?> part = field.getType().isArray() ? field.getType().getComponentType() : field.getType();
            boolean own = classes().contains(part);
            due.is("rule 3: " + field, own || part.isPrimitive() || part == String.class ? 1 : 0, 1);
            due.is("rule 5: " + field, !isStatic || Modifier.isFinal(field.getModifiers()) && !own ? 1 : 0, 1);
            ofObjects += isStatic ? 0 : 1;
        }
        due.is("rule 11: at most 20 fields: " + one, ofObjects <= 20 ? 1 : 0, 1);
        due.is("rule 2: static, or the outermost: " + one,
                Modifier.isStatic(one.getModifiers()) || one == MergePost.class ? 1 : 0, 1);
    }

    private static void parameters(Class<?> one) {
        List<Executable> all = new ArrayList<>(List.of(one.getDeclaredMethods()));
        all.addAll(List.of(one.getDeclaredConstructors()));
        for (Executable method : all) {
            due.is("rule 11: at most 7 parameters: " + method, method.getParameterCount() <= 7 ? 1 : 0, 1);
            if (method instanceof Method && !Modifier.isPublic(method.getModifiers())) {
                due.is("rule 1: private: " + method, Modifier.isPrivate(method.getModifiers()) ? 1 : 0, 1);
            }
        }
    }
}
