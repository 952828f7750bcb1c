import java.io.IOException;
import java.lang.reflect.Executable;
import java.lang.reflect.Field;
import java.lang.reflect.Method;
import java.lang.reflect.Modifier;
import java.nio.file.Files;
import java.nio.file.Path;
import java.util.ArrayList;
import java.util.List;
import java.util.Set;
import java.util.regex.Matcher;
import java.util.regex.Pattern;

/** Those rules of LANGUAGE.md that the class's text, or its classes as compiled, show. */
public final class LanguageTest {
    private static final Path SOURCE = Path.of("src", "main", "java", "NamesAgain.java");
    private static final Set<String> LIBRARY = Set.of("Math.min", "Math.max", "Integer.bitCount", "System.arraycopy");
    private static final String[] RULED_OUT = {"package", "try", "catch", "finally", "synchronized", "assert", "native", "protected",
        "float", "double", "Object", "var", "goto", "volatile", "transient", "yield", "hashCode", "toString", "getClass"};

    public static void main(String[] args) throws IOException {
        String text = withoutComments(Files.readString(SOURCE));
        words(text);
        library(text);
        exceptions(text);
        methodsStayShort(text);
        for (Class<?> each : classes()) {
            members(each);
        }
        Check.close();
    }

    private static String withoutComments(String text) {
        return text.replaceAll("(?s)/\\*.*?\\*/", "").replaceAll("//[^\n]*", "").replaceAll("\"[^\"\n]*\"", "\"\"");
    }

    private static List<Class<?>> classes() {
        List<Class<?>> all = new ArrayList<>(List.of(NamesAgain.class.getDeclaredClasses()));
        all.add(NamesAgain.class);
        Check.is("some twelve classes at most", all.size() <= 12);
        return all;
    }

    private static void words(String text) {
        for (String word : RULED_OUT) {
            Check.is("rules 3, 6: no " + word, !Pattern.compile("\\b" + word + "\\b").matcher(text).find());
        }
        Check.is("rule 2: no lambda, no method reference", !text.contains("->") && !text.contains("::"));
        Check.is("rule 5: no static block", !Pattern.compile("static\\s*\\{").matcher(text).find());
        Check.is("rule 4: one import alone", text.split("\\bimport\\b", -1).length == 2);
    }

    private static void library(String text) {
        Matcher call = Pattern.compile("\\b(Math|Integer|Long|System|Arrays|List|String|StringBuilder)\\.\\w+").matcher(text);
        while (call.find()) {
            Check.is("rule 4: " + call.group(), LIBRARY.contains(call.group()));
        }
    }

    private static void exceptions(String text) {
        Matcher thrown = Pattern.compile("\\bthrow\\b[^;]*;").matcher(text);
        int found = 0;
        while (thrown.find()) {
            Check.is("rule 6: " + thrown.group(), thrown.group().equals("throw new NoSuchElementException();"));
            found++;
        }
        Check.eq("soul() alone throws", found, 1);
    }

    /** A method begins at a line that ends with ") {" or an exception's name and ends at the bracket below its first sign. */
    private static void methodsStayShort(String text) {
        String[] lines = text.split("\n");
        Pattern first = Pattern.compile("^( +)(public|private)[^=]*\\([^=]*\\{$");
        int methods = 0;
        for (int i = 0; i < lines.length; i++) {
            Matcher head = first.matcher(lines[i]);
            if (head.find()) {
                int last = i;
                while (last < lines.length - 1 && !lines[last].equals(head.group(1) + "}")) {
                    last++;
                }
                Check.is("rule 11: sixty lines at most, not " + (last - i + 1) + ":" + lines[i], last - i < 60);
                methods++;
            }
        }
        Check.is("methods were found", methods > 100);
    }

    private static void members(Class<?> each) {
        int fields = 0;
        for (Field field : each.getDeclaredFields()) {
            boolean isStatic = Modifier.isStatic(field.getModifiers());
            Check.is("rule 5: " + field, !isStatic || Modifier.isFinal(field.getModifiers()));
            Check.is("rule 1: " + field, Modifier.isPrivate(field.getModifiers()) || field.getName().equals("NONE"));
            fields += isStatic ? 0 : 1;
        }
        Check.is("rule 11: some twenty fields at most in " + each, fields <= 20);
        List<Executable> all = new ArrayList<>(List.of(each.getDeclaredMethods()));
        all.addAll(List.of(each.getDeclaredConstructors()));
        for (Executable one : all) {
            Check.is("rule 11: seven parameters at most: " + one, one.getParameterCount() <= 7);
            Check.is("rule 1: " + one, each == NamesAgain.class || Modifier.isPrivate(one.getModifiers()));
            Check.is("rule 1: " + one, !(one instanceof Method) || !one.isSynthetic());
        }
    }
}
