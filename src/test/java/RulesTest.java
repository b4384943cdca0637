import java.lang.reflect.Field;
import java.lang.reflect.Method;
import java.lang.reflect.Modifier;
import java.nio.file.Files;
import java.nio.file.Path;
import java.util.ArrayList;
import java.util.Arrays;
import java.util.List;
import java.util.regex.Matcher;
import java.util.regex.Pattern;

/** The rules of LANGUAGE.md that can be seen from outside, or in the source. */
public final class RulesTest {
    private static final String[] FORBIDDEN = {
        "\\bthrow\\b", "\\bthrows\\b", "\\btry\\b", "\\bcatch\\b", "\\bsynchronized\\b", "\\bassert\\b",
        "->", "::", "\\bprotected\\b", "\\bpackage\\b", "static \\{", "\\w+Exact\\b", "\\bThread\\b"};

    public static void main(String[] args) throws Exception {
        noOtherMembers();
        classesInside();
        source(Files.readString(Path.of("src/main/java/PeerStorage.java")));
        Due.end();
    }

    private static void noOtherMembers() {
        for (Method method : PeerStorage.class.getDeclaredMethods()) {
            boolean open = Modifier.isPublic(method.getModifiers());
            boolean closed = Modifier.isPrivate(method.getModifiers());
            Due.is(method.getName() + " is public or private", 1, open || closed ? 1 : 0);
            Due.is(method.getName() + " bears a public name", 0,
                !open && Both.NAMES.contains(method.getName()) ? 1 : 0);
        }
        for (Field field : PeerStorage.class.getDeclaredFields()) {
            boolean known = Modifier.isPublic(field.getModifiers()) || Modifier.isPrivate(field.getModifiers());
            Due.is(field.getName() + " is public or private", 1, known ? 1 : 0);
        }
    }

    private static void classesInside() {
        List<Class<?>> classes = new ArrayList<>(Arrays.asList(PeerStorage.class.getDeclaredClasses()));
        for (Class<?> inside : classes) {
            Due.is(inside.getName() + " is static", 1, Modifier.isStatic(inside.getModifiers()) ? 1 : 0);
            Due.is(inside.getName() + " is public", 0, Modifier.isPublic(inside.getModifiers()) ? 1 : 0);
            for (Method method : inside.getDeclaredMethods()) {
                Due.is(method.getName() + " bears a public name", 0, Both.NAMES.contains(method.getName()) ? 1 : 0);
                Due.is(method.getName() + " takes at most seven", 1, method.getParameterCount() <= 7 ? 1 : 0);
            }
        }
        classes.add(PeerStorage.class);
        Due.is("at most twelve classes", 1, classes.size() <= 12 ? 1 : 0);
        for (Class<?> each : classes) {
            int fields = 0;
            for (Field field : each.getDeclaredFields()) {
                boolean isStatic = Modifier.isStatic(field.getModifiers());
                fields += isStatic ? 0 : 1;
                Due.is(field.getName() + " is no static state", 1,
                    !isStatic || Modifier.isFinal(field.getModifiers()) ? 1 : 0);
            }
            Due.is(each.getName() + " has at most twenty fields", 1, fields <= 20 ? 1 : 0);
        }
    }

    private static void source(String text) {
        String code = text.replaceAll("(?s)/\\*.*?\\*/", "").replaceAll("//[^\n]*", "");
        for (String pattern : FORBIDDEN) {
            Due.is("places with " + pattern, 0, found(pattern, code));
        }
        Due.is("imports", found("import java\\.util\\.Arrays;", code), found("\\bimport\\b", code));
        Due.is("signs beyond 127", 0, found("[^\\x00-\\x7f]", text));
        int opened = 0;
        int line = 0;
        for (String each : code.split("\n")) {
            line++;
            if (each.matches("\\s+(public |private |static |final |abstract )*[\\w\\[\\]<>]+ ?\\w*\\([^;]*\\{")
                    && !each.matches("\\s+(if|for|while|switch|else|do)\\b.*")) {
                opened = line;
            }
            if (each.matches(" {4}( {4})?\\}") && opened > 0) {
                Due.is("method at line " + opened + " is short", 1, line - opened <= 60 ? 1 : 0);
            }
        }
        Due.is("methods were found", 1, opened > 0 ? 1 : 0);
    }

    private static int found(String pattern, String text) {
        Matcher matcher = Pattern.compile(pattern).matcher(text);
        int number = 0;
        while (matcher.find()) {
            number++;
        }
        return number;
    }
}
