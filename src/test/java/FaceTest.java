import java.io.IOException;
import java.lang.reflect.Constructor;
import java.lang.reflect.Field;
import java.lang.reflect.Method;
import java.lang.reflect.Modifier;
import java.lang.reflect.Parameter;
import java.nio.file.Files;
import java.nio.file.Path;
import java.util.ArrayList;
import java.util.List;
import java.util.TreeSet;
import java.util.regex.Matcher;
import java.util.regex.Pattern;

/** That the class has just the public constants, constructor and methods of the document's public face. */
public final class FaceTest {
    private static final Path DOCUMENT = Path.of("../shared/DOC.md");
    private static final Path SOURCE = Path.of("src/main/java/PeerStorage.java");
    private static final List<String> FACE = List.of(
        "public static final int INVALID_ARGUMENT = -10001;",
        "public static final int NOT_POSSIBLE = -10002;",
        "public static final int LIMIT_REACHED = -10003;",
        "public static final int NOT_FOUND = -10004;",
        "public PeerStorage();",
        "public int join(int space);",
        "public int leave(int peer);",
        "public int crash(int peer);",
        "public int setOnline(int peer, int online);",
        "public int pay(int peer, int other, int amount);",
        "public int peerInfo(int peer, int what);",
        "public int balance(int peer, int other);",
        "public int word(int word);",
        "public int store(int owner, int parity);",
        "public int delete(int file);",
        "public int fileInfo(int file, int what);",
        "public int fragment(int file, int fragment, int what);",
        "public int read(int file, int index);",
        "public int decode(int file, int set, int index);",
        "public int spoil(int file, int fragment, int amount);",
        "public int audit(int auditor, int peer, int seed);",
        "public int passingSeeds(int auditor, int peer);",
        "public int repair(int file);",
        "public int repairAll(int reserve);",
        "public int undo();",
        "public int tolerance();",
        "public int endangered(int peer);",
        "public int leavers();",
        "public int count(int what);");

    public static void main(String[] args) throws IOException, IllegalAccessException {
        Due.is("constants, a constructor and 24 methods", 4 + 1 + 24, FACE.size());
        document();
        Due.same("the public face of the source", lines(FACE), lines(faceOfSource()));
        Due.same("the public face of the class", lines(withoutNames()), lines(faceOfClass()));
        theClass();
        Due.end();
    }

    private static String lines(List<String> face) {
        return String.join("\n  ", new TreeSet<>(face)) + "\n  in all " + face.size();
    }

    /** The list above is the document's. */
    private static void document() throws IOException {
        if (!Files.isReadable(DOCUMENT)) {
            System.out.println("there is no " + DOCUMENT + " to compare with");
            return;
        }
        Matcher block = Pattern.compile("(?s)## The public face\\s+```java\n(.*?)```")
            .matcher(Files.readString(DOCUMENT));
        List<String> face = new ArrayList<>();
        if (block.find()) {
            block.group(1).lines().map(String::strip).filter(line -> line.endsWith(";")).forEach(face::add);
        }
        Due.same("the document's public face", lines(face), lines(FACE));
    }

    /** The public members as they are written, with the names of their arguments. */
    private static List<String> faceOfSource() throws IOException {
        List<String> face = new ArrayList<>();
        for (String line : Files.readString(SOURCE).split("\n")) {
            if (line.matches(" +(\\w+ )*public .*")) {
                face.add(line.strip().replaceAll(" \\{$", ";"));
            }
        }
        return face;
    }

    private static List<String> withoutNames() {
        List<String> face = new ArrayList<>();
        for (String line : FACE) {
            face.add(line.replaceAll("int \\w+(?=[,)])", "int"));
        }
        return face;
    }

    /** The public members that the machine sees, those of Object not counted. */
    private static List<String> faceOfClass() throws IllegalAccessException {
        List<String> face = new ArrayList<>();
        for (Field field : PeerStorage.class.getFields()) {
            String value = Modifier.isStatic(field.getModifiers()) ? " = " + field.get(null) : "";
            face.add(Modifier.toString(field.getModifiers()) + " " + field.getType() + " " + field.getName() + value
                + ";");
        }
        for (Constructor<?> each : PeerStorage.class.getConstructors()) {
            face.add(Modifier.toString(each.getModifiers()) + " PeerStorage" + types(each.getParameters())
                + thrown(each.getExceptionTypes()) + ";");
        }
        for (Method each : PeerStorage.class.getMethods()) {
            if (each.getDeclaringClass() != Object.class) {
                face.add(Modifier.toString(each.getModifiers()) + " " + each.getReturnType() + " " + each.getName()
                    + types(each.getParameters()) + thrown(each.getExceptionTypes()) + ";");
            }
        }
        return face;
    }

    private static String types(Parameter[] parameters) {
        List<String> types = new ArrayList<>();
        for (Parameter parameter : parameters) {
            types.add(parameter.getType().toString());
        }
        return "(" + String.join(", ", types) + ")";
    }

    private static String thrown(Class<?>[] exceptions) {
        return exceptions.length == 0 ? "" : " throws " + exceptions.length;
    }

    private static void theClass() {
        Class<?> type = PeerStorage.class;
        Due.same("the class is", "public final", Modifier.toString(type.getModifiers()));
        Due.same("its package", "", type.getPackageName());
        Due.same("it extends", "java.lang.Object", type.getSuperclass().getName());
        Due.is("interfaces", 0, type.getInterfaces().length);
        Due.is("constructors of any kind", 1, type.getDeclaredConstructors().length);
        Due.is("public classes inside", 0, type.getClasses().length);
    }
}
