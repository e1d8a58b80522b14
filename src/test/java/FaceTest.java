import java.lang.reflect.Constructor;
import java.lang.reflect.Field;
import java.lang.reflect.Method;
import java.lang.reflect.Modifier;
import java.nio.file.Files;
import java.nio.file.Path;
import java.util.ArrayList;
import java.util.Arrays;
import java.util.List;
import java.util.TreeSet;
import java.util.regex.Matcher;
import java.util.regex.Pattern;

/** The public face, and the rules of LANGUAGE.md that can be seen from the class and from its text. */
public final class FaceTest {
    private static final List<String> FACE = List.of(
            "account(int)", "begin(int)", "clearText()", "count(int)", "echo(int,int)", "emptyAfter()",
            "errors(int)", "fault(int)", "give(int)", "idle(int)", "mended(int)", "outputOf(int,int)",
            "pairOf(int,int)", "play()", "safe()", "set(int,int)", "stage(int,int,int)", "stageOf(int,int)",
            "type(int)", "undo()", "worn(int)");

    public static void main(String[] args) throws Exception {
        constants();
        members();
        methods();
        if (args.length > 0) {
            text(Files.readString(Path.of(args[0])));
        }
        Check.end();
    }

    private static void constants() {
        Check.due("INVALID_ARGUMENT", ChargeLines.INVALID_ARGUMENT, -2000001);
        Check.due("NOT_POSSIBLE", ChargeLines.NOT_POSSIBLE, -2000002);
        Check.due("LIMIT_REACHED", ChargeLines.LIMIT_REACHED, -2000003);
        Check.due("NOT_FOUND", ChargeLines.NOT_FOUND, -2000004);
    }

    private static void members() {
        int modifiers = ChargeLines.class.getModifiers();
        Check.holds("public final", Modifier.isPublic(modifiers) && Modifier.isFinal(modifiers));
        Constructor<?>[] constructors = ChargeLines.class.getDeclaredConstructors();
        Check.due("constructors", constructors.length, 1);
        Check.holds("public constructor", Modifier.isPublic(constructors[0].getModifiers())
                && constructors[0].getParameterCount() == 0);
        List<String> constants = new ArrayList<>();
        for (Field field : ChargeLines.class.getDeclaredFields()) {
            if (Modifier.isPublic(field.getModifiers())) {
                constants.add(field.getName());
            } else {
                Check.holds("private " + field, Modifier.isPrivate(field.getModifiers()));
            }
            if (Modifier.isStatic(field.getModifiers())) {
                Check.holds("final " + field, Modifier.isFinal(field.getModifiers()));
            }
        }
        Check.due("public fields", constants.size(), 4);
        for (Class<?> inside : ChargeLines.class.getDeclaredClasses()) {
            int how = inside.getModifiers();
            Check.holds("static and not public " + inside, Modifier.isStatic(how) && !Modifier.isPublic(how));
            Check.holds("some twenty fields " + inside, inside.getDeclaredFields().length <= 20);
        }
    }

    private static void methods() {
        TreeSet<String> face = new TreeSet<>();
        TreeSet<String> names = new TreeSet<>();
        for (Method method : ChargeLines.class.getDeclaredMethods()) {
            if (Modifier.isPublic(method.getModifiers())) {
                String types = Arrays.toString(method.getParameterTypes()).replaceAll("[\\[\\] ]", "");
                face.add(method.getName() + "(" + types + ")");
                names.add(method.getName());
                Check.holds("int " + method, method.getReturnType() == int.class);
            }
        }
        Check.holds("the face " + face, face.equals(new TreeSet<>(FACE)));
        for (Class<?> own : ownClasses()) {
            for (Method method : own.getDeclaredMethods()) {
                boolean ofFace = own == ChargeLines.class && Modifier.isPublic(method.getModifiers());
                Check.holds("no public name again " + method, ofFace || !names.contains(method.getName()));
                Check.holds("seven parameters " + method, method.getParameterCount() <= 7);
            }
        }
    }

    private static List<Class<?>> ownClasses() {
        List<Class<?>> classes = new ArrayList<>(List.of(ChargeLines.class.getDeclaredClasses()));
        classes.add(ChargeLines.class);
        return classes;
    }

    private static void text(String program) {
        String code = program.replaceAll("(?s)/\\*.*?\\*/", "").replaceAll("//[^\n]*", "");
        Matcher forbidden = Pattern.compile("\\b(package|catch|finally|throw|assert|synchronized|Exact|System\\.out|"
                + "Float|Double|Character|Object|var|record)\\b|->|::").matcher(code);
        Check.holds("no forbidden word" + (forbidden.find() ? ": " + forbidden.group() : ""),
                !forbidden.reset().find());
        Matcher imports = Pattern.compile("import ([^;]*);").matcher(code);
        while (imports.find()) {
            Check.holds("import " + imports.group(1), imports.group(1).equals("java.util.Arrays"));
        }
        Matcher library = Pattern.compile("\\b(Math|Arrays|System|Integer|Long)\\.(\\w+)").matcher(code);
        while (library.find()) {
            Check.holds("library " + library.group(), library.group().matches(
                    "Math\\.(min|max|abs|floorDiv)|Arrays\\.fill|System\\.arraycopy"));
        }
    }
}
