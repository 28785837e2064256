import java.io.IOException;
import java.lang.reflect.Constructor;
import java.lang.reflect.Field;
import java.lang.reflect.Method;
import java.lang.reflect.Modifier;
import java.nio.file.Files;
import java.nio.file.Path;
import java.util.Set;
import java.util.TreeSet;
import java.util.regex.Matcher;
import java.util.regex.Pattern;

/** The face of the class, and what can be seen of the rules of LANGUAGE.md. */
public final class LanguageTest {
    private static final Path SOURCE = Path.of("src/main/java/ShiftMaps.java");
    private static final String[] FACE = {
        "byHand(boolean) int", "border(int,int,boolean) float", "car(int) int", "change(int,int) int",
        "clearText() int", "count(int) int", "drive(int,int,int) int", "force() float", "keep() int",
        "map(int,int) float", "number(int) int", "pressed(int) float", "readDrive() int", "restore() int",
        "setMap(int,int,int) int", "setNumber(int,int) int", "settles(int,int) int", "shift(boolean) int",
        "type(char) int", "undo() int", "wouldChoose(int,int) int"
    };

    public static void main(String[] args) throws IOException {
        constants();
        faceIsTheDocumentsOwn();
        nothingElseIsVisible();
        namesOfTheFaceAreNotUsedAgain();
        staticFieldsAreConstants();
        sourceKeepsToTheLanguage();
        methodsAreShort();
        callsMakeNoObjects();
        Checks.finish();
    }

    private static void constants() {
        Checks.due("UNKNOWN", ShiftMaps.UNKNOWN, -1);
        Checks.due("BAD_VALUE", ShiftMaps.BAD_VALUE, -2);
        Checks.due("FULL", ShiftMaps.FULL, -3);
        Checks.due("NOT_POSSIBLE", ShiftMaps.NOT_POSSIBLE, -4);
        Checks.due("NONE", ShiftMaps.NONE, -5);
    }

    private static Set<String> publicMethods() {
        Set<String> methods = new TreeSet<>();
        for (Method method : ShiftMaps.class.getDeclaredMethods()) {
            if (!Modifier.isPrivate(method.getModifiers())) {
                StringBuilder types = new StringBuilder();
                for (Class<?> type : method.getParameterTypes()) {
                    types.append(types.length() == 0 ? "" : ",").append(type.getName());
                }
                methods.add(method.getName() + "(" + types + ") " + method.getReturnType().getName());
                Checks.isTrue("public: " + method, Modifier.isPublic(method.getModifiers()));
                Checks.isTrue("of the object: " + method, !Modifier.isStatic(method.getModifiers()));
            }
        }
        return methods;
    }

    private static void faceIsTheDocumentsOwn() {
        Checks.isTrue("face " + publicMethods(), publicMethods().equals(new TreeSet<>(Set.of(FACE))));
        Checks.isTrue("final", Modifier.isFinal(ShiftMaps.class.getModifiers()));
        Constructor<?>[] constructors = ShiftMaps.class.getDeclaredConstructors();
        Checks.due("constructors", constructors.length, 1);
        Checks.isTrue("public constructor", Modifier.isPublic(constructors[0].getModifiers()));
        Checks.due("its arguments", constructors[0].getParameterCount(), 0);
    }

    private static void nothingElseIsVisible() {
        Set<String> visible = new TreeSet<>();
        for (Field field : ShiftMaps.class.getDeclaredFields()) {
            if (!Modifier.isPrivate(field.getModifiers())) {
                visible.add(field.getName());
            }
        }
        Set<String> due = Set.of("UNKNOWN", "BAD_VALUE", "FULL", "NOT_POSSIBLE", "NONE");
        Checks.isTrue("visible fields " + visible, visible.equals(new TreeSet<>(due)));
        for (Class<?> inside : ShiftMaps.class.getDeclaredClasses()) {
            int modifiers = inside.getModifiers();
            Checks.isTrue("hidden " + inside, !Modifier.isPublic(modifiers) && !Modifier.isProtected(modifiers));
            Checks.isTrue("static " + inside, Modifier.isStatic(modifiers));
        }
    }

    private static void namesOfTheFaceAreNotUsedAgain() {
        Set<String> face = new TreeSet<>();
        for (String method : FACE) {
            face.add(method.substring(0, method.indexOf('(')));
        }
        for (Class<?> inside : ShiftMaps.class.getDeclaredClasses()) {
            for (Method method : inside.getDeclaredMethods()) {
                Checks.isTrue("a name of its own: " + method, !face.contains(method.getName()));
            }
        }
        for (Method method : ShiftMaps.class.getDeclaredMethods()) {
            boolean hidden = Modifier.isPrivate(method.getModifiers());
            Checks.isTrue("a name of its own: " + method, !hidden || !face.contains(method.getName()));
        }
    }

    private static void staticFieldsAreConstants() {
        Set<Class<?>> types = Set.of(int.class, long.class, boolean.class, char.class, String.class,
                int[].class, long[].class, char[].class, byte[].class);
        staticFieldsOf(ShiftMaps.class, types);
        for (Class<?> inside : ShiftMaps.class.getDeclaredClasses()) {
            staticFieldsOf(inside, types);
        }
    }

    private static void staticFieldsOf(Class<?> owner, Set<Class<?>> types) {
        int fields = 0;
        for (Field field : owner.getDeclaredFields()) {
            boolean constant = Modifier.isStatic(field.getModifiers());
            fields += constant ? 0 : 1;
            Checks.isTrue("constant " + field,
                    !constant || Modifier.isFinal(field.getModifiers()) && types.contains(field.getType()));
        }
        Checks.isTrue("at most 20 fields in " + owner, fields <= 20);
    }

    private static String withoutComments(String source) {
        return source.replaceAll("(?s)/\\*.*?\\*/", "").replaceAll("//[^\n]*", "");
    }

    private static void sourceKeepsToTheLanguage() throws IOException {
        String source = withoutComments(Files.readString(SOURCE));
        String[] forbidden = {
            "\\bimport\\b", "\\bpackage\\b", "->", "::", "\\bcatch\\b", "\\bthrow\\b", "\\bfinally\\b", "\\bassert\\b",
            "\\bsynchronized\\b", "\\bObject\\b", "\\bFloat\\b", "\\bDouble\\b", "\\bThread\\b",
            "\\brecord\\s+\\w+\\s*\\(",
            "\\bequals\\b", "\\bhashCode\\b", "\\btoString\\b", "Exact\\b", "\\bstatic\\s*\\{", "\""
        };
        for (String pattern : forbidden) {
            Checks.isTrue("no " + pattern, !Pattern.compile(pattern).matcher(source).find());
        }
        Matcher library = Pattern.compile("\\b(Math|System|Arrays|Integer|Long|String|StringBuilder|List)\\b\\.?\\w*")
                .matcher(source);
        Set<String> allowed = Set.of("Math.min", "Math.max", "System.arraycopy");
        while (library.find()) {
            Checks.isTrue("allowed: " + library.group(), allowed.contains(library.group()));
        }
        Checks.isTrue("at most 12 classes", source.split("\\bclass\\b").length - 1 <= 12);
        for (int i = 0; i < source.length(); i++) {
            char sign = source.charAt(i);
            Checks.isTrue("sign " + (int) sign, sign < 127);
        }
    }

    private static void methodsAreShort() throws IOException {
        int begun = 0;
        int line = 0;
        for (String text : Files.readAllLines(SOURCE)) {
            line++;
            boolean opens = text.matches(" {4}( {4})?(?!.*\\bclass\\b)[a-z].*\\) \\{");
            begun = opens && !text.matches(" +(if|for|while|switch) .*") ? line : begun;
            boolean ends = text.matches(" {4}( {4})?\\}");
            Checks.isTrue("short, till the line " + line, !ends || line - begun <= 60 || begun == 0);
        }
    }

    /** All calls of a run live in one room, so that no call may make much. */
    private static void callsMakeNoObjects() {
        com.sun.management.ThreadMXBean threads =
                (com.sun.management.ThreadMXBean) java.lang.management.ManagementFactory.getThreadMXBean();
        ShiftMaps car = new ShiftMaps();
        Checks.typeAll(car, "10,0*9;200,99*99;5,3");
        callOften(car);
        long before = threads.getCurrentThreadAllocatedBytes();
        callOften(car);
        long made = threads.getCurrentThreadAllocatedBytes() - before;
        Checks.isTrue("240 calls made " + made + " bytes", made < 1500);
    }

    private static void callOften(ShiftMaps car) {
        for (int i = 0; i < 24; i++) {
            car.readDrive();
            car.drive(0, 0, 9);
            car.settles(0x42c80000, 0);
            car.wouldChoose(0x42c80000, 0);
            car.setNumber(2, 30 + i % 2);
            car.keep();
            car.restore();
            car.undo();
            car.setMap(1, 0, i);
            car.count(3);
        }
    }
}
