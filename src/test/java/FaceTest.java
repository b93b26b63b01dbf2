import java.lang.reflect.Constructor;
import java.lang.reflect.Field;
import java.lang.reflect.Method;
import java.lang.reflect.Modifier;
import java.util.Arrays;
import java.util.HashSet;
import java.util.Set;
import java.util.TreeSet;
import java.util.stream.Collectors;

/** "The public face": the class has the members of the document and no other that can be seen from outside. */
public final class FaceTest extends Checks {
    private static final String[] FACE = {
        "int addSpool(char, int) throws IllegalArgumentException, IllegalStateException",
        "int retire(int) throws NoSuchElementException",
        "int throwScraps(char) throws IllegalArgumentException",
        "int addOrder(char, int, int) throws IllegalArgumentException, IllegalStateException",
        "int cancel(int) throws NoSuchElementException",
        "int fill(int) throws NoSuchElementException, UnsupportedOperationException",
        "int fillDue(int) throws IllegalArgumentException",
        "int setKerf(int) throws IllegalArgumentException",
        "int setScrapLimit(int) throws IllegalArgumentException",
        "char setRule(char) throws IllegalArgumentException",
        "int kerf()",
        "int scrapLimit()",
        "char rule()",
        "int spools()",
        "boolean hasSpool(int)",
        "char material(int) throws NoSuchElementException",
        "int remaining(int) throws NoSuchElementException",
        "int cuts(int) throws NoSuchElementException",
        "int spoolByLength(int) throws NoSuchElementException",
        "int scraps(char) throws IllegalArgumentException",
        "int scrap(char, int) throws IllegalArgumentException, NoSuchElementException",
        "int bestLoad(int) throws NoSuchElementException",
        "int bestLoadByRecursion(int) throws NoSuchElementException",
        "int orders()",
        "boolean isOpen(int)",
        "char orderMaterial(int) throws NoSuchElementException",
        "int orderLength(int) throws NoSuchElementException",
        "int due(int) throws NoSuchElementException",
        "int orderAt(int) throws NoSuchElementException",
        "boolean canFill(int) throws NoSuchElementException",
        "int chosenScrap(int) throws NoSuchElementException",
        "int chosenSpool(int) throws NoSuchElementException",
        "int wound(char) throws IllegalArgumentException",
        "int woundByParts(char) throws IllegalArgumentException",
        "int delivered(char) throws IllegalArgumentException",
        "int losses(char) throws IllegalArgumentException",
        "int filled()",
        "long totalDelivered()",
        "double meanRemaining() throws ArithmeticException",
        "float lossRate() throws ArithmeticException",
        "boolean isConsistent()",
        "int writeSpool(int) throws NoSuchElementException",
        "int writeOrders()",
        "char charAt(int) throws IndexOutOfBoundsException",
        "int type(char) throws IllegalStateException",
        "int run() throws IllegalArgumentException, UnsupportedOperationException",
        "int errorPosition() throws NoSuchElementException",
        "int failedCommand() throws NoSuchElementException",
        "int undo() throws IllegalStateException",
        "int save()",
        "int restore() throws IllegalStateException"
    };

    private static String named(Class<?>[] types) {
        return Arrays.stream(types).map(Class::getSimpleName).collect(Collectors.joining(", "));
    }

    private static String withExceptions(String head, Class<?>[] exceptions) {
        return exceptions.length == 0 ? head : head + " throws " + named(exceptions);
    }

    private static String signature(Method method) {
        String head = method.getReturnType().getSimpleName() + " " + method.getName() + "("
            + named(method.getParameterTypes()) + ")";
        return withExceptions(head, method.getExceptionTypes());
    }

    private static void theClass() {
        about("public final class WireCutter");
        due("public final", Modifier.toString(WireCutter.class.getModifiers()));
        due(Object.class, WireCutter.class.getSuperclass());
        due(0, WireCutter.class.getInterfaces().length);
        due("", WireCutter.class.getPackageName());
    }

    private static void theConstructor() {
        about("public WireCutter();");
        Constructor<?>[] constructors = WireCutter.class.getDeclaredConstructors();
        due(1, constructors.length);
        due("public", Modifier.toString(constructors[0].getModifiers()));
        due("WireCutter()", withExceptions("WireCutter(" + named(constructors[0].getParameterTypes()) + ")",
            constructors[0].getExceptionTypes()));
    }

    private static void theMethods() {
        about("the methods of the public face");
        Set<String> want = new TreeSet<>(Arrays.asList(FACE));
        Set<String> got = new TreeSet<>();
        for (Method method : WireCutter.class.getDeclaredMethods()) {
            if (!Modifier.isPrivate(method.getModifiers())) {
                due("public", Modifier.toString(method.getModifiers()));
                got.add(signature(method));
            }
        }
        due(want, got);
        due(FACE.length, got.size());
    }

    private static Set<String> publicNames() {
        Set<String> names = new HashSet<>();
        for (Method method : WireCutter.class.getDeclaredMethods()) {
            if (Modifier.isPublic(method.getModifiers())) {
                names.add(method.getName());
            }
        }
        return names;
    }

    // LANGUAGE.md, rules 1 and 5
    private static void nothingElse() {
        Set<String> names = publicNames();
        for (Method method : WireCutter.class.getDeclaredMethods()) {
            about("No private method bears the name of a public one: " + method.getName());
            due(false, Modifier.isPrivate(method.getModifiers()) && names.contains(method.getName()));
        }
        for (Field field : WireCutter.class.getDeclaredFields()) {
            about("no other public, protected or package-visible member: " + field.getName());
            due(true, Modifier.isPrivate(field.getModifiers()));
            about("Static fields are final: " + field.getName());
            due(true, Modifier.isFinal(field.getModifiers()) || !Modifier.isStatic(field.getModifiers()));
        }
        for (Class<?> inside : WireCutter.class.getDeclaredClasses()) {
            about("the classes inside it are private or package-visible and static: " + inside.getSimpleName());
            due(false, Modifier.isPublic(inside.getModifiers()) || Modifier.isProtected(inside.getModifiers()));
            due(true, Modifier.isStatic(inside.getModifiers()));
        }
    }

    public static void main(String[] args) {
        theClass();
        theConstructor();
        theMethods();
        nothingElse();
        end("the class has the face of the document, with " + FACE.length + " methods");
    }
}
