import java.lang.reflect.Field;
import java.lang.reflect.Member;
import java.lang.reflect.Method;
import java.lang.reflect.Modifier;
import java.util.ArrayList;
import java.util.Arrays;
import java.util.List;
import java.util.TreeSet;

/** The class shows the document's face, whole, and nothing besides. */
public final class FaceTest {
    private static final String[] FACE = {
        "public int setPlates(int) throws IllegalArgumentException, IllegalStateException",
        "public int setOutrigger(int, int)"
            + " throws IndexOutOfBoundsException, IllegalArgumentException, IllegalStateException",
        "public int setLimit(int, int) throws IllegalArgumentException, IllegalStateException",
        "public int lift(int) throws IllegalArgumentException, IllegalStateException",
        "public int setDown() throws IllegalStateException",
        "public int swing(int, boolean) throws IllegalArgumentException",
        "public int stretch(int, boolean) throws IllegalArgumentException",
        "public int direction()",
        "public int reach()",
        "public int load()",
        "public int plates()",
        "public int outrigger(int) throws IndexOutOfBoundsException",
        "public int limitAt(int) throws IllegalArgumentException",
        "public int strainOn(int) throws IndexOutOfBoundsException",
        "public int weakestSide()",
        "public int lifts()",
        "public int tonsLifted()",
        "public int movesWithLoad()",
        "public boolean isSafeWith(int, int, int) throws IndexOutOfBoundsException, IllegalArgumentException",
        "public int greatestLoad()",
        "public int farthestReach(int, int) throws IndexOutOfBoundsException, IllegalArgumentException",
        "public int safeDirections(int, int) throws IllegalArgumentException",
        "public int platesNeeded(int, int, int) throws IndexOutOfBoundsException, IllegalArgumentException",
        "public int fewestMoves(int, int, int) throws IndexOutOfBoundsException, IllegalArgumentException",
        "public int placesWithin(int) throws IllegalArgumentException",
        "public int bestOutrigger(int) throws IllegalArgumentException",
        "public double meanLoad()",
        "public long digest()",
    };

    public static void main(String[] args) {
        Check.compare("the class's modifiers", Modifier.toString(CraneReach.class.getModifiers()), "public final");
        Check.compare("the methods", shown(CraneReach.class.getDeclaredMethods()).toString(),
            new TreeSet<>(Arrays.asList(FACE)).toString());
        Check.compare("the constructors", Arrays.toString(CraneReach.class.getDeclaredConstructors()),
            "[public CraneReach()]");
        for (Field field : CraneReach.class.getDeclaredFields()) {
            Check.compare("whether " + field.getName() + " is private", String.valueOf(isPrivate(field)), "true");
        }
        privateNamesAreNoPublicOnes();
        nothingIsInherited();
        classesInsideAreNotShown();
        Check.close();
    }

    private static TreeSet<String> shown(Method[] methods) {
        TreeSet<String> texts = new TreeSet<>();
        for (Method method : methods) {
            if (!isPrivate(method)) {
                texts.add(told(method));
            }
        }
        return texts;
    }

    private static String told(Method method) {
        List<String> parameters = simpleNames(method.getParameterTypes());
        List<String> exceptions = simpleNames(method.getExceptionTypes());
        return Modifier.toString(method.getModifiers()) + " " + method.getReturnType().getSimpleName() + " "
            + method.getName() + "(" + String.join(", ", parameters) + ")"
            + (exceptions.isEmpty() ? "" : " throws " + String.join(", ", exceptions));
    }

    private static List<String> simpleNames(Class<?>[] types) {
        List<String> names = new ArrayList<>();
        for (Class<?> type : types) {
            names.add(type.getSimpleName());
        }
        return names;
    }

    private static void privateNamesAreNoPublicOnes() {
        List<String> shown = new ArrayList<>();
        for (Method method : CraneReach.class.getMethods()) {
            shown.add(method.getName());
        }
        for (Method method : CraneReach.class.getDeclaredMethods()) {
            if (isPrivate(method)) {
                Check.compare("whether a public method is named " + method.getName(),
                    String.valueOf(shown.contains(method.getName())), "false");
            }
        }
    }

    private static void nothingIsInherited() {
        Check.compare("the class above", CraneReach.class.getSuperclass().getName(), "java.lang.Object");
        Check.compare("the interfaces", Arrays.toString(CraneReach.class.getInterfaces()), "[]");
        Check.compare("the package", CraneReach.class.getPackageName(), "");
    }

    private static void classesInsideAreNotShown() {
        for (Class<?> inside : CraneReach.class.getDeclaredClasses()) {
            int modifiers = inside.getModifiers();
            Check.compare("whether " + inside.getName() + " is public or protected",
                String.valueOf(Modifier.isPublic(modifiers) || Modifier.isProtected(modifiers)), "false");
            Check.compare("whether " + inside.getName() + " is static",
                String.valueOf(Modifier.isStatic(modifiers)), "true");
        }
    }

    private static boolean isPrivate(Member member) {
        return Modifier.isPrivate(member.getModifiers());
    }
}
