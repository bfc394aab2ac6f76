import java.lang.reflect.Constructor;
import java.lang.reflect.Field;
import java.lang.reflect.Method;
import java.lang.reflect.Modifier;
import java.util.Arrays;
import java.util.Set;
import java.util.TreeSet;
import java.util.stream.Collectors;

/** The class shows the document's face and nothing else. */
final class FaceTests {
    private static final String[] FACE = {
        "int addFeature(int,int) IndexOutOfBoundsException IllegalArgumentException IllegalStateException",
        "int setRelation(int,int) IndexOutOfBoundsException IllegalArgumentException",
        "boolean setWorth(int,int,int) IndexOutOfBoundsException IllegalArgumentException",
        "int addConstraint(int,int,int) IllegalArgumentException IndexOutOfBoundsException IllegalStateException",
        "boolean turn(int,boolean) IndexOutOfBoundsException",
        "int dropConstraint() IllegalStateException",
        "int featureCount()",
        "int decide(int,int) IndexOutOfBoundsException IllegalArgumentException",
        "int reopen()",
        "int setBudget(int) IllegalArgumentException",
        "int violations(int) IllegalArgumentException",
        "int costOf(int) IllegalArgumentException",
        "int valueOf(int) IllegalArgumentException",
        "int productCount()",
        "int product(int) IndexOutOfBoundsException",
        "boolean isDead(int) IndexOutOfBoundsException",
        "boolean isCore(int) IndexOutOfBoundsException",
        "boolean isFalselyFree(int) IndexOutOfBoundsException",
        "boolean areTogether(int,int) IndexOutOfBoundsException",
        "int bundles()",
        "int blame(int) IndexOutOfBoundsException",
        "int candidateCount()",
        "int candidate(int) IndexOutOfBoundsException",
        "int forced()",
        "int ruledOut()",
        "double share(int) IndexOutOfBoundsException",
        "int question()",
        "int cheapest()",
        "int best()",
        "int frontSize()",
        "int front(int) IndexOutOfBoundsException",
        "int nearest(int) IllegalArgumentException",
        "int pairCount()",
        "int sampleSize()",
        "int sample(int) IndexOutOfBoundsException",
        "long digest()",
    };

    private FaceTests() {
    }

    static void addTo(Suite suite) {
        suite.test("face: the public methods are the document's", FaceTests::publicMethods);
        suite.test("face: all other members are private", FaceTests::othersArePrivate);
        suite.test("face: no private method has a public one's name", FaceTests::namesAreApart);
        suite.test("face: static fields are final", FaceTests::staticsAreFinal);
    }

    private static void publicMethods() {
        Set<String> got = Arrays.stream(FeatureAnalyzer.class.getDeclaredMethods())
                .filter(m -> Modifier.isPublic(m.getModifiers()))
                .map(FaceTests::faceOf)
                .collect(Collectors.toCollection(TreeSet::new));
        Set<String> want = new TreeSet<>(Arrays.asList(FACE));
        if (!got.equals(want)) {
            throw new AssertionError("the face is " + got);
        }
        int form = FeatureAnalyzer.class.getModifiers();
        Check.due(true, Modifier.isPublic(form) && Modifier.isFinal(form));
    }

    private static String faceOf(Method method) {
        String parameters = Arrays.stream(method.getParameterTypes())
                .map(Class::getSimpleName).collect(Collectors.joining(","));
        String thrown = Arrays.stream(method.getExceptionTypes())
                .map(c -> " " + c.getSimpleName()).collect(Collectors.joining());
        return method.getReturnType().getSimpleName() + " "
                + method.getName() + "(" + parameters + ")" + thrown;
    }

    private static void othersArePrivate() {
        for (Method method : FeatureAnalyzer.class.getDeclaredMethods()) {
            int form = method.getModifiers();
            Check.due(true, Modifier.isPublic(form) || Modifier.isPrivate(form));
        }
        for (Field field : FeatureAnalyzer.class.getDeclaredFields()) {
            Check.due(true, Modifier.isPrivate(field.getModifiers()));
        }
        Constructor<?>[] constructors = FeatureAnalyzer.class.getDeclaredConstructors();
        Check.due(1, constructors.length);
        Check.due(0, constructors[0].getParameterCount());
        Check.due(true, Modifier.isPublic(constructors[0].getModifiers()));
    }

    private static void namesAreApart() {
        Set<String> face = Arrays.stream(FeatureAnalyzer.class.getMethods())
                .map(Method::getName).collect(Collectors.toSet());
        checkNames(FeatureAnalyzer.class, face);
        for (Class<?> inside : FeatureAnalyzer.class.getDeclaredClasses()) {
            checkNames(inside, face);
            int form = inside.getModifiers();
            Check.due(false, Modifier.isPublic(form) || Modifier.isProtected(form));
        }
    }

    private static void checkNames(Class<?> owner, Set<String> face) {
        for (Method method : owner.getDeclaredMethods()) {
            boolean isPrivate = Modifier.isPrivate(method.getModifiers());
            if (isPrivate && face.contains(method.getName())) {
                throw new AssertionError(owner.getSimpleName() + "." + method.getName());
            }
        }
    }

    private static void staticsAreFinal() {
        checkStatics(FeatureAnalyzer.class);
        for (Class<?> inside : FeatureAnalyzer.class.getDeclaredClasses()) {
            checkStatics(inside);
        }
    }

    private static void checkStatics(Class<?> owner) {
        for (Field field : owner.getDeclaredFields()) {
            int form = field.getModifiers();
            Check.due(true, !Modifier.isStatic(form) || Modifier.isFinal(form));
        }
    }
}
