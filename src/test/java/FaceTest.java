import java.lang.reflect.Constructor;
import java.lang.reflect.Field;
import java.lang.reflect.Member;
import java.lang.reflect.Method;
import java.lang.reflect.Modifier;
import java.util.ArrayList;
import java.util.Arrays;
import java.util.Collections;
import java.util.List;

/** The public face: the document's constructor and methods with their throws clauses, and nothing else. */
public final class FaceTest {
    private static final Checks CHECKS = new Checks("FaceTest");

    private static final String INDEX = "IndexOutOfBoundsException";
    private static final String ARGUMENT = "IllegalArgumentException";
    private static final String STATE = "IllegalStateException";

    private static final String[] FACE = {
        "int after(int, int) throws " + ARGUMENT,
        "int worth(int) throws " + ARGUMENT,
        "int best(int) throws " + ARGUMENT,
        "int enter() throws " + STATE,
        "int begin(int, int) throws " + INDEX + ", " + ARGUMENT + ", " + STATE,
        "boolean move(int) throws " + ARGUMENT + ", " + STATE,
        "int end(int) throws " + ARGUMENT + ", " + STATE,
        "int position()",
        "int games()",
        "int score(int) throws " + INDEX,
        "int puzzles()",
        "int puzzle(int) throws " + INDEX,
        "int source(int) throws " + INDEX,
        "boolean solve(int, int, int) throws " + INDEX + ", " + ARGUMENT + ", " + STATE,
        "int offered(int) throws " + INDEX,
        "int rating(int, int) throws " + INDEX + ", " + ARGUMENT,
        "int results(int, int) throws " + ARGUMENT,
        "int points(int, int) throws " + ARGUMENT,
        "boolean isDropped(int, int) throws " + ARGUMENT,
        "int pointsOfGames(int, int) throws " + ARGUMENT,
        "float mean(int, int) throws " + ARGUMENT,
        "int opponent(int) throws " + INDEX,
        "boolean hasWhite(int) throws " + INDEX + ", " + STATE,
    };

    public static void main(String[] args) {
        publicMethods();
        classAndConstructor();
        othersArePrivate();
        namesOfPublicOnesStayTheirs();
        fieldsOfTheClassAreFinal();
        CHECKS.finish();
    }

    private static String names(Class<?>[] types) {
        StringBuilder text = new StringBuilder();
        for (Class<?> type : types) {
            text.append(text.length() == 0 ? "" : ", ").append(type.getSimpleName());
        }
        return text.toString();
    }

    private static void publicMethods() {
        List<String> got = new ArrayList<>();
        for (Method method : ClubAcademy.class.getDeclaredMethods()) {
            if (!Modifier.isPublic(method.getModifiers())) {
                continue;
            }
            String thrown = names(method.getExceptionTypes());
            got.add(method.getReturnType().getSimpleName() + " " + method.getName() + "("
                + names(method.getParameterTypes()) + ")" + (thrown.isEmpty() ? "" : " throws " + thrown));
            CHECKS.due(method.getName() + " is static", Modifier.isStatic(method.getModifiers()), false);
        }
        List<String> want = new ArrayList<>(Arrays.asList(FACE));
        Collections.sort(got);
        Collections.sort(want);
        CHECKS.due("the public methods", got.toString(), want.toString());
    }

    private static void classAndConstructor() {
        int modifiers = ClubAcademy.class.getModifiers();
        CHECKS.due("the class is public", Modifier.isPublic(modifiers), true);
        CHECKS.due("the class is final", Modifier.isFinal(modifiers), true);
        Constructor<?>[] constructors = ClubAcademy.class.getDeclaredConstructors();
        CHECKS.due("how many constructors", constructors.length, 1);
        CHECKS.due("its parameters", constructors[0].getParameterCount(), 0);
        CHECKS.due("it is public", Modifier.isPublic(constructors[0].getModifiers()), true);
    }

    private static void othersArePrivate() {
        for (Field field : ClubAcademy.class.getDeclaredFields()) {
            duePrivate(field);
        }
        for (Method method : ClubAcademy.class.getDeclaredMethods()) {
            if (!Modifier.isPublic(method.getModifiers())) {
                duePrivate(method);
            }
        }
        for (Class<?> inside : ClubAcademy.class.getDeclaredClasses()) {
            CHECKS.due(inside.getName() + " is static", Modifier.isStatic(inside.getModifiers()), true);
            CHECKS.due(inside.getName() + " is public", Modifier.isPublic(inside.getModifiers()), false);
        }
    }

    private static void duePrivate(Member member) {
        CHECKS.due(member.getName() + " is private", Modifier.isPrivate(member.getModifiers()), true);
    }

    private static void namesOfPublicOnesStayTheirs() {
        List<String> publicNames = new ArrayList<>();
        for (Method method : ClubAcademy.class.getMethods()) {
            publicNames.add(method.getName());
        }
        List<Method> others = new ArrayList<>(Arrays.asList(ClubAcademy.class.getDeclaredMethods()));
        others.removeIf(method -> Modifier.isPublic(method.getModifiers()));
        for (Class<?> inside : ClubAcademy.class.getDeclaredClasses()) {
            others.addAll(Arrays.asList(inside.getDeclaredMethods()));
        }
        for (Method method : others) {
            CHECKS.due(method + " has a public one's name", publicNames.contains(method.getName()), false);
        }
    }

    private static void fieldsOfTheClassAreFinal() {
        List<Class<?>> classes = new ArrayList<>(Arrays.asList(ClubAcademy.class.getDeclaredClasses()));
        classes.add(ClubAcademy.class);
        for (Class<?> type : classes) {
            for (Field field : type.getDeclaredFields()) {
                if (Modifier.isStatic(field.getModifiers())) {
                    CHECKS.due(field + " is final", Modifier.isFinal(field.getModifiers()), true);
                }
            }
        }
    }
}
