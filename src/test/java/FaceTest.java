import java.lang.reflect.Constructor;
import java.lang.reflect.Field;
import java.lang.reflect.Member;
import java.lang.reflect.Method;
import java.lang.reflect.Modifier;
import java.util.Arrays;
import java.util.Set;
import java.util.TreeSet;
import java.util.stream.Collectors;

/** The class shows the document's face and nothing else (LANGUAGE.md, rule 1). */
public final class FaceTest {
    private static final String ILLEGAL = " throws IllegalArgumentException";
    private static final String STATE_TOO = ILLEGAL + ", IllegalStateException";
    private static final String MISSING = " throws IndexOutOfBoundsException";

    private static final String[] FACE = {
        "int setPiece(int, int)" + STATE_TOO, "int paw(int, int)" + STATE_TOO, "int undo(int)" + STATE_TOO,
        "int redo(int)" + STATE_TOO, "int goTo(int)" + MISSING, "int evening()", "int evenings()", "int pieces()",
        "int catColumn()", "int catRow()", "int lying()", "int placeOf(int)" + MISSING,
        "boolean lies(int)" + MISSING, "int pieceAt(int, int)" + ILLEGAL, "boolean canDo(int, int)" + ILLEGAL,
        "int hangsOn(int)" + MISSING, "int kindOf(int)" + MISSING, "int numberOf(int)" + MISSING,
        "int depthOf(int)" + MISSING, "int branches(int)" + MISSING, "int behind(int)" + MISSING,
        "int again(int)" + MISSING, "int meet(int, int)" + MISSING, "int apart(int, int)" + MISSING, "int ends()",
        "int placeIn(int, int)" + MISSING, "int lyingIn(int)" + MISSING, "boolean areAlike(int, int)" + MISSING,
        "int mostKnocked()", "double meanDepth()", "long digest()"};

    private static final Check CHECK = new Check();

    public static void main(String[] args) {
        int modifiers = CatEvenings.class.getModifiers();
        CHECK.due("public final class", Modifier.isPublic(modifiers) && Modifier.isFinal(modifiers), true);
        CHECK.due("public methods", publicMethods(), new TreeSet<>(Arrays.asList(FACE)));
        CHECK.due("constructors", constructors(), Set.of("public CatEvenings()"));
        onlyPublicOrPrivate();
        noPrivateMethodNamedAsAPublicOne();
        staticFieldsAreFinal();
        CHECK.end();
    }

    private static Set<String> publicMethods() {
        Set<String> found = new TreeSet<>();
        for (Method method : CatEvenings.class.getDeclaredMethods()) {
            if (Modifier.isPublic(method.getModifiers())) {
                found.add(method.getReturnType().getSimpleName() + " " + method.getName() + Arrays
                    .stream(method.getParameterTypes()).map(Class::getSimpleName)
                    .collect(Collectors.joining(", ", "(", ")")) + thrownBy(method));
            }
        }
        return found;
    }

    private static String thrownBy(Method method) {
        String names = Arrays.stream(method.getExceptionTypes()).map(Class::getSimpleName)
            .collect(Collectors.joining(", "));
        return names.isEmpty() ? "" : " throws " + names;
    }

    private static Set<String> constructors() {
        Set<String> found = new TreeSet<>();
        for (Constructor<?> constructor : CatEvenings.class.getDeclaredConstructors()) {
            found.add(constructor.toString());
        }
        return found;
    }

    private static void onlyPublicOrPrivate() {
        for (Method method : CatEvenings.class.getDeclaredMethods()) {
            int modifiers = method.getModifiers();
            CHECK.due(method + " is public or private",
                Modifier.isPublic(modifiers) || Modifier.isPrivate(modifiers), true);
        }
        for (Field field : CatEvenings.class.getDeclaredFields()) {
            CHECK.due(field + " is private", Modifier.isPrivate(field.getModifiers()), true);
        }
    }

    private static void noPrivateMethodNamedAsAPublicOne() {
        Set<String> shown = Arrays.stream(CatEvenings.class.getDeclaredMethods())
            .filter(method -> Modifier.isPublic(method.getModifiers())).map(Member::getName)
            .collect(Collectors.toSet());
        for (Method method : CatEvenings.class.getDeclaredMethods()) {
            if (Modifier.isPrivate(method.getModifiers())) {
                CHECK.due(method + " bears a public method's name", shown.contains(method.getName()), false);
            }
        }
    }

    private static void staticFieldsAreFinal() {
        for (Class<?> inside : CatEvenings.class.getDeclaredClasses()) {
            finalStatics(inside);
        }
        finalStatics(CatEvenings.class);
    }

    private static void finalStatics(Class<?> owner) {
        for (Field field : owner.getDeclaredFields()) {
            if (Modifier.isStatic(field.getModifiers())) {
                CHECK.due(field + " is final", Modifier.isFinal(field.getModifiers()), true);
            }
        }
    }
}
