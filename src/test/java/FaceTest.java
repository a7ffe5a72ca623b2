import java.lang.reflect.Constructor;
import java.lang.reflect.Field;
import java.lang.reflect.Member;
import java.lang.reflect.Method;
import java.lang.reflect.Modifier;
import java.util.Arrays;
import java.util.Set;
import java.util.TreeSet;
import java.util.stream.Collectors;

/** The class shows the document's face and nothing else (LANGUAGE.md, rule 1). */
public final class FaceTest {
    private static final String[] FACE = {
        "int setPiece(int, int)", "int paw(int, int)", "int undo(int)", "int redo(int)", "int goTo(int)",
        "int evening()", "int evenings()", "int pieces()", "int catColumn()", "int catRow()", "int lying()",
        "int placeOf(int)", "boolean lies(int)", "int pieceAt(int, int)", "boolean canDo(int, int)",
        "int hangsOn(int)", "int kindOf(int)", "int numberOf(int)", "int depthOf(int)", "int branches(int)",
        "int behind(int)", "int again(int)", "int meet(int, int)", "int apart(int, int)", "int ends()",
        "int placeIn(int, int)", "int lyingIn(int)", "boolean areAlike(int, int)", "int mostKnocked()",
        "double meanDepth()", "long digest()"};

    private static final Check CHECK = new Check();

    public static void main(String[] args) {
        int modifiers = CatEvenings.class.getModifiers();
        CHECK.due("public final class", Modifier.isPublic(modifiers) && Modifier.isFinal(modifiers), true);
        CHECK.due("public methods", publicMethods(), new TreeSet<>(Arrays.asList(FACE)));
        CHECK.due("constructors", constructors(), Set.of("public CatEvenings()"));
        onlyPublicOrPrivate();
        noPrivateMethodNamedAsAPublicOne();
        staticFieldsAreFinal();
        CHECK.end();
    }

    private static Set<String> publicMethods() {
        Set<String> found = new TreeSet<>();
        for (Method method : CatEvenings.class.getDeclaredMethods()) {
            if (Modifier.isPublic(method.getModifiers())) {
                found.add(method.getReturnType().getSimpleName() + " " + method.getName() + Arrays
                    .stream(method.getParameterTypes()).map(Class::getSimpleName)
                    .collect(Collectors.joining(", ", "(", ")")));
            }
        }
        return found;
    }

    private static Set<String> constructors() {
        Set<String> found = new TreeSet<>();
        for (Constructor<?> constructor : CatEvenings.class.getDeclaredConstructors()) {
            found.add(constructor.toString());
        }
        return found;
    }

    private static void onlyPublicOrPrivate() {
        for (Method method : CatEvenings.class.getDeclaredMethods()) {
            int modifiers = method.getModifiers();
            CHECK.due(method + " is public or private",
                Modifier.isPublic(modifiers) || Modifier.isPrivate(modifiers), true);
        }
        for (Field field : CatEvenings.class.getDeclaredFields()) {
            CHECK.due(field + " is private", Modifier.isPrivate(field.getModifiers()), true);
        }
    }

    private static void noPrivateMethodNamedAsAPublicOne() {
        Set<String> shown = Arrays.stream(CatEvenings.class.getDeclaredMethods())
            .filter(method -> Modifier.isPublic(method.getModifiers())).map(Member::getName)
            .collect(Collectors.toSet());
        for (Method method : CatEvenings.class.getDeclaredMethods()) {
            if (Modifier.isPrivate(method.getModifiers())) {
                CHECK.due(method + " bears a public method's name", shown.contains(method.getName()), false);
            }
        }
    }

    private static void staticFieldsAreFinal() {
        for (Class<?> inside : CatEvenings.class.getDeclaredClasses()) {
            finalStatics(inside);
        }
        finalStatics(CatEvenings.class);
    }

    private static void finalStatics(Class<?> owner) {
        for (Field field : owner.getDeclaredFields()) {
            if (Modifier.isStatic(field.getModifiers())) {
                CHECK.due(field + " is final", Modifier.isFinal(field.getModifiers()), true);
            }
        }
    }
}
