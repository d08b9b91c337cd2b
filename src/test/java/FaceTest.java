import java.lang.reflect.Constructor;
import java.lang.reflect.Field;
import java.lang.reflect.Method;
import java.lang.reflect.Modifier;
import java.util.Arrays;
import java.util.Set;
import java.util.TreeSet;

/** The public face is the document's, and nothing else can be seen of the class (LANGUAGE.md, rule 1). */
public final class FaceTest {
    private static final Set<String> FACE = new TreeSet<>(Arrays.asList(
            "public boolean GameNotation.type(long)",
            "public void GameNotation.wipe()",
            "public int GameNotation.text(int)",
            "public int GameNotation.record()",
            "public int GameNotation.write()",
            "public boolean GameNotation.put(int,int)",
            "public boolean GameNotation.state(int,int,int,int,int)",
            "public int GameNotation.at(int)",
            "public boolean GameNotation.attacked(int,int) throws java.lang.IndexOutOfBoundsException",
            "public boolean GameNotation.tell(int,int)",
            "public void GameNotation.forget()",
            "public int GameNotation.spell(int) throws java.lang.IllegalArgumentException",
            "public int GameNotation.find()",
            "public int GameNotation.look(int)"));

    private static final Due DUE = new Due("The public face");

    public static void main(String[] args) {
        DUE.test("NONE = -1", () -> DUE.is("NONE", GameNotation.NONE, -1));
        DUE.test("the class is public and final",
                () -> DUE.is("its modifiers", Modifier.toString(GameNotation.class.getModifiers()), "public final"));
        DUE.test("the document's methods and no other", () -> DUE.is("the methods", visibleMethods().toString(), FACE.toString()));
        DUE.test("the document's constructor and no other", () -> {
            Constructor<?>[] constructors = GameNotation.class.getDeclaredConstructors();
            DUE.is("the constructors", Arrays.toString(constructors), "[public GameNotation()]");
        });
        DUE.test("the document's constant and no other",
                () -> DUE.is("the fields", visibleFields().toString(), "[public static final int GameNotation.NONE]"));
        DUE.test("no private method bears the name of a public one", () -> DUE.is("such names", namesTwice().toString(), "[]"));
        DUE.test("static fields are final", () -> DUE.is("others", openStatics(GameNotation.class).toString(), "[]"));
        DUE.test("the classes inside are static and not public", FaceTest::classesInside);
        DUE.end();
    }

    private static void classesInside() {
        for (Class<?> inside : GameNotation.class.getDeclaredClasses()) {
            int modifiers = inside.getModifiers();
            DUE.is(inside + " is static", Modifier.isStatic(modifiers), true);
            DUE.is(inside + " is public or protected", Modifier.isPublic(modifiers) || Modifier.isProtected(modifiers), false);
            DUE.is("its static fields that are not final", openStatics(inside).toString(), "[]");
        }
    }

    private static Set<String> visibleMethods() {
        Set<String> found = new TreeSet<>();
        for (Method method : GameNotation.class.getDeclaredMethods()) {
            if (!Modifier.isPrivate(method.getModifiers())) {
                found.add(method.toString());
            }
        }
        return found;
    }

    private static Set<String> namesTwice() {
        Set<String> open = new TreeSet<>();
        Set<String> hidden = new TreeSet<>();
        for (Method method : GameNotation.class.getDeclaredMethods()) {
            (Modifier.isPrivate(method.getModifiers()) ? hidden : open).add(method.getName());
        }
        hidden.retainAll(open);
        return hidden;
    }

    private static Set<String> visibleFields() {
        Set<String> found = new TreeSet<>();
        for (Field field : GameNotation.class.getDeclaredFields()) {
            if (!Modifier.isPrivate(field.getModifiers())) {
                found.add(field.toString());
            }
        }
        return found;
    }

    private static Set<String> openStatics(Class<?> of) {
        Set<String> found = new TreeSet<>();
        for (Field field : of.getDeclaredFields()) {
            if (Modifier.isStatic(field.getModifiers()) && !Modifier.isFinal(field.getModifiers())) {
                found.add(field.toString());
            }
        }
        return found;
    }
}
