import java.lang.reflect.Constructor;
import java.lang.reflect.Field;
import java.lang.reflect.Method;
import java.lang.reflect.Modifier;
import java.util.HashSet;
import java.util.Set;
import java.util.TreeSet;

/** The public face of the document, and rule 1 of the language. */
public final class FaceTest {

    private static final String BOUNDS = " IndexOutOfBoundsException";
    private static final String ARGUMENT = " IllegalArgumentException";
    private static final String STATE = " IllegalStateException";
    private static final String[] METHODS = {
        "void setNeeds int int int int int int:" + BOUNDS + ARGUMENT,
        "void bar int int int:" + BOUNDS + ARGUMENT,
        "void setBonus int int int int:" + BOUNDS + ARGUMENT,
        "void setValue int int int int int:" + BOUNDS + ARGUMENT,
        "int setScore int int:" + BOUNDS + ARGUMENT + STATE,
        "int takeLevel int:" + BOUNDS + STATE,
        "int takeGift int:" + BOUNDS + STATE,
        "int loseLevel:" + STATE,
        "int exchange int int:" + BOUNDS + STATE,
        "int clear:",
        "int level int:" + BOUNDS,
        "int gifts:",
        "int working:",
        "int open:",
        "int places:",
        "int points:",
        "int value int:" + BOUNDS + STATE,
        "int bonus int int:" + BOUNDS + ARGUMENT,
        "boolean isRing int:" + BOUNDS,
        "int attack:",
        "boolean isLawful:",
        "boolean isLawfulByOrders:" + STATE,
        "int stepAt int:" + BOUNDS + STATE,
    };

    private static final Check check = new Check("FaceTest");

    public static void main(String[] args) throws ReflectiveOperationException {
        theClass();
        methods();
        fields();
        inside();
        check.finish();
    }

    private static void theClass() {
        check.due("modifiers", Rulesheet.class.getModifiers(), Modifier.PUBLIC | Modifier.FINAL);
        Constructor<?>[] constructors = Rulesheet.class.getDeclaredConstructors();
        check.due("constructors", constructors.length, 1);
        check.due("the constructor's modifiers", constructors[0].getModifiers(), Modifier.PUBLIC);
        check.due("the constructor's parameters", constructors[0].getParameterCount(), 0);
    }

    private static String told(Method method) {
        StringBuilder text = new StringBuilder();
        text.append(method.getReturnType().getSimpleName()).append(' ').append(method.getName());
        for (Class<?> type : method.getParameterTypes()) {
            text.append(' ').append(type.getSimpleName());
        }
        text.append(':');
        for (Class<?> type : method.getExceptionTypes()) {
            text.append(' ').append(type.getSimpleName());
        }
        return text.toString();
    }

    private static void methods() {
        Set<String> face = new TreeSet<>();
        Set<String> publicNames = new HashSet<>();
        for (Method method : Rulesheet.class.getDeclaredMethods()) {
            if (!Modifier.isPrivate(method.getModifiers())) {
                check.due("modifiers of " + method.getName(), method.getModifiers(), Modifier.PUBLIC);
                face.add(told(method));
                publicNames.add(method.getName());
            }
        }
        check.due("the methods", face, new TreeSet<>(Set.of(METHODS)));
        for (Method method : Rulesheet.class.getDeclaredMethods()) {
            boolean clash = Modifier.isPrivate(method.getModifiers()) && publicNames.contains(method.getName());
            check.due("the private name " + method.getName() + " is a public one", clash, false);
        }
    }

    private static void fields() throws ReflectiveOperationException {
        int plain = 0;
        for (Field field : Rulesheet.class.getDeclaredFields()) {
            int modifiers = field.getModifiers();
            if (field.getName().equals("NONE")) {
                check.due("NONE", modifiers, Modifier.PUBLIC | Modifier.STATIC | Modifier.FINAL);
                check.due("NONE's type", field.getType(), int.class);
                check.due("NONE's value", field.getInt(null), -1);
            } else {
                check.due("private " + field.getName(), Modifier.isPrivate(modifiers), true);
            }
            if (Modifier.isStatic(modifiers)) {
                check.due("final " + field.getName(), Modifier.isFinal(modifiers), true);
            } else {
                plain++;
            }
        }
        check.due("not too many fields", plain <= 20, true);
    }

    private static void inside() {
        for (Class<?> inner : Rulesheet.class.getDeclaredClasses()) {
            int modifiers = inner.getModifiers();
            check.due("static " + inner.getName(), Modifier.isStatic(modifiers), true);
            check.due("hidden " + inner.getName(),
                    !Modifier.isPublic(modifiers) && !Modifier.isProtected(modifiers), true);
        }
        check.due("not too many classes", Rulesheet.class.getDeclaredClasses().length <= 12, true);
    }
}
