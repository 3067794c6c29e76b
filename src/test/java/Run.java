import java.lang.reflect.InvocationTargetException;
import java.lang.reflect.Method;
import java.util.ArrayList;
import java.util.HashMap;
import java.util.List;
import java.util.Map;

/** A new object and the calls made on it, each told as a text: "takeLevel 2" is answered "1", or "state". */
final class Run {

    /** The document promises nothing behind these. */
    private static final int MOST_CALLS = 512;

    private static final Map<String, Method> METHODS = methods();

    private final Rulesheet object = new Rulesheet();
    private int calls = 0;

    private static Map<String, Method> methods() {
        Map<String, Method> methods = new HashMap<>();
        for (Method method : Rulesheet.class.getMethods()) {
            if (method.getDeclaringClass() == Rulesheet.class) {
                methods.put(method.getName(), method);
            }
        }
        return methods;
    }

    /** What a call answers; "-" if it answers nothing; the kind of the exception if it throws one. */
    String answer(String call) {
        calls++;
        if (calls > MOST_CALLS) {
            throw new IllegalStateException("a test makes too many calls on one object");
        }
        String[] words = call.split(" ");
        Object[] arguments = new Object[words.length - 1];
        for (int at = 0; at < arguments.length; at++) {
            arguments[at] = number(words[at + 1]);
        }
        try {
            Object answer = METHODS.get(words[0]).invoke(object, arguments);
            return answer == null ? "-" : answer.toString();
        } catch (InvocationTargetException e) {
            return kindOf(e.getCause());
        } catch (IllegalAccessException e) {
            return "no such call";
        }
    }

    /** The answers to some calls, one in each line. */
    String answers(List<String> calls) {
        StringBuilder text = new StringBuilder();
        for (String call : calls) {
            text.append(call).append(" = ").append(answer(call)).append('\n');
        }
        return text.toString();
    }

    private static int number(String word) {
        switch (word) {
            case "NONE":
                return Rulesheet.NONE;
            case "MIN":
                return Integer.MIN_VALUE;
            case "MAX":
                return Integer.MAX_VALUE;
            default:
                return Integer.parseInt(word);
        }
    }

    /** By the very class: a class below it is another exception. */
    private static String kindOf(Throwable thrown) {
        if (thrown.getClass() == IndexOutOfBoundsException.class) {
            return "index";
        }
        if (thrown.getClass() == IllegalArgumentException.class) {
            return "argument";
        }
        if (thrown.getClass() == IllegalStateException.class) {
            return "state";
        }
        return thrown.toString();
    }

    /** Parts a script at its semicolons; "3x loseLevel" stands for three of that call. */
    static List<String> parted(String script) {
        List<String> parts = new ArrayList<>();
        for (String part : script.split(";")) {
            String call = part.strip();
            int times = 1;
            if (call.matches("\\d+x .*")) {
                times = Integer.parseInt(call.substring(0, call.indexOf('x')));
                call = call.substring(call.indexOf(' ') + 1);
            }
            for (int time = 0; time < times && !call.isEmpty(); time++) {
                parts.add(call);
            }
        }
        return parts;
    }
}
