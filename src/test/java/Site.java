import java.lang.reflect.InvocationTargetException;
import java.lang.reflect.Method;
import java.util.Arrays;

/** A new Yarncourt that is called by texts such as "begin(0, 4, 100)"; every wrong answer is printed and counted. */
final class Site {
    private static final int MOST_CALLS = 512;
    private static int wrong = 0;
    private static int checked = 0;

    private final String test;
    private final Yarncourt court = new Yarncourt();
    private int calls = 0;

    Site(String test) {
        this.test = test;
    }

    Site due(int want, String call) {
        return expect(String.valueOf(want), call);
    }

    /** Each of the calls throws IndexOutOfBoundsException. */
    Site noSuch(String... calls) {
        for (String call : calls) {
            expect("IndexOutOfBoundsException", call);
        }
        return this;
    }

    /** Each of the calls throws IllegalArgumentException. */
    Site outOfRange(String... calls) {
        for (String call : calls) {
            expect("IllegalArgumentException", call);
        }
        return this;
    }

    /** Each of the calls throws IllegalStateException. */
    Site refused(String... calls) {
        for (String call : calls) {
            expect("IllegalStateException", call);
        }
        return this;
    }

    Site expect(String want, String call) {
        String got = answer(call);
        check(test + ", call " + calls + ": " + call, want, got);
        return this;
    }

    /** The calls answer with numbers, whichever. */
    Site accepted(String... calls) {
        for (String call : calls) {
            String got = answer(call);
            check(test + ", call " + this.calls + ": " + call + " answered " + got, true, isNumber(got));
        }
        return this;
    }

    static boolean isNumber(String answer) {
        return answer.matches("-?[0-9]+");
    }

    /** Makes the call, and tells what it returned or the simple name of what it threw. */
    String answer(String call) {
        calls++;
        if (calls > MOST_CALLS) {
            fail(test, call + " is call " + calls + ", and nothing is promised for it");
        }
        return outcome(call);
    }

    private String outcome(String call) {
        int open = call.indexOf('(');
        String name = call.substring(0, open);
        String inside = call.substring(open + 1, call.length() - 1);
        Object[] arguments = inside.isEmpty() ? new Object[0]
                : Arrays.stream(inside.split(",")).map(text -> Integer.valueOf(text.trim())).toArray();
        Class<?>[] kinds = new Class<?>[arguments.length];
        Arrays.fill(kinds, int.class);
        try {
            Method method = Yarncourt.class.getMethod(name, kinds);
            return String.valueOf(method.invoke(court, arguments));
        } catch (InvocationTargetException e) {
            return thrown(e.getCause());
        } catch (ReflectiveOperationException e) {
            return e.toString();
        }
    }

    /** Only what the program's own code throws is an answer; the machine and the library must never throw in it. */
    private static String thrown(Throwable exception) {
        String name = exception.getClass().getSimpleName();
        StackTraceElement[] trace = exception.getStackTrace();
        boolean own = trace.length > 0 && trace[0].getClassName().startsWith("Yarncourt");
        return own ? name : name + " that the program did not throw itself";
    }

    static void check(String what, Object want, Object got) {
        checked++;
        if (!want.equals(got)) {
            fail(what, "answered " + got + ", due is " + want);
        }
    }

    static void fail(String what, String why) {
        wrong++;
        if (wrong <= 40) {
            System.out.println(what + ": " + why);
        }
    }

    static void end() {
        System.out.println(checked + " answers looked at, " + wrong + " wrong");
        if (wrong != 0 || checked == 0) {
            System.exit(1);
        }
    }
}
