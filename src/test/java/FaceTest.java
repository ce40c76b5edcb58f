import java.lang.reflect.Constructor;
import java.lang.reflect.Field;
import java.lang.reflect.Method;
import java.lang.reflect.Modifier;
import java.util.ArrayList;
import java.util.Arrays;
import java.util.List;
import java.util.Set;
import java.util.TreeSet;

/** The public face, and promise 1: a new object. */
public final class FaceTest {
    private static final String INDEX = " IndexOutOfBoundsException";
    private static final String ARGUMENT = " IllegalArgumentException";
    private static final String STATE = " IllegalStateException";

    public static void main(String[] args) {
        constants();
        methods();
        nothingElse();
        newObject();
        objectsAreApart();
        Site.end();
    }

    private static void constants() {
        Site.check("NONE", -1, Yarncourt.NONE);
        Site.check("NOTHING", 0, Yarncourt.NOTHING);
        Site.check("KNIT", 1, Yarncourt.KNIT);
        Site.check("PURL", 2, Yarncourt.PURL);
    }

    private static void methods() {
        Set<String> want = new TreeSet<>(Arrays.asList(
                "begin 3" + INDEX + ARGUMENT + STATE,
                "line 5" + INDEX + ARGUMENT + STATE,
                "anew 2" + INDEX + ARGUMENT + STATE,
                "publish 1" + INDEX + STATE,
                "original 1" + INDEX,
                "rows 1" + INDEX,
                "stitch 3" + INDEX,
                "stitchByWork 3" + INDEX,
                "need 2" + INDEX + ARGUMENT,
                "buy 2" + INDEX + STATE,
                "rule 1" + INDEX + STATE,
                "money 1" + INDEX,
                "lot 3" + INDEX + ARGUMENT + STATE,
                "swap 2" + INDEX + STATE,
                "left 1" + INDEX,
                "project 3" + INDEX + STATE,
                "take 2" + INDEX + STATE,
                "knit 2" + INDEX + ARGUMENT,
                "progress 1" + INDEX));
        Set<String> got = new TreeSet<>();
        for (Method method : Yarncourt.class.getDeclaredMethods()) {
            if (!Modifier.isPrivate(method.getModifiers())) {
                got.add(described(method));
            }
        }
        Site.check("the methods of the face", want, got);
    }

    private static String described(Method method) {
        StringBuilder text = new StringBuilder(method.getName()).append(' ').append(method.getParameterCount());
        for (Class<?> thrown : method.getExceptionTypes()) {
            text.append(' ').append(thrown.getSimpleName());
        }
        for (Class<?> kind : method.getParameterTypes()) {
            if (kind != int.class) {
                text.append(" takes ").append(kind);
            }
        }
        if (method.getReturnType() != int.class || method.getModifiers() != Modifier.PUBLIC) {
            text.append(" is ").append(method);
        }
        return text.toString();
    }

    private static void nothingElse() {
        Site.check("the class", Modifier.PUBLIC | Modifier.FINAL, Yarncourt.class.getModifiers());
        Constructor<?>[] constructors = Yarncourt.class.getDeclaredConstructors();
        Site.check("constructors", 1, constructors.length);
        Site.check("the constructor's arguments", 0, constructors[0].getParameterCount());
        Site.check("the constructor is public", true, Modifier.isPublic(constructors[0].getModifiers()));
        List<String> open = new ArrayList<>();
        for (Field field : Yarncourt.class.getDeclaredFields()) {
            if (!Modifier.isPrivate(field.getModifiers())) {
                open.add(field.getName());
            }
        }
        Site.check("fields that are seen", Arrays.asList("NONE", "NOTHING", "KNIT", "PURL"), open);
    }

    private static void newObject() {
        Site site = new Site("promise 1");
        site.noSuch("rows(0)", "original(0)", "publish(0)", "line(0, 1, 1, 0, 1)", "anew(0, 10)", "need(0, 10)",
                "stitch(0, 0, 0)", "stitchByWork(0, 0, 0)", "buy(0, 0)", "rule(0)");
        site.noSuch("left(0)", "swap(0, 0)", "progress(0)", "knit(0, 1)", "take(0, 0)", "project(0, 0, 0)");
        for (int person = 0; person < 5; person++) {
            site.due(0, "money(" + person + ")");
        }
        site.due(0, "begin(0, 1, 0)").due(0, "lot(0, 5, 1)");
    }

    private static void objectsAreApart() {
        Site one = new Site("promise 1, one object");
        Site other = new Site("promise 1, another object");
        one.due(0, "begin(0, 4, 10)").due(1, "line(0, 1, 1, 0, 1)").due(0, "publish(0)").due(10, "buy(0, 1)");
        one.due(0, "lot(1, 5, 100)").due(0, "project(1, 0, 0)").due(1, "knit(0, 1)");
        other.noSuch("rows(0)", "left(0)", "progress(0)").due(0, "money(0)").due(0, "money(1)");
    }
}
