import java.lang.reflect.Constructor;
import java.lang.reflect.Field;
import java.lang.reflect.Method;
import java.lang.reflect.Modifier;
import java.util.ArrayList;
import java.util.List;
import java.util.TreeSet;

/** The public face: the constants, the constructor, the methods, and nothing else. */
public final class FaceTest {
    private static final String[] METHODS = {
        "ask(int,int,int,int)", "bestTilt(int,int)", "bestTilts(int)", "bid(int,int,int,int,int)", "carryOut()",
        "count(int)", "fault()", "grant(int,int,int,int)", "inHour(int,int,int)", "match()", "ofRow(int,int)",
        "offer(int,int,int)", "over(int,int,int,int)", "put(long)", "restore(int)", "row(int,int,int)", "save(int)",
        "stow(int)", "takeBack(int,int)", "tilt(int,int)", "undo()", "wind(int,int)", "wipe()",
        "worth(int,int,int,int,int)"
    };
    private static final String[] CONSTANTS = {"BAD_TEXT", "BAD_VALUE", "NONE", "NOT_POSSIBLE", "NO_SUCH", "TOO_MANY"};

    public static void main(String[] args) {
        constants();
        methods();
        constructors();
        classes();
        Due.end();
    }

    private static void constants() {
        Due.is("NO_SUCH", ShadowRows.NO_SUCH, -1);
        Due.is("BAD_VALUE", ShadowRows.BAD_VALUE, -2);
        Due.is("BAD_TEXT", ShadowRows.BAD_TEXT, -3);
        Due.is("TOO_MANY", ShadowRows.TOO_MANY, -4);
        Due.is("NOT_POSSIBLE", ShadowRows.NOT_POSSIBLE, -5);
        Due.is("NONE", ShadowRows.NONE, -6);
        TreeSet<String> seen = new TreeSet<>();
        for (Field field : ShadowRows.class.getDeclaredFields()) {
            int is = field.getModifiers();
            if (!Modifier.isPrivate(is)) {
                seen.add(field.getName());
                Due.isTrue(field + " is a constant", Modifier.isPublic(is) && Modifier.isStatic(is) && Modifier.isFinal(is));
            }
            Due.isTrue(field + " is final if it is static", !Modifier.isStatic(is) || Modifier.isFinal(is));
        }
        Due.isTrue("the constants " + seen, seen.equals(new TreeSet<>(List.of(CONSTANTS))));
    }

    private static void methods() {
        TreeSet<String> seen = new TreeSet<>();
        List<String> names = new ArrayList<>();
        for (Method method : ShadowRows.class.getDeclaredMethods()) {
            if (Modifier.isPrivate(method.getModifiers())) {
                continue;
            }
            Due.isTrue(method + " is public", Modifier.isPublic(method.getModifiers()));
            Due.isTrue(method + " returns int", method.getReturnType() == int.class);
            seen.add(signature(method));
            names.add(method.getName());
        }
        Due.isTrue("the methods " + seen, seen.equals(new TreeSet<>(List.of(METHODS))));
        for (Method method : ShadowRows.class.getDeclaredMethods()) {
            boolean own = Modifier.isPrivate(method.getModifiers());
            Due.isTrue(method + " bears no public name", !own || !names.contains(method.getName()));
        }
    }

    private static String signature(Method method) {
        StringBuilder text = new StringBuilder(method.getName()).append('(');
        for (Class<?> type : method.getParameterTypes()) {
            text.append(text.charAt(text.length() - 1) == '(' ? "" : ",").append(type.getName());
        }
        return text.append(')').toString();
    }

    private static void constructors() {
        Constructor<?>[] all = ShadowRows.class.getDeclaredConstructors();
        Due.is("how many constructors", all.length, 1);
        Due.isTrue("it is public", Modifier.isPublic(all[0].getModifiers()));
        Due.is("its parameters", all[0].getParameterCount(), 0);
    }

    private static void classes() {
        int is = ShadowRows.class.getModifiers();
        Due.isTrue("the class is public and final", Modifier.isPublic(is) && Modifier.isFinal(is));
        Due.isTrue("the class has no package", ShadowRows.class.getPackageName().isEmpty());
        for (Class<?> inside : ShadowRows.class.getDeclaredClasses()) {
            int has = inside.getModifiers();
            Due.isTrue(inside + " is static", Modifier.isStatic(has));
            Due.isTrue(inside + " is not seen", !Modifier.isPublic(has) && !Modifier.isProtected(has));
        }
        Due.isTrue("at most twelve classes", ShadowRows.class.getDeclaredClasses().length < 12);
    }
}
