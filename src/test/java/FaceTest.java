import java.lang.reflect.Constructor;
import java.lang.reflect.Field;
import java.lang.reflect.Method;
import java.lang.reflect.Modifier;
import java.util.Arrays;
import java.util.Set;
import java.util.TreeSet;

/** The class shows the document's face and nothing more. */
public final class FaceTest {
    private static final String[] METHODS = {
        "int batch(long)", "boolean parts(int,int,int)", "boolean today(int)", "int stage(int,int,int)",
        "int run(int)", "long taken(int,int,int)", "long left(int,int)", "long grams(int)",
        "long stock(int,int)", "boolean price(int,int,long)", "long worth(int,int)", "long sell(int)",
        "long money()", "boolean assay(int,int,int,int)", "int settled(int,int)", "boolean disputed(int,int)",
        "boolean tolerance(int)", "int rule(int,int,int,int)", "int cls(int)", "int mix(int,int)", "int dispute(int)"
    };

    public static void main(String[] args) {
        Due due = new Due();
        int kind = AshMetals.class.getModifiers();
        due.yes("the class is public", Modifier.isPublic(kind));
        due.yes("the class is final", Modifier.isFinal(kind));
        due.is("NONE", AshMetals.NONE, -1);
        due.yes("the class has no package", AshMetals.class.getPackageName().isEmpty());
        due.yes("the class extends nothing", AshMetals.class.getSuperclass() == Object.class);
        due.is("the class implements nothing", AshMetals.class.getInterfaces().length, 0);
        methods(due);
        fields(due);
        constructors(due);
        classesInside(due);
        due.end();
    }

    private static void methods(Due due) {
        Set<String> wanted = new TreeSet<>(Arrays.asList(METHODS));
        Set<String> names = new TreeSet<>();
        for (String each : METHODS) {
            names.add(each.substring(each.indexOf(' ') + 1, each.indexOf('(')));
        }
        Set<String> shown = new TreeSet<>();
        for (Method each : AshMetals.class.getDeclaredMethods()) {
            if (Modifier.isPrivate(each.getModifiers())) {
                due.no("a private method bears a public name: " + each.getName(), names.contains(each.getName()));
                continue;
            }
            due.yes(each + " is public", Modifier.isPublic(each.getModifiers()));
            due.no(each + " is static", Modifier.isStatic(each.getModifiers()));
            due.is(each + " declares exceptions", each.getExceptionTypes().length, 0);
            shown.add(each.getReturnType() + " " + each.getName() + types(each.getParameterTypes()));
        }
        due.yes("methods are " + shown, shown.equals(wanted));
    }

    private static void fields(Due due) {
        for (Field each : AshMetals.class.getDeclaredFields()) {
            int kind = each.getModifiers();
            boolean constant = each.getName().equals("NONE");
            due.is(each + " is public", Modifier.isPublic(kind), constant);
            due.is(each + " is private", Modifier.isPrivate(kind), !constant);
            due.no(each + " is static state", Modifier.isStatic(kind) && !Modifier.isFinal(kind));
            if (constant) {
                due.yes("NONE is static and final", Modifier.isStatic(kind) && Modifier.isFinal(kind));
                due.yes("NONE is an int", each.getType() == int.class);
            }
        }
    }

    private static void classesInside(Due due) {
        for (Class<?> each : AshMetals.class.getDeclaredClasses()) {
            int kind = each.getModifiers();
            due.no(each + " is public or protected", Modifier.isPublic(kind) || Modifier.isProtected(kind));
            due.yes(each + " is static", Modifier.isStatic(kind));
            for (Field field : each.getDeclaredFields()) {
                due.no(field + " is static", Modifier.isStatic(field.getModifiers()));
            }
        }
    }

    private static void constructors(Due due) {
        Constructor<?>[] all = AshMetals.class.getDeclaredConstructors();
        due.is("constructors", all.length, 1);
        due.yes("the constructor is public", Modifier.isPublic(all[0].getModifiers()));
        due.is("the constructor's parameters", all[0].getParameterCount(), 0);
    }

    private static String types(Class<?>[] kinds) {
        StringBuilder text = new StringBuilder("(");
        for (Class<?> each : kinds) {
            text.append(text.length() > 1 ? "," : "").append(each);
        }
        return text.append(")").toString();
    }
}
