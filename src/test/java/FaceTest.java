import java.lang.reflect.Constructor;
import java.lang.reflect.Field;
import java.lang.reflect.Method;
import java.lang.reflect.Modifier;
import java.util.Arrays;
import java.util.Set;
import java.util.TreeSet;

/** The public face is the document's and nothing else; no private method bears a public one's name. */
public final class FaceTest {
    private static final String[] METHODS = {
        "int feed(int,int,int,int,int)", "int text(int)", "int fault(int)", "int named(int,int)", "int look(int,int)",
        "long length(int,int)", "long date(int,long,int)", "long count(int,int,long)", "int round(long,int)",
        "int feast(int,long)", "long festive(int,long)", "long rule(int,long)", "long life(int,int)",
        "long age(int,long,int)", "int elder(int,int)", "long often(int,int,int,long)", "long springs(int,int)",
        "int many(int,int,int)", "long next(long,int,int,int)", "long alike(int,int,long,boolean)",
        "long deed(int,int,int)", "int ends(int,long,int)", "long hire(int,long,int,int)", "int parts(int,int,int)",
        "int months(int,int,int)", "int note()", "boolean says(int,int,int)", "int undo()", "int alone(int,int)",
        "int fits(int,int)", "int gap()", "int told(int,int)", "int judged()", "int forget()", "int keep()",
        "int back()", "int size(int)"};

    public static void main(String[] args) {
        Set<String> due = new TreeSet<>(Arrays.asList(METHODS));
        Set<String> found = new TreeSet<>();
        Set<String> names = new TreeSet<>();
        for (Method method : LongYears.class.getDeclaredMethods()) {
            if (Modifier.isPublic(method.getModifiers())) {
                names.add(method.getName());
                StringBuilder form = new StringBuilder(method.getReturnType() + " " + method.getName() + "(");
                for (Class<?> type : method.getParameterTypes()) {
                    form.append(form.charAt(form.length() - 1) == '(' ? "" : ",").append(type);
                }
                found.add(form + ")");
            }
        }
        Check.due("public methods " + found, found.equals(due), true);
        for (Method method : LongYears.class.getDeclaredMethods()) {
            boolean isPublic = Modifier.isPublic(method.getModifiers());
            Check.due(method + " is public or private", isPublic || Modifier.isPrivate(method.getModifiers()), true);
            Check.due(method + " has a name of its own", isPublic || !names.contains(method.getName()), true);
        }
        int shown = 0;
        for (Field field : LongYears.class.getDeclaredFields()) {
            boolean isPublic = Modifier.isPublic(field.getModifiers());
            shown += isPublic ? 1 : 0;
            Check.due(field + " is public or private", isPublic || Modifier.isPrivate(field.getModifiers()), true);
            boolean changes = Modifier.isStatic(field.getModifiers()) && !Modifier.isFinal(field.getModifiers());
            Check.due(field + " is static and not final", changes, false);
        }
        Check.due("constants", shown, 2);
        Check.due("NONE", LongYears.NONE, -1);
        Check.due("SPENT", LongYears.SPENT, -2);
        Constructor<?>[] makers = LongYears.class.getDeclaredConstructors();
        Check.due("constructors", makers.length, 1);
        Check.due("it is public", Modifier.isPublic(makers[0].getModifiers()), true);
        Check.due("the class is public and final", LongYears.class.getModifiers(), Modifier.PUBLIC | Modifier.FINAL);
        Check.end();
    }
}
