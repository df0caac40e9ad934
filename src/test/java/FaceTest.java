import java.lang.reflect.Constructor;
import java.lang.reflect.Field;
import java.lang.reflect.Method;
import java.lang.reflect.Modifier;
import java.util.Set;
import java.util.TreeSet;

/** The class has the members of the document's public face, and shows no other ones. */
public final class FaceTest {
    private static final String[] METHODS = {
        "int write(int)", "int wipe()", "int fault()", "int lay()", "int person(int,int)", "int tie(int,int)",
        "int owes(int,int)", "int trial(int,int,int)", "int gift(int,int)", "int pay(int,int)", "int die(int)",
        "int pass(int)", "int undo()", "int come(int,int,int,int)", "int cheapest(int,int,int)",
        "int gifts(int,int,int,int)", "int order(int,int,int)", "int mutual(int,int,int)",
        "int see(int,int,int,int,boolean)", "int forget()", "int felt(int,int)", "int kinds(int)",
        "int rain(int,int,int,int,int,int)", "int year(int,int,int)", "int keep()", "int back()", "int count(int)"};

    public static void main(String[] args) {
        Due due = new Due("FaceTest");
        Class<?> face = TrialFunerals.class;
        due.is("modifiers of the class", face.getModifiers(), Modifier.PUBLIC | Modifier.FINAL);
        due.is("methods", shownMethods(face).equals(new TreeSet<>(Set.of(METHODS))) ? 1 : 0, 1);
        due.is("constants", shownFields(face).equals(new TreeSet<>(Set.of("BAD", "NO", "FULL", "NONE"))) ? 1 : 0, 1);
        due.is("constructors", face.getDeclaredConstructors().length, 1);
        for (Constructor<?> made : face.getDeclaredConstructors()) {
            due.is("the constructor is public", made.getModifiers(), Modifier.PUBLIC);
            due.is("what the constructor takes", made.getParameterCount(), 0);
        }
        due.is("BAD", TrialFunerals.BAD, -1);
        due.is("NO", TrialFunerals.NO, -2);
        due.is("FULL", TrialFunerals.FULL, -3);
        due.is("NONE", TrialFunerals.NONE, -4);
        noPrivateNamesake(due, face);
        due.end();
    }

    private static Set<String> shownMethods(Class<?> face) {
        Set<String> shown = new TreeSet<>();
        for (Method method : face.getDeclaredMethods()) {
            if (Modifier.isPrivate(method.getModifiers())) continue;
            StringBuilder row = new StringBuilder(method.getReturnType() + " " + method.getName() + "(");
            for (Class<?> type : method.getParameterTypes()) {
                if (row.charAt(row.length() - 1) != '(') row.append(',');
                row.append(type);
            }
            shown.add(row.append(')').toString());
        }
        return shown;
    }

    private static Set<String> shownFields(Class<?> face) {
        Set<String> shown = new TreeSet<>();
        for (Field field : face.getDeclaredFields()) {
            if (!Modifier.isPrivate(field.getModifiers())) shown.add(field.getName());
        }
        return shown;
    }

    /** LANGUAGE.md, rules 1 and 5: no private namesake of a public method, no static state. */
    private static void noPrivateNamesake(Due due, Class<?> face) {
        Set<String> shown = new TreeSet<>();
        for (String row : METHODS) {
            shown.add(row.substring(4, row.indexOf('(')));
        }
        for (Method method : face.getDeclaredMethods()) {
            boolean secret = Modifier.isPrivate(method.getModifiers());
            due.is("private namesake " + method.getName(), secret && shown.contains(method.getName()) ? 1 : 0, 0);
        }
        for (Class<?> inside : face.getDeclaredClasses()) {
            due.is("public class inside " + inside.getName(), inside.getModifiers() & Modifier.PUBLIC, 0);
            for (Method method : inside.getDeclaredMethods()) {
                due.is("namesake inside " + method.getName(), shown.contains(method.getName()) ? 1 : 0, 0);
            }
        }
        for (Field field : face.getDeclaredFields()) {
            int marks = field.getModifiers();
            due.is("static state " + field.getName(), Modifier.isStatic(marks) && !Modifier.isFinal(marks) ? 1 : 0, 0);
        }
    }
}
