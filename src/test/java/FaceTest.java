import java.lang.reflect.Constructor;
import java.lang.reflect.Field;
import java.lang.reflect.Method;
import java.lang.reflect.Modifier;
import java.util.Arrays;
import java.util.Set;
import java.util.TreeSet;

/** The public face is the document's, and nothing else of the class can be seen (rules 1 and 5). */
public final class FaceTest {
    private static final String[] FACE = {
        "boolean shoal(int,int)", "boolean open(int,boolean)", "boolean drift(int)", "int boat(int)",
        "boolean go(int,int)", "int mend(int,int)", "int yard(int,int)", "boolean bid(int,int)",
        "boolean soft(int)", "int night(boolean)", "int feed(int,int,int,int,int)", "boolean end(int)",
        "int fault()", "boolean brand(int)", "int judge(int,int)", "int branded(int)",
        "boolean share(int,int,int)", "int settle(int)", "int coins(int,int)", "int cell(int,int)",
        "int told(int,int)", "int lot(int,int)", "int count(int)",
    };

    public static void main(String[] args) {
        Check check = new Check("FaceTest");
        Class<?> face = HerringSea.class;
        check.holds("public and final", Modifier.isPublic(face.getModifiers()) && Modifier.isFinal(face.getModifiers()));
        Set<String> publicNames = methods(check, face);
        for (Method method : face.getDeclaredMethods()) {
            check.holds("private method with a public one's name: " + method.getName(),
                !Modifier.isPrivate(method.getModifiers()) || !publicNames.contains(method.getName()));
        }
        fields(check, face);
        Constructor<?>[] makers = face.getDeclaredConstructors();
        check.due("constructors", makers.length, 1);
        check.due("constructor's parameters", makers[0].getParameterCount(), 0);
        check.holds("public constructor", Modifier.isPublic(makers[0].getModifiers()));
        for (Class<?> inside : face.getDeclaredClasses()) {
            check.holds("static class " + inside, Modifier.isStatic(inside.getModifiers()));
            check.holds("hidden class " + inside,
                !Modifier.isPublic(inside.getModifiers()) && !Modifier.isProtected(inside.getModifiers()));
        }
        check.due("classes", face.getDeclaredClasses().length + 1 <= 12, true);
        check.end();
    }

    private static Set<String> methods(Check check, Class<?> face) {
        Set<String> due = new TreeSet<>(Arrays.asList(FACE));
        Set<String> publicNames = new TreeSet<>();
        for (Method method : face.getDeclaredMethods()) {
            if (Modifier.isPrivate(method.getModifiers())) {
                continue;
            }
            StringBuilder line = new StringBuilder();
            line.append(method.getReturnType()).append(' ').append(method.getName()).append('(');
            for (int i = 0; i < method.getParameterCount(); i++) {
                line.append(i == 0 ? "" : ",").append(method.getParameterTypes()[i]);
            }
            line.append(')');
            check.holds("not of the face: " + line, due.remove(line.toString()));
            check.holds("public, not static: " + line,
                Modifier.isPublic(method.getModifiers()) && !Modifier.isStatic(method.getModifiers()));
            publicNames.add(method.getName());
        }
        check.holds("missing: " + due, due.isEmpty());
        return publicNames;
    }

    private static void fields(Check check, Class<?> face) {
        int visible = 0;
        for (Field field : face.getDeclaredFields()) {
            int is = field.getModifiers();
            check.holds("static fields are final: " + field, !Modifier.isStatic(is) || Modifier.isFinal(is));
            if (!Modifier.isPrivate(is)) {
                visible++;
                check.holds("visible: " + field, field.getName().equals("NONE") && Modifier.isPublic(is)
                    && Modifier.isStatic(is) && Modifier.isFinal(is) && field.getType() == int.class);
            }
        }
        check.due("visible fields", visible, 1);
        check.due("NONE", HerringSea.NONE, -1);
    }
}
