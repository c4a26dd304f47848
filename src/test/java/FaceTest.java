import java.lang.reflect.Constructor;
import java.lang.reflect.Field;
import java.lang.reflect.Method;
import java.lang.reflect.Modifier;
import java.util.Arrays;
import java.util.Set;
import java.util.TreeSet;

/** The document's face, no more and no less, and rule 1 of LANGUAGE.md for it. */
public final class FaceTest {
    private static final String[] METHODS = {
        "int feed(int,int,int,int,int)", "boolean end(int)", "int fault(int)", "int text(int)", "int rule(int)",
        "int man(int,int)", "int ford(int,int)", "boolean law(int)", "int heard(int,int)", "int move(int,int)",
        "int voice(int,int)", "int deed(int)", "int feedHorse(boolean)", "int fill(int)", "int rain(int)",
        "int days(int)", "boolean storm(int)", "int years(int,long)", "int status(int)", "int undo()",
        "int log(int,int)", "int words(int)", "int mentions(int)", "int ride(int)", "int stand(int,int)",
        "int gait(int,int)", "int put(int)", "int least(int)", "int seen(int,int,boolean)", "int who(int,int)",
        "int best(int)", "int pension(int,int,int)", "int unfair(int)", "int game(int,int,int,int,int)",
        "int rests(int,int,int)", "int odds(int,int)", "int loudest(int)", "int span(int)", "int nearest(int)",
        "int most(int)", "int ahead(int,int)", "int image()", "int back()", "int count(int)",
    };

    public static void main(String[] args) throws ReflectiveOperationException {
        Check check = new Check("FaceTest");
        Class<?> face = GallopDispatch.class;
        check.due("final", Modifier.isFinal(face.getModifiers()), true);
        check.due("NONE", GallopDispatch.NONE, -1);
        check.due("HIDDEN", GallopDispatch.HIDDEN, -1000000);
        Set<String> open = new TreeSet<>();
        Set<String> names = new TreeSet<>();
        for (Method m : face.getDeclaredMethods()) {
            if (!Modifier.isPrivate(m.getModifiers())) {
                open.add(signature(m));
                names.add(m.getName());
                check.due(m.getName() + " is public", Modifier.isPublic(m.getModifiers()), true);
            }
        }
        Set<String> due = new TreeSet<>(Arrays.asList(METHODS));
        check.due("the methods are " + open, open.equals(due), true);
        Class<?>[] thrown = face.getMethod("man", int.class, int.class).getExceptionTypes();
        check.due("man declares one exception", thrown.length, 1);
        for (Constructor<?> c : face.getDeclaredConstructors()) {
            check.due("a constructor is public and bare",
                Modifier.isPublic(c.getModifiers()) && c.getParameterCount() == 0, true);
        }
        for (Field f : face.getDeclaredFields()) {
            boolean constant = f.getName().equals("NONE") || f.getName().equals("HIDDEN");
            check.due(f.getName() + " is private or of the face",
                Modifier.isPrivate(f.getModifiers()) != constant, true);
            checkStatic(check, f);
        }
        for (Class<?> inside : face.getDeclaredClasses()) {
            check.due(inside + " is static", Modifier.isStatic(inside.getModifiers()), true);
            check.due(inside + " is not public", Modifier.isPublic(inside.getModifiers()), false);
            check.due(inside + " has some twenty fields", inside.getDeclaredFields().length <= 30, true);
            for (Method m : inside.getDeclaredMethods()) {
                check.due(m + " bears no name of the face", names.contains(m.getName()), false);
                check.due(m + " takes at most seven", m.getParameterCount() <= 7, true);
            }
            for (Field f : inside.getDeclaredFields()) {
                checkStatic(check, f);
            }
        }
        check.due("classes", face.getDeclaredClasses().length <= 12, true);
        check.end();
    }

    private static void checkStatic(Check check, Field f) {
        if (Modifier.isStatic(f.getModifiers())) {
            check.due(f + " is final", Modifier.isFinal(f.getModifiers()), true);
        }
    }

    private static String signature(Method m) {
        StringBuilder text = new StringBuilder(m.getReturnType() + " " + m.getName() + "(");
        for (Class<?> type : m.getParameterTypes()) {
            text.append(text.charAt(text.length() - 1) == '(' ? "" : ",").append(type);
        }
        return text.append(")").toString();
    }
}
