import java.lang.reflect.Constructor;
import java.lang.reflect.Field;
import java.lang.reflect.Method;
import java.lang.reflect.Modifier;
import java.util.Arrays;
import java.util.Set;
import java.util.TreeSet;

/** The public face is the document's and no more, and no state is static. */
public final class FaceTest {
    private static final String[] FACE = {
        "post()", "road(int,int,int)", "bar(int,int)", "price(int,int)", "of(int,int)", "go(int,int)",
        "ticks(int,int)", "when(int,int,int)", "brought(int,int,int)", "fort(int,int)", "forts(int,int)",
        "apart(int)", "least(int)", "many(int)", "cheapest(int)", "pared(int)", "burn()", "hand(int)",
        "burnt(long)", "save(int)", "wall(int,int)", "holds(int)", "guards()", "answer(int,int)",
        "win(int,int)", "first(int,int)", "count()"};

    public static void main(String[] args) {
        Class<LampNet> face = LampNet.class;
        Check.due("public final class", face.getModifiers(), Modifier.PUBLIC | Modifier.FINAL);
        methods(face);
        constructors(face);
        fields(face);
        for (Class<?> inside : face.getDeclaredClasses()) {
            Check.due("static " + inside, Modifier.isStatic(inside.getModifiers()) ? 1 : 0, 1);
            Check.due("not public " + inside, inside.getModifiers() & (Modifier.PUBLIC | Modifier.PROTECTED), 0);
            fields(inside);
            namesOfTheFace(inside);
        }
        Check.end();
    }

    private static void methods(Class<?> face) {
        Set<String> due = new TreeSet<>(Arrays.asList(FACE));
        Set<String> seen = new TreeSet<>();
        for (Method method : face.getDeclaredMethods()) {
            if (!Modifier.isPrivate(method.getModifiers())) {
                StringBuilder told = new StringBuilder(method.getName()).append('(');
                for (Class<?> type : method.getParameterTypes()) {
                    told.append(told.charAt(told.length() - 1) == '(' ? "" : ",").append(type.getName());
                }
                seen.add(told.append(')').toString());
                Check.due("int " + method, method.getReturnType() == int.class ? 1 : 0, 1);
                Check.due("public " + method, method.getModifiers(), Modifier.PUBLIC);
            } else {
                Check.due("own name " + method, isOfTheFace(method.getName()) ? 1 : 0, 0);
            }
        }
        Check.due("the methods are " + due + ", seen are " + seen, seen.equals(due) ? 1 : 0, 1);
    }

    private static void constructors(Class<?> face) {
        Constructor<?>[] all = face.getDeclaredConstructors();
        Check.due("constructors", all.length, 1);
        Check.due("parameters", all[0].getParameterCount(), 0);
        Check.due("public constructor", all[0].getModifiers(), Modifier.PUBLIC);
    }

    private static void fields(Class<?> owner) {
        for (Field field : owner.getDeclaredFields()) {
            int modifiers = field.getModifiers();
            Check.due("private " + field, Modifier.isPrivate(modifiers) ? 1 : 0, 1);
            Check.due("no static state " + field, Modifier.isStatic(modifiers) && !Modifier.isFinal(modifiers) ? 1 : 0, 0);
        }
    }

    private static void namesOfTheFace(Class<?> inside) {
        for (Method method : inside.getDeclaredMethods()) {
            Check.due("own name " + method, isOfTheFace(method.getName()) ? 1 : 0, 0);
        }
    }

    private static boolean isOfTheFace(String name) {
        for (String told : FACE) {
            if (told.startsWith(name + "(")) {
                return true;
            }
        }
        return false;
    }
}
