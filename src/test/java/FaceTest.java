import java.lang.reflect.Constructor;
import java.lang.reflect.Field;
import java.lang.reflect.Method;
import java.lang.reflect.Modifier;
import java.util.ArrayList;
import java.util.Arrays;
import java.util.List;
import java.util.TreeSet;

/** The face has the document's members and no others. */
public final class FaceTest {
    private static final List<String> FACE = Arrays.asList(
            "int NONE", "int RANGE", "int STATE", "int FULL",
            "RightsLimit()",
            "int title(int)",
            "int open(int,boolean)",
            "int limit(int,int,int,int)",
            "int licence(int,int,int,int,int)",
            "int fee(int,int)",
            "int ask(int,int,int,int,int)",
            "int why()",
            "int give(int,int,boolean)",
            "int right(int,int)",
            "int waive(int,int)",
            "int renew(int,int)",
            "int delete(int,int)",
            "int counted(int,int,int,int)",
            "int request(int,int)",
            "int left(int)",
            "int statistics(int,int)",
            "int past(int,int)");

    public static void main(String[] args) {
        Class<?> face = RightsLimit.class;
        Due d = new Due();
        d.due("public and final", face.getModifiers(), Modifier.PUBLIC | Modifier.FINAL);
        List<String> seen = seenFrom(face);
        d.due("all of the face", new TreeSet<>(seen).equals(new TreeSet<>(FACE)) ? 1 : 0, 1);
        d.due("its members", seen.size(), FACE.size());
        d.due("private methods named as public ones", namesakes(face), 0);
        d.finish();
    }

    private static List<String> seenFrom(Class<?> face) {
        List<String> seen = new ArrayList<>();
        for (Field f : face.getDeclaredFields()) {
            if (!Modifier.isPrivate(f.getModifiers())) {
                seen.add(f.getType().getName() + " " + f.getName());
            }
        }
        for (Constructor<?> c : face.getDeclaredConstructors()) {
            seen.add(c.getName() + taken(c.getParameterTypes()));
        }
        for (Method m : face.getDeclaredMethods()) {
            if (!Modifier.isPrivate(m.getModifiers())) {
                seen.add(m.getReturnType().getName() + " " + m.getName() + taken(m.getParameterTypes()));
            }
        }
        return seen;
    }

    private static String taken(Class<?>[] types) {
        StringBuilder text = new StringBuilder("(");
        for (int i = 0; i < types.length; i++) {
            text.append(i == 0 ? "" : ",").append(types[i].getName());
        }
        return text.append(")").toString();
    }

    private static int namesakes(Class<?> face) {
        TreeSet<String> open = new TreeSet<>();
        for (Method m : face.getMethods()) {
            open.add(m.getName());
        }
        int found = 0;
        for (Method m : face.getDeclaredMethods()) {
            if (Modifier.isPrivate(m.getModifiers()) && open.contains(m.getName())) {
                found++;
            }
        }
        return found;
    }
}
