import java.lang.reflect.Constructor;
import java.lang.reflect.Field;
import java.lang.reflect.Method;
import java.lang.reflect.Modifier;
import java.util.Set;
import java.util.TreeSet;

/** The public face is the document's, and nothing else can be seen. */
public final class FaceTest {
    public static void main(String[] args) {
        Due due = new Due();
        Set<String> face = new TreeSet<>();
        Set<String> hidden = new TreeSet<>();
        for (Method method : ColdDepots.class.getDeclaredMethods()) {
            if (Modifier.isPrivate(method.getModifiers())) {
                hidden.add(method.getName());
            } else {
                face.add(told(method));
            }
        }
        Set<String> document = new TreeSet<>(Set.of(
            "public int letter(int)", "public int blank()", "public int fault()", "public int camp()",
            "public int member(int,int)", "public int as(int,int)", "public int cairn(int,int)",
            "public int lay(int,int)", "public int march(int,int,int)", "public int would(int,int,int,int)",
            "public int need(int,int)", "public int far(int)", "public int team(int)",
            "public int hear(int,int,int,boolean)", "public int forget()", "public int winters(int,int,int)",
            "public int image()", "public int restore()", "public int count(int)", "public long digest()"));
        System.out.print(face.equals(document) ? "" : "the face is " + face + "\n");
        due.due("the face is the document's", face.equals(document) ? 1 : 0, 1);
        for (Method method : ColdDepots.class.getDeclaredMethods()) {
            boolean isPublic = Modifier.isPublic(method.getModifiers());
            due.due("private " + method.getName(), isPublic && hidden.contains(method.getName()) ? 1 : 0, 0);
        }
        int constants = 0;
        for (Field field : ColdDepots.class.getDeclaredFields()) {
            constants += Modifier.isPrivate(field.getModifiers()) ? 0 : 1;
        }
        due.due("constants", constants, 5);
        Constructor<?>[] constructors = ColdDepots.class.getDeclaredConstructors();
        due.due("constructors", constructors.length, 1);
        due.due("the class's modifiers", ColdDepots.class.getModifiers(), Modifier.PUBLIC | Modifier.FINAL);
        due.due("NONE", ColdDepots.NONE, -1);
        due.due("UNKNOWN", ColdDepots.UNKNOWN, -101);
        due.due("OUTSIDE", ColdDepots.OUTSIDE, -102);
        due.due("STATE", ColdDepots.STATE, -103);
        due.due("FULL", ColdDepots.FULL, -104);
        due.end();
    }

    private static String told(Method method) {
        StringBuilder text = new StringBuilder(Modifier.toString(method.getModifiers()));
        text.append(' ').append(method.getReturnType()).append(' ').append(method.getName()).append('(');
        for (Class<?> type : method.getParameterTypes()) {
            text.append(text.charAt(text.length() - 1) == '(' ? "" : ",").append(type);
        }
        return text.append(')').toString();
    }
}
