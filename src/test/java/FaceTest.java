import java.lang.reflect.Constructor;
import java.lang.reflect.Field;
import java.lang.reflect.Method;
import java.lang.reflect.Modifier;
import java.util.ArrayList;
import java.util.Arrays;
import java.util.List;
import java.util.TreeSet;

/** The public face is the document's and nothing else, and static state is constant. */
public final class FaceTest {
    private static final String[] FACE = {
        "picture(int,int,int,int)", "put(int,int,int,int)", "feed(int,int,int,long,int)", "at(int,int,int,int)",
        "about(int,int)", "convert(int,int,int,int)", "cut(int,int,int,int,int,int,int)", "turn(int,int,int)",
        "unlike(int,int)", "filter(int,int,int)", "weight(int,int,int)", "apply(int,int,int)",
        "mask(int,int,int,boolean)", "maskOf(int,int,int,int)", "maskBy(int,int,int)", "isOn(int,int,int)",
        "fill(int,int,int,int,int)", "dither(int,int)", "even(int)", "energy(int,int,int)", "seam(int,int)",
        "seamGoes(int,int)", "runs(int,int)", "read(int)", "byteTo(int)", "undo()", "redo()", "count(int)"
    };

    private FaceTest() {
    }

    public static void main(String[] args) {
        Check check = new Check();
        check.due("BAD", DarkRoom.BAD, -100001);
        check.due("NO", DarkRoom.NO, -100002);
        check.due("FULL", DarkRoom.FULL, -100003);
        check.due("NONE", DarkRoom.NONE, -100004);
        Class<?> room = DarkRoom.class;
        check.holds("public final", Modifier.isPublic(room.getModifiers()) && Modifier.isFinal(room.getModifiers()));
        Constructor<?>[] constructors = room.getDeclaredConstructors();
        check.holds("one public constructor", constructors.length == 1
                && Modifier.isPublic(constructors[0].getModifiers()) && constructors[0].getParameterCount() == 0);
        checkMethods(check, room);
        checkFields(check, room);
        checkNested(check, room);
        check.end();
    }

    private static void checkMethods(Check check, Class<?> room) {
        List<String> open = new ArrayList<>();
        TreeSet<String> names = new TreeSet<>();
        for (Method method : room.getDeclaredMethods()) {
            if (Modifier.isPrivate(method.getModifiers()) || method.isSynthetic()) {
                continue;
            }
            check.holds(method + " is public, not static, and answers an int", Modifier.isPublic(method.getModifiers())
                    && !Modifier.isStatic(method.getModifiers()) && method.getReturnType() == int.class);
            names.add(method.getName());
            open.add(told(method));
        }
        open.sort(null);
        String[] due = FACE.clone();
        Arrays.sort(due);
        check.holds("the methods are those of the face: " + open, open.equals(Arrays.asList(due)));
        List<Class<?>> all = new ArrayList<>(Arrays.asList(room.getDeclaredClasses()));
        all.add(room);
        for (Class<?> one : all) {
            for (Method method : one.getDeclaredMethods()) {
                boolean ofFace = one == room && Modifier.isPublic(method.getModifiers());
                check.holds(method + " has no name of the face", ofFace || !names.contains(method.getName()));
                check.holds(method + " has at most seven parameters", method.getParameterCount() <= 7);
            }
        }
    }

    private static String told(Method method) {
        StringBuilder text = new StringBuilder(method.getName()).append('(');
        for (Class<?> type : method.getParameterTypes()) {
            text.append(text.charAt(text.length() - 1) == '(' ? "" : ",").append(type.getName());
        }
        return text.append(')').toString();
    }

    private static void checkFields(Check check, Class<?> room) {
        int open = 0;
        for (Field field : room.getDeclaredFields()) {
            int modifiers = field.getModifiers();
            open += Modifier.isPrivate(modifiers) ? 0 : 1;
            check.holds(field + " is final, if static", !Modifier.isStatic(modifiers) || Modifier.isFinal(modifiers));
        }
        check.due("fields that are not private", open, 4);
    }

    private static int ownFields(Class<?> one) {
        int own = 0;
        for (Field field : one.getDeclaredFields()) {
            own += Modifier.isStatic(field.getModifiers()) ? 0 : 1;
        }
        return own;
    }

    private static void checkNested(Check check, Class<?> room) {
        check.holds("at most some twelve classes", room.getDeclaredClasses().length < 12);
        check.holds("at most some twenty fields", ownFields(room) <= 20);
        for (Class<?> nested : room.getDeclaredClasses()) {
            check.holds(nested + " is static and not public", Modifier.isStatic(nested.getModifiers())
                    && !Modifier.isPublic(nested.getModifiers()) && !Modifier.isProtected(nested.getModifiers()));
            check.holds(nested + " has at most some twenty fields", ownFields(nested) <= 20);
            for (Field field : nested.getDeclaredFields()) {
                int modifiers = field.getModifiers();
                check.holds(field + " is final, if static", !Modifier.isStatic(modifiers) || Modifier.isFinal(modifiers));
            }
        }
    }
}
