import java.lang.reflect.Constructor;
import java.lang.reflect.Field;
import java.lang.reflect.Method;
import java.lang.reflect.Modifier;
import java.util.Arrays;
import java.util.HashSet;
import java.util.Set;
import java.util.TreeSet;

/** The public face: every call that the document names, with its types, and nothing beside it. */
public final class FaceTest {
    private static final String[] CALLS = {
        "int feed(int,int,int,int,int)", "int gallery(int)", "int fault()", "int where()", "int figure(int,int)",
        "int watcher(int,int)", "int alive()", "int left()", "int caught()", "int turnOf(int)", "int turnIn(int)",
        "int settles()", "int round()", "int called()", "int minutesOf(int,int)", "int place(int,int)",
        "int watch(int,int)", "int gone(int)", "int stairs()", "int catches(int)", "int heard(int,int)",
        "int allIn(int)", "int meets(int)", "int crowd(int)", "int farthest(int)", "int nearBy(int,int)",
        "int spoken(int,int)", "int route(int,int)", "int routeAt(int,int,int)", "int stand(int)", "int guard(int)",
        "int windBest()", "int patrol(int,int)", "int fits()", "int fitAt(int)", "int could(int)",
        "int aliveBy(int,int)", "int look()", "int lookLeaves()", "int lawsLike()", "int lawFor(int,int)",
        "int judge()", "int dares(int,boolean,boolean,boolean)", "int rests(int)", "int rest(int)",
        "long odds(int,int,boolean)", "long mean(int,int,boolean)", "int drawn(int,int,int)",
        "int firstShut(int,int)", "int go(int)", "int put(int)", "int wind(int)", "boolean undo()", "int image()",
        "boolean back(int)", "int led(int)", "int size(int)", "int trouble()"};

    private FaceTest() {
    }

    public static void main(String[] args) {
        Check check = new Check("FaceTest");
        Class<?> face = WaxTurns.class;
        check.due("modifiers", face.getModifiers(), Modifier.PUBLIC | Modifier.FINAL);
        dueCalls(check, face);
        Set<String> names = new HashSet<>();
        for (Method method : face.getDeclaredMethods()) {
            if (Modifier.isPublic(method.getModifiers())) {
                names.add(method.getName());
            }
        }
        for (Method method : face.getDeclaredMethods()) {
            boolean open = Modifier.isPublic(method.getModifiers());
            check.due(method + " is public or private", open || Modifier.isPrivate(method.getModifiers()), true);
            check.due(method + " bears a name of the face", !open && names.contains(method.getName()), false);
        }
        for (Field field : face.getDeclaredFields()) {
            boolean constant = field.getName().equals("NONE");
            check.due(field + " is private, or NONE", constant || Modifier.isPrivate(field.getModifiers()), true);
        }
        Constructor<?>[] made = face.getDeclaredConstructors();
        check.due("constructors", made.length, 1);
        check.due("its parameters", made[0].getParameterCount(), 0);
        check.due("it is public", Modifier.isPublic(made[0].getModifiers()), true);
        for (Class<?> inside : face.getDeclaredClasses()) {
            int modifiers = inside.getModifiers();
            check.due(inside + " is static", Modifier.isStatic(modifiers), true);
            check.due(inside + " is open", Modifier.isPublic(modifiers) || Modifier.isProtected(modifiers), false);
            for (Method method : inside.getDeclaredMethods()) {
                check.due(method + " bears a name of the face", names.contains(method.getName()), false);
            }
        }
        check.due("NONE", WaxTurns.NONE, -1);
        check.end();
    }

    private static void dueCalls(Check check, Class<?> face) {
        Set<String> due = new TreeSet<>(Arrays.asList(CALLS));
        Set<String> got = new TreeSet<>();
        for (Method method : face.getDeclaredMethods()) {
            if (Modifier.isPublic(method.getModifiers())) {
                StringBuilder text = new StringBuilder(method.getReturnType() + " " + method.getName() + "(");
                for (Class<?> type : method.getParameterTypes()) {
                    text.append(text.charAt(text.length() - 1) == '(' ? "" : ",").append(type);
                }
                got.add(text.append(")").toString());
            }
        }
        check.due("calls that the document names", CALLS.length, 58);
        for (String call : due) {
            check.due("there is " + call, got.contains(call), true);
        }
        for (String call : got) {
            check.due("the document names " + call, due.contains(call), true);
        }
    }
}
