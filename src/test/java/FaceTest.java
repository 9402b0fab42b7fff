import java.lang.reflect.Constructor;
import java.lang.reflect.Member;
import java.lang.reflect.Method;
import java.lang.reflect.Modifier;
import java.util.ArrayList;
import java.util.Arrays;
import java.util.List;
import java.util.Set;
import java.util.TreeSet;

/** The document's face is there, and nothing else can be seen from outside. */
public final class FaceTest {
    private static final Set<String> DUE = new TreeSet<>(Arrays.asList(
            "int task()", "int order(int, int, int, int)", "int promise(int)", "int channels(int, int)",
            "int handler(int, int, int, int)", "long advance(int)", "int execute(int, int)",
            "int timer(int, int, int)", "boolean cancel(int)", "boolean complete(int, int, int)",
            "void listen(int, int)", "void fire(int, int)", "void shutdown(int, int)", "int step(int)",
            "int loop(int, int)", "int look(int, int)", "int traced()", "int trace(int, int)"));

    public static void main(String[] args) {
        List<String> wrong = new ArrayList<>();
        Class<LoopGroup> face = LoopGroup.class;
        if (!Modifier.isPublic(face.getModifiers()) || !Modifier.isFinal(face.getModifiers())) {
            wrong.add("LoopGroup is not public and final");
        }
        checkMethods(face, wrong);
        checkHidden(face.getDeclaredFields(), wrong);
        for (Constructor<?> made : face.getDeclaredConstructors()) {
            if (!Modifier.isPublic(made.getModifiers()) || !parameters(made.getParameterTypes()).equals("(int)")) {
                wrong.add("a constructor that is not due: " + made);
            }
        }
        wrong.forEach(System.out::println);
        if (!wrong.isEmpty()) {
            System.exit(1);
        }
    }

    private static void checkMethods(Class<?> face, List<String> wrong) {
        Set<String> shown = new TreeSet<>();
        Set<String> shownNames = new TreeSet<>();
        List<Method> hidden = new ArrayList<>();
        for (Method method : face.getDeclaredMethods()) {
            if (Modifier.isPublic(method.getModifiers())) {
                shown.add(method.getReturnType() + " " + method.getName() + parameters(method.getParameterTypes()));
                shownNames.add(method.getName());
            } else {
                hidden.add(method);
            }
        }
        if (!shown.equals(DUE)) {
            wrong.add("the face is " + shown + ", due is " + DUE);
        }
        checkHidden(hidden.toArray(new Member[0]), wrong);
        for (Method method : hidden) {
            if (shownNames.contains(method.getName())) {
                wrong.add("a private method bears a public one's name: " + method);
            }
        }
    }

    private static void checkHidden(Member[] members, List<String> wrong) {
        for (Member member : members) {
            if (!Modifier.isPrivate(member.getModifiers())) {
                wrong.add("seen from outside: " + member);
            }
        }
    }

    private static String parameters(Class<?>[] types) {
        return Arrays.toString(types).replace('[', '(').replace(']', ')');
    }
}
