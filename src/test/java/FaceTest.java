import java.lang.reflect.Constructor;
import java.lang.reflect.Field;
import java.lang.reflect.Method;
import java.lang.reflect.Modifier;
import java.util.ArrayList;
import java.util.List;
import java.util.TreeSet;

/** The public face is the document's, and no other member of the class can be seen from outside. */
public final class FaceTest {
    private static final String[] FACE = {
        "LentNames()", "int NONE",
        "int feed(int,int,int,int,int)", "boolean end(int)",
        "int tell() IllegalArgumentException UnsupportedOperationException", "int fault()",
        "void people(int) IllegalArgumentException IllegalStateException",
        "int bears(int,int) IndexOutOfBoundsException", "int names(int,int) IndexOutOfBoundsException",
        "int how(int,int) IndexOutOfBoundsException", "int row(int,int,int) IndexOutOfBoundsException",
        "int nameless(int) IndexOutOfBoundsException", "int longest(int) IndexOutOfBoundsException",
        "boolean lives(int,int) IndexOutOfBoundsException",
        "int look(int,int) IndexOutOfBoundsException NoSuchElementException",
        "int owes(int,boolean) IndexOutOfBoundsException",
        "int letter(int,int) IndexOutOfBoundsException NoSuchElementException",
        "int pays(int) IndexOutOfBoundsException", "int bill(int) IndexOutOfBoundsException",
        "int custom() IllegalArgumentException",
        "int purse(int,int) IndexOutOfBoundsException IllegalArgumentException",
        "int left(int) IndexOutOfBoundsException", "int unpaid()", "int meets(int) IndexOutOfBoundsException",
        "int way(int,boolean) IndexOutOfBoundsException", "int busiest()",
        "int wish(int,int) IndexOutOfBoundsException", "int home()", "int plan(int,int) IllegalArgumentException",
        "int agree()", "int can(int) IndexOutOfBoundsException",
        "int secrets(int,int) IndexOutOfBoundsException IllegalArgumentException",
        "int liars(int) IndexOutOfBoundsException", "int rich(int) IndexOutOfBoundsException",
        "int borne(int,int) IndexOutOfBoundsException", "int again(int,int) IndexOutOfBoundsException",
        "void image()", "boolean back()", "int count(int)",
    };

    public static void main(String[] args) {
        TreeSet<String> due = new TreeSet<>(List.of(FACE));
        TreeSet<String> found = new TreeSet<>();
        for (Constructor<?> c : LentNames.class.getDeclaredConstructors()) {
            if (isSeen(c.getModifiers())) {
                found.add("LentNames" + list(c.getParameterTypes()));
            }
        }
        for (Field f : LentNames.class.getDeclaredFields()) {
            if (isSeen(f.getModifiers())) {
                found.add(f.getType().getSimpleName() + " " + f.getName());
            }
        }
        TreeSet<String> faceNames = new TreeSet<>();
        for (Method m : LentNames.class.getDeclaredMethods()) {
            if (isSeen(m.getModifiers())) {
                StringBuilder s = new StringBuilder(m.getReturnType().getSimpleName());
                s.append(' ').append(m.getName()).append(list(m.getParameterTypes()));
                for (Class<?> e : m.getExceptionTypes()) {
                    s.append(' ').append(e.getSimpleName());
                }
                found.add(s.toString());
                faceNames.add(m.getName());
            }
        }
        int wrong = 0;
        wrong += missing(due, found, "is missing");
        wrong += missing(found, due, "is not of the face");
        if (LentNames.NONE != -1 || !Modifier.isFinal(LentNames.class.getModifiers())) {
            System.out.println("NONE is not -1, or the class is not final");
            wrong++;
        }
        for (Class<?> inner : LentNames.class.getDeclaredClasses()) {
            for (Method m : inner.getDeclaredMethods()) {
                if (faceNames.contains(m.getName())) {
                    System.out.println(inner.getSimpleName() + "." + m.getName() + " bears a name of the face");
                    wrong++;
                }
            }
        }
        System.exit(wrong == 0 ? 0 : 1);
    }

    private static boolean isSeen(int modifiers) {
        return !Modifier.isPrivate(modifiers);
    }

    private static int missing(TreeSet<String> from, TreeSet<String> in, String what) {
        int wrong = 0;
        for (String s : from) {
            if (!in.contains(s)) {
                System.out.println(s + " " + what);
                wrong++;
            }
        }
        return wrong;
    }

    private static String list(Class<?>[] types) {
        List<String> names = new ArrayList<>();
        for (Class<?> t : types) {
            names.add(t.getSimpleName());
        }
        return "(" + String.join(",", names) + ")";
    }
}
