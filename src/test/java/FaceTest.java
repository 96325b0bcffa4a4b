import java.lang.reflect.Constructor;
import java.lang.reflect.Field;
import java.lang.reflect.Method;
import java.lang.reflect.Modifier;
import java.util.Arrays;
import java.util.Set;
import java.util.TreeSet;

/** The public face is that of the document, and nothing else of the class can be seen (rules 1, 2, 5, 11). */
public final class FaceTest {
    private static final String[] FACE = {
        "public boolean IceHall.cancel(int)",
        "public boolean IceHall.compressors(int)",
        "public boolean IceHall.cut(int,int,int)",
        "public boolean IceHall.most(int)",
        "public boolean IceHall.price(int,int)",
        "public boolean IceHall.rest(int)",
        "public int IceHall.at(int,int)",
        "public int IceHall.book(int,int,int,int)",
        "public int IceHall.close(int,int,int)",
        "public int IceHall.club(int,int)",
        "public int IceHall.count(int)",
        "public int IceHall.feed(int,int,int,int,int)",
        "public int IceHall.look(int,int)",
        "public int IceHall.part(int,int)",
        "public int IceHall.plan(int,int)",
        "public int IceHall.planned(int)",
        "public int IceHall.rights(int,int)",
        "public int IceHall.sheet(int,int)",
        "public int IceHall.step(int,int)",
        "public static final int IceHall.NONE",
        "public IceHall()",
    };

    public static void main(String[] args) {
        Class<?> face = IceHall.class;
        Set<String> seen = new TreeSet<>();
        Set<String> publicNames = new TreeSet<>();
        for (Method method : face.getDeclaredMethods()) {
            if (!Modifier.isPrivate(method.getModifiers())) {
                seen.add(method.toString());
                publicNames.add(method.getName());
            }
        }
        for (Field field : face.getDeclaredFields()) {
            if (!Modifier.isPrivate(field.getModifiers())) {
                seen.add(field.toString());
            }
        }
        for (Constructor<?> constructor : face.getDeclaredConstructors()) {
            seen.add(constructor.toString());
        }
        Set<String> want = new TreeSet<>(Arrays.asList(FACE));
        Due.yes("the face is " + seen, seen.equals(want));
        Due.yes("public and final", face.getModifiers() == (Modifier.PUBLIC | Modifier.FINAL));
        Due.yes("twelve classes at most", face.getDeclaredClasses().length < 12);
        checkClass(face, publicNames);
        for (Class<?> inside : face.getDeclaredClasses()) {
            Due.yes(inside + " is static", Modifier.isStatic(inside.getModifiers()));
            Due.no(inside + " is public or protected",
                    Modifier.isPublic(inside.getModifiers()) || Modifier.isProtected(inside.getModifiers()));
            checkClass(inside, publicNames);
        }
        Due.end();
    }

    private static void checkClass(Class<?> checked, Set<String> publicNames) {
        int fields = 0;
        for (Field field : checked.getDeclaredFields()) {
            boolean fixed = Modifier.isStatic(field.getModifiers());
            fields += fixed ? 0 : 1;
            Due.no(field + " is static and not final", fixed && !Modifier.isFinal(field.getModifiers()));
        }
        Due.yes(checked + " has twenty fields at most", fields <= 20);
        for (Method method : checked.getDeclaredMethods()) {
            boolean own = checked == IceHall.class && !Modifier.isPrivate(method.getModifiers());
            Due.no(method + " bears the name of a public one", !own && publicNames.contains(method.getName()));
            Due.yes(method + " takes seven at most", method.getParameterCount() <= 7);
        }
    }
}
