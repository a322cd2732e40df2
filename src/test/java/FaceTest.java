import java.lang.reflect.Constructor;
import java.lang.reflect.Field;
import java.lang.reflect.Method;
import java.lang.reflect.Modifier;
import java.util.TreeSet;

/** The public face is the document's, and nothing else can be seen from outside (LANGUAGE.md, rules 1 and 5). */
final class FaceTest {
    private static final String[] FACE = {
        "public boolean CurveDesk.put(long,int)",
        "public boolean CurveDesk.reduce(int,int)",
        "public boolean CurveDesk.set(int,long,long,long,long)",
        "public boolean CurveDesk.sum(int,int,int)",
        "public boolean CurveDesk.times(int,int,int)",
        "public int CurveDesk.fits(int,int,int,int)",
        "public int CurveDesk.key(int)",
        "public int CurveDesk.place(int,int,int)",
        "public int CurveDesk.root(int,int)",
        "public int CurveDesk.signature(int,int)",
        "public int CurveDesk.spot(int,int,int,int)",
        "public int CurveDesk.work(int,int,int,int,int)",
        "public long CurveDesk.get(int,int)",
    };

    public static void main(String[] args) {
        Check check = new Check();
        TreeSet<String> found = new TreeSet<>();
        TreeSet<String> publicNames = new TreeSet<>();
        for (Method method : CurveDesk.class.getDeclaredMethods()) {
            if (!Modifier.isPrivate(method.getModifiers())) {
                found.add(method.toString());
                publicNames.add(method.getName());
            }
        }
        check.due("the methods", found, new TreeSet<>(java.util.List.of(FACE)));
        check.due("the class is public and final", CurveDesk.class.getModifiers(),
                Modifier.PUBLIC | Modifier.FINAL);
        Constructor<?>[] constructors = CurveDesk.class.getDeclaredConstructors();
        check.due("the constructors", constructors.length, 1);
        check.due("the constructor", constructors[0].toString(), "public CurveDesk()");
        for (Method method : CurveDesk.class.getDeclaredMethods()) {
            if (Modifier.isPrivate(method.getModifiers())) {
                check.due("a public method is named as the private " + method.getName(),
                        publicNames.contains(method.getName()), false);
            }
        }
        for (Field field : CurveDesk.class.getDeclaredFields()) {
            check.due(field + " is private", Modifier.isPrivate(field.getModifiers()), true);
        }
        for (Class<?> inner : CurveDesk.class.getDeclaredClasses()) {
            check.due(inner + " is private and static",
                    Modifier.isPrivate(inner.getModifiers()) && Modifier.isStatic(inner.getModifiers()), true);
        }
        check.end();
    }
}
