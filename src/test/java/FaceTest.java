import java.lang.reflect.Constructor;
import java.lang.reflect.Field;
import java.lang.reflect.Method;
import java.lang.reflect.Modifier;
import java.util.ArrayList;
import java.util.Arrays;
import java.util.List;
import java.util.TreeSet;

/** Promise 1, and the face of the class as the document and LANGUAGE.md tell it. */
public final class FaceTest {
    private static final String[] FACE = {
        "append(int) IllegalArgumentException IllegalStateException",
        "clearText()",
        "errorPosition()",
        "load() IllegalStateException",
        "about(int) IllegalArgumentException",
        "member(int,int) IndexOutOfBoundsException IllegalArgumentException",
        "wine(int,int) IndexOutOfBoundsException IllegalArgumentException",
        "bin(int,int) IndexOutOfBoundsException IllegalArgumentException",
        "has(int,int,int) IndexOutOfBoundsException IllegalArgumentException",
        "addMember(int) IllegalArgumentException IllegalStateException",
        "addWine(int,int) IllegalArgumentException IllegalStateException",
        "addBin(int) IllegalArgumentException IllegalStateException",
        "order(int,int,int) IndexOutOfBoundsException IllegalArgumentException IllegalStateException",
        "allocate(int) IndexOutOfBoundsException IllegalStateException",
        "deliver(int) IndexOutOfBoundsException IllegalStateException",
        "drink(int,int,int) IndexOutOfBoundsException IllegalArgumentException IllegalStateException",
        "give(int,int,int,int) IndexOutOfBoundsException IllegalArgumentException IllegalStateException",
        "cork(int,int) IndexOutOfBoundsException IllegalStateException",
        "move(int,int,int) IndexOutOfBoundsException IllegalArgumentException IllegalStateException",
        "pay(int) IndexOutOfBoundsException",
        "undo() IllegalStateException",
        "wouldGet(int,int) IndexOutOfBoundsException",
        "roomFor(int) IndexOutOfBoundsException",
        "fewestBins()",
        "shortest(int) IndexOutOfBoundsException",
        "runScript(int,long) IllegalArgumentException",
        "simulate(long,int) IllegalArgumentException",
        "save(int) IndexOutOfBoundsException",
        "restore(int) IndexOutOfBoundsException IllegalStateException",
    };

    public static void main(String[] args) {
        Check check = new Check();
        newObject(check);
        face(check);
        insides(check);
        check.end();
    }

    private static void newObject(Check check) {
        CellarClub x = new CellarClub();
        for (int what = 0; what <= 9; what++) {
            check.due("1: about(" + what + ") of a new object", x.about(what), 0);
        }
        check.due("1: clearText of a new object", x.clearText(), 0);
        check.due("1: fewestBins of a new object", x.fewestBins(), 0);
        check.thrown("1: undo of a new object", Check.STATE, () -> x.undo());
        check.thrown("1: restore(0) of a new object", Check.STATE, () -> x.restore(0));
        check.thrown("1: restore(1) of a new object", Check.STATE, () -> x.restore(1));
        check.thrown("1: member(0, 0) of a new object", Check.NO_SUCH, () -> x.member(0, 0));
        check.thrown("1: wine(0, 0) of a new object", Check.NO_SUCH, () -> x.wine(0, 0));
        check.thrown("1: bin(0, 0) of a new object", Check.NO_SUCH, () -> x.bin(0, 0));
        check.due("1: NONE", CellarClub.NONE, -99999);
        CellarClub other = new CellarClub();
        x.addMember(3);
        check.due("1: objects are apart", other.about(0), 0);
    }

    private static void face(Check check) {
        TreeSet<String> got = new TreeSet<>();
        for (Method method : CellarClub.class.getDeclaredMethods()) {
            if (!Modifier.isPrivate(method.getModifiers())) {
                got.add(asText(method));
                check.due(method + " is public, not static, and answers int",
                        Modifier.isPublic(method.getModifiers()) && !Modifier.isStatic(method.getModifiers())
                                && method.getReturnType() == int.class ? 1 : 0, 1);
            }
        }
        TreeSet<String> want = new TreeSet<>(Arrays.asList(FACE));
        TreeSet<String> tooMuch = new TreeSet<>(got);
        tooMuch.removeAll(want);
        want.removeAll(got);
        check.due("methods beyond the face " + tooMuch, tooMuch.size(), 0);
        check.due("methods missing of the face " + want, want.size(), 0);
        Constructor<?>[] constructors = CellarClub.class.getDeclaredConstructors();
        check.due("constructors", constructors.length, 1);
        check.due("the constructor is public", Modifier.isPublic(constructors[0].getModifiers()) ? 1 : 0, 1);
        for (Field field : CellarClub.class.getDeclaredFields()) {
            boolean none = field.getName().equals("NONE") && Modifier.isPublic(field.getModifiers());
            check.due(field + " is private", none || Modifier.isPrivate(field.getModifiers()) ? 1 : 0, 1);
        }
    }

    private static void insides(Check check) {
        List<Class<?>> classes = new ArrayList<>(Arrays.asList(CellarClub.class.getDeclaredClasses()));
        check.due("at most twelve classes", classes.size() + 1 <= 12 ? 1 : 0, 1);
        TreeSet<String> faceNames = new TreeSet<>();
        for (String line : FACE) {
            faceNames.add(line.substring(0, line.indexOf('(')));
        }
        for (Method method : CellarClub.class.getDeclaredMethods()) {
            if (Modifier.isPrivate(method.getModifiers())) {
                check.due(method + " bears a name of the face", faceNames.contains(method.getName()) ? 1 : 0, 0);
            }
        }
        classes.add(CellarClub.class);
        for (Class<?> c : classes) {
            int fields = 0;
            for (Field field : c.getDeclaredFields()) {
                boolean isStatic = Modifier.isStatic(field.getModifiers());
                fields += isStatic ? 0 : 1;
                check.due(field + " is final if static",
                        !isStatic || Modifier.isFinal(field.getModifiers()) ? 1 : 0, 1);
            }
            check.due(c + " has at most twenty fields", fields <= 20 ? 1 : 0, 1);
            for (Method method : c.getDeclaredMethods()) {
                check.due(method + " takes at most seven", method.getParameterCount() <= 7 ? 1 : 0, 1);
            }
        }
    }

    private static String asText(Method method) {
        StringBuilder s = new StringBuilder(method.getName()).append('(');
        for (int i = 0; i < method.getParameterCount(); i++) {
            s.append(i == 0 ? "" : ",").append(method.getParameterTypes()[i].getName());
        }
        s.append(')');
        for (Class<?> thrown : method.getExceptionTypes()) {
            s.append(' ').append(thrown.getSimpleName());
        }
        return s.toString();
    }
}
