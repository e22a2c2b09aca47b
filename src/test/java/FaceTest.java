import java.lang.reflect.Constructor;
import java.lang.reflect.Field;
import java.lang.reflect.Method;
import java.lang.reflect.Modifier;
import java.util.Set;
import java.util.TreeSet;

/** The public face, and promise 1: a new object. */
public final class FaceTest {
    private static final String[] METHODS = {
        "int type(int)", "int clear()", "int duchy()", "int saying(int,int)", "int person(int,int)",
        "int talk(int,int)", "int hears(int)", "int says(int,int)", "int hour()", "int undo()", "int now(int)",
        "int worth(int)", "int chain(int,int)", "int sounds(int)", "int began(int)", "int odds(int,int,int)",
        "int tells(int,int)", "int forget()", "int fits()", "int orders(int)", "int mark(int,int)", "int keep(int)",
        "int back(int)", "int count(int)", "long trace()"};

    public static void main(String[] args) throws Exception {
        Check check = new Check();
        face(check);
        newObject(check);
        check.end();
    }

    private static void face(Check check) throws Exception {
        Set<String> found = new TreeSet<>();
        Set<String> publicNames = new TreeSet<>();
        Set<String> privateNames = new TreeSet<>();
        for (Method m : AnswerSquare.class.getDeclaredMethods()) {
            if (Modifier.isPrivate(m.getModifiers())) {
                privateNames.add(m.getName());
            } else {
                check.due(m.getName() + " is public", Modifier.isPublic(m.getModifiers()) ? 1 : 0, 1);
                found.add(signature(m));
                publicNames.add(m.getName());
            }
        }
        check.due("methods are the document's", found.equals(new TreeSet<>(Set.of(METHODS))) ? 1 : 0, 1);
        privateNames.retainAll(publicNames);
        check.due("private methods named as public ones", privateNames.size(), 0);
        int seen = 0;
        for (Field f : AnswerSquare.class.getDeclaredFields()) {
            seen += Modifier.isPrivate(f.getModifiers()) ? 0 : 1;
        }
        check.due("fields seen from outside", seen, 5);
        check.due("BAD", AnswerSquare.class.getField("BAD").getInt(null), -1);
        check.due("STATE", AnswerSquare.class.getField("STATE").getInt(null), -2);
        check.due("FULL", AnswerSquare.class.getField("FULL").getInt(null), -3);
        check.due("NONE", AnswerSquare.class.getField("NONE").getInt(null), -9);
        check.due("NO", AnswerSquare.class.getField("NO").getInt(null), -1000000);
        Constructor<?>[] makers = AnswerSquare.class.getDeclaredConstructors();
        check.due("constructors", makers.length, 1);
        check.due("its parameters", makers[0].getParameterCount(), 0);
        check.due("final", Modifier.isFinal(AnswerSquare.class.getModifiers()) ? 1 : 0, 1);
        for (Class<?> inside : AnswerSquare.class.getDeclaredClasses()) {
            check.due(inside + " is static", Modifier.isStatic(inside.getModifiers()) ? 1 : 0, 1);
        }
    }

    private static String signature(Method m) {
        StringBuilder text = new StringBuilder(m.getReturnType().getName()).append(' ').append(m.getName()).append('(');
        for (int i = 0; i < m.getParameterCount(); i++) {
            text.append(i == 0 ? "" : ",").append(m.getParameterTypes()[i].getName());
        }
        return text.append(')').toString();
    }

    private static void newObject(Check check) {
        AnswerSquare x = new AnswerSquare();
        int[] counts = {0, 0, 3, 0, 0, 0};
        for (int what = 0; what < counts.length; what++) {
            check.due("new: count(" + what + ")", x.count(what), counts[what]);
        }
        int[] nows = {0, 0, 0, 0, -9, -9, 0, 0};
        for (int what = 0; what < nows.length; what++) {
            check.due("new: now(" + what + ")", x.now(what), nows[what]);
        }
        check.due("new: trace()", x.trace(), 0);
        check.due("new: saying(0, 0)", x.saying(0, 0), -1);
        check.due("new: person(0, 0)", x.person(0, 0), -1);
        check.due("new: talk(0, 0)", x.talk(0, 0), -1);
        check.due("new: hears(0)", x.hears(0), -1);
        check.due("new: says(0, 0)", x.says(0, 0), -1);
        check.due("new: worth(0)", x.worth(0), -1);
        check.due("new: chain(0, -1)", x.chain(0, -1), -1);
        check.due("new: sounds(0)", x.sounds(0), 0);
        check.due("new: sounds(1)", x.sounds(1), -1);
        check.due("new: began(0)", x.began(0), 0);
        check.due("new: began(1)", x.began(1), -1);
        check.due("new: odds(0, 0, 0)", x.odds(0, 0, 0), -1);
        check.due("new: tells(0, 1)", x.tells(0, 1), -1);
        check.due("new: forget()", x.forget(), 0);
        check.due("new: fits()", x.fits(), 1);
        check.due("new: orders(0)", x.orders(0), 1);
        check.due("new: orders(1)", x.orders(1), -1);
        check.due("new: mark(0, 0)", x.mark(0, 0), -1000000);
        check.due("new: back(0)", x.back(0), -2);
        check.due("new: back(1)", x.back(1), -2);
        check.due("new: undo()", x.undo(), -2);
        check.due("new: clear()", x.clear(), 0);
        check.due("new: hour()", x.hour(), 1);
        check.due("new: keep(0)", x.keep(0), 1);
    }
}
