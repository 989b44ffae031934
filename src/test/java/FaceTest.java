import java.lang.reflect.Constructor;
import java.lang.reflect.Field;
import java.lang.reflect.Member;
import java.lang.reflect.Method;
import java.lang.reflect.Modifier;
import java.util.ArrayList;
import java.util.List;

/** "The public face": the methods that the document lists, as it lists them, and no other member but private ones. */
final class FaceTest {
    private static final String ARGUMENT = "IllegalArgumentException";
    private static final String UNSUPPORTED = "UnsupportedOperationException";
    private static final String STATE = "IllegalStateException";
    private static final String INDEX = "IndexOutOfBoundsException";
    private static final String NONE = "NoSuchElementException";
    private static final String ARITHMETIC = "ArithmeticException";
    private static final String[][] FACE = {
        {"boolean setBell(int, boolean)", ARGUMENT, UNSUPPORTED},
        {"int note(int, int, int, char)", ARGUMENT, UNSUPPORTED, STATE},
        {"int drop(int)", INDEX},
        {"int notes()"},
        {"int tickOf(int)", INDEX},
        {"int pitchOf(int)", INDEX},
        {"int transpose(int)", ARGUMENT, UNSUPPORTED},
        {"int addPlayer(int, int)", ARGUMENT, STATE},
        {"int swap(int, int)", INDEX},
        {"int placeOf(int)", INDEX},
        {"int give(int, int)", INDEX, ARGUMENT, UNSUPPORTED},
        {"int ownerOf(int)", ARGUMENT},
        {"int setRest(int)", ARGUMENT},
        {"boolean hasPlan(int)", INDEX},
        {"int changes(int)", INDEX, NONE},
        {"int handOf(int)", INDEX, NONE},
        {"int loadOf(int)", INDEX},
        {"int deal()", NONE},
        {"int fewest()", NONE},
        {"int slip(int, int)", INDEX, ARGUMENT},
        {"int lateOf(int)", INDEX, NONE},
        {"int mostLate()", NONE},
        {"int carries(int)", INDEX},
        {"int levelAt(int)", ARGUMENT},
        {"int loudest()", NONE},
        {"int clashes()"},
        {"int endPage(int)", ARGUMENT, STATE},
        {"int turnOf(int, int)", INDEX, NONE},
        {"int perform()", UNSUPPORTED},
        {"int strokesOf(int)", ARGUMENT},
        {"int serve(int)", ARGUMENT},
        {"int addChoir(int, int)", ARGUMENT, STATE},
        {"int spread()"},
        {"int aheadOf(int)", INDEX},
        {"float ownedShare()", ARITHMETIC},
        {"double meanLoad()", ARITHMETIC},
        {"long checksum()"},
        {"boolean isTrue()"}};

    public static void main(String[] args) {
        Class<?> face = WhiteclothTable.class;
        Check.same("modifiers of the class", Modifier.toString(face.getModifiers()), "public final");
        Check.same("package", face.getPackageName(), "");
        List<String> due = new ArrayList<>();
        for (String[] method : FACE) {
            due.add(String.join(" ", method));
        }
        List<String> got = new ArrayList<>();
        for (Method method : face.getDeclaredMethods()) {
            if (isOpen(method)) {
                got.add(told(method));
            }
        }
        for (String method : due) {
            Check.same(method + " is there", got.contains(method) ? "yes" : "no", "yes");
        }
        Check.same("open methods", got.size(), due.size());
        constructorsAndFields(face);
        Check.end("FaceTest");
    }

    private static void constructorsAndFields(Class<?> face) {
        Constructor<?>[] all = face.getDeclaredConstructors();
        Check.same("constructors", all.length, 1);
        Check.same("parameters of the constructor", all[0].getParameterCount(), 0);
        Check.same("exceptions of the constructor", all[0].getExceptionTypes().length, 0);
        Check.yes("the constructor is public", Modifier.isPublic(all[0].getModifiers()));
        for (Field field : face.getDeclaredFields()) {
            Check.no(field.getName() + " is open", isOpen(field));
            Check.yes(field.getName() + " is no state of all tables",
                    !Modifier.isStatic(field.getModifiers()) || Modifier.isFinal(field.getModifiers()));
        }
    }

    private static boolean isOpen(Member member) {
        return !member.isSynthetic() && !Modifier.isPrivate(member.getModifiers());
    }

    private static String told(Method method) {
        List<String> parameters = new ArrayList<>();
        for (Class<?> parameter : method.getParameterTypes()) {
            parameters.add(parameter.getSimpleName());
        }
        StringBuilder told = new StringBuilder(method.getReturnType().getSimpleName() + " " + method.getName() + "("
                + String.join(", ", parameters) + ")");
        for (Class<?> exception : method.getExceptionTypes()) {
            told.append(' ').append(exception.getSimpleName());
        }
        return Modifier.toString(method.getModifiers()).equals("public") ? told.toString() : "not public " + told;
    }
}
