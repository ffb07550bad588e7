import java.lang.reflect.Constructor;
import java.lang.reflect.Field;
import java.lang.reflect.Method;
import java.lang.reflect.Modifier;
import java.util.Set;
import java.util.TreeSet;

/** The public face, its constants, and promise 1. */
public final class FaceTest {
    private static final Set<String> FACE = Set.of(
            "int addMachine(int,int)", "int addMember()", "int setWind(int,int)", "int book(int,int,int,int,int)",
            "int cancel(int)", "int swap(int,int)", "int order(int,int,int,int,int)", "int takeBack(int)",
            "int pass(int)", "int type(char)", "int clearText()", "int readWinds()", "int undo()", "int keep()",
            "int restore()", "int bears(int,int)", "int willBear(int,int,int)", "int windLimit(int,int)",
            "int machine(int,int)", "int member(int,int)", "int booking(int,int)", "int move(int,int)",
            "int bookedAt(int,int)", "int machineFor(int,int,int)", "int fate(int)", "int wind(int)", "int count(int)");

    public static void main(String[] args) {
        Check check = new Check("FaceTest");
        checkConstants(check);
        checkMethods(check);
        checkMembers(check);
        checkNames(check);
        checkNewClub(check);
        check.finish();
    }

    private static void checkConstants(Check check) {
        check.part("constants");
        check.due("UNKNOWN", BallastClub.UNKNOWN, -1);
        check.due("BAD_VALUE", BallastClub.BAD_VALUE, -2);
        check.due("FULL", BallastClub.FULL, -3);
        check.due("NOT_POSSIBLE", BallastClub.NOT_POSSIBLE, -4);
        check.due("NONE", BallastClub.NONE, -5);
    }

    private static void checkMethods(Check check) {
        check.part("methods");
        Set<String> seen = new TreeSet<>();
        for (Method method : BallastClub.class.getDeclaredMethods()) {
            if (method.isSynthetic() || Modifier.isPrivate(method.getModifiers())) {
                continue;
            }
            check.holds(method + " isn't public", Modifier.isPublic(method.getModifiers()));
            seen.add(signature(method));
        }
        check.holds("the methods are " + seen, seen.equals(new TreeSet<>(FACE)));
    }

    private static String signature(Method method) {
        StringBuilder text = new StringBuilder(method.getReturnType().getName());
        text.append(' ').append(method.getName()).append('(');
        for (Class<?> type : method.getParameterTypes()) {
            text.append(text.charAt(text.length() - 1) == '(' ? "" : ",").append(type.getName());
        }
        return text.append(')').toString();
    }

    private static void checkMembers(Check check) {
        check.part("other members");
        check.holds("the class isn't public and final",
                (BallastClub.class.getModifiers() & (Modifier.PUBLIC | Modifier.FINAL))
                        == (Modifier.PUBLIC | Modifier.FINAL));
        Constructor<?>[] constructors = BallastClub.class.getDeclaredConstructors();
        check.due("constructors", constructors.length, 1);
        check.due("parameters", constructors[0].getParameterCount(), 0);
        int shown = 0;
        for (Field field : BallastClub.class.getDeclaredFields()) {
            if (!field.isSynthetic() && !Modifier.isPrivate(field.getModifiers())) {
                shown++;
            }
        }
        check.due("constants that are shown", shown, 5);
        for (Class<?> inside : BallastClub.class.getDeclaredClasses()) {
            check.holds(inside + " is shown", (inside.getModifiers() & (Modifier.PUBLIC | Modifier.PROTECTED)) == 0);
            check.holds(inside + " isn't static", Modifier.isStatic(inside.getModifiers()));
        }
    }

    /** "No private method bears the name of a public one." */
    private static void checkNames(Check check) {
        check.part("names");
        checkNames(check, BallastClub.class);
        for (Class<?> inside : BallastClub.class.getDeclaredClasses()) {
            checkNames(check, inside);
        }
    }

    private static void checkNames(Check check, Class<?> one) {
        for (Method method : one.getDeclaredMethods()) {
            String name = " " + method.getName() + "(";
            check.holds(method + " bears the name of a public one", !Modifier.isPrivate(method.getModifiers())
                    || FACE.stream().noneMatch(signature -> signature.contains(name)));
        }
    }

    private static void checkNewClub(Check check) {
        check.part("promise 1");
        BallastClub club = new BallastClub();
        for (int what = 0; what <= 16; what++) {
            check.due("count(" + what + ")", club.count(what), 0);
        }
        for (int halfDay = 0; halfDay < 200; halfDay++) {
            check.due("wind(" + halfDay + ")", club.wind(halfDay), 0);
        }
        check.due("machine(0, 0)", club.machine(0, 0), BallastClub.UNKNOWN);
        check.due("member(0, 0)", club.member(0, 0), BallastClub.UNKNOWN);
        check.due("booking(0, 0)", club.booking(0, 0), BallastClub.UNKNOWN);
        check.due("move(0, 0)", club.move(0, 0), BallastClub.UNKNOWN);
        check.due("undo()", club.undo(), BallastClub.NONE);
        check.due("restore()", club.restore(), BallastClub.NONE);
        check.due("clearText()", club.clearText(), 0);
        club.addMember();
        check.due("members of another club", new BallastClub().count(2), 0);
    }
}
