import java.lang.reflect.Constructor;
import java.lang.reflect.Field;
import java.lang.reflect.Method;
import java.lang.reflect.Modifier;
import java.util.Set;
import java.util.TreeSet;

/** The public face: all members of the document, and no others. */
public final class FaceTest {
    private static final String METHODS = "bow(int,int) breathe(int) at(int) canLead() carryOut() count(int) fault() "
        + "guest(int) ifRound(int) ifWord(int) leave(int) of(int,int) offer(int,int) owes(int,int) put(long) "
        + "ranked(int) restore(int) round() save(int) seatAnew() seatedIn(int,int) set(int,int) silent(int) undo() "
        + "why(int) wipe() word(int)";
    private static final String CONSTANTS = "NO_SUCH=-1 BAD_VALUE=-2 BAD_TEXT=-3 TOO_MANY=-4 NOT_POSSIBLE=-5 NONE=-6 "
        + "SIP=0 DEBT=1 CUPS=2 LONG=3";

    public static void main(String[] args) throws Exception {
        Check check = new Check("FaceTest");
        check.due("final", Modifier.isFinal(TeaSeats.class.getModifiers()) ? 1 : 0, 1);
        check.due("public", Modifier.isPublic(TeaSeats.class.getModifiers()) ? 1 : 0, 1);
        check.same("the methods", methods().toString(), sorted(METHODS).toString());
        check.same("the constants", constants().toString(), sorted(CONSTANTS).toString());
        Constructor<?>[] constructors = TeaSeats.class.getDeclaredConstructors();
        check.due("constructors", constructors.length, 1);
        check.due("its parameters", constructors[0].getParameterCount(), 0);
        check.due("it is public", Modifier.isPublic(constructors[0].getModifiers()) ? 1 : 0, 1);
        noOtherBearsAName(check);
        check.end();
    }

    private static Set<String> sorted(String names) {
        return new TreeSet<>(Set.of(names.split(" ")));
    }

    private static Set<String> methods() {
        Set<String> found = new TreeSet<>();
        for (Method method : TeaSeats.class.getDeclaredMethods()) {
            if (!Modifier.isPrivate(method.getModifiers())) {
                StringBuilder text = new StringBuilder(method.getName()).append('(');
                for (Class<?> type : method.getParameterTypes()) {
                    text.append(text.charAt(text.length() - 1) == '(' ? "" : ",").append(type.getName());
                }
                boolean plain = method.getModifiers() == Modifier.PUBLIC && method.getReturnType() == int.class;
                found.add(text.append(')').append(plain ? "" : " of another kind").toString());
            }
        }
        return found;
    }

    private static Set<String> constants() throws IllegalAccessException {
        Set<String> found = new TreeSet<>();
        for (Field field : TeaSeats.class.getDeclaredFields()) {
            if (!Modifier.isPrivate(field.getModifiers())) {
                boolean plain = field.getModifiers() == (Modifier.PUBLIC | Modifier.STATIC | Modifier.FINAL);
                found.add(field.getName() + "=" + (plain ? field.get(null) : "of another kind"));
            }
        }
        return found;
    }

    private static void noOtherBearsAName(Check check) {
        Set<String> names = new TreeSet<>();
        for (String method : METHODS.split(" ")) {
            names.add(method.substring(0, method.indexOf('(')));
        }
        for (Method method : TeaSeats.class.getDeclaredMethods()) {
            if (Modifier.isPrivate(method.getModifiers()) && names.contains(method.getName())) {
                check.fail("the private method " + method.getName() + " bears the name of a public one");
            }
        }
        for (Class<?> inside : TeaSeats.class.getDeclaredClasses()) {
            if (!Modifier.isStatic(inside.getModifiers()) || Modifier.isPublic(inside.getModifiers())) {
                check.fail(inside + " is not static, or is public");
            }
            for (Method method : inside.getDeclaredMethods()) {
                if (names.contains(method.getName())) {
                    check.fail(method + " bears the name of a public method");
                }
            }
        }
    }
}
