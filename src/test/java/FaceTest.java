import java.lang.reflect.Constructor;
import java.lang.reflect.Field;
import java.lang.reflect.Member;
import java.lang.reflect.Method;
import java.lang.reflect.Modifier;
import java.util.TreeSet;

/** The public face: every constant, the constructor and every method of the document, and nothing beside them. */
public final class FaceTest {
    private static final String[] FACE = {
        "Coverpool()", "addLoan(int, int, int, int): int", "enter(int): int", "leave(int): boolean",
        "swap(int, int): boolean", "setArrears(int, int): int", "setWorth(int, int): int", "stateOf(int): int",
        "counts(int): int", "addBond(int, int): int", "takeCash(int): int", "setRules(int, int, int): void",
        "bondState(int): int", "dueOf(int): int", "cash(): int", "debt(): int", "substitutes(): int",
        "pass(int): int", "holds(int): boolean", "lacking(int): long", "leastToAdd(): int", "leastToAddByAll(): int",
        "NONE: int", "FACE: int", "WORTH: int", "MONEY: int", "OUT: int", "IN: int", "PAID: int", "OPEN: int",
        "LOST: int"
    };

    public static void main(String[] args) {
        constantsAreAsTold();
        membersAreAsTold();
        noPrivateMethodBearsAPublicName();
        Check.end();
    }

    private static void constantsAreAsTold() {
        Check.due("NONE", -1, Coverpool.NONE);
        Check.due("FACE", 0, Coverpool.FACE);
        Check.due("WORTH", 1, Coverpool.WORTH);
        Check.due("MONEY", 2, Coverpool.MONEY);
        Check.due("OUT", 0, Coverpool.OUT);
        Check.due("IN", 1, Coverpool.IN);
        Check.due("PAID", 2, Coverpool.PAID);
        Check.due("OPEN", 0, Coverpool.OPEN);
        Check.due("LOST", 3, Coverpool.LOST);
    }

    private static void membersAreAsTold() {
        TreeSet<String> told = new TreeSet<>();
        for (String member : FACE) {
            told.add(member);
        }
        TreeSet<String> found = new TreeSet<>();
        for (Constructor<?> constructor : Coverpool.class.getDeclaredConstructors()) {
            addIfVisible(found, constructor, "Coverpool" + parameters(constructor.getParameterTypes()));
        }
        for (Method method : Coverpool.class.getDeclaredMethods()) {
            String type = method.getReturnType().getSimpleName();
            addIfVisible(found, method, method.getName() + parameters(method.getParameterTypes()) + ": " + type);
        }
        for (Field field : Coverpool.class.getDeclaredFields()) {
            addIfVisible(found, field, field.getName() + ": " + field.getType().getSimpleName());
        }
        Check.dueText("the members that are not private", told.toString(), found.toString());
        Check.due("the class is public and final", Modifier.PUBLIC | Modifier.FINAL, Coverpool.class.getModifiers());
    }

    private static void addIfVisible(TreeSet<String> found, Member member, String text) {
        if (!Modifier.isPrivate(member.getModifiers()) && !member.isSynthetic()) {
            found.add(Modifier.isPublic(member.getModifiers()) ? text : text + " is not public");
        }
    }

    private static String parameters(Class<?>[] types) {
        StringBuilder text = new StringBuilder("(");
        for (int i = 0; i < types.length; i++) {
            text.append(i == 0 ? "" : ", ").append(types[i].getSimpleName());
        }
        return text.append(')').toString();
    }

    private static void noPrivateMethodBearsAPublicName() {
        for (Method one : Coverpool.class.getDeclaredMethods()) {
            for (Method other : Coverpool.class.getDeclaredMethods()) {
                boolean hides = Modifier.isPrivate(one.getModifiers()) && Modifier.isPublic(other.getModifiers())
                    && one.getName().equals(other.getName());
                Check.due("private method named " + one.getName() + " like a public one", false, hides);
            }
        }
    }
}
