import java.io.IOException;
import java.lang.reflect.Constructor;
import java.lang.reflect.Field;
import java.lang.reflect.Member;
import java.lang.reflect.Method;
import java.lang.reflect.Modifier;
import java.util.TreeSet;

/** The public face: every constant, the constructor and every method of the document, and nothing beside them. */
public final class FaceTest {
    public static void main(String[] args) throws IOException, IllegalAccessException {
        TreeSet<String> told = toldMembers(Told.document());
        Check.due("the document tells so many members", 31, told.size());
        Check.dueText("the members that are not private", told.toString(), foundMembers().toString());
        Check.due("the class is public and final", Modifier.PUBLIC | Modifier.FINAL, Coverpool.class.getModifiers());
        noPrivateMethodBearsAPublicName();
        Check.end();
    }

    /** As the document has them between "public final class Coverpool {" and "}", without the names of parameters. */
    private static TreeSet<String> toldMembers(String document) {
        String start = "public final class Coverpool {";
        String face = document.substring(document.indexOf(start) + start.length());
        TreeSet<String> told = new TreeSet<>();
        for (String line : face.substring(0, face.indexOf("\n}")).split(";")) {
            String member = line.trim();
            if (member.startsWith("public static final int ")) {
                for (String constant : member.substring("public static final int ".length()).split(", ")) {
                    told.add("public static final int " + constant);
                }
            } else {
                told.add(member.replaceAll("int \\w+([,)])", "int$1"));
            }
        }
        return told;
    }

    private static TreeSet<String> foundMembers() throws IllegalAccessException {
        TreeSet<String> found = new TreeSet<>();
        for (Constructor<?> constructor : Coverpool.class.getDeclaredConstructors()) {
            addIfVisible(found, constructor, "Coverpool(" + list(constructor.getParameterTypes()) + ")"
                + throwsClause(constructor.getExceptionTypes()));
        }
        for (Method method : Coverpool.class.getDeclaredMethods()) {
            addIfVisible(found, method, method.getReturnType().getSimpleName() + " " + method.getName() + "("
                + list(method.getParameterTypes()) + ")" + throwsClause(method.getExceptionTypes()));
        }
        for (Field field : Coverpool.class.getDeclaredFields()) {
            if (!Modifier.isPrivate(field.getModifiers())) {
                addIfVisible(found, field, field.getType().getSimpleName() + " " + field.getName() + " = " + field.get(null));
            }
        }
        return found;
    }

    private static void addIfVisible(TreeSet<String> found, Member member, String text) {
        if (!Modifier.isPrivate(member.getModifiers()) && !member.isSynthetic()) {
            found.add(Modifier.toString(member.getModifiers()) + " " + text);
        }
    }

    private static String throwsClause(Class<?>[] exceptions) {
        return exceptions.length == 0 ? "" : " throws " + list(exceptions);
    }

    private static String list(Class<?>[] types) {
        StringBuilder text = new StringBuilder();
        for (Class<?> type : types) {
            text.append(text.length() == 0 ? "" : ", ").append(type.getSimpleName());
        }
        return text.toString();
    }

    private static void noPrivateMethodBearsAPublicName() {
        for (Method one : Coverpool.class.getDeclaredMethods()) {
            for (Method other : Coverpool.class.getDeclaredMethods()) {
                boolean hides = Modifier.isPrivate(one.getModifiers()) && Modifier.isPublic(other.getModifiers())
                    && one.getName().equals(other.getName());
                Check.due("private method named " + one.getName() + " like a public one", false, hides);
            }
        }
    }
}
