import java.lang.reflect.Constructor;
import java.lang.reflect.Field;
import java.lang.reflect.Member;
import java.lang.reflect.Method;
import java.lang.reflect.Modifier;
import java.util.Set;
import java.util.TreeSet;

/** "The public face": the class has what stands there, and nothing else that others can see. */
public final class FaceTest {
    private static final Set<String> FACE = Set.of(
        "public static final int FileStatus.NONE",
        "public FileStatus(int)",
        "public int FileStatus.mode(int)",
        "public int FileStatus.open(int)",
        "public int FileStatus.act(int,int)",
        "public int FileStatus.exception(int)",
        "public int FileStatus.phrase(boolean)",
        "public int FileStatus.declarative(int,boolean)",
        "public int FileStatus.position(int)",
        "public int FileStatus.optional(boolean)",
        "public int FileStatus.both(int,int)",
        "public int FileStatus.extended(int)",
        "public int FileStatus.area(int)",
        "public int FileStatus.count(int)");

    private static final Due DUE = new Due();

    public static void main(String[] args) {
        DUE.by("The public face");
        theClassIsPublicAndFinal();
        membersAreThoseOfTheFace();
        noPrivateMethodBearsAPublicName();
        noStaticFieldChanges();
        DUE.is("NONE", FileStatus.NONE, -1);
        DUE.end();
    }

    private static void theClassIsPublicAndFinal() {
        int due = Modifier.PUBLIC | Modifier.FINAL;
        DUE.is("modifiers of the class", FileStatus.class.getModifiers(), due);
        DUE.is("it extends Object", FileStatus.class.getSuperclass() == Object.class ? 1 : 0, 1);
        DUE.is("interfaces", FileStatus.class.getInterfaces().length, 0);
        DUE.is("public classes inside", FileStatus.class.getClasses().length, 0);
    }

    private static void membersAreThoseOfTheFace() {
        Set<String> seen = new TreeSet<>();
        for (Field field : FileStatus.class.getDeclaredFields()) {
            addIfOthersSeeIt(seen, field);
        }
        for (Constructor<?> constructor : FileStatus.class.getDeclaredConstructors()) {
            addIfOthersSeeIt(seen, constructor);
        }
        for (Method method : FileStatus.class.getDeclaredMethods()) {
            addIfOthersSeeIt(seen, method);
        }
        for (String member : FACE) {
            DUE.is("the class has " + member, seen.contains(member) ? 1 : 0, 1);
        }
        for (String member : seen) {
            DUE.is("the face has " + member, FACE.contains(member) ? 1 : 0, 1);
        }
    }

    private static void addIfOthersSeeIt(Set<String> seen, Member member) {
        if (!Modifier.isPrivate(member.getModifiers()) && !member.isSynthetic()) {
            seen.add(member.toString());
        }
    }

    /** LANGUAGE.md, rule 1. */
    private static void noPrivateMethodBearsAPublicName() {
        Set<String> publicNames = new TreeSet<>();
        for (Method method : FileStatus.class.getMethods()) {
            publicNames.add(method.getName());
        }
        for (Method method : FileStatus.class.getDeclaredMethods()) {
            boolean isDouble = Modifier.isPrivate(method.getModifiers()) && publicNames.contains(method.getName());
            DUE.is(method.getName() + " is private and bears a public one's name", isDouble ? 1 : 0, 0);
        }
    }

    /** LANGUAGE.md, rule 5. */
    private static void noStaticFieldChanges() {
        for (Field field : FileStatus.class.getDeclaredFields()) {
            int modifiers = field.getModifiers();
            boolean canChange = Modifier.isStatic(modifiers) && !Modifier.isFinal(modifiers);
            DUE.is(field.getName() + " is static and can change", canChange ? 1 : 0, 0);
        }
    }
}
