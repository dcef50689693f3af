import java.lang.reflect.Constructor;
import java.lang.reflect.Field;
import java.lang.reflect.Method;
import java.lang.reflect.Modifier;
import java.util.Arrays;
import java.util.TreeSet;

/** The public face: its signatures as the document gives them, and no member beside them. */
public final class FaceTest {
    private static final String[] FACE = {
        "int addCohort(int,int) IllegalArgumentException IllegalStateException",
        "int addStudent(int) IndexOutOfBoundsException IllegalStateException",
        "int addLesson(int,int) IllegalArgumentException IllegalStateException",
        "int addExercise(int,int,int,int) IndexOutOfBoundsException IllegalArgumentException IllegalStateException",
        "int addCase(int,int,int) IndexOutOfBoundsException IllegalArgumentException IllegalStateException",
        "int versionOf(int) IndexOutOfBoundsException",
        "int openLessons(int) IndexOutOfBoundsException",
        "char reason(int,int) IndexOutOfBoundsException",
        "int answer(int,int,int,int) IndexOutOfBoundsException IllegalArgumentException"
            + " UnsupportedOperationException IllegalStateException",
        "int answerCount()",
        "int gradeOf(int) IndexOutOfBoundsException",
        "int gradeAnew(int) IndexOutOfBoundsException",
        "int creditOf(int,int) IndexOutOfBoundsException NoSuchElementException",
        "int studentOf(int) IndexOutOfBoundsException",
        "int dayOf(int) IndexOutOfBoundsException",
        "int bestAnswer(int,int) IndexOutOfBoundsException NoSuchElementException",
        "int mastery(int,int) IndexOutOfBoundsException",
        "int masteryAnew(int,int) IndexOutOfBoundsException",
        "int appeal(int) IndexOutOfBoundsException IllegalStateException",
        "int withdraw(int) IndexOutOfBoundsException NoSuchElementException",
        "int decide(int) IllegalArgumentException NoSuchElementException",
        "int appealCount()",
        "int appealAt(int) IndexOutOfBoundsException",
        "int mend(int,int,int) IndexOutOfBoundsException IllegalArgumentException IllegalStateException",
        "int harmedCount()",
        "int harmedAt(int) IndexOutOfBoundsException",
        "int addCourse(int,int) IllegalArgumentException IllegalStateException",
        "int issue(int,int) IndexOutOfBoundsException IllegalStateException UnsupportedOperationException",
        "boolean doesStand(int) IndexOutOfBoundsException",
        "int certificateOf(int,int) IndexOutOfBoundsException NoSuchElementException",
        "int revoked()",
        "int pass(int) IllegalArgumentException IllegalStateException",
        "int today()",
        "double meanGrade() ArithmeticException",
        "float standingShare() ArithmeticException",
        "boolean isConsistent()",
        "int writeAnswer(int) IndexOutOfBoundsException",
        "char lineAt(int) IndexOutOfBoundsException",
    };

    public static void main(String[] args) {
        Checks checks = new Checks();
        TreeSet<String> found = new TreeSet<>();
        TreeSet<String> privateNames = new TreeSet<>();
        for (Method method : CourseForge.class.getDeclaredMethods()) {
            if (Modifier.isPrivate(method.getModifiers())) {
                privateNames.add(method.getName());
            } else {
                checks.due(method.getName() + " is static", Modifier.isStatic(method.getModifiers()), false);
                found.add(signature(method));
            }
        }
        checks.due("the methods of the face", found, new TreeSet<>(Arrays.asList(FACE)));
        for (Method method : CourseForge.class.getMethods()) {
            checks.due("private methods named " + method.getName(), privateNames.contains(method.getName()), false);
        }
        for (Field field : CourseForge.class.getDeclaredFields()) {
            checks.due(field.getName() + " is private", Modifier.isPrivate(field.getModifiers()), true);
            if (Modifier.isStatic(field.getModifiers())) {
                checks.due(field.getName() + " is final", Modifier.isFinal(field.getModifiers()), true);
            }
        }
        Constructor<?>[] constructors = CourseForge.class.getDeclaredConstructors();
        checks.due("the number of constructors", constructors.length, 1);
        checks.due("the constructor", constructors[0].toGenericString(), "public CourseForge()");
        int modifiers = CourseForge.class.getModifiers();
        checks.due("the class is public and final", modifiers, Modifier.PUBLIC | Modifier.FINAL);
        for (Class<?> inside : CourseForge.class.getDeclaredClasses()) {
            int bits = inside.getModifiers();
            checks.due(inside + " is hidden", Modifier.isPublic(bits) || Modifier.isProtected(bits), false);
            checks.due(inside + " is static", Modifier.isStatic(bits), true);
        }
        checks.finish("FaceTest");
    }

    private static String signature(Method method) {
        StringBuilder text = new StringBuilder(method.getReturnType().getSimpleName());
        text.append(' ').append(method.getName()).append('(');
        String comma = "";
        for (Class<?> type : method.getParameterTypes()) {
            text.append(comma).append(type.getSimpleName());
            comma = ",";
        }
        text.append(')');
        for (Class<?> type : method.getExceptionTypes()) {
            text.append(' ').append(type.getSimpleName());
        }
        return text.toString();
    }
}
