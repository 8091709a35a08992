import java.lang.reflect.Constructor;
import java.lang.reflect.Field;
import java.lang.reflect.Method;
import java.lang.reflect.Modifier;
import java.util.Arrays;
import java.util.TreeSet;

/** The public face: the constants, the constructor and the methods of the document, and nothing else. */
public final class FaceTest {
    private static final String[] FACE = {
        "public static final int UNKNOWN", "public static final int BAD_VALUE",
        "public static final int NOT_POSSIBLE", "public static final int NONE",
        "public LearningRepeater()",
        "public int LearningRepeater.setPort(int,boolean)", "public int LearningRepeater.join(int,int)",
        "public int LearningRepeater.part(int)", "public int LearningRepeater.release(int)",
        "public int LearningRepeater.set(int,int)", "public int LearningRepeater.frame(int,int,int,int)",
        "public int LearningRepeater.forget(int)", "public int LearningRepeater.pass(int)",
        "public int LearningRepeater.type(char)", "public int LearningRepeater.clearText()",
        "public int LearningRepeater.readFrames()", "public int LearningRepeater.undo()",
        "public int LearningRepeater.keep()", "public int LearningRepeater.restore()",
        "public int LearningRepeater.port(int,int)", "public int LearningRepeater.account(int,int)",
        "public int LearningRepeater.entry(int,int)", "public int LearningRepeater.where(int)",
        "public int LearningRepeater.queued(int,int,int)", "public int LearningRepeater.wouldGo(int,int,int)",
        "public int LearningRepeater.loops()", "public int LearningRepeater.count(int)",
    };

    public static void main(String[] args) {
        Checks checks = new Checks("FaceTest");
        checks.promise("the public face");
        TreeSet<String> found = new TreeSet<>();
        for (Field field : LearningRepeater.class.getDeclaredFields()) {
            if (!Modifier.isPrivate(field.getModifiers())) {
                found.add(Modifier.toString(field.getModifiers()) + " " + field.getType() + " " + field.getName());
            }
        }
        for (Method method : LearningRepeater.class.getDeclaredMethods()) {
            if (!Modifier.isPrivate(method.getModifiers())) {
                found.add(method.toString());
            }
        }
        for (Constructor<?> constructor : LearningRepeater.class.getDeclaredConstructors()) {
            found.add(constructor.toString());
        }
        checks.same("the members", found.toString(), new TreeSet<>(Arrays.asList(FACE)).toString());
        checks.due("the class is public and final", LearningRepeater.class.getModifiers(),
                Modifier.PUBLIC | Modifier.FINAL);
        checks.due("UNKNOWN", LearningRepeater.UNKNOWN, -1);
        checks.due("BAD_VALUE", LearningRepeater.BAD_VALUE, -2);
        checks.due("NOT_POSSIBLE", LearningRepeater.NOT_POSSIBLE, -3);
        checks.due("NONE", LearningRepeater.NONE, -4);
        checks.end();
    }
}
