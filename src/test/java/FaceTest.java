import java.lang.reflect.Constructor;
import java.lang.reflect.Field;
import java.lang.reflect.Method;
import java.lang.reflect.Modifier;
import java.util.Arrays;
import java.util.Set;
import java.util.TreeSet;

/** The public face and the constant, and promise 1: a new object. */
public final class FaceTest {
    private static final String[] FACE = {
        "int append(int) throws IllegalArgumentException,IllegalStateException",
        "int clearText()",
        "int errorPosition()",
        "int branches()",
        "int about(int) throws IllegalArgumentException",
        "int desk(int,int) throws IndexOutOfBoundsException,IllegalArgumentException",
        "int note(int,int,int) throws IndexOutOfBoundsException,IllegalArgumentException",
        "int place(int,int) throws IndexOutOfBoundsException,IllegalArgumentException",
        "int path(int,int) throws IndexOutOfBoundsException",
        "int noteOf(int,int) throws IndexOutOfBoundsException",
        "int share(int) throws IndexOutOfBoundsException",
        "int setDesk(int,int,int) throws IndexOutOfBoundsException,IllegalArgumentException",
        "int set(int,int) throws IllegalArgumentException",
        "int forget()",
        "int strengthen(int,int,int) throws IndexOutOfBoundsException,IllegalArgumentException",
        "boolean branch(int,boolean) throws IndexOutOfBoundsException",
        "int play() throws IllegalStateException",
        "int undo() throws IllegalStateException",
        "int wouldBring()",
        "int bestMixing(int) throws IndexOutOfBoundsException",
        "int bestLength(int) throws IndexOutOfBoundsException",
        "int sharing(int,int) throws IndexOutOfBoundsException",
        "int holds(int) throws IndexOutOfBoundsException",
        "int worst()",
        "int runScript(int,long) throws IllegalArgumentException",
        "int simulate(long,int) throws IllegalArgumentException",
        "int save(int) throws IndexOutOfBoundsException",
        "int restore(int) throws IndexOutOfBoundsException,IllegalStateException",
    };

    public static void main(String[] args) {
        Check check = new Check("FaceTest");
        testFace(check);
        testNewObject(check);
        check.end();
    }

    private static void testFace(Check check) {
        check.same("the class is public and final", BranchNotes.class.getModifiers(),
                Modifier.PUBLIC | Modifier.FINAL);
        check.same("NONE", BranchNotes.NONE, -99999);
        Set<String> seen = new TreeSet<>();
        Set<String> hidden = new TreeSet<>();
        for (Method m : BranchNotes.class.getDeclaredMethods()) {
            if (Modifier.isPrivate(m.getModifiers())) {
                hidden.add(m.getName());
                continue;
            }
            String thrown = names(m.getExceptionTypes());
            seen.add(m.getReturnType() + " " + m.getName() + "(" + names(m.getParameterTypes()) + ")"
                    + (thrown.isEmpty() ? "" : " throws " + thrown));
            check.same(m.getName() + " is public and no more", m.getModifiers(), Modifier.PUBLIC);
        }
        Set<String> due = new TreeSet<>(Arrays.asList(FACE));
        if (!seen.equals(due)) {
            check.fail("the face is " + seen + ", due is " + due);
        }
        for (Method m : BranchNotes.class.getDeclaredMethods()) {
            if (!Modifier.isPrivate(m.getModifiers()) && hidden.contains(m.getName())) {
                check.fail("a private method is called " + m.getName());
            }
        }
        for (Field f : BranchNotes.class.getDeclaredFields()) {
            check.same("the field " + f.getName() + " is private", Modifier.isPrivate(f.getModifiers()),
                    !f.getName().equals("NONE"));
        }
        for (Constructor<?> c : BranchNotes.class.getDeclaredConstructors()) {
            check.same("the constructor's parameters", c.getParameterCount(), 0);
        }
    }

    private static String names(Class<?>[] classes) {
        StringBuilder all = new StringBuilder();
        for (Class<?> c : classes) {
            all.append(all.length() > 0 ? "," : "").append(c.getSimpleName());
        }
        return all.toString();
    }

    private static void testNewObject(Check check) {
        Run x = new Run();
        int[] about = {0, 0, 0, 0, 0, 0, 0, 4, 2, 2};
        for (int what = 0; what < about.length; what++) {
            check.same("about(" + what + ")", x.about(what), about[what]);
        }
        int[][] desks = {{0, 0, 0, 0, 0}, {3, 4, 0, 0, 0}};
        for (int d = 0; d < 2; d++) {
            for (int what = 0; what < 5; what++) {
                check.same("desk(" + d + ", " + what + ")", x.desk(d, what), desks[d][what]);
            }
            for (int i = 0; i < 16; i++) {
                check.same("strength of " + i, x.note(d, i, 0), 1);
                check.same("last place of " + i, x.note(d, i, 1), Check.NONE);
                check.same("uses of " + i, x.note(d, i, 2), 0);
                check.same("rights of " + i, x.note(d, i, 3), 0);
            }
            for (int p = 0; p < 26; p++) {
                check.same("path(" + d + ", " + p + ")", x.path(d, p), 0);
                check.same("noteOf(" + d + ", " + p + ")", x.noteOf(d, p), p % 16);
            }
        }
        int[] place = {0, 0, 0, 1, 0};
        for (int p = 0; p < 26; p++) {
            for (int what = 0; what < place.length; what++) {
                check.same("place(" + p + ", " + what + ")", x.place(p, what), place[what]);
            }
            check.same("share(" + p + ")", x.share(p), Check.NONE);
        }
        check.same("clearText()", x.clearText(), 0);
        check.same("worst()", x.worst(), Check.NONE);
        check.refuses(Check.STATE, "undo()", x::undo);
        check.refuses(Check.STATE, "restore(0)", () -> x.restore(0));
        check.refuses(Check.STATE, "restore(1)", () -> x.restore(1));
        new Run().branch(0, true);
        check.same("objects have nothing in common", x.about(0), 0);
    }
}
