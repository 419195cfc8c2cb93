import java.lang.reflect.Constructor;
import java.lang.reflect.Field;
import java.lang.reflect.Method;
import java.lang.reflect.Modifier;
import java.util.Set;
import java.util.TreeSet;

/** Promise 1: a new object has an empty text and nothing assembled; and the public face is the document's. */
final class Promise1Test {
    public static void main(String[] args) throws Exception {
        Check check = new Check();
        newObject(check);
        objectsApart(check);
        face(check);
        check.finish();
    }

    private static void newObject(Check check) {
        AssembleLines x = new AssembleLines();
        for (int what = 0; what <= 9; what++) {
            check.same("count(" + what + ") of a new object", x.count(what), 0);
        }
        check.throwing("error(0, 0)", IndexOutOfBoundsException.class, () -> x.error(0, 0));
        check.throwing("word(0)", IndexOutOfBoundsException.class, () -> x.word(0));
        check.throwing("statement(0, 0)", IndexOutOfBoundsException.class, () -> x.statement(0, 0));
        check.throwing("name(0, 0)", IndexOutOfBoundsException.class, () -> x.name(0, 0));
        check.throwing("name(0, 1)", IndexOutOfBoundsException.class, () -> x.name(0, 1));
        check.throwing("end(0)", IllegalStateException.class, () -> x.end(0));
        check.same("assemble() of a new object", x.assemble(), 0);
        check.same("rounds of an empty text", x.count(7), 1);
    }

    private static void objectsApart(Check check) {
        AssembleLines x = check.assembled("a: nop");
        AssembleLines y = new AssembleLines();
        check.same("words of another object", y.count(1), 0);
        check.same("text of another object", y.count(0), 0);
        Check.feed(y, "nop\nnop");
        y.assemble();
        check.same("words of the first object", x.count(1), 1);
    }

    private static void face(Check check) throws Exception {
        Class<?> face = AssembleLines.class;
        check.same("NONE", AssembleLines.NONE, -1);
        check.same("the class is public and final",
                face.getModifiers() & (Modifier.PUBLIC | Modifier.FINAL), Modifier.PUBLIC | Modifier.FINAL);
        Set<String> got = new TreeSet<>();
        for (Field field : face.getDeclaredFields()) {
            addSeen(got, field.getModifiers(), field.isSynthetic(), field.getName());
        }
        for (Constructor<?> made : face.getDeclaredConstructors()) {
            addSeen(got, made.getModifiers(), made.isSynthetic(), "new/" + made.getParameterCount());
        }
        for (Method method : face.getDeclaredMethods()) {
            addSeen(got, method.getModifiers(), method.isSynthetic(), method.getName() + "/" + method.getParameterCount());
        }
        Set<String> due = new TreeSet<>(Set.of("NONE", "new/0", "feed/4", "end/1", "assemble/0", "error/2", "word/1",
                "statement/2", "name/2", "count/1"));
        check.same("the face is " + got + ", due is " + due, got.equals(due) ? 1 : 0, 1);
    }

    private static void addSeen(Set<String> seen, int modifiers, boolean isSynthetic, String told) {
        if (!Modifier.isPrivate(modifiers) && !isSynthetic) {
            seen.add(told);
        }
    }
}
