import java.lang.reflect.Constructor;
import java.lang.reflect.Field;
import java.lang.reflect.Method;
import java.lang.reflect.Modifier;
import java.util.Set;
import java.util.TreeSet;

/** The public face, and promise 1: a new object. */
public final class FaceTest {
    private static final String METHODS =
        "agreeing(int) as(int,int) ask(int,int) breaks(int,int,int) chains(int,int) comes(int,int,int) "
        + "copy(int,int,int,int,int) count(int) culprits(int) done(int) drop(int) fault() feed(long,int) "
        + "fullest() image(int) kind(int) likeliest() lost(int,int) lots(int,int) person(int,int) post(int) "
        + "posts(int,int,int) readBy(int,int) restore(int) row(int,int,int) set(int,int,int) status() town() "
        + "trace(int) undo()";

    public static void main(String[] args) {
        Due due = new Due("FaceTest");
        members(due);
        newObject(due);
        due.end();
    }

    private static void members(Due due) {
        Set<String> face = new TreeSet<>();
        Set<String> names = new TreeSet<>();
        Set<String> hidden = new TreeSet<>();
        for (Method m : EvePost.class.getDeclaredMethods()) {
            if (Modifier.isPrivate(m.getModifiers())) {
                hidden.add(m.getName());
                continue;
            }
            StringBuilder types = new StringBuilder();
            for (Class<?> type : m.getParameterTypes()) {
                types.append(types.length() == 0 ? "" : ",").append(type.getName());
            }
            face.add(m.getName() + "(" + types + ")");
            names.add(m.getName());
            due.is(m.getName() + " is public, not static", m.getModifiers(), Modifier.PUBLIC);
            due.is(m.getName() + " answers", m.getReturnType().getName(), "int");
        }
        due.is("methods", String.join(" ", face), METHODS);
        hidden.retainAll(names);
        due.is("private methods that bear a public one's name", hidden.size(), 0);
        Constructor<?>[] made = EvePost.class.getDeclaredConstructors();
        due.is("constructors", made.length, 1);
        due.is("its modifiers", made[0].getModifiers(), Modifier.PUBLIC);
        due.is("its parameters", made[0].getParameterCount(), 0);
        due.is("class", EvePost.class.getModifiers(), Modifier.PUBLIC | Modifier.FINAL);
        Set<String> constants = new TreeSet<>();
        for (Field f : EvePost.class.getDeclaredFields()) {
            if (!Modifier.isPrivate(f.getModifiers())) {
                constants.add(f.getName());
            }
        }
        due.is("constants", String.join(" ", constants), "BAD FULL NONE STATE");
        due.is("NONE", EvePost.NONE, Due.NONE);
        due.is("BAD", EvePost.BAD, Due.BAD);
        due.is("STATE", EvePost.STATE, Due.STATE);
        due.is("FULL", EvePost.FULL, Due.FULL);
    }

    private static void newObject(Due due) {
        EvePost x = new EvePost();
        due.is("counts", Due.counts(x), "0 0 0 0 0 0");
        due.is("status()", x.status(), 0);
        due.is("fault()", x.fault(), 0);
        due.is("trace(0)", x.trace(0), Due.NONE);
        for (int row = 0; row < 8; row++) {
            due.is("drop of a missing row", x.drop(row), Due.NULL);
        }
        due.is("undo()", x.undo(), Due.STATE);
        due.is("restore(0)", x.restore(0), Due.STATE);
        due.is("restore(1)", x.restore(1), Due.STATE);
        noTown(due, x);
    }

    /** That there is no town goes ahead of what is not as told, where the document says so. */
    private static void noTown(Due due, EvePost x) {
        due.is("post(-1)", x.post(-1), Due.STATE);
        due.is("posts(9, 0, 99)", x.posts(9, 0, 99), Due.STATE);
        due.is("lots(-1, 0)", x.lots(-1, 0), Due.STATE);
        due.is("done(-1)", x.done(-1), Due.STATE);
        due.is("done(0)", x.done(0), Due.STATE);
        due.is("agreeing(-2)", x.agreeing(-2), Due.STATE);
        due.is("fullest()", x.fullest(), Due.STATE);
        due.is("culprits(2)", x.culprits(2), Due.STATE);
        due.is("chains(0, -2)", x.chains(0, -2), Due.STATE);
        due.is("breaks(9, 0, 99)", x.breaks(9, 0, 99), Due.STATE);
        due.is("comes(-1, -1, 2)", x.comes(-1, -1, 2), Due.STATE);
        due.is("likeliest()", x.likeliest(), Due.STATE);
        due.is("lost(-1, 2)", x.lost(-1, 2), Due.STATE);
        due.is("readBy(-1, 2)", x.readBy(-1, 2), Due.STATE);
        due.is("image(2)", x.image(2), Due.BAD);
        due.is("image(1)", x.image(1), Due.STATE);
        due.is("restore(-1)", x.restore(-1), Due.BAD);
        due.is("person(0, 0)", x.person(0, 0), Due.BAD);
        due.is("kind(0)", x.kind(0), Due.BAD);
        due.is("as(0, 0)", x.as(0, 0), Due.BAD);
        due.is("ask(0, 0)", x.ask(0, 0), Due.BAD);
    }
}
