import java.lang.reflect.Constructor;
import java.lang.reflect.Field;
import java.lang.reflect.Method;
import java.lang.reflect.Modifier;
import java.util.ArrayList;
import java.util.List;
import java.util.Set;
import java.util.TreeSet;

/** The public face: each member that the document names, and no other that is not private. */
public final class FaceTest {
    private static final Check CHECK = new Check();

    private static final String S = " throws IllegalStateException";
    private static final String SI = S + ",IndexOutOfBoundsException";
    private static final String SA = S + ",IllegalArgumentException";
    private static final String SIA = SI + ",IllegalArgumentException";

    private static final String[] FACE = {"int append(int,int,int,int,int)",
        "int load(int) throws IndexOutOfBoundsException,IllegalArgumentException", "int parseError()",
        "int errorPosition()", "int errorLine()", "int buffered()", "int count(int)" + SA, "int kind(int,boolean)" + SI,
        "int rod(int,int)" + SIA, "int order(int,int)" + SIA, "int patternSize(int)" + SI,
        "int patternLength(int,int)" + SI, "int setting(int)" + SA, "int round()" + S, "int wanted(int)" + SA,
        "int stored(int)" + SA, "int left(int,int)" + SIA, "int rodFor(int,int)" + SA, "int longest()" + S,
        "int total()" + S, "int worth()" + S, "int firstDue()" + S, "int overdue()" + S, "boolean fits(int,int)" + SI,
        "int patternLeft(int,int)" + SI, "int patternRod(int)" + SI, "int wantedPatterns()" + S,
        "int bestLeft(int)" + SI, "int bestPieces(int)" + SI, "int piecesIf(int)" + SA, "int lossIf(int)" + SA,
        "int lackingIf(int,int)" + SIA, "int bestPolicy()" + S, "int rodsNeeded(int)" + SI, "int cheapestKind()" + S,
        "int roundsToFill(int)" + SI, "int account(int)" + SA, "double meanLoss()" + S, "float shareUsed()" + S,
        "int cuts()", "int cut(int,int)" + SIA, "int writeRods()" + S, "int writeOrder(int)" + SI,
        "int textByte(int) throws IndexOutOfBoundsException", "int cutPiece(int,int)" + SIA,
        "int cutPattern(int,int)" + SIA, "int fill(int)" + SA, "int endRound()" + S, "int buy(int)" + SIA,
        "int addOrder(int,int,int,int)" + SA, "int cancel(int)" + SIA, "int scrap(int)" + SIA,
        "int setSetting(int,int)" + SA, "int undo()" + S, "int undoable()", "int save(int)" + SI,
        "int restore(int) throws IndexOutOfBoundsException,IllegalStateException"};

    public static void main(String[] args) {
        CHECK.same("public and final", RodYard.class.getModifiers(), Modifier.PUBLIC | Modifier.FINAL);
        Set<String> due = new TreeSet<>(List.of(FACE));
        Set<String> names = new TreeSet<>();
        List<String> privates = new ArrayList<>();
        Set<String> found = new TreeSet<>();
        for (Method m : RodYard.class.getDeclaredMethods()) {
            if (Modifier.isPrivate(m.getModifiers())) {
                privates.add(m.getName());
            } else {
                CHECK.same(m + ": modifiers", m.getModifiers(), Modifier.PUBLIC);
                found.add(told(m));
                names.add(m.getName());
            }
        }
        CHECK.sameText("methods", found.toString(), due.toString());
        for (Class<?> inside : RodYard.class.getDeclaredClasses()) {
            CHECK.same(inside + " is static", Modifier.isStatic(inside.getModifiers()), true);
            CHECK.same(inside + " is not public", Modifier.isPublic(inside.getModifiers()), false);
            for (Method m : inside.getDeclaredMethods()) {
                privates.add(m.getName());
            }
        }
        for (String name : privates) {
            CHECK.same(name + " is no name of the face", names.contains(name), false);
        }
        constantsAndConstructors();
        CHECK.end();
    }

    private static String told(Method m) {
        StringBuilder out = new StringBuilder(m.getReturnType().getSimpleName()).append(' ').append(m.getName());
        out.append('(').append(listed(m.getParameterTypes())).append(')');
        if (m.getExceptionTypes().length > 0) {
            out.append(" throws ").append(listed(m.getExceptionTypes()));
        }
        return out.toString();
    }

    private static String listed(Class<?>[] types) {
        StringBuilder out = new StringBuilder();
        for (Class<?> type : types) {
            out.append(out.length() == 0 ? "" : ",").append(type.getSimpleName());
        }
        return out.toString();
    }

    private static void constantsAndConstructors() {
        for (Field f : RodYard.class.getDeclaredFields()) {
            if (!Modifier.isPrivate(f.getModifiers())) {
                CHECK.sameText("field", f.toString(), "public static final int RodYard.NONE");
            } else if (Modifier.isStatic(f.getModifiers())) {
                CHECK.same(f + " is final", Modifier.isFinal(f.getModifiers()), true);
            }
        }
        Constructor<?>[] constructors = RodYard.class.getDeclaredConstructors();
        CHECK.same("constructors", constructors.length, 1);
        CHECK.sameText("constructor", constructors[0].toString(), "public RodYard()");
        CHECK.same("NONE", RodYard.NONE, -1);
    }
}
