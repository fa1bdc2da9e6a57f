import java.lang.reflect.Constructor;
import java.lang.reflect.Field;
import java.lang.reflect.Method;
import java.lang.reflect.Modifier;
import java.util.List;
import java.util.TreeSet;

/** The document's public face: its constructor and methods, and no other member that can be seen outside. */
public final class FaceTest {
    private static final String[] METHODS = {
        "int open() Unsupported IllegalState",
        "int place(int,int,int) Index IllegalArgument Unsupported IllegalState",
        "boolean change(int) Index Unsupported IllegalState",
        "int moves(int) Index",
        "int step(int,int,int) Index",
        "int captures(int,int) Index",
        "int move(int,int) Index IllegalState",
        "int close(int) Index Unsupported IllegalState",
        "int at(int,int) Index IllegalArgument",
        "int atAnew(int,int) Index IllegalArgument",
        "boolean isBlack(int) Index",
        "boolean isClosed(int) Index",
        "int games()",
        "int fill() IllegalState",
        "int ranks()",
        "boolean isWhole()",
        "int distance(int) Index NoSuch",
        "int claim(int) Index Unsupported IllegalState",
        "char judge(int) Index Unsupported IllegalState",
        "char verdict(int) Index",
        "int gameOf(int) Index",
        "int claims()",
        "int flush()",
        "int crash(int) IllegalArgument",
        "boolean spoil(int) Index",
        "int compact() Unsupported",
        "int records()",
        "char kindAt(int) Index",
        "int numberAt(int) Index",
        "int gameAt(int) Index",
        "int sumAt(int) Index",
        "int segmentSum(int) Index",
        "long captured()",
        "float keptShare() Arithmetic",
        "double meanPieces() Arithmetic",
        "boolean isSound()",
    };

    private static final Check CHECK = new Check();

    public static void main(String[] args) {
        Class<?> face = CheckerLog.class;
        CHECK.due("public and final", Modifier.PUBLIC | Modifier.FINAL, face::getModifiers);
        TreeSet<String> due = new TreeSet<>(List.of(METHODS));
        TreeSet<String> found = new TreeSet<>();
        TreeSet<String> names = new TreeSet<>();
        for (Method method : face.getDeclaredMethods()) {
            if (!Modifier.isPrivate(method.getModifiers()) && !method.isSynthetic()) {
                found.add(signOf(method));
                names.add(method.getName());
                CHECK.due(method.getName() + " is public", Modifier.PUBLIC, method::getModifiers);
            }
        }
        CHECK.due("the methods", due, () -> found);
        for (Constructor<?> constructor : face.getDeclaredConstructors()) {
            CHECK.due("the constructor", "public CheckerLog()", constructor::toString);
        }
        CHECK.due("one constructor", 1, () -> face.getDeclaredConstructors().length);
        for (Field field : face.getDeclaredFields()) {
            CHECK.due(field.getName() + " is private", true, () -> Modifier.isPrivate(field.getModifiers()));
        }
        for (Method method : face.getDeclaredMethods()) {
            boolean hidden = Modifier.isPrivate(method.getModifiers());
            CHECK.due("no private " + method.getName(), false, () -> hidden && names.contains(method.getName()));
        }
        for (Class<?> inside : face.getDeclaredClasses()) {
            CHECK.due(inside + " is static", true, () -> Modifier.isStatic(inside.getModifiers()));
            CHECK.due(inside + " is not public", false, () -> Modifier.isPublic(inside.getModifiers()));
        }
        CHECK.end("FaceTest");
    }

    private static String signOf(Method method) {
        StringBuilder sign = new StringBuilder(method.getReturnType() + " " + method.getName() + "(");
        for (Class<?> type : method.getParameterTypes()) {
            sign.append(sign.charAt(sign.length() - 1) == '(' ? "" : ",").append(type);
        }
        sign.append(")");
        for (Class<?> thrown : method.getExceptionTypes()) {
            String name = thrown.getSimpleName();
            sign.append(" ").append(name.replaceAll("(OutOfBounds|Operation|Element|)Exception", ""));
        }
        return sign.toString();
    }
}
