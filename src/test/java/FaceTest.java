import java.lang.reflect.Constructor;
import java.lang.reflect.Field;
import java.lang.reflect.Method;
import java.lang.reflect.Modifier;
import java.nio.file.Files;
import java.nio.file.Path;
import java.util.ArrayList;
import java.util.List;
import java.util.Set;
import java.util.TreeSet;
import java.util.regex.Matcher;
import java.util.regex.Pattern;

/** The document's face, and those rules of LANGUAGE.md that can be seen in the source or by reflection. */
public final class FaceTest {
    private static final String FACE = "pillar(int,int) weight(int,int) draw(int,int) strength(int,int) wall(int,int,int)"
            + " mends() anew() of(int,int) rests(int) all(int) beside(int,int) runs() loses(int) wave(int,int)"
            + " would(int,int) worst(int) cut(int) mending() bestWall(int) bestCell(int,int) type(int) clear() does()"
            + " back() told(int) digest()";
    private static final String[] FORBIDDEN = {"\\bthrow\\b", "\\btry\\b", "\\bcatch\\b", "\\bsynchronized\\b", "\\bassert\\b",
        "->", "::", "\\bstatic\\s*\\{", "\\bpackage\\b", "\\bequals\\b", "\\bhashCode\\b", "\\btoString\\b", "Exact\\b",
        "\\bSystem\\.(?!arraycopy)", "\\bRandom\\b", "\\bThread\\b", "\\bnull\\b", "\\bwhile \\(true\\)", "for \\(;;\\)"};

    private final Due due = new Due();

    private static String signature(Method method) {
        List<String> types = new ArrayList<>();
        for (Class<?> type : method.getParameterTypes()) types.add(type.getName());
        return method.getName() + "(" + String.join(",", types) + ")";
    }

    private void face() {
        Class<?> face = PillarRuns.class;
        due.is("public and final", face.getModifiers() & (Modifier.PUBLIC | Modifier.FINAL), Modifier.PUBLIC | Modifier.FINAL);
        Set<String> want = new TreeSet<>(List.of(FACE.split(" "))), got = new TreeSet<>(), names = new TreeSet<>();
        for (Method method : face.getDeclaredMethods()) {
            if (Modifier.isPublic(method.getModifiers())) {
                got.add(signature(method));
                names.add(method.getName());
                Class<?> type = method.getName().equals("digest") ? long.class : int.class;
                due.is("type of " + method, method.getReturnType() == type ? 1 : 0, 1);
            }
        }
        due.is("public methods " + got, got.equals(want) ? 1 : 0, 1);
        for (Method method : face.getDeclaredMethods()) {
            if (!Modifier.isPublic(method.getModifiers())) {
                due.is("private " + method, Modifier.isPrivate(method.getModifiers()) ? 1 : 0, 1);
                due.is("own name " + method, names.contains(method.getName()) ? 1 : 0, 0);
            }
        }
        Set<String> constants = new TreeSet<>();
        for (Field field : face.getDeclaredFields()) {
            if (!Modifier.isPrivate(field.getModifiers())) constants.add(field.getName());
            if (Modifier.isStatic(field.getModifiers())) due.is("final " + field, Modifier.isFinal(field.getModifiers()) ? 1 : 0, 1);
        }
        due.is("constants " + constants, constants.equals(Set.of("NONE", "BAD", "NO", "FULL")) ? 1 : 0, 1);
        Constructor<?>[] constructors = face.getDeclaredConstructors();
        due.is("constructors", constructors.length, 1);
        due.is("no parameters", constructors[0].getParameterCount(), 0);
        due.is("public", Modifier.isPublic(constructors[0].getModifiers()) ? 1 : 0, 1);
        due.is("constant values", PillarRuns.NONE + 10 * PillarRuns.BAD + 100 * PillarRuns.NO + 1000 * PillarRuns.FULL, -4321);
    }

    private void classesInside() {
        Class<?>[] inside = PillarRuns.class.getDeclaredClasses();
        due.is("at most twelve classes", inside.length < 12 ? 1 : 0, 1);
        for (Class<?> type : inside) {
            due.is("static " + type, Modifier.isStatic(type.getModifiers()) ? 1 : 0, 1);
            due.is("not public " + type, type.getModifiers() & (Modifier.PUBLIC | Modifier.PROTECTED), 0);
            due.is("few fields " + type, type.getDeclaredFields().length <= 20 ? 1 : 0, 1);
            for (Method method : type.getDeclaredMethods()) {
                due.is("few parameters " + method, method.getParameterCount() <= 7 ? 1 : 0, 1);
            }
        }
    }

    private void source() throws Exception {
        String source = Files.readString(Path.of("src/main/java/PillarRuns.java"));
        String code = Pattern.compile("/\\*.*?\\*/|//[^\n]*", Pattern.DOTALL).matcher(source).replaceAll(" ");
        for (String forbidden : FORBIDDEN) {
            Matcher found = Pattern.compile(forbidden).matcher(code);
            due.is("source has " + forbidden, found.find() ? 1 : 0, 0);
        }
        Matcher imports = Pattern.compile("import ([^;]+);").matcher(code);
        while (imports.find()) due.is(imports.group(1), imports.group(1).equals("java.util.Arrays") ? 1 : 0, 1);
        for (int i = 0; i < source.length(); i++) {
            if (source.charAt(i) > 126) due.is("sign at " + i, source.charAt(i), 126);
        }
    }

    public static void main(String[] args) throws Exception {
        FaceTest test = new FaceTest();
        test.face();
        test.classesInside();
        test.source();
        test.due.end();
    }
}
