import java.lang.reflect.Constructor;
import java.lang.reflect.Field;
import java.lang.reflect.Method;
import java.lang.reflect.Modifier;
import java.nio.file.Files;
import java.nio.file.Path;
import java.util.ArrayList;
import java.util.List;
import java.util.Set;
import java.util.TreeSet;
import java.util.regex.Matcher;
import java.util.regex.Pattern;

/** The class's face is the document's, and the source keeps to those rules of LANGUAGE.md that a search can see. */
public final class FaceTest {
    private static final String[] FACE = {
        "fret 2", "level 2", "fretInfo 2", "mostFor 1", "tune 2", "press 2", "touch 2", "pluck 3", "damp 1",
        "stringInfo 2", "modeInfo 3", "node 3", "nodeAgain 3", "set 2", "run 1", "ticksTo 2", "beat 4", "slowest 3",
        "played 2", "count 1", "undo 0", "type 1", "clearText 0", "fault 1", "play 0"};
    private static final String[] FORBIDDEN = {
        "throw", "throws", "try", "catch", "finally", "synchronized", "assert", "import", "package", "transient",
        "volatile", "strictfp", "native", "var", "equals", "hashCode", "toString", "->", "::", "\\.\\.\\.", "\"",
        "\\w+Exact", "Object", "Class", "Thread", "double", "float", "protected"};

    private static final char[] NOTE = {'0', ':', '0', '!', '9', '+', '1', ';'};

    /** Of some 33 calls each, which are fewer than 512. */
    private static final int ROUNDS = 14;

    private static int wrong;

    public static void main(String[] args) throws Exception {
        methodsAndConstants();
        classesInside();
        String source = Files.readString(Path.of("src/main/java/FrettedStrings.java"));
        searchSource(source.replaceAll("(?s)/\\*.*?\\*/|//[^\n]*", ""));
        callsMakeNoObjects();
        System.out.println(wrong == 0 ? "the face is the document's" : wrong + " faults in the face");
        if (wrong != 0) {
            System.exit(1);
        }
    }

    private static void need(boolean holds, String what) {
        if (!holds) {
            wrong++;
            System.out.println(what);
        }
    }

    private static void methodsAndConstants() throws Exception {
        Class<?> face = FrettedStrings.class;
        need(face.getModifiers() == (Modifier.PUBLIC | Modifier.FINAL), "the class is not public final");
        Constructor<?>[] constructors = face.getDeclaredConstructors();
        need(constructors.length == 1 && Modifier.isPublic(constructors[0].getModifiers())
            && constructors[0].getParameterCount() == 0, "not the one public constructor");
        Set<String> due = new TreeSet<>(List.of(FACE));
        Set<String> found = new TreeSet<>();
        Set<String> names = new TreeSet<>();
        for (Method method : face.getDeclaredMethods()) {
            if (Modifier.isPrivate(method.getModifiers())) {
                continue;
            }
            found.add(method.getName() + " " + method.getParameterCount());
            names.add(method.getName());
            need(method.getModifiers() == Modifier.PUBLIC, method + " is not public alone");
            need(method.getReturnType() == int.class, method + " does not answer an int");
            for (Class<?> type : method.getParameterTypes()) {
                need(type == int.class, method + " does not take ints");
            }
        }
        need(found.equals(due), "the methods are " + found);
        List<String> constants = new ArrayList<>();
        for (Field field : face.getDeclaredFields()) {
            if (!Modifier.isPrivate(field.getModifiers())) {
                need(field.getModifiers() == (Modifier.PUBLIC | Modifier.STATIC | Modifier.FINAL), field + " is open");
                constants.add(field.getName() + field.getInt(null));
            }
            need(!Modifier.isStatic(field.getModifiers()) || Modifier.isFinal(field.getModifiers()),
                field + " is static and not final");
        }
        need(new TreeSet<>(constants).equals(new TreeSet<>(List.of("INVALID_ARGUMENT-1", "NOT_POSSIBLE-2",
            "LIMIT_REACHED-3", "NOT_FOUND-4"))), "the constants are " + constants);
        for (Class<?> inside : face.getDeclaredClasses()) {
            for (Method method : inside.getDeclaredMethods()) {
                need(!names.contains(method.getName()), method + " bears a name of the face");
            }
        }
    }

    private static void classesInside() {
        Class<?>[] classes = FrettedStrings.class.getDeclaredClasses();
        need(classes.length <= 12, "more than 12 classes");
        for (Class<?> inside : classes) {
            int modifiers = inside.getModifiers();
            need(Modifier.isStatic(modifiers) && !Modifier.isPublic(modifiers), inside + " is not static and closed");
            int fields = 0;
            for (Field field : inside.getDeclaredFields()) {
                fields += Modifier.isStatic(field.getModifiers()) ? 0 : 1;
            }
            need(fields <= 20, inside + " has more than 20 fields");
            for (Method method : inside.getDeclaredMethods()) {
                need(method.getParameterCount() <= 7, method + " takes more than 7 parameters");
            }
        }
    }

    private static void searchSource(String code) {
        for (String word : FORBIDDEN) {
            String whole = Character.isLetter(word.charAt(0)) || word.startsWith("\\w") ? "\\b" + word + "\\b" : word;
            Matcher matcher = Pattern.compile(whole).matcher(code);
            need(!matcher.find(), "the source has " + word);
        }
        Matcher library = Pattern.compile("\\b(Math|Integer|Long|System|Arrays|String|StringBuilder)\\.(\\w+)").matcher(code);
        while (library.find()) {
            need(Set.of("min", "max", "abs", "floorDiv", "floorMod", "bitCount", "arraycopy").contains(library.group(2)),
                "the source calls " + library.group());
        }
        for (char sign : code.toCharArray()) {
            need(sign < 128, "the source has the sign " + (int) sign);
        }
    }

    /** One room holds all calls of a run: rows are made with the object and by no call. */
    private static void callsMakeNoObjects() {
        com.sun.management.ThreadMXBean bean =
            (com.sun.management.ThreadMXBean) java.lang.management.ManagementFactory.getThreadMXBean();
        FrettedStrings[] objects = new FrettedStrings[200];
        for (int i = 0; i < objects.length; i++) {
            objects[i] = new FrettedStrings();
        }
        long id = Thread.currentThread().getId();
        callAll(objects[0], ROUNDS);
        long before = bean.getThreadAllocatedBytes(id);
        for (int i = 1; i < objects.length; i++) {
            callAll(objects[i], ROUNDS);
        }
        long made = bean.getThreadAllocatedBytes(id) - before;
        need(made < 20000, "the calls of 199 objects made " + made + " bytes");
    }

    private static void callAll(FrettedStrings x, int rounds) {
        for (int round = 0; round < rounds; round++) {
            x.fret(1 + round % 12, 5);
            x.level(1, 4);
            x.fretInfo(1, 4);
            x.mostFor(2);
            x.tune(0, 5000);
            x.press(0, round % 3);
            x.touch(0, 7);
            x.pluck(0, 2000, 6);
            x.pluck(1, 2000, 6);
            x.stringInfo(0, 7);
            x.modeInfo(0, 6, 2);
            x.node(0, 6, 2000);
            x.nodeAgain(0, 6, 2000);
            x.set(0, round % 9);
            x.run(1);
            x.ticksTo(0, 1);
            x.beat(0, 1, 1, 1);
            x.slowest(0, 1, 2);
            x.played(0, 1);
            x.count(2);
            x.undo();
            x.clearText();
            for (char sign : NOTE) {
                x.type(sign);
            }
            x.fault(0);
            x.play();
            x.damp(0);
        }
    }
}
