import java.lang.reflect.Constructor;
import java.lang.reflect.Field;
import java.lang.reflect.Method;
import java.lang.reflect.Modifier;
import java.nio.file.Files;
import java.nio.file.Path;
import java.util.ArrayList;
import java.util.Arrays;
import java.util.Collections;
import java.util.List;
import java.util.TreeSet;

/** The face of the document, and the rules of ../shared/LANGUAGE.md that a look at the file can find. */
public final class LanguageTest {
    private static final String[] FACE = {
        "int back(int)", "int best(int)", "int block(int,int)", "int blockAt(int)", "int buffer(int,int,int,int)",
        "int check(int)", "int column(int,int)", "int count(int)", "int cut(int,int)", "int dead(int)", "int end(int)",
        "int fault()", "int feed(long)", "int fits(int)", "int forget()", "int go(int)", "int got(int,int)",
        "int holds(int)", "int keep(int)", "int lay(int,int,int)", "int mark(int)", "int meet()", "int most(int)",
        "int now(int)", "int order(int,int)", "int read(int,int,int,int)", "int reads(int)", "int rule(int)",
        "int saw(int,int)", "int sheet(int,int,int)", "int shows(int,int)", "int spoil(int,int,int)", "int state(int)",
        "int stream(int,int,int,int,int)", "int text()", "int ticks(int,int,int)", "int torn()",
        "int turns(int,boolean)", "int type(int)", "int within(int,boolean)", "int write(int)"};

    public static void main(String[] args) throws Exception {
        face();
        constants();
        nested();
        source();
        Due.close();
    }

    private static void face() {
        Due.topic("face");
        List<String> found = new ArrayList<>();
        TreeSet<String> publicNames = new TreeSet<>();
        TreeSet<String> privateNames = new TreeSet<>();
        for (Method m : TwoReels.class.getDeclaredMethods()) {
            if (m.isSynthetic()) continue;
            if (Modifier.isPublic(m.getModifiers())) {
                publicNames.add(m.getName());
                found.add(told(m));
                Due.holds(m.getName() + " is of the object", !Modifier.isStatic(m.getModifiers()));
            } else {
                privateNames.add(m.getName());
                Due.holds(m.getName() + " is private", Modifier.isPrivate(m.getModifiers()));
            }
        }
        Collections.sort(found);
        List<String> due = new ArrayList<>(Arrays.asList(FACE));
        Collections.sort(due);
        Due.holds("methods are " + found, found.equals(due));
        privateNames.retainAll(publicNames);
        Due.holds("no private method is named as a public one: " + privateNames, privateNames.isEmpty());
        Constructor<?>[] makers = TwoReels.class.getDeclaredConstructors();
        Due.is("constructors", makers.length, 1);
        Due.holds("the constructor is public, without parameters",
            Modifier.isPublic(makers[0].getModifiers()) && makers[0].getParameterCount() == 0);
        Due.holds("class is public and final", Modifier.isPublic(TwoReels.class.getModifiers())
            && Modifier.isFinal(TwoReels.class.getModifiers()));
    }

    private static String told(Method m) {
        List<String> types = new ArrayList<>();
        for (Class<?> c : m.getParameterTypes()) types.add(c.getName());
        return m.getReturnType().getName() + " " + m.getName() + "(" + String.join(",", types) + ")";
    }

    private static void constants() {
        Due.topic("constants");
        Due.is("BAD", TwoReels.BAD, -1);
        Due.is("STATE", TwoReels.STATE, -2);
        Due.is("FULL", TwoReels.FULL, -3);
        Due.is("NONE", TwoReels.NONE, -4);
        TreeSet<String> open = new TreeSet<>();
        for (Field f : TwoReels.class.getDeclaredFields()) {
            if (!Modifier.isPrivate(f.getModifiers()) && !f.isSynthetic()) open.add(f.getName());
        }
        Due.holds("open fields are the constants alone: " + open,
            open.equals(new TreeSet<>(List.of("BAD", "STATE", "FULL", "NONE"))));
    }

    private static void nested() {
        Due.topic("classes inside");
        List<Class<?>> all = new ArrayList<>(List.of(TwoReels.class.getDeclaredClasses()));
        Due.holds("some twelve classes at most", all.size() <= 11);
        for (Class<?> c : all) {
            Due.holds(c.getName() + " is static", Modifier.isStatic(c.getModifiers()));
            Due.holds(c.getName() + " is no public one", !Modifier.isPublic(c.getModifiers()));
        }
        all.add(TwoReels.class);
        for (Class<?> c : all) {
            int own = 0;
            for (Field f : c.getDeclaredFields()) {
                boolean isStatic = Modifier.isStatic(f.getModifiers());
                if (isStatic) Due.holds(f + " is final", Modifier.isFinal(f.getModifiers()));
                else own++;
            }
            Due.holds(c.getName() + " has some twenty fields at most", own <= 20);
            for (Method m : c.getDeclaredMethods()) {
                Due.holds(m + " has seven parameters at most", m.getParameterCount() <= 7);
            }
        }
    }

    private static void source() throws Exception {
        Due.topic("source");
        String source = Files.readString(Path.of("src/main/java/TwoReels.java"));
        String code = source.replaceAll("(?s)/\\*.*?\\*/", "").replaceAll("//[^\\n]*", "");
        for (char c : source.toCharArray()) {
            if (c > 126) Due.holds("a sign beyond 126 in the source", false);
        }
        methodsAreShort(code);
    }

    private static void methodsAreShort(String code) {
        int lines = 0;
        for (String line : code.split("\n")) {
            boolean isStart = line.matches("( {4}| {8})(public |private |static )*[\\w\\[\\]<>]+ \\w+\\(.*\\{");
            lines = isStart ? 0 : lines + 1;
            if (line.matches("( {4}| {8})\\}")) Due.holds("a method of " + lines + " lines", lines <= 60);
        }
    }
}
