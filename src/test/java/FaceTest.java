import java.io.IOException;
import java.lang.reflect.Constructor;
import java.lang.reflect.Field;
import java.lang.reflect.Method;
import java.lang.reflect.Modifier;
import java.nio.file.Files;
import java.nio.file.Path;
import java.util.Set;
import java.util.TreeSet;
import java.util.regex.Matcher;
import java.util.regex.Pattern;

/** The document's public face, no more and no less, and words that LANGUAGE.md rules out. */
public final class FaceTest {
    private static final Due DUE = new Due("FaceTest");
    private static final String[] FACE = {
        "int stroke(int,int,int)", "int cut(int)", "int place(int,int)", "int spread()", "int strokeSpread(int)",
        "int clear()", "int stock(int,int,int,int)", "int share(int,int,int)", "int shareOf(int)", "int mix(int)",
        "int number()", "int aim(int,int)", "int rule(int,int)", "int hour(boolean)", "int read()", "int passed()",
        "int step(int,int,int)", "int start()", "int zone(int,int)", "int warmth(int,int)", "int out(int)",
        "int sum(int)", "int first()", "int silo(int,int)", "int bag(int,int)", "int lot(int,int)", "int day(int)",
        "int price(int,int,int)", "int tear(int)", "int copy(int,int,int,int,int)", "int need(int,int)",
        "int plan(int,int)", "long upper()", "long lower()", "long asked()", "int count(int)", "int finding()",
        "int findings(int)", "long digest()",
    };
    private static final String[] RULED_OUT = {
        "\\bthrow\\b", "\\btry\\b", "\\bcatch\\b", "\\bsynchronized\\b", "\\bassert\\b", "\\bprotected\\b", "->", "::",
        "Exact\\b", "\\bpackage\\b", "\\bRandom\\b", "\\bSystem\\.(?!arraycopy)", "\\bLong\\.M", "\\bInteger\\.M",
    };

    public static void main(String[] args) throws IOException {
        constants();
        membersAreTheFace();
        noPrivateMethodBearsAPublicName();
        sourceKeepsToTheLanguage();
        DUE.end();
    }

    private static void constants() {
        DUE.is("BAD", KilnLine.BAD, -1);
        DUE.is("FULL", KilnLine.FULL, -2);
        DUE.is("FINDING", KilnLine.FINDING, -3);
        DUE.is("STATE", KilnLine.STATE, -4);
        DUE.is("NONE", KilnLine.NONE, -9);
    }

    private static void membersAreTheFace() {
        Set<String> due = new TreeSet<>(Set.of(FACE));
        Set<String> there = new TreeSet<>();
        for (Method m : KilnLine.class.getDeclaredMethods()) {
            if (!Modifier.isPrivate(m.getModifiers())) {
                DUE.holds(m + " is public and of the object", m.getModifiers() == Modifier.PUBLIC);
                there.add(signature(m));
            }
        }
        DUE.holds("the methods " + there + " are the face " + due, there.equals(due));
        Set<String> fields = new TreeSet<>();
        for (Field f : KilnLine.class.getDeclaredFields()) {
            if (!Modifier.isPrivate(f.getModifiers())) {
                fields.add(f.getName());
            }
            DUE.holds(f + " is final if it is static", !Modifier.isStatic(f.getModifiers()) || Modifier.isFinal(f.getModifiers()));
        }
        DUE.holds("fields " + fields, fields.equals(Set.of("BAD", "FULL", "FINDING", "STATE", "NONE")));
        Constructor<?>[] constructors = KilnLine.class.getDeclaredConstructors();
        DUE.is("constructors", constructors.length, 1);
        DUE.is("parameters of it", constructors[0].getParameterCount(), 0);
        DUE.holds("the class is final", Modifier.isFinal(KilnLine.class.getModifiers()));
        for (Class<?> inside : KilnLine.class.getDeclaredClasses()) {
            DUE.holds(inside + " is static", Modifier.isStatic(inside.getModifiers()));
        }
    }

    private static String signature(Method m) {
        StringBuilder text = new StringBuilder();
        for (Class<?> type : m.getParameterTypes()) {
            text.append(text.length() == 0 ? "" : ",").append(type.getName());
        }
        return m.getReturnType().getName() + " " + m.getName() + "(" + text + ")";
    }

    private static void noPrivateMethodBearsAPublicName() {
        Set<String> names = new TreeSet<>();
        for (String call : FACE) {
            names.add(call.substring(call.indexOf(' ') + 1, call.indexOf('(')));
        }
        noneOf(names, KilnLine.class);
        for (Class<?> inside : KilnLine.class.getDeclaredClasses()) {
            noneOf(names, inside);
        }
    }

    private static void noneOf(Set<String> names, Class<?> of) {
        for (Method m : of.getDeclaredMethods()) {
            if (!Modifier.isPublic(m.getModifiers())) {
                DUE.holds(m + " bears no name of the face", !names.contains(m.getName()));
            }
        }
    }

    private static void sourceKeepsToTheLanguage() throws IOException {
        String source = Files.readString(Path.of("src/main/java/KilnLine.java"));
        DUE.holds("characters up to 127", source.chars().allMatch(c -> c < 128));
        String code = source.replaceAll("(?s)/\\*.*?\\*/", " ").replaceAll("//[^\n]*", " ");
        for (String word : RULED_OUT) {
            Matcher found = Pattern.compile(word).matcher(code);
            DUE.holds("no " + word, !found.find());
        }
        Matcher imports = Pattern.compile("import ([^;]+);").matcher(code);
        while (imports.find()) {
            DUE.holds("import " + imports.group(1), imports.group(1).matches("java\\.util\\.(Arrays|ArrayList|List)"));
        }
    }
}
