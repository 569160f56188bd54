import com.sun.management.ThreadMXBean;
import java.lang.management.ManagementFactory;
import java.lang.reflect.Field;
import java.lang.reflect.Member;
import java.lang.reflect.Method;
import java.lang.reflect.Modifier;
import java.nio.file.Files;
import java.nio.file.Path;
import java.util.ArrayList;
import java.util.List;
import java.util.Set;
import java.util.TreeSet;
import java.util.regex.Matcher;
import java.util.regex.Pattern;

/** The rules of LANGUAGE.md that can be seen from the class and its text. */
public final class LanguageTest {
    private static final String FACE = "feed end text fault rule one trip asked deposit give draw rumour law teach go "
        + "ahead first modest plan best save run holds cover rate gift told whisper note forget fits drift keep back "
        + "sheet lay read torn count";
    private static final String[] FORBIDDEN = {
        "\\bthrow\\b", "\\btry\\b", "\\bcatch\\b", "\\bsynchronized\\b", "\\bassert\\b", "->", "::", "Exact\\b",
        "\\bObject\\b", "\\bSystem\\.(?!arraycopy)", "\\bMath\\.random", "\\bpackage\\b", "\\bstatic \\{", "\\bvar\\b",
        "\\bThread\\b", "import (?!java\\.util\\.(Arrays|ArrayList|List|Iterator);)"
    };
    private static final Checks c = new Checks();

    public static void main(String[] args) throws Exception {
        c.at("LANGUAGE.md");
        String source = Files.readString(Path.of("src/main/java/BlushBank.java"));
        face();
        nested();
        words(source);
        lengths(source);
        makesNothing();
        c.finish();
    }

    private static void face() {
        Set<String> want = new TreeSet<>(List.of(FACE.split(" ")));
        Set<String> has = new TreeSet<>();
        for (Method m : BlushBank.class.getDeclaredMethods()) {
            if (Modifier.isPublic(m.getModifiers())) {
                has.add(m.getName());
            } else {
                hidden(m);
                c.holds("rule 1: private " + m.getName() + " bears a public name", !want.contains(m.getName()));
            }
        }
        c.holds("rule 1: the face is " + has, has.equals(want));
        c.holds("rule 1: final", Modifier.isFinal(BlushBank.class.getModifiers()));
        c.holds("rule 1: one constructor", BlushBank.class.getDeclaredConstructors().length == 1);
        Set<String> constants = Set.of("BAD", "STATE", "FULL", "NONE");
        for (Field f : BlushBank.class.getDeclaredFields()) {
            if (!constants.contains(f.getName())) {
                hidden(f);
            }
        }
    }

    private static void hidden(Member m) {
        c.holds("rule 1: " + m.getName() + " is not private", Modifier.isPrivate(m.getModifiers()));
    }

    private static void nested() {
        Class<?>[] inside = BlushBank.class.getDeclaredClasses();
        c.holds("rule 11: classes", inside.length <= 11);
        for (Class<?> k : inside) {
            c.holds("rule 2: " + k + " is not static", Modifier.isStatic(k.getModifiers()));
            int fields = 0;
            for (Field f : k.getDeclaredFields()) {
                boolean isStatic = Modifier.isStatic(f.getModifiers());
                c.holds("rule 5: " + f + " is not final", !isStatic || Modifier.isFinal(f.getModifiers()));
                fields += isStatic ? 0 : 1;
            }
            c.holds("rule 11: fields of " + k, fields <= 20);
            for (Method m : k.getDeclaredMethods()) {
                c.holds("rule 11: parameters of " + m, m.getParameterCount() <= 7);
                c.holds("rule 1: " + m + " bears a name of the face", !List.of(FACE.split(" ")).contains(m.getName()));
            }
        }
    }

    private static void words(String source) {
        String code = source.replaceAll("(?s)/\\*.*?\\*/", "").replaceAll("//[^\n]*", "");
        for (String word : FORBIDDEN) {
            Matcher m = Pattern.compile(word).matcher(code);
            c.holds("forbidden: " + word, !m.find());
        }
        for (int i = 0; i < source.length(); i++) {
            char s = source.charAt(i);
            if (s != '\n' && (s < 32 || s > 126)) {
                c.holds("a sign that is not plain at " + i, false);
            }
        }
    }

    private static void lengths(String source) {
        List<String> lines = new ArrayList<>(List.of(source.split("\n", -1)));
        Pattern head = Pattern.compile("^( {4}| {8})(?!(private )?static final class)\\S[^;=]*\\) \\{$");
        for (int i = 0; i < lines.size(); i++) {
            Matcher m = head.matcher(lines.get(i));
            if (m.find()) {
                int end = lines.subList(i, lines.size()).indexOf(m.group(1) + "}");
                c.holds("rule 11: the method at line " + (i + 1) + " has " + end + " lines", end > 0 && end <= 60);
            }
        }
    }

    /** All calls of a run live in one room, so what is asked ten thousand times may make nothing. */
    private static void makesNothing() {
        ThreadMXBean room = (ThreadMXBean) ManagementFactory.getThreadMXBean();
        byte[] text = "plain 4;bride 2;trip 0 0 9 6;trip 1 8 3 3;asked 0 4 15;cover 14;".getBytes();
        BlushBank bank = new BlushBank();
        // What the machine itself makes when it meets a line for the first time is not the class's.
        everyCall(new BlushBank(), text);
        long before = room.getCurrentThreadAllocatedBytes();
        everyCall(bank, text);
        long after = room.getCurrentThreadAllocatedBytes();
        c.holds("rule 12: calls made " + (after - before) + " bytes", after == before);
    }

    private static void everyCall(BlushBank x, byte[] text) {
        for (int i = 0; i < text.length; i++) {
            x.feed(text[i]);
        }
        x.end(text.length);
        x.text();
        x.fault();
        x.deposit(0, true);
        x.give(0, 1, 1);
        x.rumour(1);
        x.law(0, 3);
        x.teach(0, 3);
        x.note(0, 4, true);
        x.keep(0);
        x.go(2);
        x.draw(0, 1);
        x.sheet(0, 1, 40);
        x.lay(0, 1, 2);
        x.read(0, 1, 0, 20);
        x.torn();
        for (int what = 0; what < 7; what++) {
            everyQuestion(x, what);
        }
        x.forget(0);
        x.back(0);
    }

    private static void everyQuestion(BlushBank x, int what) {
        x.rule(what);
        x.one(0, what);
        x.trip(0, what);
        x.asked(0, what);
        x.ahead(0, 20, what);
        x.first(what);
        x.modest();
        x.plan(what);
        x.best(what);
        x.save(what);
        x.run(what);
        x.holds();
        x.cover(20);
        x.rate(20);
        x.gift(9, what);
        x.told(0, what);
        x.whisper(what);
        x.fits(what);
        x.drift(7, 20, what);
        x.count(what);
    }
}
