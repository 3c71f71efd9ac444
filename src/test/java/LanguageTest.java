import java.io.IOException;
import java.lang.management.ManagementFactory;
import java.lang.reflect.Constructor;
import java.lang.reflect.Field;
import java.lang.reflect.Method;
import java.lang.reflect.Modifier;
import java.nio.file.Files;
import java.nio.file.Path;
import java.util.Arrays;
import java.util.List;
import java.util.Set;
import java.util.TreeSet;
import java.util.regex.Matcher;
import java.util.regex.Pattern;

/** The face of the class, the rules of LANGUAGE.md that can be looked at, and the room that calls take. */
public final class LanguageTest {
    private static final String[] FACE = {
        "int setUp(int, boolean)", "int setSecond(int)", "int prepare(int)", "int promise(int, int)",
        "int propose(int, int, int)", "int vote(int, int, int)", "int trim(int)", "int type(char)", "int clearText()",
        "int perform()", "int refusal(int)", "int undo()", "int keep()", "int restore()", "int acceptor(int, int)",
        "int voted(int, int, int)", "int proposer(int, int)", "int proposed(int, int, int)", "int slot(int, int)",
        "int could(int, int)", "int witness(int, int, int, int)", "int count(int)"};
    private static final Set<String> CONSTANTS = Set.of("UNKNOWN", "BAD_VALUE", "FULL", "NOT_POSSIBLE", "NONE");
    private static final String[] NOT_ALLOWED = {"\\bthrow", "\\btry\\b", "\\bcatch\\b", "\\bfinally\\b",
        "\\bimport\\b", "\\bpackage\\b", "\\bsynchronized\\b", "\\bassert\\b", "->", "::", "\\bvolatile\\b",
        "static\\s*\\{", "\\bequals\\b", "\\bhashCode\\b", "\\btoString\\b",
        "\\bSystem\\.(?!arraycopy)", "\\bObject\\b",
        "\\bThread\\b", "\\bString\\[", "Exact\\b", "\\bprotected\\b", "\\[\\]\\["};

    public static void main(String[] args) throws IOException {
        Due due = new Due("the face and the language");
        face(due);
        classesInside(due);
        source(due, Files.readString(Path.of("src/main/java/AgreedSlots.java")));
        room(due);
        due.end();
    }

    private static String form(Method m) {
        StringBuilder form = new StringBuilder(m.getReturnType() + " " + m.getName() + "(");
        for (Class<?> type : m.getParameterTypes()) {
            form.append(form.charAt(form.length() - 1) == '(' ? "" : ", ").append(type);
        }
        return form.append(")").toString();
    }

    private static void face(Due due) {
        Class<?> c = AgreedSlots.class;
        due.holds("public and final", Modifier.isPublic(c.getModifiers()) && Modifier.isFinal(c.getModifiers()));
        Set<String> publicForms = new TreeSet<>();
        Set<String> publicNames = new TreeSet<>();
        Set<String> otherNames = new TreeSet<>();
        for (Method m : c.getDeclaredMethods()) {
            due.holds(m.getName() + " has at most seven parameters", m.getParameterCount() <= 7);
            if (Modifier.isPublic(m.getModifiers())) {
                due.holds(m.getName() + " is no static one", !Modifier.isStatic(m.getModifiers()));
                publicForms.add(form(m));
                publicNames.add(m.getName());
            } else {
                due.holds(m.getName() + " is private", Modifier.isPrivate(m.getModifiers()));
                otherNames.add(m.getName());
            }
        }
        due.holds("the methods of the face", publicForms.equals(new TreeSet<>(Arrays.asList(FACE))));
        for (Class<?> inside : c.getDeclaredClasses()) {
            for (Method m : inside.getDeclaredMethods()) {
                due.holds(m.getName() + " has at most seven parameters", m.getParameterCount() <= 7);
                otherNames.add(m.getName());
            }
        }
        otherNames.retainAll(publicNames);
        due.holds("no other method bears a public name: " + otherNames, otherNames.isEmpty());
        Constructor<?>[] constructors = c.getDeclaredConstructors();
        due.is("constructors", constructors.length, 1);
        due.is("parameters", constructors[0].getParameterCount(), 0);
        due.holds("a public one", Modifier.isPublic(constructors[0].getModifiers()));
    }

    private static void classesInside(Due due) {
        int publicFields = 0;
        for (Field f : AgreedSlots.class.getDeclaredFields()) {
            boolean constant = CONSTANTS.contains(f.getName());
            publicFields += constant ? 1 : 0;
            due.holds(f.getName() + " is seen as it should be",
                constant ? Modifier.isPublic(f.getModifiers()) : Modifier.isPrivate(f.getModifiers()));
            fieldIsAllowed(due, f);
        }
        due.is("constants", publicFields, 5);
        due.holds("at most twelve classes", AgreedSlots.class.getDeclaredClasses().length < 12);
        for (Class<?> inside : AgreedSlots.class.getDeclaredClasses()) {
            due.holds(inside + " is static and not public", Modifier.isStatic(inside.getModifiers())
                && !Modifier.isPublic(inside.getModifiers()));
            int fields = 0;
            for (Field f : inside.getDeclaredFields()) {
                fieldIsAllowed(due, f);
                fields += Modifier.isStatic(f.getModifiers()) ? 0 : 1;
            }
            due.holds(inside + " has at most twenty fields", fields <= 20);
        }
    }

    private static void fieldIsAllowed(Due due, Field f) {
        due.holds(f.getName() + " is final or of an object",
            !Modifier.isStatic(f.getModifiers()) || Modifier.isFinal(f.getModifiers()));
    }

    private static void source(Due due, String source) {
        due.holds("signs 1 to 127", source.chars().allMatch(c -> c == '\n' || c >= 32 && c < 127));
        String code = source.replaceAll("(?s)/\\*.*?\\*/", "").replaceAll("//[^\n]*", "");
        for (String rule : NOT_ALLOWED) {
            Matcher m = Pattern.compile(rule).matcher(code);
            due.holds("no " + rule, !m.find());
        }
        List<String> lines = code.lines().toList();
        loops(due, lines);
        String opens = "    (    )?(public|private|static|final|int|void|boolean|String).*\\) \\{";
        int begin = -1;
        for (int i = 0; i < lines.size(); i++) {
            if (lines.get(i).matches(opens)) {
                begin = i;
            }
            if (begin >= 0 && lines.get(i).matches(lines.get(begin).replaceAll("\\S.*", "") + "}")) {
                due.holds("at most sixty lines: " + lines.get(begin), i - begin < 60);
                begin = -1;
            }
        }
    }

    /** The end of a loop is seen from its own lines: its counter stands ahead of a bound, and is counted there. */
    private static void loops(Due due, List<String> lines) {
        Pattern head = Pattern.compile("( *)(?:while|for) \\((?:int \\w+ = [^;]*; )?(\\w+) <=? .*");
        for (int i = 0; i < lines.size(); i++) {
            Matcher m = head.matcher(lines.get(i));
            boolean loop = lines.get(i).matches(" *(while|for|do)\\b.*");
            due.holds("a counter and a bound: " + lines.get(i), !loop || m.matches());
            boolean counted = !loop;
            for (int j = i; loop && m.matches() && !lines.get(j).equals(m.group(1) + "}"); j++) {
                counted |= lines.get(j).contains(m.group(2) + "++");
            }
            due.holds("counted: " + lines.get(i), counted);
        }
    }

    /** Rows are made by the constructor and used again: no call makes an object. */
    private static void room(Due due) {
        calls(new AgreedSlots());
        AgreedSlots x = new AgreedSlots();
        var threads = (com.sun.management.ThreadMXBean) ManagementFactory.getThreadMXBean();
        long id = Thread.currentThread().getId();
        threads.getThreadAllocatedBytes(id);
        long before = threads.getThreadAllocatedBytes(id);
        calls(x);
        long bytes = threads.getThreadAllocatedBytes(id) - before;
        due.holds("bytes for 10000 calls: " + bytes, bytes < 10000);
    }

    private static void calls(AgreedSlots x) {
        for (int i = 0; i < 500; i++) {
            x.setUp(i % 6, i % 7 == 0);
            x.setSecond(i % 7);
            x.prepare(i % 3);
            x.promise(i % 3, i % 5);
            x.propose(i % 3, i % 17, i % 170);
            x.vote(i % 3, i % 17, i % 6);
            x.trim(i % 17);
            x.type("n0;y0,1;v0,1,7;a0,1,1;d1;".charAt(i % 25));
            x.perform();
            x.refusal(i % 3);
            x.undo();
            x.keep();
            x.restore();
            x.acceptor(i % 6, i % 3);
            x.voted(i % 6, i % 17, i % 2);
            x.proposer(i % 3, i % 4);
            x.proposed(i % 3, i % 17, i % 3);
            x.slot(i % 17, i % 6);
            x.could(i % 17, i);
            x.count(i % 11);
            if (i % 25 == 24) {
                x.clearText();
            }
        }
    }
}
