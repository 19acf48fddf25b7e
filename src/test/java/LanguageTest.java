import java.io.IOException;
import java.lang.management.ManagementFactory;
import java.lang.reflect.Constructor;
import java.lang.reflect.Field;
import java.lang.reflect.Method;
import java.lang.reflect.Modifier;
import java.nio.file.Files;
import java.nio.file.Path;
import java.util.ArrayList;
import java.util.Arrays;
import java.util.List;
import java.util.Set;
import java.util.TreeSet;
import java.util.regex.Matcher;
import java.util.regex.Pattern;

/** What can be seen of LANGUAGE.md and of the document's face, in the source and in the compiled class. */
public final class LanguageTest {
    private static final Checks CHECKS = new Checks();
    private static final Path SOURCE = Path.of("src/main/java/PondIceTrade.java");
    private static final Path DOCUMENT = Path.of("../shared/DOC.md");
    private static final String[] FACE = {"feed(int,int,int,int,int)", "end(int)", "trade()", "rule()", "force(int)",
        "ship(int,int)", "town(int,int)", "month()", "sail(int,int,int,boolean)", "teach(int,int)", "build(int)",
        "ask(int,int)", "undo()", "ahead(int,int,int)", "comes(int,int,boolean)", "load(int,int,boolean)",
        "send(int,int,int)", "fleet(int,int)", "give(int,int,int)", "site(int,int)", "pricing(int,int,int)",
        "war(int,int)", "out()", "hatch(int,int,boolean,int)", "note(int,int)", "ruled(int)", "look(int)", "seed(int)",
        "years(int,int,int)", "count(int)", "image(int)", "back(int)"};

    public static void main(String[] args) throws IOException {
        document();
        face();
        for (Class<?> inner : PondIceTrade.class.getDeclaredClasses()) {
            nested(inner);
        }
        String code = Files.readString(SOURCE).replaceAll("(?s)/\\*.*?\\*/", "").replaceAll("//[^\n]*", "");
        words(code);
        lengths(code);
        room();
        CHECKS.close();
    }

    private static void holds(String rule, boolean so) {
        CHECKS.due(rule, so ? 1 : 0, 1);
    }

    /** The face that is written out above is the document's, in its order. */
    private static void document() throws IOException {
        Matcher method = Pattern.compile("public int (\\w+)\\(([^)]*)\\);").matcher(Files.readString(DOCUMENT));
        List<String> told = new ArrayList<>();
        while (method.find()) {
            told.add(method.group(1) + "(" + method.group(2).replaceAll(" \\w+(, |$)", ",").replaceAll(",$", "") + ")");
        }
        holds("the document's methods: " + told, told.equals(List.of(FACE)));
    }

    private static void face() {
        Class<?> face = PondIceTrade.class;
        holds("public and final", Modifier.isPublic(face.getModifiers()) && Modifier.isFinal(face.getModifiers()));
        Set<String> open = new TreeSet<>();
        Set<String> names = new TreeSet<>();
        for (String method : FACE) {
            names.add(method.substring(0, method.indexOf('(')));
        }
        for (Method method : face.getDeclaredMethods()) {
            if (Modifier.isPrivate(method.getModifiers())) {
                holds("no private " + method.getName(), !names.contains(method.getName()));
            } else {
                holds(method + " answers int", method.getReturnType() == int.class && Modifier.isPublic(method.getModifiers()));
                String parts = Arrays.toString(method.getParameterTypes()).replaceAll("[\\[\\] ]", "");
                open.add(method.getName() + "(" + parts + ")");
            }
        }
        holds("the methods of the face: " + open, open.equals(new TreeSet<>(List.of(FACE))));
        for (Field field : face.getDeclaredFields()) {
            holds(field + " is private or NONE", Modifier.isPrivate(field.getModifiers()) || field.getName().equals("NONE"));
        }
        constant();
        Constructor<?>[] made = face.getDeclaredConstructors();
        holds("one public constructor", made.length == 1 && Modifier.isPublic(made[0].getModifiers())
                && made[0].getParameterCount() == 0);
        holds("some twelve classes", face.getDeclaredClasses().length <= 11);
    }

    private static void constant() {
        try {
            Field none = PondIceTrade.class.getField("NONE");
            int open = Modifier.PUBLIC | Modifier.STATIC | Modifier.FINAL;
            holds("NONE is a public static final int", none.getModifiers() == open && none.getType() == int.class);
        } catch (NoSuchFieldException missing) {
            holds("NONE is there", false);
        }
        CHECKS.due("NONE", PondIceTrade.NONE, -1);
    }

    private static void nested(Class<?> inner) {
        holds(inner + " is static", Modifier.isStatic(inner.getModifiers()));
        holds(inner + " is not public", !Modifier.isPublic(inner.getModifiers()) && !Modifier.isProtected(inner.getModifiers()));
        int fields = 0;
        for (Field field : inner.getDeclaredFields()) {
            if (!Modifier.isStatic(field.getModifiers())) {
                fields++;
            } else {
                holds(field + " is final", Modifier.isFinal(field.getModifiers()));
            }
        }
        holds(inner + " has some twenty fields", fields <= 20);
        for (Method method : inner.getDeclaredMethods()) {
            holds(method + " takes seven at most", method.getParameterCount() <= 7);
        }
    }

    private static void words(String code) {
        for (String word : new String[] {"throw", "try", "catch", "synchronized", "assert", "import", "package", "double",
            "float", "Object", "equals", "hashCode", "toString", "ordinal", "name", "System.out", "Random", "Thread", "var"}) {
            holds("no " + word, !Pattern.compile("\\b" + Pattern.quote(word) + "\\b").matcher(code).find());
        }
        for (String sign : new String[] {"->", "::", "Exact", "@"}) {
            holds("no " + sign, !code.contains(sign));
        }
        Matcher joined = Pattern.compile("\"[^\"]*\"\\s*\\+|\\+\\s*\"").matcher(code);
        holds("no texts joined by +", !joined.find());
    }

    /** A method begins at a line that ends in a brace behind a parenthesis and is indented as members are. */
    private static void lengths(String code) {
        List<String> lines = new ArrayList<>(Arrays.asList(code.split("\n")));
        Pattern opening = Pattern.compile("^( {4}| {8})(?! )[^=]*\\([^;]*$");
        for (int i = 0; i < lines.size(); i++) {
            Matcher matcher = opening.matcher(lines.get(i));
            if (matcher.find()) {
                String close = matcher.group(1) + "}";
                int to = i;
                while (to < lines.size() && !lines.get(to).equals(close)) {
                    to++;
                }
                holds(lines.get(i).trim() + " is some sixty lines long", to - i <= 60);
            }
        }
    }

    /** All calls of a run live in one room: so no call leaves anything there. */
    private static void room() {
        PondIceTrade t = Checks.told("trade 500 1 100;frost 0 20;ship 50 10;ship 30 5;town 2 20 10 9;town 1 40 8 5;house 0",
                "sail want * 2 - coming if [not stock > 3 or pond > 1]; sail 3");
        com.sun.management.ThreadMXBean counter = (com.sun.management.ThreadMXBean) ManagementFactory.getThreadMXBean();
        long thread = Thread.currentThread().getId();
        long least = Long.MAX_VALUE;
        int sum = 0;
        // The first rounds load classes, and the machine may put something of its own into any one of them.
        for (int round = 0; round < 60; round++) {
            long before = counter.getThreadAllocatedBytes(thread);
            sum += everyCall(t);
            least = Math.min(least, counter.getThreadAllocatedBytes(thread) - before);
        }
        holds("no call makes an object: " + least + " bytes", least == 0 && sum != 0);
    }

    private static int everyCall(PondIceTrade t) {
        int sum = t.sail(0, 0, 3, true) + t.month() + t.sail(1, 1, 2, false) + t.month() + t.teach(0, 1) + t.build(1)
                + t.ask(1, 7) + t.undo() + t.ahead(0, 9, 0) + t.comes(0, 99, true) + t.load(0, 9, false) + t.send(0, 3, 0)
                + t.fleet(4, 0) + t.give(0, 2, 0) + t.site(5, 1) + t.pricing(0, 3, 1) + t.war(0, 0) + t.out()
                + t.hatch(0, 4, true, 1) + t.note(3, 500) + t.ruled(0) + t.look(0) + t.seed(4) + t.years(2, 9, 0)
                + t.count(0) + t.image(1) + t.back(1) + t.force(0) + t.ship(0, 0) + t.town(0, 0);
        t.feed(0x7361696c, 0x20312069, 0x66203c00, 0, 0);
        sum += t.rule() + t.end(0);
        t.feed(0x74726164, 0x65203120, 0x32203300, 0, 0);
        return sum + t.trade() + t.end(0);
    }
}
