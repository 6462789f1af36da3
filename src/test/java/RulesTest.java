import java.io.IOException;
import java.lang.management.ManagementFactory;
import java.lang.reflect.Constructor;
import java.lang.reflect.Field;
import java.lang.reflect.Member;
import java.lang.reflect.Method;
import java.lang.reflect.Modifier;
import java.nio.file.Files;
import java.nio.file.Path;
import java.util.ArrayList;
import java.util.Arrays;
import java.util.List;
import java.util.Map;
import java.util.Set;
import java.util.TreeMap;
import java.util.TreeSet;
import java.util.regex.Matcher;
import java.util.regex.Pattern;

/** That the class has the document's face, keeps to what of LANGUAGE.md a program can see, and makes next to nothing in a run. */
public final class RulesTest {
    /** With those that make the city, and two calls at a time, an object's 512 calls. */
    private static final int DEAR = 247;
    private static final String[] FACE = {
        "int letters(long)", "int blank()", "int fault()", "int contracts()", "int about(int,int)", "int as(int,int)",
        "int paid(int,boolean)", "int tenths(int,int)", "int lock(int,int)", "int dog(int,boolean)", "int spoon(int,int)",
        "int silver(int,int)", "int worth(int)", "int month()", "int where(int,int)", "long chance(int,int,int,int)",
        "int whom(int,int,int)", "int still()", "int seen(int,int)", "int who()", "int owes(int,int)", "int fewest()",
        "int months(int,int,int)", "int image()", "int restore()", "int count(int)", "long digest()"};
    private static final String[] WORDS_OUT = {
        "throw", "throws", "try", "catch", "finally", "synchronized", "assert", "import", "package", "volatile", "native",
        "System", "Object", "equals", "hashCode", "toString", "Exception", "Override"};
    private static final String[] SIGNS_OUT = {"->", "::", "@", "static {"};

    public static void main(String[] args) throws IOException {
        face();
        members();
        source(Files.readString(Path.of(System.getProperty("thieves.source", "src/main/java/ThievesPaid.java"))));
        room();
        Check.finish();
    }

    private static void face() {
        Set<String> has = new TreeSet<>(), names = new TreeSet<>();
        for (Method m : ThievesPaid.class.getDeclaredMethods()) {
            if (Modifier.isPublic(m.getModifiers())) {
                List<String> types = new ArrayList<>();
                Arrays.stream(m.getParameterTypes()).forEach(t -> types.add(t.getName()));
                has.add(m.getReturnType() + " " + m.getName() + "(" + String.join(",", types) + ")");
                names.add(m.getName());
            }
        }
        Check.holds("the public methods are the document's: " + has, has.equals(new TreeSet<>(Arrays.asList(FACE))));
        Set<String> constants = new TreeSet<>();
        for (Field f : ThievesPaid.class.getDeclaredFields()) {
            if (!Modifier.isPrivate(f.getModifiers())) {
                constants.add(Modifier.toString(f.getModifiers()) + " " + f.getType() + " " + f.getName());
            }
        }
        Check.due("constants " + constants, constants.size(), 5);
        for (String name : new String[] {"NONE", "UNKNOWN", "OUTSIDE", "STATE", "FULL"}) {
            Check.holds(name, constants.contains("public static final int " + name));
        }
        Check.due("the class", ThievesPaid.class.getModifiers(), Modifier.PUBLIC | Modifier.FINAL);
        Constructor<?>[] constructors = ThievesPaid.class.getDeclaredConstructors();
        Check.holds("one public constructor", constructors.length == 1 && Modifier.isPublic(constructors[0].getModifiers())
            && constructors[0].getParameterCount() == 0);
        for (Class<?> c : ThievesPaid.class.getDeclaredClasses()) {
            for (Method m : c.getDeclaredMethods()) {
                Check.holds(m + " bears no public name", !names.contains(m.getName()));
            }
        }
    }

    private static void members() {
        Set<String> names = new TreeSet<>();
        for (Method m : ThievesPaid.class.getDeclaredMethods()) {
            if (Modifier.isPublic(m.getModifiers())) {
                names.add(m.getName());
            } else {
                Check.holds(m + " is private", Modifier.isPrivate(m.getModifiers()));
            }
        }
        for (Method m : ThievesPaid.class.getDeclaredMethods()) {
            Check.holds(m + " bears no public name", Modifier.isPublic(m.getModifiers()) || !names.contains(m.getName()));
            Check.holds(m + " has few parameters", m.getParameterCount() <= 7);
        }
        Class<?>[] inside = ThievesPaid.class.getDeclaredClasses();
        Check.holds("some twelve classes", inside.length <= 11);
        for (Class<?> c : inside) {
            Check.holds(c + " is static", Modifier.isStatic(c.getModifiers()));
            Check.holds(c + " is not public", !Modifier.isPublic(c.getModifiers()) && !Modifier.isProtected(c.getModifiers()));
            fewFields(c);
        }
        fewFields(ThievesPaid.class);
    }

    private static void fewFields(Class<?> c) {
        int own = 0;
        for (Field f : c.getDeclaredFields()) {
            own += isStatic(f) ? 0 : 1;
            Check.holds(f + " is final, if static", !isStatic(f) || Modifier.isFinal(f.getModifiers()));
        }
        Check.holds(c + " has some twenty fields", own <= 20);
    }

    private static boolean isStatic(Member m) {
        return Modifier.isStatic(m.getModifiers());
    }

    private static void source(String whole) {
        String code = whole.replaceAll("(?s)/\\*.*?\\*/", "").replaceAll("//[^\\n]*", "").replaceAll("'[^'\\n]+'", "0");
        Set<String> words = new TreeSet<>(Arrays.asList(code.split("[^A-Za-z0-9_]+")));
        for (String word : WORDS_OUT) {
            Check.holds("no word " + word, !words.contains(word));
        }
        for (String sign : SIGNS_OUT) {
            Check.holds("no sign " + sign, !code.contains(sign));
        }
        Check.holds("no texts", code.indexOf('"') < 0);
        Check.holds("signs 1 to 127", whole.chars().allMatch(c -> c >= 1 && c <= 127));
        // Of the library only these names are followed by a dot and a call.
        Matcher calls = Pattern.compile("\\b([A-Z][A-Za-z]+)\\.([a-z][A-Za-z]*)\\(").matcher(code);
        while (calls.find()) {
            String call = calls.group(1) + "." + calls.group(2);
            Check.holds("library: " + call, Set.of("Math.max", "Integer.bitCount", "Integer.numberOfTrailingZeros").contains(call));
        }
        shortMethods(whole);
        shallowCalls(code);
    }

    /** Methods of one name count as one, so that a call of a kind's method is as deep as its deepest. */
    private static void shallowCalls(String code) {
        Map<String, Set<String>> calls = new TreeMap<>();
        String method = null;
        for (String line : code.split("\n")) {
            Matcher head = Pattern.compile(" {4}(?: {4})?(?!if|for|while|switch)[a-zA-Z].*?(\\w+)\\(.*\\) \\{").matcher(line);
            if (head.matches()) {
                method = head.group(1);
                calls.putIfAbsent(method, new TreeSet<>());
            } else if (method != null) {
                Matcher call = Pattern.compile("(\\w+)\\(").matcher(line);
                while (call.find()) {
                    calls.get(method).add(call.group(1));
                }
            }
        }
        Check.holds("methods were found", calls.keySet().containsAll(Set.of("digest", "monthWithout", "likesBetter", "takesFee")));
        for (String name : calls.keySet()) {
            int deep = depth(calls, name, 0);
            Check.holds(name + " goes at most eight calls deep: " + deep, deep <= 8);
        }
    }

    private static int depth(Map<String, Set<String>> calls, String name, int above) {
        int deepest = 0;
        // Beyond nine it is too deep in any case, and a method that calls itself has no end.
        for (String called : above > 9 ? Set.<String>of() : calls.getOrDefault(name, Set.of())) {
            boolean isKeyword = Set.of("if", "for", "while", "switch", "super", "return").contains(called);
            deepest = Math.max(deepest, isKeyword ? 0 : depth(calls, called, above + 1));
        }
        return deepest + 1;
    }

    private static void shortMethods(String whole) {
        String[] lines = whole.split("\n");
        for (int i = 0; i < lines.length; i++) {
            if (lines[i].matches(" {4}( {4})?[a-zA-Z].*\\) \\{")) {
                String indent = lines[i].replaceAll("\\S.*", "");
                int end = i;
                while (end < lines.length - 1 && !lines[end].equals(indent + "}")) {
                    end++;
                }
                Check.holds("some sixty lines: " + lines[i].trim(), end - i <= 60);
            }
        }
    }

    /** A run has room for 600,000 objects and 7.3 million fields; the dearest calls must stay far below. */
    private static void room() {
        if (!(ManagementFactory.getThreadMXBean() instanceof com.sun.management.ThreadMXBean threads)) {
            System.out.println("this machine does not tell what a thread makes");
            return;
        }
        long id = Thread.currentThread().getId();
        long text = Check.codes("s015");
        String[] names = {"whom", "digest", "chance", "months", "where", "still", "who", "fewest", "image", "contracts"};
        for (int which = 0; which < names.length; which++) {
            ThievesPaid x = fullCity();
            dear(x, which, text);
            long before = threads.getThreadAllocatedBytes(id);
            for (int i = 0; i < DEAR; i++) {
                dear(x, which, text);
            }
            long made = threads.getThreadAllocatedBytes(id) - before;
            Check.holds(names[which] + " " + DEAR + " times makes little: " + made, made < DEAR * 8 * 64);
        }
    }

    private static ThievesPaid fullCity() {
        ThievesPaid x = Check.city("010,021,032,043,054,065,076,s017");
        for (int s = 0; s < 8; s++) {
            x.spoon(s, 9 + s);
        }
        return x;
    }

    private static void dear(ThievesPaid x, int which, long text) {
        switch (which) {
            case 0: x.whom(0, 12, 0); break;
            case 1: x.digest(); break;
            case 2: x.chance(0, 2, 0, 0); break;
            case 3: x.months(60, 1, 0); break;
            case 4: x.where(0, 60); break;
            case 5: x.still(); break;
            case 6: x.who(); break;
            case 7: x.fewest(); break;
            case 8: x.image(); x.restore(); break;
            default: x.letters(text); x.contracts(); break;
        }
    }
}
