import java.lang.management.ManagementFactory;
import java.lang.reflect.Constructor;
import java.lang.reflect.Field;
import java.lang.reflect.Method;
import java.lang.reflect.Modifier;
import java.nio.charset.StandardCharsets;
import java.nio.file.Files;
import java.nio.file.Path;
import java.util.ArrayList;
import java.util.Arrays;
import java.util.List;
import java.util.Set;
import java.util.TreeSet;
import java.util.regex.Matcher;
import java.util.regex.Pattern;

/** The rules of LANGUAGE.md, as far as reflection, the source's text and the heap show them. */
public final class LanguageRules {
    private static final String[] FACE = {
        "int feed(int,int,int,int,int)", "boolean end(int)", "int fault(int)", "int text(int)", "int person(int,int)",
        "int deed(int,int)", "int vow(int,int)", "int eye(int,int)", "int row(int,int)", "boolean taste(int)",
        "boolean tempted(int)", "int broken(int,int)", "int fares(int)", "int lives(int,int)", "int change(int,int,int)",
        "int swear(int,int,int)", "boolean pardon(int)", "int amnesty()", "int days(int)", "int decades(int,long)",
        "int undo()", "int log(int,int)", "int can(int,int,int)", "int strike(int,int)", "int together(int,int,int)",
        "int joy(int,int)", "int best(int,int,int)", "int cost(int,int)", "int sentence(int,int,int,int)",
        "int loopholes(int,int,int,int)", "int harm(int)", "int safe(int)", "int cover(int)", "int bold(int,int,int)",
        "int fails(int,int)", "int length(int)", "int see(int,int)", "int promised(int,int)", "int tells(int,int)",
        "int tempting(int)", "int huts(int)", "int easy()", "int left(int)", "int image()", "int back()",
        "int count(int)"};

    private LanguageRules() {
    }

    private static void rule(String what, boolean holds) {
        Check.due(what, holds, true);
    }

    private static String told(Method m) {
        StringBuilder b = new StringBuilder(m.getReturnType() + " " + m.getName() + "(");
        for (int i = 0; i < m.getParameterCount(); i++) {
            b.append(i == 0 ? "" : ",").append(m.getParameterTypes()[i]);
        }
        return b.append(")").toString();
    }

    private static Set<String> face() {
        Class<?> c = SwornDays.class;
        rule("rule 1: the class is public and final",
            Modifier.isPublic(c.getModifiers()) && Modifier.isFinal(c.getModifiers()));
        Set<String> publics = new TreeSet<>();
        Set<String> names = new TreeSet<>();
        for (Method m : c.getDeclaredMethods()) {
            if (Modifier.isPublic(m.getModifiers())) {
                publics.add(told(m));
                names.add(m.getName());
            } else if (!m.isSynthetic()) {
                rule("rule 1: " + m + " is private", Modifier.isPrivate(m.getModifiers()));
            }
        }
        Check.due("rule 1: the face is the document's", publics.equals(new TreeSet<>(Arrays.asList(FACE))), true);
        Constructor<?>[] constructors = c.getDeclaredConstructors();
        rule("rule 1: one public constructor without parameters", constructors.length == 1
            && constructors[0].getParameterCount() == 0 && Modifier.isPublic(constructors[0].getModifiers()));
        Set<String> constants = new TreeSet<>();
        for (Field f : c.getDeclaredFields()) {
            if (Modifier.isPublic(f.getModifiers())) {
                constants.add(f.getName());
            } else {
                rule("rule 1: " + f + " is private", Modifier.isPrivate(f.getModifiers()));
            }
        }
        rule("rule 1: the constants", constants.equals(Set.of("NONE", "HIDDEN")));
        return names;
    }

    private static void classes(Set<String> publicNames) {
        List<Class<?>> all = new ArrayList<>(Arrays.asList(SwornDays.class.getDeclaredClasses()));
        rule("rule 11: at most twelve classes", all.size() + 1 <= 12);
        all.add(SwornDays.class);
        for (Class<?> c : all) {
            int fields = 0;
            for (Field f : c.getDeclaredFields()) {
                if (Modifier.isStatic(f.getModifiers())) {
                    rule("rule 5: " + f + " is final", Modifier.isFinal(f.getModifiers()));
                    rule("rule 5: the type of " + f, f.getType().isPrimitive() || f.getType() == String.class
                        || f.getType() == int[].class);
                } else {
                    fields++;
                }
            }
            rule("rule 11: at most twenty fields in " + c, fields <= 20);
            for (Method m : c.getDeclaredMethods()) {
                rule("rule 11: at most seven parameters of " + m, m.getParameterCount() <= 7);
                rule("rule 1: the name of " + m, c == SwornDays.class && Modifier.isPublic(m.getModifiers())
                    || !publicNames.contains(m.getName()));
            }
            if (c != SwornDays.class) {
                rule("rule 1: " + c + " is static", Modifier.isStatic(c.getModifiers()));
                rule("rule 1: " + c + " is not public",
                    !Modifier.isPublic(c.getModifiers()) && !Modifier.isProtected(c.getModifiers()));
                rule("rule 2: " + c + " holds no class", c.getDeclaredClasses().length == 0);
            }
        }
    }

    private static void source(String path) throws java.io.IOException {
        String text = Files.readString(Path.of(path), StandardCharsets.ISO_8859_1);
        String code = text.replaceAll("(?s)/\\*.*?\\*/", "").replaceAll("//[^\n]*", "");
        String[] never = {"->", "::", "finally", "Exact", "synchronized", "assert", "double", "float",
            "package", "getMessage", "hashCode", "toString", "while (true)", "for (;;)", "@", "Object", "System.out",
            "instanceof", "String.format", ".values()"};
        for (String word : never) {
            rule("the source without " + word, !code.contains(word));
        }
        rule("the source without try and catch", !Pattern.compile("\\b(try|catch)\\b").matcher(code).find());
        Matcher imports = Pattern.compile("import ([^;]+);").matcher(code);
        while (imports.find()) {
            rule("rule 4: import " + imports.group(1), Set.of("java.util.NoSuchElementException", "java.util.Arrays",
                "java.util.ArrayList", "java.util.List").contains(imports.group(1)));
        }
        Matcher throwns = Pattern.compile("throw ([^;]+);").matcher(code);
        while (throwns.find()) {
            rule("rule 6: throw " + throwns.group(1),
                throwns.group(1).matches("new NoSuchElementException\\((\"[a-z ]*\")?\\)"));
        }
        Matcher calls = Pattern.compile("\\b(System|Math|Integer|Long|Arrays)\\.(\\w+)").matcher(code);
        while (calls.find()) {
            rule("rule 4: " + calls.group(), Set.of("arraycopy", "min", "max", "abs", "bitCount", "fill")
                .contains(calls.group(2)));
        }
        for (int i = 0; i < text.length(); i++) {
            rule("rule 4: signs are plain", text.charAt(i) == '\n' || text.charAt(i) >= 32 && text.charAt(i) < 127);
        }
        methodsAreShort(code);
    }

    private static void methodsAreShort(String code) {
        int lines = 0;
        boolean inside = false;
        for (String line : code.split("\n")) {
            if (line.matches("(    |        )[a-z][^=;]*\\) (throws \\w+ )?\\{")) {
                inside = true;
                lines = 0;
            }
            lines++;
            if (inside && line.matches("(    |        )\\}")) {
                rule("rule 11: a method of " + lines + " lines", lines <= 60);
                inside = false;
            }
            rule("a line of " + line.length(), line.length() <= 120);
        }
    }

    /** Rule 12: all that a call needs was made with the object. */
    private static void heap() {
        com.sun.management.ThreadMXBean heap =
            (com.sun.management.ThreadMXBean) ManagementFactory.getThreadMXBean();
        if (!heap.isThreadAllocatedMemorySupported() || !heap.isThreadAllocatedMemoryEnabled()) {
            return;
        }
        long id = Thread.currentThread().getId();
        long least = Long.MAX_VALUE;
        for (int k = 0; k < 5; k++) {
            SwornDays x = Check.country("pw1s2:abc;p:cde;va1;vk1a2n2;vk6a0;vk7a1;ep1o0;ep0o1f1t2", "abc", "hgfed");
            Check.tell(x, 1, "y:j>[h+1]|!(r=0&i<2)?j*3-h/2;y:x+q");
            long ahead = heap.getThreadAllocatedBytes(id);
            callAll(x);
            least = Math.min(least, heap.getThreadAllocatedBytes(id) - ahead);
        }
        Check.due("rule 12: bytes made by the calls", least < 2000 ? 0 : least, 0);
    }

    private static void callAll(SwornDays x) {
        x.taste(0);
        x.tempted(50);
        x.see(0, 1);
        for (int i = 0; i < 20; i++) {
            x.feed(0x70707070, 1, 2, 3, 4);
            x.fault(i % 3);
            x.text(i % 3);
            x.end(0);
            x.swear(i % 2, 100 * i, 9);
            x.days(10);
            x.decades(10, i);
            x.undo();
            x.image();
            x.lives(i % 2, 0);
            x.change(0, 0, i % 8);
            x.amnesty();
            x.back();
            x.fares(i);
            x.can(0, 4, i);
            x.strike(0, 4);
            x.together(0, 1, 4);
            x.best(0, 4, 0);
            x.cost(1, 4);
            x.sentence(0, i % 8, 3, 0);
            x.loopholes(0, 3, i, -1);
            x.cover(0);
            x.bold(0, i, 0);
            x.fails(0, 0);
            x.length(0);
            x.promised(0, i);
            x.tells(0, 1);
            x.tempting(1);
            x.huts(-1);
            x.easy();
        }
    }

    public static void main(String[] args) throws java.io.IOException {
        classes(face());
        if (args.length > 0) {
            source(args[0]);
        }
        heap();
        Check.end("LanguageRules");
    }
}
