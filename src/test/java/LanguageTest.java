import java.lang.reflect.Constructor;
import java.lang.reflect.Field;
import java.lang.reflect.Method;
import java.lang.reflect.Modifier;
import java.nio.file.Files;
import java.nio.file.Path;
import java.util.Arrays;
import java.util.HashSet;
import java.util.List;
import java.util.Set;
import java.util.TreeSet;
import java.util.regex.Matcher;
import java.util.regex.Pattern;

/** What can be told of ../shared/LANGUAGE.md from the class's face and its source's text (.ci/run starts it in the root). */
public final class LanguageTest {
    private static final String FACE = "box/1 of/2 pins/3 suitor/2 at/2 asks/3 terms/2 feed/5 end/1 row/0 rust/0 law/0 orders/0"
        + " fault/0 stopped/0 force/1 pull/3 snap/2 wed/2 pass/0 undo/0 hear/3 forget/0 which/0 listen/1 steady/1 about/2"
        + " keep/3 clash/3 best/3 filed/4 shares/2 again/2 ends/1 stands/2 compare/1 generations/2 drawn/2 image/1 back/1"
        + " count/1 status/0";
    private static int wrong = 0;

    private static void want(boolean so, String rule) {
        if (!so) {
            wrong++;
            System.out.println("not kept: " + rule);
        }
    }

    public static void main(String[] args) throws Exception {
        face();
        classesInside();
        source(Files.readString(Path.of("src/main/java/DowryBoxes.java")));
        if (wrong != 0) {
            System.exit(1);
        }
        System.out.println("the language is kept");
    }

    private static void face() {
        Class<?> c = DowryBoxes.class;
        want(Modifier.isPublic(c.getModifiers()) && Modifier.isFinal(c.getModifiers()), "1: public and final");
        Set<String> open = new TreeSet<>();
        Set<String> names = new HashSet<>();
        Set<String> hidden = new HashSet<>();
        for (Method m : c.getDeclaredMethods()) {
            if (Modifier.isPrivate(m.getModifiers())) {
                hidden.add(m.getName());
            } else {
                open.add(m.getName() + "/" + m.getParameterCount());
                names.add(m.getName());
                want(Modifier.isPublic(m.getModifiers()) && !Modifier.isStatic(m.getModifiers()), "1: " + m);
                want(m.getReturnType() == (m.getName().equals("stands") ? long.class : int.class), "1: the type of " + m);
            }
        }
        want(open.equals(new TreeSet<>(Arrays.asList(FACE.split(" ")))), "1: the methods of the face, not " + open);
        hidden.retainAll(names);
        want(hidden.isEmpty(), "1: private methods with public names " + hidden);
        for (Field f : c.getDeclaredFields()) {
            want(Modifier.isPrivate(f.getModifiers()) || f.getName().equals("NONE"), "1: " + f);
        }
        Constructor<?>[] constructors = c.getDeclaredConstructors();
        want(constructors.length == 1 && constructors[0].getParameterCount() == 0
            && Modifier.isPublic(constructors[0].getModifiers()), "1: the constructor");
    }

    private static void classesInside() {
        Class<?>[] inside = DowryBoxes.class.getDeclaredClasses();
        want(inside.length < 12, "11: some twelve classes");
        for (Class<?> c : inside) {
            want(Modifier.isStatic(c.getModifiers()) && !Modifier.isPublic(c.getModifiers()), "1, 2: " + c);
            count(c);
        }
        count(DowryBoxes.class);
    }

    private static void count(Class<?> c) {
        int own = 0;
        for (Field f : c.getDeclaredFields()) {
            boolean fixed = Modifier.isStatic(f.getModifiers());
            own += fixed ? 0 : 1;
            want(!fixed || Modifier.isFinal(f.getModifiers()), "5: " + f);
        }
        want(own <= 20, "11: fields of " + c + ": " + own);
        for (Method m : c.getDeclaredMethods()) {
            want(m.getParameterCount() <= 7, "11: " + m);
        }
    }

    private static void source(String text) {
        String code = text.replaceAll("(?s)/\\*.*?\\*/", " ").replaceAll("//[^\n]*", " ").replaceAll("'[^\n]'", "' '");
        String bare = code.replaceAll("\"[^\"\n]*\"", "\"\"");
        List<String> words = Arrays.asList("throw", "throws", "try", "catch", "synchronized", "assert", "package", "protected",
            "double", "float", "Object", "System\\.(?!arraycopy)", "Thread", "Random", "instanceof", "volatile", "native");
        for (String word : words) {
            want(!Pattern.compile("\\b" + word + (word.endsWith(")") ? "" : "\\b")).matcher(bare).find(), "no " + word);
        }
        want(!bare.contains("->") && !bare.contains("::"), "2: no lambda, no method reference");
        want(!bare.contains("\"\" +") && !bare.contains("+ \"\""), "10: no texts joined by +");
        Matcher imports = Pattern.compile("import ([\\w.]+);").matcher(bare);
        while (imports.find()) {
            want(imports.group(1).equals("java.util.Arrays"), "4: import " + imports.group(1));
        }
        Set<String> library = Set.of("Integer.bitCount", "Math.max", "Math.min", "Math.abs", "Arrays.fill", "Arrays.copyOf",
            "System.arraycopy");
        Matcher used = Pattern.compile("\\b(Integer|Long|Short|Byte|Character|Boolean|Math|Arrays|System|String|StringBuilder|List)"
            + "\\.(\\w+)").matcher(bare);
        while (used.find()) {
            want(library.contains(used.group()), "4: " + used.group());
        }
        for (char c : text.toCharArray()) {
            want(c < 128, "4: a sign beyond 127");
        }
        lengths(bare.split("\n", -1));
    }

    /** A method goes from its head to the brace that stands as far in as the head. */
    private static void lengths(String[] lines) {
        Pattern head = Pattern.compile("^( {4}| {8})(?! )[\\w\\[\\] ]*\\w\\([^;]*\\) \\{$");
        for (int i = 0; i < lines.length; i++) {
            Matcher m = head.matcher(lines[i]);
            if (!m.find() || lines[i].trim().matches("(if|for|while|switch|else).*")) {
                continue;
            }
            int to = i;
            while (to < lines.length - 1 && !lines[to].equals(m.group(1) + "}")) {
                to++;
            }
            want(to - i < 60, "11: the method at line " + (i + 1) + " has " + (to - i + 1) + " lines");
        }
    }
}
