import java.lang.reflect.Constructor;
import java.lang.reflect.Field;
import java.lang.reflect.Method;
import java.lang.reflect.Modifier;
import java.nio.file.Files;
import java.nio.file.Path;
import java.util.Arrays;
import java.util.HashSet;
import java.util.List;
import java.util.Set;
import java.util.TreeSet;
import java.util.regex.Matcher;
import java.util.regex.Pattern;

/** What can be told of ../shared/LANGUAGE.md from the class's face and its source's text (.ci/run starts it in the root). */
public final class LanguageTest {
    private static int wrong = 0;

    private static void want(boolean so, String rule) {
        if (!so) {
            wrong++;
            System.out.println("not kept: " + rule);
        }
    }

    public static void main(String[] args) throws Exception {
        face(Files.readString(Path.of("../shared/DOC.md")));
        classesInside();
        source(Files.readString(Path.of("src/main/java/DowryBoxes.java")));
        if (wrong != 0) {
            System.exit(1);
        }
        System.out.println("the language is kept");
    }

    /** The document's own lines: every public method, constant and constructor of it, with its types, and no other. */
    private static void face(String document) {
        int from = document.indexOf("public final class DowryBoxes {");
        String block = document.substring(from, document.indexOf("```", from));
        Set<String> due = new TreeSet<>();
        Pattern line = Pattern.compile("public (?:static final (\\w+ \\w+ = -?\\d+)|((?:\\w+ )?\\w+)\\(([^)]*)\\));");
        Matcher member = line.matcher(block);
        while (member.find()) {
            due.add(member.group(1) != null ? member.group(1)
                : member.group(2) + "(" + member.group(3).replaceAll("(\\w+) \\w+", "$1") + ")");
        }
        want(due.size() == 44, "1: the document's face has a constant, a constructor, 42 methods, not " + due.size());
        Set<String> there = openMembers(DowryBoxes.class);
        want(there.equals(due), "1: the face " + due + ", not " + there);
    }

    private static Set<String> openMembers(Class<?> c) {
        want(Modifier.isPublic(c.getModifiers()) && Modifier.isFinal(c.getModifiers()), "1: public and final");
        want(c.getSuperclass() == Object.class && c.getInterfaces().length == 0, "1: a class of its own");
        Set<String> open = new TreeSet<>();
        for (Method m : c.getDeclaredMethods()) {
            if (!Modifier.isPrivate(m.getModifiers())) {
                open.add(m.getReturnType() + " " + m.getName() + types(m.getParameterTypes()));
                want(Modifier.isPublic(m.getModifiers()) && !Modifier.isStatic(m.getModifiers()), "1: " + m);
                want(m.getExceptionTypes().length == 0, "6: " + m);
            }
        }
        for (Field f : c.getDeclaredFields()) {
            if (!Modifier.isPrivate(f.getModifiers())) {
                open.add(f.getType() + " " + f.getName() + " = " + DowryBoxes.NONE);
                want(Modifier.isPublic(f.getModifiers()) && Modifier.isStatic(f.getModifiers()), "1: " + f);
            }
        }
        for (Constructor<?> constructor : c.getDeclaredConstructors()) {
            open.add(c.getName() + types(constructor.getParameterTypes()));
            want(Modifier.isPublic(constructor.getModifiers()), "1: " + constructor);
        }
        return open;
    }

    private static String types(Class<?>[] types) {
        StringBuilder b = new StringBuilder();
        for (Class<?> type : types) {
            b.append(b.length() == 0 ? "" : ", ").append(type);
        }
        return "(" + b + ")";
    }

    /** Methods inside count, too. */
    private static void privateNames(Class<?>... classes) {
        Set<String> names = new HashSet<>();
        for (Method m : DowryBoxes.class.getDeclaredMethods()) {
            if (Modifier.isPublic(m.getModifiers())) {
                names.add(m.getName());
            }
        }
        for (Class<?> c : classes) {
            for (Method m : c.getDeclaredMethods()) {
                want(!Modifier.isPrivate(m.getModifiers()) || !names.contains(m.getName()), "1: a private " + m);
            }
        }
    }

    private static void classesInside() {
        Class<?>[] inside = DowryBoxes.class.getDeclaredClasses();
        want(inside.length < 12, "11: some twelve classes");
        for (Class<?> c : inside) {
            want(Modifier.isStatic(c.getModifiers()) && !Modifier.isPublic(c.getModifiers()), "1, 2: " + c);
            count(c);
        }
        count(DowryBoxes.class);
        privateNames(inside);
        privateNames(DowryBoxes.class);
    }

    private static void count(Class<?> c) {
        int own = 0;
        for (Field f : c.getDeclaredFields()) {
            boolean fixed = Modifier.isStatic(f.getModifiers());
            own += fixed ? 0 : 1;
            want(!fixed || Modifier.isFinal(f.getModifiers()), "5: " + f);
        }
        want(own <= 20, "11: fields of " + c + ": " + own);
        for (Method m : c.getDeclaredMethods()) {
            want(m.getParameterCount() <= 7, "11: " + m);
        }
    }

    private static void source(String text) {
        String code = text.replaceAll("(?s)/\\*.*?\\*/", " ").replaceAll("//[^\n]*", " ").replaceAll("'[^\n]'", "' '");
        String bare = code.replaceAll("\"[^\"\n]*\"", "\"\"");
        List<String> words = Arrays.asList("throw", "throws", "try", "catch", "synchronized", "assert", "package", "protected",
            "double", "float", "Object", "System\\.(?!arraycopy)", "Thread", "Random", "instanceof", "volatile", "native");
        for (String word : words) {
            want(!Pattern.compile("\\b" + word + (word.endsWith(")") ? "" : "\\b")).matcher(bare).find(), "no " + word);
        }
        want(!bare.contains("->") && !bare.contains("::"), "2: no lambda, no method reference");
        want(!bare.contains("\"\" +") && !bare.contains("+ \"\""), "10: no texts joined by +");
        Matcher imports = Pattern.compile("import ([\\w.]+);").matcher(bare);
        while (imports.find()) {
            want(imports.group(1).equals("java.util.Arrays"), "4: import " + imports.group(1));
        }
        Set<String> library = Set.of("Integer.bitCount", "Math.max", "Math.min", "Math.abs", "Arrays.fill", "Arrays.copyOf",
            "System.arraycopy");
        Matcher used = Pattern.compile("\\b(Integer|Long|Short|Byte|Character|Boolean|Math|Arrays|System|String|StringBuilder|List)"
            + "\\.(\\w+)").matcher(bare);
        while (used.find()) {
            want(library.contains(used.group()), "4: " + used.group());
        }
        for (char c : text.toCharArray()) {
            want(c < 128, "4: a sign beyond 127");
        }
        lengths(bare.split("\n", -1));
    }

    /** A method goes from its head to the brace that stands as far in as the head. */
    private static void lengths(String[] lines) {
        Pattern head = Pattern.compile("^( {4}| {8})(?! )[\\w\\[\\] ]*\\w\\([^;]*\\) \\{$");
        for (int i = 0; i < lines.length; i++) {
            Matcher m = head.matcher(lines[i]);
            if (!m.find() || lines[i].trim().matches("(if|for|while|switch|else).*")) {
                continue;
            }
            int to = i;
            while (to < lines.length - 1 && !lines[to].equals(m.group(1) + "}")) {
                to++;
            }
            want(to - i < 60, "11: the method at line " + (i + 1) + " has " + (to - i + 1) + " lines");
        }
    }
}
