import java.lang.reflect.*;
import java.nio.file.*;
import java.util.*;
import java.util.regex.*;

/** What of LANGUAGE.md and of the public face can be seen from the source and the class. */
public final class LanguageTest {
    private static final Due DUE = new Due();
    private static final String[] FACE = {
        "int feed(int,int,int,int,int)", "int end(int)", "int text(int,int)", "int fault(int)", "int net(int,int)", "int block(int,int,int)",
        "int deed(int,int,int)", "int stop(int,int,int)", "int state(int,int,int,int,int)", "long work(int,int,int,int)", "int tip(int,int,int)",
        "int pool(int,int,int)", "int fill(int,int,int,int,int)", "int replay(int,int,int,int,boolean)", "int path(int,int,int,int)",
        "long own(int,int,int,int)", "int meet(int,int,int)", "long chance(int,int,int,boolean)", "int race(int,int)", "int fact(int,int,int)",
        "int fits(int,int,int,int,int)", "int drawn(int,int,int,int,int)", "int leaves(int,int,int)", "int root(int,int,int,int)",
        "int gain(int,int,int,int)", "int speed(int,int,int)", "int twice(int,int,int,int,int)", "int after(int,int,int,int)",
        "int odds(int,int,int,int,int,boolean)", "int count(int)", "boolean image(int)", "boolean again(int)"};

    public static void main(String[] args) throws Exception {
        face();
        String source = Files.readString(Path.of(args[0]));
        String code = source.replaceAll("(?s)/\\*.*?\\*/", "").replaceAll("//[^\n]*", "");
        words(code);
        shapes(code);
        DUE.close("LanguageTest");
    }

    private static void face() throws Exception {
        Set<String> due = new TreeSet<>(List.of(FACE)), is = new TreeSet<>(), names = new TreeSet<>();
        for (Method m : WorkChains.class.getDeclaredMethods()) {
            if (Modifier.isPrivate(m.getModifiers())) continue;
            StringJoiner types = new StringJoiner(",", "(", ")");
            for (Class<?> c : m.getParameterTypes()) types.add(c.getName());
            is.add(m.getReturnType().getName() + " " + m.getName() + types);
            names.add(m.getName());
            DUE.due(m.getName() + " is public alone", m.getModifiers(), Modifier.PUBLIC);
        }
        DUE.due("methods " + is, is.equals(due), true);
        DUE.due("the class", WorkChains.class.getModifiers(), Modifier.PUBLIC | Modifier.FINAL);
        DUE.due("constructors", WorkChains.class.getDeclaredConstructors().length, 1);
        for (Field f : WorkChains.class.getDeclaredFields()) {
            boolean open = !Modifier.isPrivate(f.getModifiers());
            DUE.due("field " + f.getName(), open, f.getName().equals("NONE"));
        }
        int classes = 1;
        for (Class<?> c : WorkChains.class.getDeclaredClasses()) {
            classes++;
            DUE.due(c + " is static", Modifier.isStatic(c.getModifiers()), true);
            fields(c);
            for (Method m : c.getDeclaredMethods()) {
                DUE.due(c + " has a private " + m.getName(), Modifier.isPrivate(m.getModifiers()) && names.contains(m.getName()), false);
                DUE.due(c + "'s parameters of " + m.getName(), m.getParameterCount() <= 7, true);
            }
        }
        fields(WorkChains.class);
        DUE.due("classes " + classes, classes <= 12, true);
    }

    private static void fields(Class<?> c) {
        int own = 0;
        for (Field f : c.getDeclaredFields()) {
            if (!Modifier.isStatic(f.getModifiers())) own++;
            else DUE.due(c + "'s static " + f.getName(), Modifier.isFinal(f.getModifiers()), true);
        }
        DUE.due(c + "'s fields " + own, own <= 20, true);
    }

    private static void words(String code) {
        String no = "throw|throws|try|catch|synchronized|assert|import|package|var|yield|volatile|native|transient|equals|hashCode|toString|"
            + "Random|System\\.(?!arraycopy)\\w+|Thread|\\w+Exact|NaN|Object|instanceof";
        Matcher m = Pattern.compile("\\b(" + no + ")\\b|->|::|@").matcher(code);
        StringBuilder found = new StringBuilder();
        while (m.find()) found.append(m.group()).append(' ');
        DUE.due("words that are ruled out: " + found, found.length(), 0);
        for (char c : code.toCharArray()) if (c > 126) DUE.due("sign " + (int) c, false, true);
        m = Pattern.compile("\\b(Integer|Long|Math|Arrays)\\.(\\w+)").matcher(code);
        while (m.find()) DUE.due(m.group(), Set.of("bitCount", "max", "min", "fill").contains(m.group(2)), true);
        DUE.due("texts joined by +", Pattern.compile("\"\\s*\\+|\\+\\s*\"").matcher(code).find(), false);
    }

    /** Methods are told from all else by their indent. */
    private static void shapes(String code) {
        String[] lines = code.split("\n");
        for (int i = 0; i < lines.length; i++) {
            Matcher m = Pattern.compile("( {4}| {8})\\S.*\\) \\{").matcher(lines[i]);
            if (!m.matches() || lines[i].matches(" *(if|for|while|switch|do|else)\\b.*")) continue;
            int end = i;
            while (!lines[end].equals(m.group(1) + "}")) end++;
            DUE.due("lines of " + lines[i].trim(), end - i <= 60, true);
        }
    }
}
