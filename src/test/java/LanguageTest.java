import java.lang.reflect.Field;
import java.lang.reflect.Method;
import java.lang.reflect.Modifier;
import java.nio.file.Files;
import java.nio.file.Path;
import java.util.ArrayList;
import java.util.Arrays;
import java.util.List;
import java.util.TreeSet;
import java.util.regex.Matcher;
import java.util.regex.Pattern;

/** The rules of LANGUAGE.md that can be read off the class and its text. */
public final class LanguageTest {
    private static final Checks C = new Checks();
    private static final String FACE = "angle(int):long apart(int,int):int bearing(int,int,int):int best(int,int):int "
        + "bestTurn(int,int,int,int):int both(int,int,int):int chain(int,int,int):int check(int):int comb(int,int,int):int "
        + "drop(int):int due(int,int):int fault(int,int):int faults(int):int feed(int,int,int,int,int):int filters(int):int "
        + "folded(int,int,int):int get(int):int hit(int,int,int):int knock(int,int):int lag(int,int):int "
        + "lags(int,int,int,int):int line(int,int):long longest(int,int):int nearest(int,int):int note(int):int "
        + "noteIs(int,int):int ranked(int):int ratio(int,int):int report(int,int):int set(int,int):int shared(int,int):int "
        + "side(int,int):int speeds(int):int trace(int):int tried(int,int,int,int,int):int turn(int):int undo():int "
        + "window(int,int,int,int):int";

    public static void main(String[] args) throws Exception {
        face();
        classesInside();
        String code = withoutComments(Files.readString(Path.of("src/main/java/KnockFinder.java")));
        words(code);
        C.end();
    }

    private static void face() throws Exception {
        TreeSet<String> open = new TreeSet<>();
        TreeSet<String> names = new TreeSet<>();
        for (Method m : KnockFinder.class.getDeclaredMethods()) {
            if (Modifier.isPublic(m.getModifiers())) {
                open.add(signature(m));
                names.add(m.getName());
            } else {
                C.isTrue(m + " is private", Modifier.isPrivate(m.getModifiers()) || m.isSynthetic());
            }
        }
        C.isTrue("the face is " + open, open.equals(new TreeSet<>(Arrays.asList(FACE.split(" ")))));
        for (Class<?> c : allClasses()) {
            for (Method m : c.getDeclaredMethods()) {
                boolean free = Modifier.isPublic(m.getModifiers()) || !names.contains(m.getName());
                C.isTrue(m + " bears no public name", free);
            }
        }
        for (Field f : KnockFinder.class.getDeclaredFields()) {
            boolean constant = f.getName().equals("NONE") && f.getInt(null) == -1;
            C.isTrue(f + " is private", Modifier.isPrivate(f.getModifiers()) || constant);
        }
        C.due("constructors", KnockFinder.class.getConstructors().length, 1);
        C.isTrue("final", Modifier.isFinal(KnockFinder.class.getModifiers()));
    }

    private static String signature(Method m) {
        StringBuilder b = new StringBuilder(m.getName()).append('(');
        for (Class<?> type : m.getParameterTypes()) {
            b.append(b.charAt(b.length() - 1) == '(' ? "" : ",").append(type.getName());
        }
        return b.append("):").append(m.getReturnType().getName()).toString();
    }

    private static List<Class<?>> allClasses() {
        List<Class<?>> all = new ArrayList<>(Arrays.asList(KnockFinder.class.getDeclaredClasses()));
        all.add(KnockFinder.class);
        return all;
    }

    private static void classesInside() {
        C.isTrue("twelve classes at most", allClasses().size() <= 12);
        for (Class<?> c : allClasses()) {
            C.isTrue(c + " is static", c == KnockFinder.class || Modifier.isStatic(c.getModifiers()));
            int fields = 0;
            for (Field f : c.getDeclaredFields()) {
                boolean fixed = Modifier.isStatic(f.getModifiers());
                C.isTrue(f + " is final", !fixed || Modifier.isFinal(f.getModifiers()));
                fields += fixed ? 0 : 1;
            }
            C.isTrue(c + " has " + fields + " fields", fields <= 20);
        }
    }

    private static String withoutComments(String code) {
        return code.replaceAll("(?s)/\\*.*?\\*/", "").replaceAll("//[^\n]*", "");
    }

    private static void words(String code) {
        for (String word : new String[] {"throw", "throws", "try", "catch", "finally", "synchronized", "assert", "Exact",
            "native", "volatile", "transient", "Thread", "Object", "Random", "double", "float"}) {
            C.isTrue("no " + word, !Pattern.compile("\\b" + word + "\\b").matcher(code).find());
        }
        C.isTrue("no lambda, no method reference", !code.contains("->") && !code.contains("::"));
        C.isTrue("no static block", !Pattern.compile("static\\s*\\{").matcher(code).find());
        C.isTrue("no package line", !code.contains("package "));
        Matcher imports = Pattern.compile("import ([^;]*);").matcher(code);
        while (imports.find()) {
            C.isTrue("import " + imports.group(1), imports.group(1).matches("java\\.util\\.(Arrays|List|ArrayList)"));
        }
        Matcher library = Pattern.compile("\\b(Math|Arrays|System|Long|Integer)\\.(\\w+)").matcher(code);
        while (library.find()) {
            C.isTrue("library " + library.group(), library.group().matches(
                "Math\\.(min|max|abs|floorDiv|floorMod)|Arrays\\.fill|System\\.arraycopy|Long\\.bitCount"));
        }
    }
}
