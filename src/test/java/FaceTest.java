import java.lang.reflect.Constructor;
import java.lang.reflect.Field;
import java.lang.reflect.Method;
import java.lang.reflect.Modifier;
import java.nio.file.Files;
import java.nio.file.Path;
import java.util.Arrays;
import java.util.Set;
import java.util.TreeSet;
import java.util.regex.Matcher;
import java.util.regex.Pattern;

/** The public face, and the rules of LANGUAGE.md that the source's text shows. Runs in the project's folder. */
public final class FaceTest extends Due {
    private static final String[] METHODS = {
        "int fountain(int)", "int jar(int,int,int,int,int,int)", "int drinks(int,int)", "int man(int,int,int,int)",
        "int right(int,int)", "int pace(int,int)", "int moves(int,int,int)", "int open(int,boolean)", "int drought(int)",
        "int type(long,int)", "int fares()", "int fare(int)", "int run(int)", "int told(int,int)", "int water(int,int)",
        "long sum(int)", "int fire(int,int)", "int poured(int,int)", "int foul(int,int)", "int give(int,int,int)",
        "int given(int)", "int count(int)"};
    private static final String[] CONSTANTS = {"BAD", "NOT", "FULL", "NONE", "CAST"};
    private static final String[] WORDS_RULED_OUT = {
        "throw", "throws", "try", "catch", "synchronized", "assert", "native", "volatile", "transient", "hashCode", "toString",
        "Object", "System.out", "Random", "Thread", "HashMap", "Exact"};
    private static final String[] LIBRARY = {
        "Math.min", "Math.max", "Math.abs", "Math.floorMod", "Math.floorDiv", "Integer.bitCount", "Integer.compare",
        "Long.compare", "Arrays.fill", "Arrays.copyOf", "Arrays.copyOfRange", "System.arraycopy"};
    private static final int MOST_PARAMETERS = 7, MOST_LINES = 60;

    public static void main(String[] args) throws Exception {
        constants();
        members();
        innerClasses();
        parameters();
        source();
        library();
        lengths();
        end();
    }

    private static void constants() {
        due("BAD", WaterMen.BAD, -1);
        due("NOT", WaterMen.NOT, -2);
        due("FULL", WaterMen.FULL, -3);
        due("NONE", WaterMen.NONE, -4);
        due("CAST", WaterMen.CAST, -13);
    }

    private static void dueTrue(String what, boolean is) {
        due(what, is ? 1 : 0, 1);
    }

    private static Set<String> publicNames() {
        Set<String> names = new TreeSet<>();
        for (String method : METHODS) names.add(method.replaceAll(".* (\\w+)\\(.*", "$1"));
        return names;
    }

    private static void members() {
        int kind = WaterMen.class.getModifiers();
        dueTrue("the class is public and final", Modifier.isPublic(kind) && Modifier.isFinal(kind));
        Constructor<?>[] constructors = WaterMen.class.getDeclaredConstructors();
        dueTrue("one public constructor", constructors.length == 1 && Modifier.isPublic(constructors[0].getModifiers()));
        Set<String> due = new TreeSet<>(Arrays.asList(METHODS));
        Set<String> publicNames = publicNames();
        for (Method m : WaterMen.class.getDeclaredMethods()) {
            if (Modifier.isPrivate(m.getModifiers())) {
                dueTrue("private " + m.getName() + " has its own name", !publicNames.contains(m.getName()));
                continue;
            }
            StringBuilder face = new StringBuilder(m.getReturnType().getName()).append(' ').append(m.getName()).append('(');
            for (Class<?> type : m.getParameterTypes()) face.append(face.charAt(face.length() - 1) == '(' ? "" : ",").append(type.getName());
            dueTrue(face + ") is in the face", Modifier.isPublic(m.getModifiers()) && due.remove(face.append(')').toString()));
        }
        dueTrue("missing: " + due, due.isEmpty());
        for (Field f : WaterMen.class.getDeclaredFields()) {
            int how = f.getModifiers();
            boolean isConstant = Arrays.asList(CONSTANTS).contains(f.getName()) && Modifier.isPublic(how) && Modifier.isFinal(how);
            dueTrue("field " + f.getName(), Modifier.isPrivate(how) || isConstant);
        }
    }

    private static void innerClasses() {
        Class<?>[] inner = WaterMen.class.getDeclaredClasses();
        dueTrue("at most twelve classes", inner.length < 12);
        for (Class<?> c : inner) {
            int how = c.getModifiers();
            dueTrue(c.getName() + " is static and not public", Modifier.isStatic(how) && !Modifier.isPublic(how) && !Modifier.isProtected(how));
            int fields = 0;
            for (Field f : c.getDeclaredFields()) {
                if (Modifier.isStatic(f.getModifiers())) dueTrue(f + " is final", Modifier.isFinal(f.getModifiers()));
                else fields++;
            }
            dueTrue(c.getName() + " has at most twenty fields", fields <= 20);
        }
    }

    private static void parameters() {
        Set<String> publicNames = publicNames();
        for (Class<?> c : WaterMen.class.getDeclaredClasses()) {
            for (Method m : c.getDeclaredMethods()) {
                dueTrue(m + " has its own name", !publicNames.contains(m.getName()));
                dueTrue(m + " takes at most seven", m.getParameterCount() <= MOST_PARAMETERS);
            }
            for (Constructor<?> made : c.getDeclaredConstructors()) {
                dueTrue(made + " takes at most seven", made.getParameterCount() <= MOST_PARAMETERS);
            }
        }
        for (Method m : WaterMen.class.getDeclaredMethods()) {
            dueTrue(m + " takes at most seven", m.getParameterCount() <= MOST_PARAMETERS);
        }
    }

    private static String codeWithoutComments() throws Exception {
        String text = Files.readString(Path.of("src/main/java/WaterMen.java"));
        return text.replaceAll("(?s)/\\*.*?\\*/", "").replaceAll("//[^\n]*", "");
    }

    private static void library() throws Exception {
        Matcher call = Pattern.compile("\\b(Math|Integer|Long|Arrays|System|String|Character|Boolean)\\.\\w+").matcher(codeWithoutComments());
        while (call.find()) dueTrue("the library has " + call.group(), Arrays.asList(LIBRARY).contains(call.group()));
    }

    /** A method's body is what stands between its first line and the brace that is set in as far as it. */
    private static void lengths() throws Exception {
        Matcher method = Pattern.compile("(?m)^( {4,8})(?! )([^\n=;]*\\([^\n;]*\\)) \\{\n(?s:(.*?))\n\\1\\}$").matcher(codeWithoutComments());
        int found = 0;
        while (method.find()) {
            found++;
            dueTrue(method.group(2) + " is short", method.group(3).split("\n").length <= MOST_LINES);
        }
        dueTrue("methods were found", found > METHODS.length);
    }

    private static void source() throws Exception {
        String code = codeWithoutComments();
        for (String word : WORDS_RULED_OUT) {
            dueTrue("no " + word, !Pattern.compile("\\b" + Pattern.quote(word) + "\\b").matcher(code).find());
        }
        dueTrue("no lambda", !code.contains("->"));
        dueTrue("no method reference", !code.contains("::"));
        dueTrue("no annotation", !code.contains("@"));
        dueTrue("no package", !code.contains("package "));
        Matcher imports = Pattern.compile("import ([^;]+);").matcher(code);
        while (imports.find()) {
            dueTrue("import " + imports.group(1), imports.group(1).matches("java\\.util\\.(ArrayList|List|Iterator|Arrays)"));
        }
    }
}
