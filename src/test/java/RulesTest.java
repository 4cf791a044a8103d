import java.lang.reflect.Constructor;
import java.lang.reflect.Field;
import java.lang.reflect.Method;
import java.lang.reflect.Modifier;
import java.nio.file.Files;
import java.nio.file.Path;
import java.util.ArrayList;
import java.util.Arrays;
import java.util.List;
import java.util.TreeSet;
import java.util.regex.Matcher;
import java.util.regex.Pattern;

/** What can be seen of LANGUAGE.md's rules by looking at the source and at the compiled face. Run from the project's folder. */
public final class RulesTest {
    private static final String FACE = "person people mend of feed law disquiet swap enter leave serve grow restore was again book "
        + "restored ways gap rows rth calm where growth far sorted right mixed image back undo redo body act trace keep row put "
        + "element shift taken count";

    private static int wrong;

    public static void main(String[] args) throws Exception {
        String source = Files.readString(Path.of("src/main/java/TallerAhead.java"));
        String bare = withoutComments(source);
        face();
        names();
        words(bare);
        library(bare);
        methods(bare);
        classes();
        System.out.println(wrong == 0 ? "the rules that can be seen are kept" : wrong + " breaches of the rules");
        if (wrong != 0) {
            System.exit(1);
        }
    }

    private static void check(boolean holds, String rule) {
        if (!holds) {
            wrong++;
            System.out.println("LANGUAGE.md: " + rule);
        }
    }

    private static String withoutComments(String source) {
        return source.replaceAll("(?s)/\\*.*?\\*/", "").replaceAll("//[^\n]*", "").replaceAll("'\\\\?.'", "' '");
    }

    private static void face() {
        check(Modifier.isPublic(TallerAhead.class.getModifiers()) && Modifier.isFinal(TallerAhead.class.getModifiers()), "rule 1: public and final");
        TreeSet<String> open = new TreeSet<>();
        for (Method method : TallerAhead.class.getDeclaredMethods()) {
            if (!Modifier.isPrivate(method.getModifiers())) {
                check(open.add(method.getName()), "rule 1: two methods are named " + method.getName());
            }
        }
        check(open.equals(new TreeSet<>(Arrays.asList(FACE.split(" ")))), "rule 1: the methods are " + open);
        TreeSet<String> constants = new TreeSet<>();
        for (Field field : TallerAhead.class.getDeclaredFields()) {
            if (!Modifier.isPrivate(field.getModifiers())) {
                constants.add(field.getName());
            }
        }
        check(constants.equals(new TreeSet<>(List.of("BAD", "NOT", "FULL", "STATE", "VOID"))), "rule 1: the constants are " + constants);
        Constructor<?>[] constructors = TallerAhead.class.getDeclaredConstructors();
        check(constructors.length == 1 && constructors[0].getParameterCount() == 0, "rule 1: one constructor");
    }

    private static void names() {
        List<String> face = Arrays.asList(FACE.split(" "));
        for (Class<?> inside : TallerAhead.class.getDeclaredClasses()) {
            for (Method method : inside.getDeclaredMethods()) {
                check(!face.contains(method.getName()), "rule 1: " + inside.getSimpleName() + "." + method.getName());
            }
        }
        for (Method method : TallerAhead.class.getDeclaredMethods()) {
            check(!Modifier.isPrivate(method.getModifiers()) || !face.contains(method.getName()), "rule 1: private " + method.getName());
        }
    }

    private static void words(String bare) {
        for (String word : "throw throws try catch synchronized assert volatile transient native strictfp record lambda yield".split(" ")) {
            check(!Pattern.compile("\\b" + word + "\\b").matcher(bare).find(), "rule 6: " + word);
        }
        check(!bare.contains("->") && !bare.contains("::"), "rule 2: lambda or method reference");
        check(!bare.contains("\""), "no texts are needed");
        check(!bare.contains("static {"), "rule 5: static block");
        check(!Pattern.compile("\\b(double|float|Object|Random|Thread)\\b").matcher(bare).find(), "a type that is not needed");
    }

    private static void library(String bare) {
        Matcher imports = Pattern.compile("import ([\\w.*]+);").matcher(bare);
        while (imports.find()) {
            check(imports.group(1).equals("java.util.Arrays"), "rule 4: import " + imports.group(1));
        }
        Matcher calls = Pattern.compile("\\b(Arrays|Math|System|Integer|Long)\\.(\\w+)").matcher(bare);
        List<String> known = List.of("Arrays.fill", "Math.min", "Math.max", "Math.floorMod", "System.arraycopy", "Long.MIN_VALUE");
        while (calls.find()) {
            check(known.contains(calls.group()), "rule 4: " + calls.group());
        }
    }

    private static void methods(String bare) {
        Pattern head = Pattern.compile("^\\s*(?:(?:public|private|static|final)\\s+)*[\\w\\[\\]]+\\s+\\w+\\(([^)]*)\\) \\{$");
        String[] lines = bare.split("\n", -1);
        for (int k = 0; k < lines.length; k++) {
            Matcher matcher = head.matcher(lines[k]);
            if (!matcher.matches() || lines[k].contains("public TallerAhead()")) {
                continue;
            }
            check(matcher.group(1).split(",").length <= 7, "rule 11: parameters of " + lines[k].trim());
            int depth = 0;
            int end = k;
            do {
                check(!lines[end].contains("new "), "room: an object made outside a constructor in " + lines[k].trim());
                for (char c : lines[end].toCharArray()) {
                    depth += c == '{' ? 1 : c == '}' ? -1 : 0;
                }
                end++;
            } while (depth > 0 && end < lines.length);
            check(end - k <= 60, "rule 11: " + (end - k) + " lines in " + lines[k].trim());
        }
    }

    private static void classes() {
        List<Class<?>> all = new ArrayList<>(List.of(TallerAhead.class.getDeclaredClasses()));
        check(all.size() + 1 <= 12, "rule 11: " + (all.size() + 1) + " classes");
        all.add(TallerAhead.class);
        for (Class<?> one : all) {
            check(one == TallerAhead.class || Modifier.isStatic(one.getModifiers()), "rule 2: " + one + " is not static");
            int fields = 0;
            for (Field field : one.getDeclaredFields()) {
                boolean isStatic = Modifier.isStatic(field.getModifiers());
                check(!isStatic || Modifier.isFinal(field.getModifiers()), "rule 5: " + field);
                fields += isStatic ? 0 : 1;
            }
            check(fields <= 20, "rule 11: " + fields + " fields in " + one);
        }
    }
}
