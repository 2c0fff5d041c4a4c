import java.lang.reflect.Constructor;
import java.lang.reflect.Field;
import java.lang.reflect.Method;
import java.lang.reflect.Modifier;
import java.nio.file.Files;
import java.nio.file.Path;
import java.util.Arrays;
import java.util.List;
import java.util.TreeSet;
import java.util.regex.Matcher;
import java.util.regex.Pattern;

/** The public face, and those rules of LANGUAGE.md that can be seen from outside or in the text. */
public final class FaceTest {
    private static int wrong = 0;

    private static void must(boolean holds, String rule) {
        if (!holds) {
            wrong++;
            System.out.println("not so: " + rule);
        }
    }

    private static void face() {
        Class<?> desk = RegisterDesk.class;
        must(Modifier.isPublic(desk.getModifiers()) && Modifier.isFinal(desk.getModifiers()), "the class is public and final");
        TreeSet<String> want = new TreeSet<>(List.of("colours(int)", "way(int)", "say(int)", "wipe()", "fault()", "load()",
            "instruction(int,int)", "live(int)", "edges(int)", "weight(int,int)", "step(int)", "spilled(int)", "rounds(int)",
            "colour(int)", "code(int,int)", "run(int)", "out(int)", "spent(int)", "image(int)", "restore(int)", "told(int)"));
        TreeSet<String> publicNames = new TreeSet<>();
        want.forEach(call -> publicNames.add(call.substring(0, call.indexOf('('))));
        TreeSet<String> got = new TreeSet<>();
        for (Method method : desk.getDeclaredMethods()) {
            if (Modifier.isPrivate(method.getModifiers())) {
                must(!publicNames.contains(method.getName()), "no private method is called " + method.getName());
            } else {
                must(Modifier.isPublic(method.getModifiers()) && method.getReturnType() == int.class, method.getName() + " is public and answers an int");
                StringBuilder parameters = new StringBuilder();
                for (Class<?> parameter : method.getParameterTypes()) {
                    parameters.append(parameters.length() == 0 ? "" : ",").append(parameter.getName());
                }
                got.add(method.getName() + "(" + parameters + ")");
            }
        }
        must(got.equals(want), "the methods are those of the document: " + got);
        TreeSet<String> fields = new TreeSet<>();
        for (Field field : desk.getDeclaredFields()) {
            if (!Modifier.isPrivate(field.getModifiers())) {
                fields.add(field.getName());
            }
        }
        must(fields.equals(new TreeSet<>(List.of("NONE", "UNKNOWN", "OUTSIDE", "STATE", "FULL", "NO"))), "the constants are those of the document: " + fields);
        Constructor<?>[] constructors = desk.getDeclaredConstructors();
        must(constructors.length == 1 && Modifier.isPublic(constructors[0].getModifiers()) && constructors[0].getParameterCount() == 0, "one public constructor");
        classesInside(desk);
    }

    private static void classesInside(Class<?> desk) {
        Class<?>[] inside = desk.getDeclaredClasses();
        must(inside.length + 1 <= 12, "at most twelve classes");
        for (Class<?> one : inside) {
            must(Modifier.isStatic(one.getModifiers()), one.getName() + " is static");
            must(!Modifier.isPublic(one.getModifiers()) && !Modifier.isProtected(one.getModifiers()), one.getName() + " is not public");
            long fields = Arrays.stream(one.getDeclaredFields()).filter(field -> !Modifier.isStatic(field.getModifiers())).count();
            must(fields <= 20, one.getName() + " has at most twenty fields");
            for (Field field : one.getDeclaredFields()) {
                must(!Modifier.isStatic(field.getModifiers()) || Modifier.isFinal(field.getModifiers()), field + " is final");
            }
            for (Method method : one.getDeclaredMethods()) {
                must(method.getParameterCount() <= 7, method + " has at most seven parameters");
            }
        }
    }

    private static void text() throws Exception {
        String source = Files.readString(Path.of("src/main/java/RegisterDesk.java"));
        must(source.chars().allMatch(sign -> sign == '\n' || sign >= 32 && sign < 127), "plain signs only");
        String bare = source.replaceAll("(?s)/\\*.*?\\*/", "").replaceAll("//[^\n]*", "").replaceAll("\"[^\"]*\"", "\"\"");
        for (String word : List.of("throw", "throws", "try", "catch", "synchronized", "assert", "package", "Object", "Float", "Double",
                "hashCode", "toString", "volatile", "transient", "native", "protected")) {
            must(!Pattern.compile("\\b" + word + "\\b").matcher(bare).find(), "the text is without " + word);
        }
        must(!bare.contains("->") && !bare.contains("::"), "no lambda, no method reference");
        TreeSet<String> imports = new TreeSet<>();
        Matcher found = Pattern.compile("import ([^;]+);").matcher(bare);
        while (found.find()) {
            imports.add(found.group(1));
        }
        must(List.of("java.util.Arrays", "java.util.ArrayList", "java.util.List", "java.util.Iterator").containsAll(imports), "imports that the rules list: " + imports);
        TreeSet<String> calls = new TreeSet<>();
        found = Pattern.compile("\\b(Math|Long|Integer|Arrays|System|String)\\.(\\w+)").matcher(bare);
        while (found.find()) {
            calls.add(found.group(1) + "." + found.group(2));
        }
        must(List.of("Math.max", "Math.min", "Math.abs", "Long.bitCount", "Integer.bitCount", "Arrays.fill", "System.arraycopy").containsAll(calls), "library calls that the rules list: " + calls);
        lengths(source);
    }

    /** A method stands at four or eight blanks and ends with a brace at the same place. */
    private static void lengths(String source) {
        String[] lines = source.split("\n");
        for (int i = 0; i < lines.length; i++) {
            must(lines[i].length() <= 120, "line " + (i + 1) + " is not too long");
            Matcher head = Pattern.compile("^( {4}| {8})(?!(?:if|for|while|switch)\\b)\\w[\\w\\[\\] ]*\\([^)]*\\) \\{$").matcher(lines[i]);
            if (head.matches()) {
                int end = i;
                while (end < lines.length && !lines[end].equals(head.group(1) + "}")) {
                    end++;
                }
                must(end - i < 60, "the method at line " + (i + 1) + " stays short");
            }
        }
    }

    public static void main(String[] args) throws Exception {
        face();
        text();
        System.out.println(wrong == 0 ? "the face and the text are as due" : wrong + " rules are broken");
        if (wrong != 0) {
            System.exit(1);
        }
    }
}
