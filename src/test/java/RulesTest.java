import java.io.IOException;
import java.lang.reflect.Field;
import java.lang.reflect.Method;
import java.lang.reflect.Modifier;
import java.nio.charset.StandardCharsets;
import java.nio.file.Files;
import java.nio.file.Path;
import java.util.Arrays;
import java.util.Set;
import java.util.TreeSet;
import java.util.regex.Matcher;
import java.util.regex.Pattern;

/** The public face, and the rules of the language that can be seen without reading the code by eye. */
public final class RulesTest {
    private static final Set<String> FACE = Set.of(
            "public int type(int)", "public int clearText()", "public int fault()", "public int read()",
            "public int begin()", "public int go()", "public int choose(int)", "public int skip()",
            "public int back(int)", "public int again()", "public int save(int)", "public int restore(int)",
            "public int shown(int)", "public int portrait(int,boolean)", "public int node(int,int)",
            "public int option(int,int,int)", "public int situations(int)", "public int choicesTo(int)",
            "public int wayTo(int,int)", "public int usable(int,int)", "public int count(int)", "public long digest()");
    private static final String[] FORBIDDEN = {"throw", "throws", "try", "catch", "synchronized", "assert", "volatile",
        "transient", "native", "var", "Exception", "Error", "Object", "Random", "Thread", "System\\.(?!arraycopy)",
        "->", "::", "static \\{", "^package", "@\\w+", "\\[\\]\\["};

    public static void main(String[] args) throws IOException {
        constants();
        methods();
        classesInside();
        source(Files.readString(Path.of("src/main/java/PictureScript.java"), StandardCharsets.ISO_8859_1));
        Due.close("RulesTest");
    }

    private static void constants() {
        Due.is("BAD", PictureScript.BAD, -12);
        Due.is("STATE", PictureScript.STATE, -13);
        Due.is("FULL", PictureScript.FULL, -14);
        Due.is("NONE", PictureScript.NONE, -11);
        int open = 0;
        for (Field field : PictureScript.class.getDeclaredFields()) {
            open += Modifier.isPrivate(field.getModifiers()) ? 0 : 1;
            Due.is("static field " + field.getName() + " is final",
                    Modifier.isStatic(field.getModifiers()) && !Modifier.isFinal(field.getModifiers()) ? 1 : 0, 0);
        }
        Due.is("fields that are not private", open, 4);
        Due.is("constructors", PictureScript.class.getDeclaredConstructors().length, 1);
        Due.is("public constructors", PictureScript.class.getConstructors().length, 1);
        Due.is("modifiers of the class", PictureScript.class.getModifiers(), Modifier.PUBLIC | Modifier.FINAL);
    }

    private static void methods() {
        Set<String> found = new TreeSet<>();
        Set<String> names = new TreeSet<>();
        Set<String> privateNames = new TreeSet<>();
        for (Method method : PictureScript.class.getDeclaredMethods()) {
            if (Modifier.isPrivate(method.getModifiers())) {
                privateNames.add(method.getName());
            } else {
                found.add(method.toString().replace("PictureScript.", ""));
                names.add(method.getName());
            }
        }
        Due.is("the face " + found, found.equals(FACE) ? 1 : 0, 1);
        privateNames.retainAll(names);
        Due.is("private methods with public names " + privateNames, privateNames.size(), 0);
    }

    private static void classesInside() {
        Class<?>[] inside = PictureScript.class.getDeclaredClasses();
        Due.is("at most twelve classes " + Arrays.toString(inside), inside.length <= 12 ? 1 : 0, 1);
        for (Class<?> c : inside) {
            Due.is(c + " is static and not public", c.getModifiers() & (Modifier.STATIC | Modifier.PUBLIC | Modifier.PROTECTED),
                    Modifier.STATIC);
            Due.is(c + " has at most twenty fields", c.getDeclaredFields().length <= 20 ? 1 : 0, 1);
        }
    }

    private static void source(String source) {
        Due.is("signs above 126", source.chars().filter(c -> c > 126).count(), 0);
        String code = source.replaceAll("(?s)/\\*.*?\\*/", "").replaceAll("//[^\n]*", "");
        for (String forbidden : FORBIDDEN) {
            String whole = forbidden.matches("\\w+") ? "\\b" + forbidden + "\\b" : forbidden;
            Matcher matcher = Pattern.compile(whole, Pattern.MULTILINE).matcher(code);
            Due.is("places with " + forbidden, matcher.results().count(), 0);
        }
        Matcher imports = Pattern.compile("^import (.*);$", Pattern.MULTILINE).matcher(code);
        while (imports.find()) {
            Due.is("import of " + imports.group(1), imports.group(1).equals("java.util.Arrays") ? 1 : 0, 1);
        }
        rowsAreMadeAtFirst(code);
    }

    /** What calls make would add up over a run: so rows and objects are made with the fields, and in one constructor. */
    private static void rowsAreMadeAtFirst(String code) {
        int made = 0;
        for (String line : code.split("\n")) {
            boolean isField = line.matches("\\s+(private )?(final )?[\\w\\[\\]]+ \\w+ = new .*;");
            made += line.contains("new ") && !isField ? 1 : 0;
        }
        Due.is("places beside the fields where something is made", made, 2);
    }
}
