import java.lang.reflect.Array;
import java.lang.reflect.Constructor;
import java.lang.reflect.Field;
import java.lang.reflect.Method;
import java.lang.reflect.Modifier;
import java.nio.file.Files;
import java.nio.file.Path;
import java.util.Arrays;
import java.util.Collections;
import java.util.IdentityHashMap;
import java.util.List;
import java.util.Set;
import java.util.TreeSet;
import java.util.regex.Matcher;
import java.util.regex.Pattern;

/** The document's face, member by member, and those rules of LANGUAGE.md that can be read off the class or its text. */
public final class FaceTest {
    private static final List<String> METHODS = List.of(
            "int type(int)", "int clear()", "int village()", "int claim(int,int)", "int clause(int,int)",
            "int now(int)", "int makes(int)", "int recants(int)", "int holds(int)", "int undo()",
            "int steps(int)", "int would(int)", "int together(int)", "int row(int,int)", "int haul(int)",
            "int forbid(int)", "int odds(int,int,int)", "int tells(int,int)", "int forget()",
            "int believed(int)", "int mark(int,int)", "int keep(int)", "int back(int)", "int count(int)",
            "long trace()");
    private static final Due DUE = new Due("FaceTest");

    public static void main(String[] args) throws Exception {
        constants();
        members();
        namesOfNestedMethods();
        source();
        room();
        DUE.end();
    }

    private static void constants() {
        DUE.is("BAD", PotLoans.BAD, -1);
        DUE.is("STATE", PotLoans.STATE, -2);
        DUE.is("FULL", PotLoans.FULL, -3);
        DUE.is("NONE", PotLoans.NONE, -9);
        DUE.is("NO", PotLoans.NO, -1000000);
    }

    private static void members() {
        int modifiers = PotLoans.class.getModifiers();
        DUE.holds("public final", Modifier.isPublic(modifiers) && Modifier.isFinal(modifiers));
        Set<String> open = new TreeSet<>();
        for (Method m : PotLoans.class.getDeclaredMethods()) {
            if (!m.isSynthetic() && !Modifier.isPrivate(m.getModifiers())) {
                String types = Arrays.stream(m.getParameterTypes()).map(Class::getName).reduce((a, b) -> a + "," + b).orElse("");
                open.add(m.getReturnType().getName() + " " + m.getName() + "(" + types + ")");
                DUE.holds(m + " is public and no static", m.getModifiers() == Modifier.PUBLIC);
            }
        }
        DUE.holds("the methods are " + open, open.equals(new TreeSet<>(METHODS)));
        Set<String> fields = new TreeSet<>();
        for (Field f : PotLoans.class.getDeclaredFields()) {
            if (!Modifier.isPrivate(f.getModifiers())) {
                fields.add(f.getName());
            }
            DUE.holds(f + ": static is final", !Modifier.isStatic(f.getModifiers()) || Modifier.isFinal(f.getModifiers()));
        }
        DUE.holds("the fields are " + fields, fields.equals(Set.of("BAD", "STATE", "FULL", "NONE", "NO")));
        Constructor<?>[] made = PotLoans.class.getDeclaredConstructors();
        DUE.holds("one public constructor", made.length == 1 && Modifier.isPublic(made[0].getModifiers()) && made[0].getParameterCount() == 0);
    }

    private static void namesOfNestedMethods() {
        Set<String> names = new TreeSet<>();
        for (String m : METHODS) {
            names.add(m.substring(m.indexOf(' ') + 1, m.indexOf('(')));
        }
        DUE.holds("some twelve classes", PotLoans.class.getDeclaredClasses().length < 12);
        for (Class<?> c : PotLoans.class.getDeclaredClasses()) {
            DUE.holds(c + " is static", Modifier.isStatic(c.getModifiers()));
            DUE.holds(c + " is not open", !Modifier.isPublic(c.getModifiers()) && !Modifier.isProtected(c.getModifiers()));
            DUE.holds(c + " has some twenty fields", Arrays.stream(c.getDeclaredFields()).filter(f -> !Modifier.isStatic(f.getModifiers())).count() <= 20);
            for (Method m : c.getDeclaredMethods()) {
                DUE.holds(m + " bears no public one's name", !names.contains(m.getName()));
                DUE.holds(m + " takes seven at most", m.getParameterCount() <= 7);
            }
        }
    }

    private static void source() throws Exception {
        String text = Files.readString(Path.of("src/main/java/PotLoans.java"));
        String code = text.replaceAll("(?s)/\\*.*?\\*/", "").replaceAll("//[^\n]*", "");
        for (String word : List.of("throw", "throws", "try", "catch", "synchronized", "assert", "package", "->", "::", "Exact", "System.out", "Random")) {
            Pattern p = Pattern.compile(Character.isLetter(word.charAt(0)) ? "\\b" + Pattern.quote(word) + "\\b" : Pattern.quote(word));
            DUE.holds("no " + word, !p.matcher(code).find());
        }
        DUE.holds("no Exact", !code.contains("Exact("));
        Matcher imports = Pattern.compile("(?m)^import (.*);$").matcher(code);
        while (imports.find()) {
            DUE.holds("import " + imports.group(1), imports.group(1).equals("java.util.Arrays"));
        }
        Matcher method = Pattern.compile("(?ms)^( {4}| {8})[a-z][^;\n={}]*\\) \\{\n.*?^\\1\\}\n").matcher(code);
        int seen = 0;
        while (method.find()) {
            seen++;
            long lines = method.group().lines().count();
            String head = method.group().lines().findFirst().orElse("");
            DUE.holds("at most sixty lines: " + head, lines <= 60);
            boolean constructor = Pattern.compile("^ *(public )?[A-Z]\\w*\\(").matcher(head).find();
            DUE.holds("makes no object: " + head, constructor || !Pattern.compile("\\bnew\\b").matcher(method.group()).find());
        }
        DUE.holds("the methods were seen", seen > METHODS.size());
    }

    /** What one object takes of the room that all calls share; its calls make nothing more. */
    private static void room() throws Exception {
        Set<Object> objects = Collections.newSetFromMap(new IdentityHashMap<>());
        int places = placesOf(new PotLoans(), objects);
        DUE.holds(objects.size() + " objects and arrays", objects.size() <= 60);
        DUE.holds(places + " fields and elements", places <= 2000);
    }

    private static int placesOf(Object o, Set<Object> seen) throws Exception {
        if (o == null || !seen.add(o)) {
            return 0;
        }
        int places = 0;
        if (o.getClass().isArray()) {
            places = Array.getLength(o);
            for (int i = 0; i < Array.getLength(o) && o instanceof Object[]; i++) {
                places += placesOf(Array.get(o, i), seen);
            }
            return places;
        }
        for (Field f : o.getClass().getDeclaredFields()) {
            if (!Modifier.isStatic(f.getModifiers())) {
                f.setAccessible(true);
                places += 1 + (f.getType().isPrimitive() ? 0 : placesOf(f.get(o), seen));
            }
        }
        return places;
    }
}
