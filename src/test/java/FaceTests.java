import java.io.IOException;
import java.lang.reflect.Constructor;
import java.lang.reflect.Field;
import java.lang.reflect.Method;
import java.lang.reflect.Modifier;
import java.nio.file.Files;
import java.nio.file.Path;
import java.util.NoSuchElementException;
import java.util.Set;
import java.util.TreeSet;
import java.util.regex.Matcher;
import java.util.regex.Pattern;

/** The face by reflection, and what of LANGUAGE.md can be seen in the file's text. */
public final class FaceTests {
    private static int wrong = 0;

    private static final String FACE = "int sign(int);boolean end(int);int founds();int issues(int,int);int cancels(int,int,int);"
            + "int pool(int);int grant(int,int);int exercise(int,int);int lapses(int,int);int sells(int,int,int,int);"
            + "int gives(int,int);int splits(int);int converts(int,int,int);int term(int,int,int);int round();int thought();"
            + "int told(int,int);int diluted(int);int threatens();int sweep(int);int ratchets();int ratchet(int,int,int,int);"
            + "int shares(int,int);int options(int);int stake(int);int full();int type(int,int);int needs(int,int);"
            + "int greatest();int control();int leads(int);int block(int);int paid(int);int value();int majority(int);"
            + "int swing(int);int exit(int);int gets(int,int);int over(int);int worth(int,int);long curve(int,int);"
            + "int stage(int);int reaches(int,int,int);int multiple(int,int);int preference(int);int flips(int,int);"
            + "int keeps();int back();int undo();int count(int);long row(int)";

    private static void check(boolean holds, String what) {
        if (!holds) {
            wrong++;
            System.out.println("not so: " + what);
        }
    }

    private static String signature(Method m) {
        StringBuilder s = new StringBuilder();
        for (Class<?> p : m.getParameterTypes()) {
            s.append(s.length() == 0 ? "" : ",").append(p.getName());
        }
        return m.getReturnType().getName() + " " + m.getName() + "(" + s + ")";
    }

    public static void main(String[] args) throws IOException {
        face();
        document(Files.readString(Path.of("../shared/DOC.md")));
        names();
        text(Files.readString(Path.of("src/main/java/RoundHouse.java")));
        System.out.println(wrong == 0 ? "the face is as told" : wrong + " things are not as told");
        if (wrong != 0) {
            System.exit(1);
        }
    }

    private static void face() {
        check(Modifier.isFinal(RoundHouse.class.getModifiers()), "the class is final");
        Set<String> due = new TreeSet<>(Set.of(FACE.split(";")));
        for (Method m : RoundHouse.class.getDeclaredMethods()) {
            if (Modifier.isPublic(m.getModifiers())) {
                check(due.remove(signature(m)), "the document has " + signature(m));
            } else {
                check(Modifier.isPrivate(m.getModifiers()), m.getName() + " is private");
            }
        }
        check(due.isEmpty(), "the class has " + due);
        for (Field f : RoundHouse.class.getDeclaredFields()) {
            check(f.getName().equals("NONE") ? Modifier.isPublic(f.getModifiers()) : Modifier.isPrivate(f.getModifiers()), f.getName());
        }
        for (Constructor<?> c : RoundHouse.class.getDeclaredConstructors()) {
            check(c.getParameterCount() == 0 && Modifier.isPublic(c.getModifiers()), "one public constructor");
        }
    }

    /** Each line of the document's face must be one of the class, its parameters' names aside. */
    private static void document(String page) {
        Set<String> left = new TreeSet<>(Set.of(FACE.split(";")));
        Matcher told = Pattern.compile("(?m)^    public (\\w+ \\w+)\\(([^)]*)\\)( throws (\\w+))?;$").matcher(page);
        while (told.find()) {
            String types = told.group(2).replaceAll("(\\w+) \\w+", "$1").replace(" ", "");
            check(left.remove(told.group(1) + "(" + types + ")"), "the face has " + told.group(1));
        }
        check(left.isEmpty(), "the document has " + left);
        check(RoundHouse.NONE == -1, "NONE is -1");
        for (Method m : RoundHouse.class.getDeclaredMethods()) {
            Class<?>[] thrown = m.getExceptionTypes();
            boolean asTold = m.getName().equals("row")
                    ? thrown.length == 1 && thrown[0] == NoSuchElementException.class : thrown.length == 0;
            check(asTold, m.getName() + " throws what the document says");
        }
    }

    private static void names() {
        Set<String> open = new TreeSet<>();
        for (Method m : RoundHouse.class.getDeclaredMethods()) {
            if (Modifier.isPublic(m.getModifiers())) {
                open.add(m.getName());
            }
        }
        checkNames(RoundHouse.class, open);
        for (Class<?> inner : RoundHouse.class.getDeclaredClasses()) {
            check(Modifier.isStatic(inner.getModifiers()) && !Modifier.isPublic(inner.getModifiers()), inner.getName());
            checkNames(inner, open);
            check(inner.getDeclaredFields().length <= 20, "few fields in " + inner.getName());
        }
        check(RoundHouse.class.getDeclaredClasses().length < 12, "few classes");
    }

    private static void checkNames(Class<?> type, Set<String> open) {
        for (Method m : type.getDeclaredMethods()) {
            check(Modifier.isPublic(m.getModifiers()) || !open.contains(m.getName()), "no other method is named " + m.getName());
            check(m.getParameterCount() <= 7, "few parameters of " + m.getName());
        }
    }

    private static void text(String source) {
        String code = source.replaceAll("(?s)/\\*.*?\\*/", "").replaceAll("//[^\n]*", "");
        for (String word : new String[] {"->", "::", "finally", "synchronized", "assert ", "Exact", "catch", "double", "float",
            "hashCode", "toString", "System.out", "Random", "new int[]", "while (true)", "protected", "import java.util.*"}) {
            check(!code.contains(word), "the code is without " + word);
        }
        Matcher imports = Pattern.compile("import ([^;]+);").matcher(code);
        while (imports.find()) {
            check(imports.group(1).equals("java.util.NoSuchElementException"), imports.group(1));
        }
        // A divisor that is no constant is looked at in one place.
        Matcher division = Pattern.compile("[/%] (\\w+)").matcher(code);
        int free = 0;
        while (division.find()) {
            free += division.group(1).matches("[A-Z_]+") ? 0 : 1;
        }
        check(free == 1, "one division by what is no constant, but there are " + free);
        int begun = 0;
        int number = 0;
        for (String line : code.split("\n")) {
            number++;
            check(line.length() <= 120, "a short line: " + line);
            if (line.matches(" {4}( {4})?\\w.*\\) (throws \\w+ )?\\{")) {
                begun = number;
            } else if (line.matches(" {4}( {4})?\\}")) {
                check(number - begun <= 60 || begun == 0, "a short method that ends in line " + number);
                begun = 0;
            }
        }
    }
}
