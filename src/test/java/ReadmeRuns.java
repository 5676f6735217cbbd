import java.io.IOException;
import java.lang.reflect.Method;
import java.nio.file.Files;
import java.nio.file.Path;
import java.util.HashMap;
import java.util.Map;
import java.util.regex.Matcher;
import java.util.regex.Pattern;

/** Does the run of calls that README.md tells, and compares each answer with the one told there. */
public final class ReadmeRuns {
    private static final Pattern PUT = Pattern.compile("put\\(house, \"(.*)\"\\);");
    private static final Pattern CALL = Pattern.compile("house\\.(\\w+)\\(([^)]*)\\);\\s+// (-?\\d+),.*");

    public static void main(String[] args) throws IOException, ReflectiveOperationException {
        Map<String, Method> face = new HashMap<>();
        for (Method m : RoundHouse.class.getMethods()) {
            face.put(m.getName(), m);
        }
        RoundHouse house = null;
        int done = 0;
        int wrong = 0;
        for (String line : Files.readAllLines(Path.of("README.md"))) {
            Matcher put = PUT.matcher(line);
            Matcher call = CALL.matcher(line);
            if (line.equals("RoundHouse house = new RoundHouse();")) {
                house = new RoundHouse();
            } else if (put.matches()) {
                put(house, put.group(1));
            } else if (call.matches()) {
                done++;
                Object got = face.get(call.group(1)).invoke(house, numbers(call.group(2)));
                if (((Number) got).longValue() != Long.parseLong(call.group(3))) {
                    wrong++;
                    System.out.println(line + " answered " + got);
                }
            }
        }
        // Fewer would mean that the lines are no longer written as this test reads them.
        if (done < 15) {
            wrong++;
            System.out.println("README.md has only " + done + " calls that can be read");
        }
        System.out.println(wrong == 0 ? "README.md tells what is so" : wrong + " answers are not as told");
        if (wrong != 0) {
            System.exit(1);
        }
    }

    private static Object[] numbers(String list) {
        String[] words = list.isEmpty() ? new String[0] : list.split(", ");
        Object[] numbers = new Object[words.length];
        for (int i = 0; i < words.length; i++) {
            numbers[i] = Integer.parseInt(words[i]);
        }
        return numbers;
    }

    // As in README.md.
    private static void put(RoundHouse house, String text) {
        house.end(0);
        for (int i = 0; i < text.length(); i += 4) {
            int four = 0;
            for (int k = i; k < i + 4; k++) {
                four = four << 8 | (k < text.length() ? text.charAt(k) : 0);
            }
            house.sign(four);
        }
        house.end(text.length());
    }
}
