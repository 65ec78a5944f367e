import java.io.File;
import java.lang.reflect.Method;
import java.lang.reflect.Modifier;
import java.nio.ByteBuffer;
import java.nio.IntBuffer;
import java.nio.charset.StandardCharsets;
import java.nio.file.Files;
import java.nio.file.Path;
import java.util.Arrays;
import java.util.regex.Matcher;
import java.util.regex.Pattern;

/** README.md does not lie: its calls answer as it says, and it names every call of the class and every test. */
public final class ReadmeTest {
    private static final Pattern CALL = Pattern.compile("w\\.(\\w+)\\(([-0-9, ]*)\\);\\s*// (-?\\d+):.*");
    private static final Pattern TELL = Pattern.compile("tell\\(w, \"([^\"]*)\"\\);\\s*// (-?\\d+):.*");
    private static int wrong = 0;

    public static void main(String[] args) throws Exception {
        String page = Files.readString(Path.of("README.md"));
        String[] parts = page.split("```(java)?\n");
        check(parts.length == 5, "two pieces of code, not " + parts.length / 2);
        if (parts.length == 5) {
            String own = Files.readString(Path.of("src/test/java/ReadmeTest.java"));
            check(bare(own).contains(bare(parts[1])), "the tool that tells a text is not this test's own");
            run(parts[3].split("\n"));
        }
        for (Method m : FootholdWall.class.getDeclaredMethods())
            if (Modifier.isPublic(m.getModifiers())) check(page.contains("`" + m.getName() + "`"), "no word of " + m.getName());
        for (File f : new File("src/test/java").listFiles())
            check(page.contains("`" + f.getName().replace(".java", "")), "no word of " + f.getName());
        System.out.println("ReadmeTest: " + (wrong == 0 ? "all answers are as due" : wrong + " wrong"));
        if (wrong != 0) System.exit(1);
    }

    static void check(boolean fine, String what) {
        if (!fine) {
            wrong++;
            System.out.println("README.md: " + what);
        }
    }

    static String bare(String text) {
        return text.replaceAll("\\s+", "");
    }

    static int tell(FootholdWall w, String text) {
        byte[] bytes = Arrays.copyOf(text.getBytes(StandardCharsets.ISO_8859_1), (text.length() + 19) / 20 * 20);
        IntBuffer fours = ByteBuffer.wrap(bytes).asIntBuffer();
        while (fours.hasRemaining()) w.feed(fours.get(), fours.get(), fours.get(), fours.get(), fours.get());
        return w.wall(text.length());
    }

    static void run(String[] lines) throws Exception {
        FootholdWall w = new FootholdWall();
        check(lines[0].equals("FootholdWall w = new FootholdWall();"), "it begins by " + lines[0]);
        for (int i = 1; i < lines.length; i++) {
            Matcher call = CALL.matcher(lines[i]), told = TELL.matcher(lines[i]);
            if (told.matches()) due(lines[i], tell(w, told.group(1)), told.group(2));
            else if (call.matches()) due(lines[i], answer(w, call.group(1), call.group(2)), call.group(3));
            else check(false, "no call with an answer: " + lines[i]);
        }
    }

    static void due(String line, long got, String want) {
        check(got == Long.parseLong(want), line + "\n  answered " + got);
    }

    static long answer(FootholdWall w, String name, String given) throws Exception {
        String[] numbers = given.isEmpty() ? new String[0] : given.split(", ");
        for (Method m : FootholdWall.class.getMethods()) {
            if (!m.getName().equals(name) || m.getParameterCount() != numbers.length) continue;
            Object[] values = new Object[numbers.length];
            for (int i = 0; i < values.length; i++) {
                if (m.getParameterTypes()[i] == long.class) values[i] = Long.parseLong(numbers[i]);
                else values[i] = Integer.parseInt(numbers[i]);
            }
            return ((Number) m.invoke(w, values)).longValue();
        }
        throw new IllegalStateException("no such call: " + name);
    }
}
