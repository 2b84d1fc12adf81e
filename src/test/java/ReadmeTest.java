import java.io.IOException;
import java.lang.reflect.InvocationTargetException;
import java.lang.reflect.Method;
import java.math.BigInteger;
import java.nio.file.Files;
import java.nio.file.Path;
import java.util.List;
import java.util.regex.Matcher;
import java.util.regex.Pattern;

/** What README.md tells of calls and formats is so. It is run from the project's directory. */
public final class ReadmeTest {
    private static final Pattern CALL =
            Pattern.compile("book\\.(\\w+)\\((.*)\\); +// (throws \\w+|true|false|-?\\d+)\\b.*");
    private static final Pattern FORMAT = Pattern.compile("\\| (\\d) \\| (\\w+) \\| (\\d+) \\| (\\d+)"
            + " \\| (-\\d+) \\.\\. (\\d+) \\| (\\d+)\\^(\\d+) \\|");

    public static void main(String[] args) throws IOException {
        List<String> lines = Files.readAllLines(Path.of("README.md"));
        PatternBook book = new PatternBook();
        int calls = 0;
        int formats = 0;
        for (String line : lines) {
            Matcher call = CALL.matcher(line);
            Matcher format = FORMAT.matcher(line);
            if (call.matches()) {
                calls++;
                Due.is(line, answer(book, call.group(1), call.group(2)).equals(call.group(3)), true);
            } else if (format.matches()) {
                formats++;
                format(format);
            } else {
                Due.is("no call is passed over: " + line, line.startsWith("book."), false);
            }
        }
        Due.is("calls were found", calls > 0, true);
        Due.is("formats found", formats, 7);
        Due.end("ReadmeTest, " + calls + " calls");
    }

    private static String answer(PatternBook book, String name, String arguments) {
        for (Method method : PatternBook.class.getMethods()) {
            if (method.getName().equals(name)) {
                return answer(book, method, arguments.split(", "));
            }
        }
        return "no such method";
    }

    private static String answer(PatternBook book, Method method, String[] texts) {
        Class<?>[] types = method.getParameterTypes();
        if (types.length != texts.length) {
            return "not so many arguments";
        }
        Object[] values = new Object[texts.length];
        for (int i = 0; i < texts.length; i++) {
            values[i] = value(types[i], texts[i]);
        }
        try {
            return String.valueOf(method.invoke(book, values));
        } catch (InvocationTargetException e) {
            return "throws " + e.getCause().getClass().getSimpleName();
        } catch (IllegalAccessException e) {
            return "not public";
        }
    }

    private static Object value(Class<?> type, String text) {
        if (type == boolean.class) {
            return Boolean.valueOf(text);
        }
        if (type == int.class) {
            return Integer.valueOf(text);
        }
        return Long.decode(text.replace("L", ""));
    }

    private static void format(Matcher row) {
        int number = Integer.parseInt(row.group(1));
        Due.is("kind of " + number, row.group(2).equals(number < 4 ? "binary" : "decimal"), true);
        Due.is("bits of " + number, Integer.parseInt(row.group(3)), Due.FORMATS[number][0]);
        Due.is("digits of " + number, Integer.parseInt(row.group(4)), Due.FORMATS[number][1]);
        int base = number < 4 ? 2 : 10;
        Due.is("base of the PAYLOADs of " + number, Integer.parseInt(row.group(7)), base);
        BigInteger most = BigInteger.valueOf(base).pow(Due.FORMATS[number][1]).subtract(BigInteger.ONE);
        BigInteger end = BigInteger.valueOf(base).pow(Integer.parseInt(row.group(8)));
        int least = Integer.parseInt(row.group(5));
        int greatest = Integer.parseInt(row.group(6));
        for (int format = number; format < 10; format += format < 4 ? 10 : 3) {
            packs(format, 0, least, most, true);
            packs(format, 0, least - 1, most, false);
            packs(format, 0, greatest, most, true);
            packs(format, 0, greatest + 1, most, false);
            packs(format, 2, 0, end.subtract(BigInteger.ONE), true);
            packs(format, 2, 0, end, false);
        }
    }

    private static void packs(int format, int kind, int exponent, BigInteger body, boolean want) {
        PatternBook book = new PatternBook();
        book.put(kind, false, exponent, body.shiftRight(64).longValue(), body.longValue());
        Due.is("pack(" + format + ") of " + kind + ", " + exponent + ", " + body, book.pack(format), want);
    }
}
