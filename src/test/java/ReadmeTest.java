import java.io.IOException;
import java.lang.reflect.InvocationTargetException;
import java.lang.reflect.Method;
import java.nio.file.Files;
import java.nio.file.Path;
import java.util.List;
import java.util.regex.Matcher;
import java.util.regex.Pattern;

/** README.md: its example answers what stands behind each call, and its table has every call. */
public final class ReadmeTest {
    private static final String MAKING = "RangeExchange x = new RangeExchange(3, 0);";
    private static final Pattern CALL = Pattern.compile("x\\.(\\w+)\\((.*)\\); +// (-?\\w+).*");
    private static final Pattern EXCEPTION = Pattern.compile("`(\\w+Exception)`");
    private static final String[] CALLS = {
        "give(owner, token, amount)", "balance(owner, token)", "mint(owner, pool, lo, hi, l)",
        "burn(owner, pool, lo, hi, l)", "collect(owner, pool, lo, hi)",
        "swap(owner, pool, down, amount, limit)", "route(owner, amount, least)", "paid()", "price(pool)",
        "tick(pool)", "liquidity(pool)", "growth(pool, side)", "position(owner, pool, lo, hi, what)",
        "held(token)"};

    public static void main(String[] args) throws IOException {
        List<String> lines = Files.readAllLines(Path.of("README.md"));
        exampleAnswersWhatItSays(lines);
        tableHasEveryCall(lines);
        Check.finish("ReadmeTest");
    }

    private static void exampleAnswersWhatItSays(List<String> lines) {
        int from = lines.indexOf("```java") + 1;
        Check.same("the example's first line", lines.get(from), MAKING);
        RangeExchange x = new RangeExchange(3, 0);
        for (int i = from + 1; !lines.get(i).equals("```"); i++) {
            Matcher m = CALL.matcher(lines.get(i));
            Check.holds("a call and its answer: " + lines.get(i), m.matches());
            if (m.matches()) {
                Check.same(lines.get(i), outcome(x, m.group(1), m.group(2)), m.group(3));
            }
        }
    }

    private static String outcome(RangeExchange x, String name, String given) {
        String[] texts = given.isEmpty() ? new String[0] : given.split(", ");
        Method method = named(name);
        Object[] values = new Object[texts.length];
        for (int i = 0; i < texts.length; i++) {
            if (method.getParameterTypes()[i] == boolean.class) {
                values[i] = Boolean.valueOf(texts[i]);
            } else {
                values[i] = Integer.valueOf(texts[i]);
            }
        }
        try {
            return method.invoke(x, values).toString();
        } catch (InvocationTargetException e) {
            return e.getCause().getClass().getSimpleName();
        } catch (IllegalAccessException e) {
            return e.toString();
        }
    }

    private static void tableHasEveryCall(List<String> lines) {
        for (String call : CALLS) {
            Method method = named(call.substring(0, call.indexOf('(')));
            Check.same("the exceptions of " + call + " in the table", thrownInTable(lines, call), thrownBy(method));
        }
    }

    private static String thrownInTable(List<String> lines, String call) {
        StringBuilder thrown = new StringBuilder();
        for (String line : lines) {
            if (line.startsWith("| `" + call + "` |")) {
                thrown.append("row:");
                Matcher m = EXCEPTION.matcher(line);
                while (m.find()) {
                    thrown.append(' ').append(m.group(1));
                }
            }
        }
        return thrown.toString();
    }

    private static String thrownBy(Method method) {
        StringBuilder thrown = new StringBuilder("row:");
        for (Class<?> e : method.getExceptionTypes()) {
            thrown.append(' ').append(e.getSimpleName());
        }
        return thrown.toString();
    }

    private static Method named(String name) {
        for (Method m : RangeExchange.class.getDeclaredMethods()) {
            if (m.getName().equals(name)) {
                return m;
            }
        }
        throw new IllegalStateException("no method " + name);
    }
}
