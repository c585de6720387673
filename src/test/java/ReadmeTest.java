import java.io.IOException;
import java.lang.reflect.Array;
import java.lang.reflect.Field;
import java.lang.reflect.InvocationTargetException;
import java.lang.reflect.Method;
import java.lang.reflect.Modifier;
import java.nio.file.Files;
import java.nio.file.Path;
import java.util.Collections;
import java.util.IdentityHashMap;
import java.util.Set;
import java.util.regex.Matcher;
import java.util.regex.Pattern;

/** That README.md says what the class does: its example, its list of calls, its numbers. */
final class ReadmeTest {
    private static Due due = new Due("ReadmeTest");

    private ReadmeTest() {
    }

    public static void main(String[] args) throws IOException, ReflectiveOperationException {
        Path file = Path.of(System.getProperty("class.file", "src/main/java/NextFigures.java")).toAbsolutePath();
        String page = Files.readString(file.resolve("../../../../README.md").normalize());
        example(page);
        listOfCalls(page);
        whatIsMade(page);
        due.end();
    }

    private static void example(String page) throws IllegalAccessException, InvocationTargetException {
        Matcher block = Pattern.compile("(?s)```java\n(.*?)```").matcher(page);
        due.holds("the page has an example", block.find());
        String[] lines = block.group(1).split("\n");
        due.holds("it makes an object", lines[0].equals("NextFigures x = new NextFigures();"));
        due.holds("and calls it", lines.length > 10);
        NextFigures x = new NextFigures();
        for (int i = 1; i < lines.length; i++) {
            Matcher m = Pattern.compile("^x\\.(\\w+)\\((.*)\\); +// (-?\\d+)\\b.*$").matcher(lines[i]);
            boolean isCall = m.matches();
            due.holds("a call with its answer: " + lines[i], isCall);
            if (isCall) {
                due.is(lines[i], call(x, m.group(1), m.group(2)), Integer.parseInt(m.group(3)));
            }
        }
    }

    private static int call(NextFigures x, String name, String told)
            throws IllegalAccessException, InvocationTargetException {
        Method method = methodOf(name);
        String[] each = told.isEmpty() ? new String[0] : told.split(", *");
        Object[] numbers = new Object[each.length];
        for (int i = 0; i < each.length; i++) {
            boolean isLong = method.getParameterTypes()[i] == long.class;
            numbers[i] = isLong ? (Object) Long.decode(each[i].replace("L", "")) : (Object) Integer.decode(each[i]);
        }
        return (int) method.invoke(x, numbers);
    }

    private static Method methodOf(String name) {
        for (Method m : NextFigures.class.getDeclaredMethods()) {
            if (m.getName().equals(name) && Modifier.isPublic(m.getModifiers())) {
                return m;
            }
        }
        throw new IllegalArgumentException(name);
    }

    private static void listOfCalls(String page) {
        int calls = 0;
        for (Method m : NextFigures.class.getDeclaredMethods()) {
            if (Modifier.isPublic(m.getModifiers())) {
                calls++;
                Matcher row = Pattern.compile("(?m)^\\| `" + m.getName() + "\\((.*?)\\)` \\| .+ \\|$").matcher(page);
                boolean isThere = row.find();
                due.holds(m.getName() + " is in the list", isThere);
                String numbers = isThere ? row.group(1) : "";
                due.is(m.getName() + " with its numbers", numbers.isEmpty() ? 0 : numbers.split(", ").length,
                    m.getParameterCount());
            }
        }
        Matcher rows = Pattern.compile("(?m)^\\| `\\w+\\(").matcher(page);
        due.is("the list has no other call", rows.results().count(), calls);
    }

    private static void whatIsMade(String page) throws IllegalAccessException {
        Set<Object> made = Collections.newSetFromMap(new IdentityHashMap<>());
        walk(new NextFigures(), made);
        long arrays = made.stream().filter(one -> one.getClass().isArray()).count();
        long elements = made.stream().filter(one -> one.getClass().isArray()).mapToLong(Array::getLength).sum();
        Matcher m = Pattern.compile("\\((\\d+) objects and (\\d+) arrays, with some ([\\d,]+) elements\\)").matcher(page);
        boolean isThere = m.find();
        due.holds("the page tells what a new object is made of", isThere);
        due.is("objects", isThere ? Long.parseLong(m.group(1)) : 0, made.size() - arrays);
        due.is("arrays", isThere ? Long.parseLong(m.group(2)) : 0, arrays);
        long told = isThere ? Long.parseLong(m.group(3).replace(",", "")) : 0;
        due.holds("some " + told + " elements are " + elements, Math.abs(told - elements) < 100);
    }

    private static void walk(Object one, Set<Object> made) throws IllegalAccessException {
        if (!made.add(one) || one.getClass().isArray()) {
            return;
        }
        for (Field f : one.getClass().getDeclaredFields()) {
            if (!Modifier.isStatic(f.getModifiers()) && !f.getType().isPrimitive()) {
                f.setAccessible(true);
                walk(f.get(one), made);
            }
        }
    }
}
