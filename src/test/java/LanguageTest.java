import java.lang.management.ManagementFactory;
import java.lang.reflect.Array;
import java.lang.reflect.Constructor;
import java.lang.reflect.Field;
import java.lang.reflect.Method;
import java.lang.reflect.Modifier;
import java.nio.file.Files;
import java.nio.file.Path;
import java.util.ArrayDeque;
import java.util.ArrayList;
import java.util.Arrays;
import java.util.IdentityHashMap;
import java.util.List;
import java.util.Map;
import java.util.TreeSet;
import java.util.regex.Matcher;
import java.util.regex.Pattern;

/** The document's face and those rules of LANGUAGE.md that a program can look at; the room that calls take. */
public final class LanguageTest {
    private static int passed = 0;
    private static int failed = 0;

    private static void check(String what, boolean holds) {
        if (holds) {
            passed++;
        } else {
            failed++;
            System.out.println("not so: " + what);
        }
    }

    public static void main(String[] args) throws Exception {
        face();
        members();
        source();
        roomOfAnObject();
        roomOfCalls();
        System.out.println("LanguageTest: " + passed + " passed, " + failed + " failed");
        if (failed > 0) {
            System.exit(1);
        }
    }

    /** What the document prints under "The public face" is public, and nothing else is. */
    private static void face() throws Exception {
        String document = Files.readString(Path.of("../shared/DOC.md"));
        Matcher block = Pattern.compile("## The public face\\s+```java\\n(.*?)```", Pattern.DOTALL).matcher(document);
        check("the document prints the face", block.find());
        TreeSet<String> want = new TreeSet<>();
        Matcher line = Pattern.compile("public (int|long) (\\w+)\\((.*?)\\);").matcher(block.group(1));
        while (line.find()) {
            int n = line.group(3).isEmpty() ? 0 : line.group(3).split(",").length;
            want.add(line.group(1) + " " + line.group(2) + " " + n);
        }
        TreeSet<String> got = new TreeSet<>();
        for (Method method : FairDraws.class.getDeclaredMethods()) {
            if (Modifier.isPublic(method.getModifiers())) {
                got.add(method.getReturnType() + " " + method.getName() + " " + method.getParameterCount());
                check(method + " takes ints alone",
                    Arrays.stream(method.getParameterTypes()).allMatch(type -> type == int.class));
                check(method + " is of the object", !Modifier.isStatic(method.getModifiers()));
            }
        }
        check("the methods are those of the document: " + want + got, want.equals(got) && want.size() == 59);
        check("the class is public and final",
            (FairDraws.class.getModifiers() & (Modifier.PUBLIC | Modifier.FINAL)) == (Modifier.PUBLIC | Modifier.FINAL));
        Constructor<?>[] constructors = FairDraws.class.getDeclaredConstructors();
        check("one constructor, public, without arguments", constructors.length == 1
            && Modifier.isPublic(constructors[0].getModifiers()) && constructors[0].getParameterCount() == 0);
        for (Field field : FairDraws.class.getDeclaredFields()) {
            boolean isNone = field.getName().equals("NONE") && Modifier.isPublic(field.getModifiers());
            check(field + " is private", isNone || Modifier.isPrivate(field.getModifiers()));
        }
    }

    private static void members() {
        List<String> names = new ArrayList<>();
        List<Class<?>> classes = new ArrayList<>(List.of(FairDraws.class.getDeclaredClasses()));
        check("no more than twelve classes", classes.size() < 12);
        for (Class<?> inner : classes) {
            check(inner + " is static and not public", Modifier.isStatic(inner.getModifiers())
                && !Modifier.isPublic(inner.getModifiers()) && !Modifier.isProtected(inner.getModifiers()));
        }
        for (Method method : FairDraws.class.getDeclaredMethods()) {
            if (Modifier.isPublic(method.getModifiers())) {
                names.add(method.getName());
            }
        }
        classes.add(FairDraws.class);
        for (Class<?> each : classes) {
            int fields = 0;
            for (Field field : each.getDeclaredFields()) {
                boolean isStatic = Modifier.isStatic(field.getModifiers());
                check(field + " is final if it is static", !isStatic || Modifier.isFinal(field.getModifiers()));
                fields += isStatic ? 0 : 1;
            }
            check(each + " has some twenty fields at most", fields <= 20);
            for (Method method : each.getDeclaredMethods()) {
                boolean isPublic = Modifier.isPublic(method.getModifiers());
                check(method + " is private in the outer class",
                    each != FairDraws.class || isPublic || Modifier.isPrivate(method.getModifiers()));
                check(method + " bears no public one's name", isPublic || !names.contains(method.getName()));
                check(method + " takes seven at most", method.getParameterCount() <= 7);
            }
        }
    }

    private static void source() throws Exception {
        String source = Files.readString(Path.of("src/main/java/FairDraws.java"));
        check("signs 1 to 127", source.chars().allMatch(sign -> sign >= 1 && sign <= 127));
        String code = source.replaceAll("(?s)/\\*.*?\\*/", "").replaceAll("//[^\\n]*", "")
            .replaceAll("\"[^\"\\n]*\"", "\"\"").replaceAll("'.'", "' '");
        String[] never = {"\\bthrow\\b", "\\bthrows\\b", "\\btry\\b", "\\bcatch\\b", "\\bsynchronized\\b", "\\bassert\\b",
            "->", "::", "\\bstatic\\s*\\{", "\\bpackage\\b", "\\bimport\\b", "\\bSystem\\b", "\\bRandom\\b",
            "Exact\\b", "\\binstanceof\\b", "\\bhashCode\\b", "\\btoString\\b", "\\bdouble\\b", "\\bfloat\\b",
            "\"\"\\s*\\+", "\\+\\s*\"\"", "@\\w+", "\\bfinalize\\b", "\\bObject\\b", "\\bprotected\\b"};
        for (String pattern : never) {
            check("the source has no " + pattern, !Pattern.compile(pattern).matcher(code).find());
        }
        methodsAreShort(source);
    }

    private static void methodsAreShort(String source) {
        int start = -1;
        String indent = "";
        String[] lines = source.split("\n");
        for (int n = 0; n < lines.length; n++) {
            Matcher head = Pattern.compile("^( {4}| {8})(?!.*\\bclass\\b)\\S.*\\) \\{$").matcher(lines[n]);
            if (start < 0 && head.find()) {
                start = n;
                indent = head.group(1);
            } else if (start >= 0 && lines[n].equals(indent + "}")) {
                check("sixty lines at most from line " + (start + 1), n - start <= 60);
                start = -1;
            }
        }
    }

    /** All that an object holds: its objects and arrays, their fields and elements. */
    private static void roomOfAnObject() throws Exception {
        Map<Object, Boolean> seen = new IdentityHashMap<>();
        ArrayDeque<Object> open = new ArrayDeque<>();
        Object root = new FairDraws();
        open.add(root);
        seen.put(root, true);
        long elements = 0;
        while (!open.isEmpty()) {
            Object object = open.remove();
            List<Object> held = new ArrayList<>();
            if (object.getClass().isArray()) {
                int length = Array.getLength(object);
                elements += length;
                for (int n = 0; n < length && object instanceof Object[]; n++) {
                    held.add(Array.get(object, n));
                }
            } else {
                for (Field field : object.getClass().getDeclaredFields()) {
                    if (!Modifier.isStatic(field.getModifiers())) {
                        elements++;
                        field.setAccessible(true);
                        held.add(field.getType().isPrimitive() ? null : field.get(object));
                    }
                }
            }
            for (Object each : held) {
                if (each != null && seen.put(each, true) == null) {
                    open.add(each);
                }
            }
        }
        check("an object is of few objects: " + seen.size(), seen.size() <= 400);
        check("an object has few elements: " + elements, elements <= 20000);
    }

    /** No call makes an object: what the thread was given stays as it is. */
    private static void roomOfCalls() {
        com.sun.management.ThreadMXBean threads = (com.sun.management.ThreadMXBean) ManagementFactory.getThreadMXBean();
        long id = Thread.currentThread().getId();
        FairDraws x = new FairDraws();
        everyCall(x);
        long least = Long.MAX_VALUE;
        for (int n = 0; n < 5; n++) {
            long before = threads.getThreadAllocatedBytes(id);
            everyCall(x);
            least = Math.min(least, threads.getThreadAllocatedBytes(id) - before);
        }
        check("calls make no objects: " + least + " bytes", least < 256);
    }

    private static long everyCall(FairDraws x) {
        long sum = x.end(0) + x.feed(0x6974656d, 0x20306120, 0x31207469, 0x6d657320, 0x35302020) + x.tell();
        for (int n = 0; n < 60; n++) {
            sum += x.come(n % 4, n % 26, 1 + n % 20) + x.pass(1);
        }
        sum += x.put(0, 0, 1, 5) + x.size(0, 3) + x.size(0, 5) + x.window(0, 30) + x.weigh(3, 4) + x.again(3) + x.drop(9)
            + x.move(3, 1) + x.merge(2, 3) + x.rename(3, 4) + x.swap(20, 21) + x.weighAll(0, 2) + x.split(1, 3, 2)
            + x.seed(77) + x.undo() + x.keep(0) + x.keep(1) + x.back(0);
        for (int shard = 0; shard < 4; shard++) {
            sum += x.sample(shard, 0) + x.capped(shard, 1, 0) + x.last(shard) + x.needs(shard, 1) + x.heavy(shard, 500)
                + x.skip(shard, 1) + x.kinds(shard, 5) + x.sizeForKinds(shard, 3) + x.shared(shard, 0)
                + x.expired(shard, 0) + x.later(shard, 5, 0) + x.changes(shard) + x.played(shard, 0)
                + x.played(shard, 1) + x.labels(shard, 0, 2) + x.total(shard, 2) + x.mode(shard) + x.unlike(shard, 0)
                + x.same(0, shard);
        }
        for (int item = 0; item < x.count(0); item++) {
            sum += x.of(item, 6) + x.of(item, 7) + x.order(item, 5) + x.part(item, 1000) + x.lots(item, 3)
                + x.without(item, 0) + x.weightFor(item) + x.sizeFor(item) + x.windowFor(item) + x.enters(item)
                + x.then(item, 0) + x.outBy(item);
        }
        sum += x.merged(15, 24, 3) + x.partOf(15, 24, 3) + x.nextLot(999) + x.busiest(9, 1) + x.told(-1) + x.digest()
            + x.count(7) + x.thin(0) + x.purge();
        return sum;
    }
}
