import java.lang.reflect.InvocationTargetException;
import java.lang.reflect.Method;
import java.nio.charset.StandardCharsets;
import java.util.ArrayList;
import java.util.Arrays;
import java.util.HashMap;
import java.util.List;
import java.util.Map;

/**
 * A run of calls that makes objects which are all alike. A step with a bracket is a call, "put(0, 0, 1, 500)"; one that
 * begins with "tape " lays the rest of it on the tape; any other is a stream that is told. No step may be refused.
 */
final class World {
    /**
     * At tick 8, by sizes 3, 4, 4, 6, windows 10, 3, 0, 8, seed 9. Shard 0: item 0 a 1 500 of tick 0, 1 b 2 100 of
     * tick 0, 3 c 6 500 of tick 6, 5 a is dropped. Shard 1: item 2 a 2 300 of tick 2, which expired, 4 c 20 7 of tick 6,
     * 6 e 1 of tick 6, its lot drawn. Shards 2, 3 have none. Ten acts can be undone, both shelves have something.
     */
    static final World RICH = new World("size 0 3;window 0 10;window 1 3;seed 77;key 0 a 1 100;key 0 b 2 500;"
        + "wait 2;key 1 a 2 300;wait 4;key 0 c 1 500;key 1 c 20 7", "keep(0)", "put(0, 0, 5, 9)", "drop(5)", "weigh(3, 6)",
        "window(3, 8)", "keep(1)", "size(3, 6)", "put(2, 3, 1, 200)", "move(6, 1)", "again(6)", "pass(2)", "seed(9)",
        "swap(0, 1)", "rename(3, 4)", "tape seed 8;key 2 q 4 444");

    private static final Map<String, Method> METHODS = new HashMap<>();

    static {
        for (Method method : FairDraws.class.getDeclaredMethods()) {
            METHODS.put(method.getName() + " " + method.getParameterCount(), method);
        }
    }

    private final List<String> steps = new ArrayList<>();
    private List<List<Long>> read;
    private World withoutTape;

    World(String... steps) {
        this.steps.addAll(Arrays.asList(steps));
    }

    World and(String... more) {
        World world = new World(steps.toArray(new String[0]));
        world.steps.addAll(Arrays.asList(more));
        return world;
    }

    /** As this one, but its tape is empty. */
    World withoutTape() {
        if (withoutTape == null) {
            withoutTape = and("end(0)");
        }
        return withoutTape;
    }

    FairDraws make() {
        FairDraws x = new FairDraws();
        for (String step : steps) {
            long answer = does(x, step);
            if (answer < 0) {
                throw new IllegalStateException("the step \"" + step + "\" of a world answered " + answer);
            }
        }
        return x;
    }

    private static long does(FairDraws x, String step) {
        if (step.startsWith("tape ")) {
            return lay(x, step.substring(5));
        }
        if (step.contains("(")) {
            return call(x, step);
        }
        lay(x, step);
        return x.tell();
    }

    /** The text takes the place of what is on the tape. */
    static int lay(FairDraws x, String text) {
        byte[] bytes = text.getBytes(StandardCharsets.ISO_8859_1);
        x.end(0);
        for (int from = 0; from < bytes.length; from += 20) {
            int[] numbers = new int[5];
            for (int n = 0; n < 20 && from + n < bytes.length; n++) {
                numbers[n / 4] |= (bytes[from + n] & 255) << 24 - 8 * (n % 4);
            }
            x.feed(numbers[0], numbers[1], numbers[2], numbers[3], numbers[4]);
        }
        return x.end(bytes.length);
    }

    /** A call that is told as in Java; MIN and MAX are the least and the greatest int. */
    static long call(FairDraws x, String call) {
        int open = call.indexOf('(');
        String inside = call.substring(open + 1, call.length() - 1).trim();
        String[] words = inside.isEmpty() ? new String[0] : inside.split("\\s*,\\s*");
        Object[] values = new Object[words.length];
        for (int n = 0; n < words.length; n++) {
            values[n] = words[n].equals("MIN") ? Integer.MIN_VALUE : words[n].equals("MAX") ? Integer.MAX_VALUE
                : Integer.parseInt(words[n]);
        }
        Method method = METHODS.get(call.substring(0, open) + " " + words.length);
        if (method == null) {
            throw new IllegalArgumentException("there is no " + call);
        }
        try {
            return ((Number) method.invoke(x, values)).longValue();
        } catch (InvocationTargetException thrown) {
            throw new IllegalStateException(call + " threw", thrown.getCause());
        } catch (IllegalAccessException never) {
            throw new IllegalStateException(never);
        }
    }

    /** All that there is in objects of this world, one list for each way to look; the same lists for like ones. */
    List<List<Long>> read() {
        if (read == null) {
            read = readBehind();
        }
        return read;
    }

    /**
     * Likewise, when these calls have been made: as it is, behind each undo(), from each shelf, by the tape's text.
     * Each look is at an object of its own, so that none is used for more than 512 calls.
     */
    List<List<Long>> readBehind(String... calls) {
        List<List<Long>> all = new ArrayList<>();
        for (int undone = 0; undone <= 11; undone++) {
            FairDraws x = makeBehind(calls);
            List<Long> seen = new ArrayList<>();
            for (int n = 0; n < undone; n++) {
                seen.add((long) x.undo());
            }
            look(x, seen);
            all.add(seen);
        }
        for (String way : new String[] {"back(0)", "back(1)", "tell()"}) {
            FairDraws x = makeBehind(calls);
            List<Long> seen = new ArrayList<>();
            seen.add(call(x, way));
            look(x, seen);
            all.add(seen);
        }
        return all;
    }

    private FairDraws makeBehind(String... calls) {
        FairDraws x = make();
        for (String call : calls) {
            does(x, call);
        }
        return x;
    }

    /** What there is now, but for what can be undone: how much that is differs behind an act and its undo(). */
    static List<Long> lookWithoutUndo(FairDraws x) {
        List<Long> seen = new ArrayList<>();
        look(x, seen);
        seen.remove(4);
        return seen;
    }

    /** All that can be asked of a world of few items, but for what can be undone; some 350 calls. */
    static List<String> asks() {
        List<String> calls = new ArrayList<>(List.of("digest()", "told(-1)", "nextLot(0)", "busiest(1, 0)", "busiest(1, 1)",
            "busiest(3, 0)", "busiest(3, 1)", "count(0)", "count(1)", "count(2)", "count(3)", "count(5)", "count(6)", "count(7)"));
        String[] ofShards = {"sample(#, -1)", "sample(#, 0)", "sample(#, 1)", "sample(#, 2)", "sample(#, 3)", "capped(#, 1, -1)",
            "capped(#, 1, 1)", "last(#)", "needs(#, 1)", "needs(#, 2)", "heavy(#, 5)", "skip(#, 1)", "kinds(#, 12)",
            "sizeForKinds(#, 2)", "shared(#, 0)", "expired(#, -1)", "expired(#, 0)", "later(#, 1, -1)", "later(#, 3, 0)",
            "changes(#)", "played(#, 0)", "played(#, 1)", "labels(#, 0, 0)", "labels(#, 0, 1)", "labels(#, 0, 2)",
            "labels(#, 0, 3)", "total(#, 0)", "total(#, 1)", "total(#, 2)", "total(#, 3)", "total(#, 4)", "total(#, 5)", "mode(#)",
            "unlike(#, 0)", "same(0, #)", "same(1, #)", "partOf(15, 3, #)", "merged(15, 24, #)"};
        String[] ofItems = {"of(#, 0)", "of(#, 1)", "of(#, 2)", "of(#, 3)", "of(#, 4)", "of(#, 5)", "of(#, 6)", "of(#, 7)",
            "order(#, 0)", "part(#, 1000)", "lots(#, 1)", "without(#, -1)", "without(#, 0)", "weightFor(#)", "sizeFor(#)",
            "windowFor(#)", "enters(#)", "then(#, -1)", "then(#, 0)", "outBy(#)"};
        for (int shard = 0; shard < 4; shard++) {
            for (String call : ofShards) {
                calls.add(call.replace("#", String.valueOf(shard)));
            }
        }
        for (int item = 0; item < 9; item++) {
            for (String call : ofItems) {
                calls.add(call.replace("#", String.valueOf(item)));
            }
        }
        return calls;
    }

    private static void look(FairDraws x, List<Long> seen) {
        List<Long> found = new ArrayList<>();
        for (int what = 0; what < 8; what++) {
            found.add((long) x.count(what));
        }
        found.add(x.digest());
        // The digest tells no dropped item's shard.
        for (int item = 0; item < x.count(0); item++) {
            found.add((long) x.of(item, 0));
        }
        for (int shard = 0; shard < 4; shard++) {
            found.add((long) x.total(shard, 4));
            found.add((long) x.total(shard, 5));
            int n = x.sample(shard, -1);
            for (int k = 0; k <= n; k++) {
                found.add((long) x.sample(shard, k));
            }
            found.add((long) x.same(0, shard));
            found.add((long) x.same(1, shard));
        }
        found.add((long) x.nextLot(0));
        seen.addAll(found);
    }

    @Override
    public String toString() {
        return String.join(" ", steps);
    }
}
