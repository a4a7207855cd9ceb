import java.util.ArrayList;
import java.util.List;
import java.util.TreeSet;

/** What the tests of the document's edges share: each check bears the sentence of the promise that it looks at. */
final class Edges {
    private final String name;
    private final TreeSet<Integer> promises = new TreeSet<>();
    private int promise;
    private int passed = 0;
    private int failed = 0;

    Edges(String name) {
        this.name = name;
    }

    void promise(int number) {
        promise = number;
        promises.add(number);
    }

    /** Ends the program: with exit code 1 if a check failed, or a promise, told as first, last, .., had none. */
    void end(int... ranges) {
        for (int n = 0; n + 1 < ranges.length; n += 2) {
            for (promise = ranges[n]; promise <= ranges[n + 1]; promise++) {
                holds("the promise has a check", promises.contains(promise));
            }
        }
        System.out.println(name + ": " + passed + " passed, " + failed + " failed");
        if (failed > 0) {
            System.exit(1);
        }
    }

    private void check(String sentence, String call, long got, long want) {
        if (got == want) {
            passed++;
        } else {
            failed++;
            System.out.println("promise " + promise + ", " + sentence + ": " + call + " answered " + got + ", due is "
                + want);
        }
    }

    private void checkLike(String sentence, String call, List<?> got, List<?> want) {
        if (got.equals(want)) {
            passed++;
        } else {
            failed++;
            System.out.println("promise " + promise + ", " + sentence + ": " + call + " leaves\n" + got + "\nin place of\n"
                + want);
        }
    }

    private void answers(String sentence, FairDraws x, int from, Object... callsAndAnswers) {
        for (int n = from; n + 1 < callsAndAnswers.length; n += 2) {
            String call = (String) callsAndAnswers[n];
            check(sentence, call, World.call(x, call), ((Number) callsAndAnswers[n + 1]).longValue());
        }
    }

    /** Calls, one behind the other on one object, each with the answer that is due. */
    void runs(String sentence, World world, Object... callsAndAnswers) {
        answers(sentence, world.make(), 0, callsAndAnswers);
    }

    /** Calls that ask alone: their answers, and that nothing at all is another one behind them. */
    void asks(String sentence, World world, Object... callsAndAnswers) {
        answers(sentence, world.make(), 0, callsAndAnswers);
        String[] calls = new String[callsAndAnswers.length / 2];
        for (int n = 0; n < calls.length; n++) {
            calls[n] = (String) callsAndAnswers[2 * n];
        }
        checkLike(sentence, String.join(" ", calls), world.readBehind(calls), world.read());
    }

    /** Each call by itself, on a new object, has this answer, and nothing at all is another one behind it. */
    void refuses(String sentence, World world, int answer, String... calls) {
        for (String call : calls) {
            check(sentence, call, World.call(world.make(), call), answer);
            checkLike(sentence, call, world.readBehind(call), world.read());
        }
    }

    /** An act's answer; that it can be undone, with all as it was; and what calls behind the act answer. */
    void acts(String sentence, World world, Object... callsAndAnswers) {
        FairDraws x = world.make();
        List<Long> was = World.lookWithoutUndo(x);
        int more = x.count(4);
        String act = (String) callsAndAnswers[0];
        check(sentence, act, World.call(x, act), ((Number) callsAndAnswers[1]).longValue());
        check(sentence, "count(4) behind " + act, x.count(4), Math.min(more + 1, 10));
        check(sentence, "undo() of " + act, x.undo(), Math.min(more, 9));
        checkLike(sentence, act + " undo()", World.lookWithoutUndo(x), was);
        answers(sentence, world.make(), 0, callsAndAnswers);
    }

    /** Whatever is asked of objects of both worlds has like answers. */
    void alike(String sentence, World world, World other) {
        FairDraws x = world.make();
        FairDraws y = other.make();
        for (String call : World.asks()) {
            check(sentence, world + " " + call, World.call(x, call), World.call(y, call));
        }
    }

    /** The text is told on top of a world: how many items came, then what calls answer. */
    void tells(String sentence, World world, String text, int items, Object... callsAndAnswers) {
        FairDraws x = world.make();
        World.lay(x, text);
        check(sentence, "tell() of \"" + text + "\"", x.tell(), items);
        check(sentence, "count(5) behind it", x.count(5), 0);
        check(sentence, "count(4) behind it", x.count(4), 0);
        check(sentence, "undo() behind it", x.undo(), -1);
        answers(sentence, x, 0, callsAndAnswers);
    }

    /** The text has a fault: the answer, and that but for the tape, which is empty, nothing is another one. */
    void faults(String sentence, World world, String text, int place, int kind) {
        FairDraws x = world.make();
        World.lay(x, text);
        check(sentence, "tell() of \"" + text + "\"", x.tell(), -2 - (8 * place + kind));
        checkLike(sentence, "tell() of \"" + text + "\"", world.readBehind("tape " + text, "tell()"),
            world.withoutTape().read());
    }

    /**
     * Calls of which one argument is out of its range, told as least, most, least, most, ..: just out of it, and as far
     * as can be. The other ones are the least and the greatest that they may be in turn, so that two are unlike.
     */
    static String[] beyond(String name, int... ranges) {
        List<String> calls = new ArrayList<>();
        for (int out = 0; out < ranges.length; out += 2) {
            String[] wrong = {String.valueOf(ranges[out] - 1), String.valueOf(ranges[out + 1] + 1), "MIN", "MAX"};
            for (String value : wrong) {
                for (int side = 0; side < 2; side++) {
                    List<String> values = new ArrayList<>();
                    for (int n = 0; n < ranges.length; n += 2) {
                        values.add(n == out ? value : String.valueOf(ranges[n + (n / 2 + side) % 2]));
                    }
                    calls.add(name + "(" + String.join(", ", values) + ")");
                }
            }
        }
        return calls.toArray(new String[0]);
    }

    /** A check that is none of a call's answer. */
    void holds(String sentence, boolean is) {
        check(sentence, "it", is ? 1 : 0, 1);
    }
}
