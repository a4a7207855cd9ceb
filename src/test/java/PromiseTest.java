import java.nio.charset.StandardCharsets;

/** Each promise of the document by itself: ordinary calls, the edges that it names, wrong arguments. */
public final class PromiseTest {
    private static final int MIN = Integer.MIN_VALUE;
    private static final int MAX = Integer.MAX_VALUE;

    private static int promise;
    private static boolean broken;
    private static int passed = 0;
    private static int failed = 0;

    private static void due(String call, long got, long want) {
        if (got != want) {
            broken = true;
            System.out.println("promise " + promise + ": " + call + " answered " + got + ", due is " + want);
        }
    }

    private static void ends() {
        if (broken) {
            failed++;
        } else {
            passed++;
        }
        broken = false;
        promise++;
    }

    /** Puts a text on the tape in place of what is there, twenty bytes at once. */
    private static void feed(FairDraws x, String text) {
        byte[] bytes = text.getBytes(StandardCharsets.ISO_8859_1);
        x.end(0);
        for (int from = 0; from < bytes.length; from += 20) {
            int[] numbers = new int[5];
            for (int n = 0; n < 20 && from + n < bytes.length; n++) {
                numbers[n / 4] |= (bytes[from + n] & 255) << 24 - 8 * (n % 4);
            }
            x.feed(numbers[0], numbers[1], numbers[2], numbers[3], numbers[4]);
        }
        due("end(" + bytes.length + ")", x.end(bytes.length), bytes.length);
    }

    private static int tell(FairDraws x, String text) {
        feed(x, text);
        return x.tell();
    }

    /** A new object that was told a text without faults. */
    private static FairDraws of(String text) {
        FairDraws x = new FairDraws();
        if (tell(x, text) < 0) {
            due("tell() of " + text, -1, 0);
        }
        return x;
    }

    private static String text(FairDraws x) {
        StringBuilder text = new StringBuilder();
        int n = x.told(-1);
        for (int k = 0; k < n; k++) {
            text.append((char) x.told(k));
        }
        return text.toString();
    }

    private static void dueText(String what, String got, String want) {
        if (!got.equals(want)) {
            due(what + " is " + got + ", not " + want, 0, 1);
        }
    }

    private static void fault(String text, int place, int kind) {
        due("tell() of \"" + text + "\"", tell(new FairDraws(), text), -2 - (8 * place + kind));
    }

    /** The sample of a shard, number behind number, must be this. */
    private static void sampleIs(FairDraws x, int shard, int... items) {
        due("sample(" + shard + ", -1)", x.sample(shard, -1), items.length);
        for (int k = 0; k < items.length; k++) {
            due("sample(" + shard + ", " + k + ")", x.sample(shard, k), items[k]);
        }
    }

    /** Five items of shard 0, weight 1: lots 100, 500, 300, 500, 200 of labels a, b, a, c, b. The size is 3. */
    private static FairDraws five() {
        return of("size 0 3;key 0 a 1 100;key 0 b 1 500;key 0 a 1 300;key 0 c 1 500;key 0 b 1 200");
    }

    /** As five(), but they come at ticks 0, 2, 4, 6, 8 and the window is 10. */
    private static FairDraws fiveByTicks() {
        return of("size 0 3;window 0 10;key 0 a 1 100;wait 2;key 0 b 1 500;wait 2;key 0 a 1 300;wait 2;key 0 c 1 500;"
            + "wait 2;key 0 b 1 200");
    }

    public static void main(String[] args) {
        promise = 1;
        newObject();
        feeding();
        ending();
        telling();
        coming();
        putting();
        passing();
        sizes();
        windows();
        weighing();
        drawnAgain();
        dropping();
        moving();
        merging();
        renaming();
        thinning();
        swapping();
        weighingAll();
        splitting();
        purging();
        seeds();
        undoing();
        keeping();
        goingBack();
        ofItems();
        orders();
        parts();
        samples();
        mergedOnes();
        partsOf();
        cappedOnes();
        lastOnes();
        needed();
        heavyOnes();
        skipped();
        lotsAhead();
        nextLots();
        kindsOf();
        sizesForKinds();
        sharedLabels();
        withoutOne();
        expiredOnes();
        busiestTicks();
        weightsFor();
        sizesFor();
        windowsFor();
        laterOnes();
        entering();
        changing();
        thenAsItWas();
        playedAgain();
        outByOnes();
        labelCounts();
        totals();
        modes();
        unlikes();
        sames();
        toldBytes();
        digests();
        counts();
        due("promises that were looked at", promise, 61);
        failed += broken ? 1 : 0;
        System.out.println("PromiseTest: " + passed + " passed, " + failed + " failed");
        if (failed > 0) {
            System.exit(1);
        }
    }

    private static void newObject() {
        FairDraws x = new FairDraws();
        int[] counts = {0, 0, 0, 1, 0, 0, 0, 0};
        for (int what = 0; what < 8; what++) {
            due("count(" + what + ")", x.count(what), counts[what]);
        }
        for (int shard = 0; shard < 4; shard++) {
            sampleIs(x, shard);
            due("total(" + shard + ", 4)", x.total(shard, 4), 4);
            due("total(" + shard + ", 5)", x.total(shard, 5), 0);
        }
        due("NONE", FairDraws.NONE, -1);
        due("digest()", x.digest(), 17);
        due("of(0, 0)", x.of(0, 0), -1);
        due("undo()", x.undo(), -1);
        due("back(1)", x.back(1), -2);
        ends();
    }

    private static void feeding() {
        FairDraws x = new FairDraws();
        due("feed", x.feed(0x77616974, 0x20373b77, 0x61697420, 0x383b7365, 0x65642039), 20);
        due("tell of \"wait 7;wait 8;seed 9\"", x.tell(), 0);
        due("count(2)", x.count(2), 15);
        due("count(3)", x.count(3), 9);
        due("feed of a byte above 127", x.feed(0x20200000 | 0x80 << 8, -1, MIN, MAX, 0), 20);
        due("tell", x.tell(), -2 - 17);
        for (int n = 1; n <= 20; n++) {
            due("feed", x.feed(1, 2, 3, 4, 5), 20 * n);
        }
        due("feed when full", x.feed(1, 2, 3, 4, 5), -1);
        due("count(5)", x.count(5), 400);
        x.end(381);
        due("feed by one too many", x.feed(1, 2, 3, 4, 5), -1);
        due("count(5)", x.count(5), 381);
        x.end(380);
        due("feed what just fits", x.feed(1, 2, 3, 4, 5), 400);
        due("feed is no act", x.count(4), 0);
        ends();
    }

    private static void ending() {
        FairDraws x = new FairDraws();
        due("end(0)", x.end(0), 0);
        due("end(1)", x.end(1), -1);
        x.feed(0x73656564, 0x20353b3b, 0, 0, 0);
        due("end(21)", x.end(21), -1);
        due("end(-1)", x.end(-1), -1);
        due("end(MIN)", x.end(MIN), -1);
        due("end(MAX)", x.end(MAX), -1);
        due("count(5)", x.count(5), 20);
        due("end(20)", x.end(20), 20);
        due("end(6)", x.end(6), 6);
        due("end(7)", x.end(7), -1);
        due("tell of \"seed 5\"", x.tell(), 0);
        due("count(3)", x.count(3), 5);
        ends();
    }

    private static void telling() {
        toldWell();
        toldInPlace();
        faultsOfBytes();
        cutTexts();
        faultsOfNumbers();
        faultsOfStatements();
        ends();
    }

    private static void toldWell() {
        FairDraws x = new FairDraws();
        due("tell", tell(x, "size 0 12;window 1 9999;seed 65535;wait 9999;item 2 z 20;key 3 a 1 1023"), 2);
        due("total(0, 4)", x.total(0, 4), 12);
        due("total(1, 5)", x.total(1, 5), 9999);
        due("count(2)", x.count(2), 9999);
        // 25173 * 65535 + 13849 modulo 65536
        due("count(3)", x.count(3), 54212);
        due("of(0, 3)", x.of(0, 3), 847);
        due("of(0, 0)", x.of(0, 0), 2);
        due("of(0, 1)", x.of(0, 1), 25);
        due("of(0, 2)", x.of(0, 2), 20);
        due("of(0, 4)", x.of(0, 4), 9999);
        due("of(1, 0)", x.of(1, 0), 3);
        due("of(1, 3)", x.of(1, 3), 1023);
        due("without blanks", tell(x, "size0 4;key0a1 7;item1b2times3"), 4);
        due("of(3, 0)", x.of(3, 0), 1);
        due("of(1, 3)", x.of(1, 3), 609);
        due("of(2, 3)", x.of(2, 3), 954);
        due("of(3, 3)", x.of(3, 3), 315);
        due("with blanks", tell(x, "   key   1  c   4  00009  ;  wait   0   "), 1);
        due("of(0, 3)", x.of(0, 3), 9);
        due("of(0, 1)", x.of(0, 1), 2);
        due("100 items", tell(x, "item 0 a 1 times 50;item 1 a 1 times 49;key 2 a 1 5"), 100);
        due("the last tick", tell(x, "wait 9999;".repeat(10) + "wait 9"), 0);
        due("count(2)", x.count(2), 99999);
        due("window 0, size 1", tell(x, "window 0 0;size 0 1;seed 0"), 0);
        due("total(0, 4)", x.total(0, 4), 1);
        due("count(3)", x.count(3), 0);
        sampleIs(of("size 1 2;key 1 a 1 5;key 1 a 1 7;key 1 a 1 6"), 1, 1, 2);
        due("shard 3", tell(x, "size 3 7;window 3 8;item 3 a 1;seed 9;wait 4"), 1);
        due("total(3, 4)", x.total(3, 4), 7);
        due("total(3, 5)", x.total(3, 5), 8);
        due("of(0, 0)", x.of(0, 0), 3);
        due("told behind another one", tell(x, "key 0 a 1 5"), 1);
        due("total(3, 4)", x.total(3, 4), 4);
        due("total(3, 5)", x.total(3, 5), 0);
        due("count(2)", x.count(2), 0);
        due("count(3)", x.count(3), 1);
    }

    private static void toldInPlace() {
        FairDraws x = five();
        x.pass(3);
        x.window(2, 7);
        x.seed(77);
        x.keep(1);
        String was = text(x);
        due("a fault", tell(x, "key 0 a 1 5;size 1 9;wait 5;seed 7;x"), -2 - (8 * 35 + 1));
        dueText("what is there behind a fault", text(x), was);
        due("count(0)", x.count(0), 5);
        due("count(4)", x.count(4), 3);
        due("count(5)", x.count(5), 0);
        due("told anew", tell(x, "key 3 q 2 5"), 1);
        due("count(4)", x.count(4), 0);
        due("count(5)", x.count(5), 0);
        due("count(6)", x.count(6), 2);
        due("undo()", x.undo(), -1);
        dueText("what is there", text(x), "size 0 4;window 0 0;size 1 4;window 1 0;size 2 4;window 2 0;size 3 4;"
            + "window 3 0;key 3 q 2 5;seed 1");
        due("back(1)", x.back(1), 5);
        dueText("what is there", text(x), was);
    }

    private static void faultsOfBytes() {
        fault("", 0, 1);
        fault("   ", 3, 1);
        fault(";", 0, 1);
        fault("size 0 4;", 9, 1);
        fault("size 0 4; ", 10, 1);
        fault("size 0 4;;size 0 4", 9, 1);
        fault("sizes 0 4", 0, 1);
        fault("siz 0 4", 0, 1);
        fault("s", 0, 1);
        fault("Size 0 4", 0, 1);
        fault("5", 0, 1);
        fault(" x 0 4", 1, 1);
        fault("size", 4, 1);
        fault("size ", 5, 1);
        fault("size a 4", 5, 1);
        fault("size 0;4", 6, 1);
        fault("size 0 -4", 7, 1);
        fault("size 0 4 5", 9, 1);
        fault("size 0 4 times 5", 9, 1);
        fault("size 0 4x", 8, 1);
        fault("size\t0 4", 4, 1);
        fault("size 0 4" + (char) 233, 8, 1);
        fault("item 0 ab 5", 7, 1);
        fault("item 0 A 5", 7, 1);
        fault("item 0 5 5", 7, 1);
        fault("item 0 a b", 9, 1);
        fault("item 0 a 5 time 3", 11, 1);
        fault("item 0 a 5 timess 3", 11, 1);
        fault("item 0 a 5 times", 16, 1);
        fault("item 0 a 5 times x", 17, 1);
        fault("item 0 a 5 times 3 times 3", 19, 1);
        fault("item 0 a 5 7", 11, 1);
        fault("key 0 a 5", 9, 1);
        fault("key 0 a 5 7 times 2", 12, 1);
        fault("wait 5 wait 5", 7, 1);
        fault("seed;", 4, 1);
        fault("window", 6, 1);
        fault("windows 0 5", 0, 1);
    }

    /** What was behind the tape's end counts no more. */
    private static void cut(String text, int n, int place, int kind) {
        FairDraws x = new FairDraws();
        feed(x, text);
        x.end(n);
        due("tell() of \"" + text + "\", its first " + n, x.tell(), -2 - (8 * place + kind));
    }

    private static void cutTexts() {
        cut("seed 5", 2, 0, 1);
        cut("seed 5", 4, 4, 1);
        cut("seed 5", 5, 5, 1);
        cut("item 0 ab", 8, 8, 1);
        cut("item 0 a 1;", 9, 9, 1);
        FairDraws x = new FairDraws();
        feed(x, "seed 55");
        x.end(6);
        due("tell", x.tell(), 0);
        due("count(3)", x.count(3), 5);
    }

    private static void faultsOfNumbers() {
        fault("size 4 3", 5, 2);
        fault("size 0 0", 7, 2);
        fault("size 0 13", 7, 2);
        fault("size 9 x", 5, 2);
        fault("window 4 5", 7, 2);
        fault("window 0 10000", 9, 2);
        fault("seed 65536", 5, 2);
        fault("seed 4294967297", 5, 2);
        fault("seed 99999999999999999999999999", 5, 2);
        fault("wait 10000", 5, 2);
        fault("item 4 a 1", 5, 2);
        fault("item 0 a 0", 9, 2);
        fault("item 0 a 21", 9, 2);
        fault("item 0 a 5 times 0", 17, 2);
        fault("item 0 a 5 times 51", 17, 2);
        fault("key 4 a 1 1", 4, 2);
        fault("key 0 a 0 1", 8, 2);
        fault("key 0 a 21 1", 8, 2);
        fault("key 0 a 1 0", 10, 2);
        fault("key 0 a 1 1024", 10, 2);
        fault("size 0 4;size   00004 3", 16, 2);
    }

    private static void faultsOfStatements() {
        String hundred = "item 0 a 1 times 50;item 0 a 1 times 50;";
        fault(hundred + "key 0 a 1 1", 40, 3);
        fault(hundred + "  item 0 a 1", 42, 3);
        fault(hundred + "item 0 a 1 times 1", 40, 3);
        fault(hundred + "key 0 a 1 0", 50, 2);
        fault(hundred + "key 0 a 1", 49, 1);
        fault(hundred + "item 0 a 1 times 51", 57, 2);
        fault(hundred + "item 0 a 1 x", 40, 3);
        fault("item 0 a 1 times 50;item 0 a 1 times 49;item 0 a 1 times 2", 40, 3);
        String ticks = "wait 9999;".repeat(10);
        fault(ticks + "wait 10", 100, 3);
        fault(ticks + "wait 9999 x", 100, 3);
        fault(ticks + "wait 10000", 105, 2);
        fault(ticks + "wait 9;wait 1", 107, 3);
    }

    private static void coming() {
        FairDraws x = new FairDraws();
        due("come(0, 0, 1)", x.come(0, 0, 1), 0);
        due("come(3, 25, 20)", x.come(3, 25, 20), 1);
        due("of(0, 3)", x.of(0, 3), 609);
        due("of(1, 3)", x.of(1, 3), 954);
        due("of(1, 0)", x.of(1, 0), 3);
        due("of(1, 1)", x.of(1, 1), 25);
        due("of(1, 2)", x.of(1, 2), 20);
        due("of(1, 4)", x.of(1, 4), 0);
        int[][] wrong = {{-1, 0, 1}, {4, 0, 1}, {0, -1, 1}, {0, 26, 1}, {0, 0, 0}, {0, 0, 21}, {MIN, MAX, MIN}};
        for (int[] one : wrong) {
            due("come of wrong ones", x.come(one[0], one[1], one[2]), -1);
        }
        due("count(0)", x.count(0), 2);
        due("count(4)", x.count(4), 2);
        x.seed(zeroAhead());
        int next = (25173 * ((25173 * zeroAhead() + 13849) & 65535) + 13849) & 65535;
        due("come by a lot 0", x.come(0, 0, 1), 2);
        due("of(2, 3)", x.of(2, 3), next / 64);
        due("count(3)", x.count(3), next);
        x = of("item 0 a 1 times 50;item 0 a 1 times 49");
        int seed = x.count(3);
        due("come as the 100th", x.come(0, 0, 1), 99);
        due("the seed is another one", x.count(3) == seed ? 1 : 0, 0);
        seed = x.count(3);
        due("come when 100 came", x.come(0, 0, 1), -2);
        due("come of a wrong one when 100 came", x.come(4, 0, 1), -1);
        x.drop(5);
        due("come when 100 came", x.come(0, 0, 1), -2);
        due("count(3)", x.count(3), seed);
        due("count(4)", x.count(4), 2);
        ends();
    }

    /** The least seed behind which the next one's lot is 0. */
    private static int zeroAhead() {
        int seed = 0;
        while ((25173 * seed + 13849 & 65535) >= 64) {
            seed++;
        }
        return seed;
    }

    private static void putting() {
        FairDraws x = new FairDraws();
        x.pass(5);
        due("put(1, 2, 3, 4)", x.put(1, 2, 3, 4), 0);
        due("put(0, 0, 1, 1)", x.put(0, 0, 1, 1), 1);
        due("put(3, 25, 20, 1023)", x.put(3, 25, 20, 1023), 2);
        int[] want = {1, 2, 3, 4, 5};
        for (int what = 0; what < 5; what++) {
            due("of(0, " + what + ")", x.of(0, what), want[what]);
        }
        due("count(3)", x.count(3), 1);
        int[][] wrong = {{-1, 0, 1, 1}, {4, 0, 1, 1}, {0, -1, 1, 1}, {0, 26, 1, 1}, {0, 0, 0, 1}, {0, 0, 21, 1},
            {0, 0, 1, 0}, {0, 0, 1, 1024}, {0, 0, 1, MIN}, {0, 0, 1, MAX}};
        for (int[] one : wrong) {
            due("put of wrong ones", x.put(one[0], one[1], one[2], one[3]), -1);
        }
        due("count(0)", x.count(0), 3);
        due("count(4)", x.count(4), 4);
        x = of("item 0 a 1 times 50;item 0 a 1 times 49");
        due("put as the 100th", x.put(0, 0, 1, 1), 99);
        due("put when 100 came", x.put(0, 0, 1, 1), -2);
        due("put of a wrong one when 100 came", x.put(0, 0, 1, 0), -1);
        due("count(0)", x.count(0), 100);
        ends();
    }

    private static void passing() {
        FairDraws x = new FairDraws();
        due("pass(1)", x.pass(1), 1);
        due("pass(0)", x.pass(0), -1);
        due("pass(-1)", x.pass(-1), -1);
        due("pass(10000)", x.pass(10000), -1);
        due("pass(MAX)", x.pass(MAX), -1);
        for (int n = 1; n <= 10; n++) {
            due("pass(9999)", x.pass(9999), 1 + 9999 * n);
        }
        due("pass(9)", x.pass(9), -2);
        due("pass(10000)", x.pass(10000), -1);
        due("count(2)", x.count(2), 99991);
        due("pass(8)", x.pass(8), 99999);
        due("pass(1)", x.pass(1), -2);
        due("undo()", x.undo(), 9);
        due("count(2)", x.count(2), 99991);
        ends();
    }

    private static void sizes() {
        FairDraws x = five();
        due("size(0, 12)", x.size(0, 12), 3);
        sampleIs(x, 0, 1, 3, 2, 4, 0);
        due("size(0, 1)", x.size(0, 1), 12);
        sampleIs(x, 0, 1);
        due("size(0, 1)", x.size(0, 1), -2);
        due("size(3, 2)", x.size(3, 2), 4);
        due("size(0, 0)", x.size(0, 0), -1);
        due("size(0, 13)", x.size(0, 13), -1);
        due("size(-1, 1)", x.size(-1, 1), -1);
        due("size(4, 4)", x.size(4, 4), -1);
        due("count(4)", x.count(4), 3);
        due("total(0, 4)", x.total(0, 4), 1);
        due("total(1, 4)", x.total(1, 4), 4);
        ends();
    }

    private static void windows() {
        FairDraws x = fiveByTicks();
        due("window(0, 10)", x.window(0, 10), -2);
        due("window(0, 3)", x.window(0, 3), 10);
        sampleIs(x, 0, 3, 4);
        due("window(0, 2)", x.window(0, 2), 3);
        sampleIs(x, 0, 4);
        due("window(0, 1)", x.window(0, 1), 2);
        sampleIs(x, 0, 4);
        due("window(0, 0)", x.window(0, 0), 1);
        sampleIs(x, 0, 1, 3, 2);
        due("window(3, 9999)", x.window(3, 9999), 0);
        due("window(0, -1)", x.window(0, -1), -1);
        due("window(0, 10000)", x.window(0, 10000), -1);
        due("window(4, 1)", x.window(4, 1), -1);
        due("window(-1, 1)", x.window(-1, 1), -1);
        due("count(4)", x.count(4), 5);
        ends();
    }

    private static void weighing() {
        FairDraws x = five();
        // 100 / 1024 to the power of 1 by 20 is some 0.89.
        due("weigh(0, 20)", x.weigh(0, 20), 1);
        sampleIs(x, 0, 0, 1, 3);
        due("weigh(0, 20)", x.weigh(0, 20), -2);
        due("weigh(0, 0)", x.weigh(0, 0), -1);
        due("weigh(0, 21)", x.weigh(0, 21), -1);
        due("weigh(5, 1)", x.weigh(5, 1), -1);
        due("weigh(-1, 1)", x.weigh(-1, 1), -1);
        x.drop(1);
        due("weigh of a dropped one", x.weigh(1, 5), -1);
        due("weigh of a dropped one as it is", x.weigh(1, 1), -1);
        due("count(4)", x.count(4), 2);
        due("of(0, 2)", x.of(0, 2), 20);
        ends();
    }

    private static void drawnAgain() {
        FairDraws x = five();
        due("again(4)", x.again(4), 609);
        sampleIs(x, 0, 4, 1, 3);
        due("again(0)", x.again(0), 954);
        sampleIs(x, 0, 0, 4, 1);
        due("of(0, 3)", x.of(0, 3), 954);
        due("again(5)", x.again(5), -1);
        due("again(-1)", x.again(-1), -1);
        x.drop(0);
        due("again of a dropped one", x.again(0), -1);
        due("count(4)", x.count(4), 3);
        due("nextLot(0)", x.nextLot(0), 315);
        x.seed(zeroAhead());
        due("again by a lot 0", x.again(1) > 0 ? 1 : 0, 1);
        ends();
    }

    private static void dropping() {
        FairDraws x = five();
        x.put(1, 0, 1, 1);
        due("drop(1)", x.drop(1), 4);
        sampleIs(x, 0, 3, 2, 4);
        due("drop(1)", x.drop(1), -1);
        due("drop(6)", x.drop(6), -1);
        due("drop(-1)", x.drop(-1), -1);
        due("drop(5)", x.drop(5), 0);
        due("of(1, 5)", x.of(1, 5), 0);
        due("of(1, 3)", x.of(1, 3), 500);
        due("count(1)", x.count(1), 4);
        due("count(4)", x.count(4), 3);
        x.window(0, 1);
        x.pass(5);
        due("drop of one that isn't alive", x.drop(0), 3);
        ends();
    }

    private static void moving() {
        FairDraws x = five();
        due("move(1, 2)", x.move(1, 2), 0);
        sampleIs(x, 0, 3, 2, 4);
        sampleIs(x, 2, 1);
        due("move(1, 2)", x.move(1, 2), -2);
        due("move(1, 3)", x.move(1, 3), 2);
        due("move(1, 4)", x.move(1, 4), -1);
        due("move(1, -1)", x.move(1, -1), -1);
        due("move(5, 1)", x.move(5, 1), -1);
        due("move(-1, 1)", x.move(-1, 1), -1);
        x.drop(0);
        due("move of a dropped one", x.move(0, 1), -1);
        due("move of a dropped one to where it is", x.move(0, 0), -1);
        due("count(4)", x.count(4), 3);
        // The window of the shard that it goes to counts from then on, its time stays.
        x.window(1, 1);
        x.pass(1);
        due("move(2, 1)", x.move(2, 1), 0);
        due("of(2, 5)", x.of(2, 5), 1);
        ends();
    }

    private static void merging() {
        FairDraws x = five();
        x.put(1, 0, 1, 400);
        x.drop(0);
        due("merge(0, 1)", x.merge(0, 1), 4);
        sampleIs(x, 0);
        sampleIs(x, 1, 1, 3, 5, 2);
        due("of(0, 0)", x.of(0, 0), 0);
        due("merge(0, 1)", x.merge(0, 1), -2);
        due("merge(1, 1)", x.merge(1, 1), -1);
        due("merge(0, 4)", x.merge(0, 4), -1);
        due("merge(4, 0)", x.merge(4, 0), -1);
        due("merge(-1, 0)", x.merge(-1, 0), -1);
        due("merge(0, -1)", x.merge(0, -1), -1);
        due("count(4)", x.count(4), 3);
        x.window(1, 1);
        x.pass(1);
        due("merge of those that aren't alive", x.merge(1, 3), 5);
        ends();
    }

    private static void renaming() {
        FairDraws x = five();
        x.put(3, 0, 1, 1);
        x.drop(2);
        due("rename(0, 25)", x.rename(0, 25), 2);
        due("of(0, 1)", x.of(0, 1), 25);
        due("of(2, 1)", x.of(2, 1), 0);
        due("of(5, 1)", x.of(5, 1), 25);
        due("rename(0, 25)", x.rename(0, 25), -2);
        due("rename(25, 25)", x.rename(25, 25), -1);
        due("rename(25, 26)", x.rename(25, 26), -1);
        due("rename(26, 25)", x.rename(26, 25), -1);
        due("rename(-1, 0)", x.rename(-1, 0), -1);
        due("rename(25, -1)", x.rename(25, -1), -1);
        due("count(4)", x.count(4), 3);
        due("rename(25, 0)", x.rename(25, 0), 2);
        ends();
    }

    private static void thinning() {
        FairDraws x = five();
        x.put(1, 0, 1, 1);
        due("thin(0)", x.thin(0), 2);
        due("of(0, 5)", x.of(0, 5), 0);
        due("of(4, 5)", x.of(4, 5), 0);
        due("of(5, 5)", x.of(5, 5), 2);
        sampleIs(x, 0, 1, 3, 2);
        due("thin(0)", x.thin(0), -2);
        due("thin(1)", x.thin(1), -2);
        due("thin(4)", x.thin(4), -1);
        due("thin(-1)", x.thin(-1), -1);
        due("count(4)", x.count(4), 2);
        x = fiveByTicks();
        x.pass(3);
        // Items 0 is not alive any more; 1 and 3, 2 are the sample, 4 isn't in it.
        due("thin(0)", x.thin(0), 2);
        due("of(0, 5)", x.of(0, 5), 0);
        x.pass(9);
        due("thin of those that aren't alive", x.thin(0), 3);
        due("count(1)", x.count(1), 0);
        ends();
    }

    private static void swapping() {
        FairDraws x = five();
        x.put(2, 0, 7, 999);
        due("swap(0, 5)", x.swap(0, 5), 1);
        due("of(0, 3)", x.of(0, 3), 999);
        due("of(5, 3)", x.of(5, 3), 100);
        due("of(0, 2)", x.of(0, 2), 1);
        due("of(5, 2)", x.of(5, 2), 7);
        sampleIs(x, 0, 0, 1, 3);
        due("swap(1, 3)", x.swap(1, 3), -2);
        due("swap(1, 1)", x.swap(1, 1), -1);
        due("swap(1, 6)", x.swap(1, 6), -1);
        due("swap(6, 1)", x.swap(6, 1), -1);
        due("swap(-1, 1)", x.swap(-1, 1), -1);
        due("swap(1, -1)", x.swap(1, -1), -1);
        x.drop(3);
        due("swap with a dropped one", x.swap(1, 3), -1);
        due("swap of a dropped one", x.swap(3, 0), -1);
        due("count(4)", x.count(4), 3);
        ends();
    }

    private static void weighingAll() {
        FairDraws x = of("key 0 b 7 900;key 0 a 20 5;key 0 c 10 6;key 1 a 3 5;key 0 a 1 950");
        sampleIs(x, 0, 0, 4, 1, 2);
        x.drop(4);
        due("weighAll(0, 2)", x.weighAll(0, 2), 2);
        int[] weights = {14, 20, 20, 3, 1};
        for (int item = 0; item < 5; item++) {
            due("of(" + item + ", 2)", x.of(item, 2), weights[item]);
        }
        sampleIs(x, 0, 0, 2, 1);
        due("weighAll(0, 20)", x.weighAll(0, 20), 1);
        due("weighAll(0, 20)", x.weighAll(0, 20), -2);
        due("weighAll(3, 2)", x.weighAll(3, 2), -2);
        due("weighAll(0, 1)", x.weighAll(0, 1), -1);
        due("weighAll(1, 21)", x.weighAll(1, 21), -1);
        due("weighAll(4, 2)", x.weighAll(4, 2), -1);
        due("weighAll(-1, 2)", x.weighAll(-1, 2), -1);
        due("count(4)", x.count(4), 3);
        ends();
    }

    private static void splitting() {
        FairDraws x = five();
        x.put(1, 1, 1, 9);
        x.drop(4);
        due("split(0, 1, 2)", x.split(0, 1, 2), 1);
        sampleIs(x, 2, 1);
        sampleIs(x, 1, 5);
        due("of(4, 0)", x.of(4, 0), 0);
        due("split(0, 1, 2)", x.split(0, 1, 2), -2);
        due("split(0, 0, 0)", x.split(0, 0, 0), -1);
        due("split(0, 26, 1)", x.split(0, 26, 1), -1);
        due("split(0, -1, 1)", x.split(0, -1, 1), -1);
        due("split(4, 0, 1)", x.split(4, 0, 1), -1);
        due("split(0, 0, 4)", x.split(0, 0, 4), -1);
        due("split(-1, 0, 1)", x.split(-1, 0, 1), -1);
        due("split(0, 0, -1)", x.split(0, 0, -1), -1);
        due("count(4)", x.count(4), 3);
        due("split(0, 0, 3)", x.split(0, 0, 3), 2);
        sampleIs(x, 3, 2, 0);
        ends();
    }

    private static void purging() {
        FairDraws x = fiveByTicks();
        x.put(1, 0, 1, 1);
        due("purge()", x.purge(), -2);
        x.window(1, 1);
        // At tick 12 those of ticks 0 and 2 are out of the window of 10, and item 5 out of its own.
        x.pass(4);
        due("purge()", x.purge(), 3);
        due("of(0, 5)", x.of(0, 5), 0);
        due("of(1, 5)", x.of(1, 5), 0);
        due("of(2, 5)", x.of(2, 5), 2);
        due("of(5, 5)", x.of(5, 5), 0);
        due("purge()", x.purge(), -2);
        due("count(4)", x.count(4), 4);
        due("undo()", x.undo(), 3);
        due("count(1)", x.count(1), 6);
        ends();
    }

    private static void seeds() {
        FairDraws x = new FairDraws();
        due("seed(1)", x.seed(1), -2);
        due("seed(0)", x.seed(0), 1);
        due("seed(65535)", x.seed(65535), 0);
        due("seed(65536)", x.seed(65536), -1);
        due("seed(-1)", x.seed(-1), -1);
        due("count(3)", x.count(3), 65535);
        due("come(0, 0, 1)", x.come(0, 0, 1), 0);
        due("of(0, 3)", x.of(0, 3), 847);
        due("count(4)", x.count(4), 3);
        ends();
    }

    private static void undoing() {
        FairDraws x = fiveByTicks();
        x.pass(3);
        x.drop(3);
        String was = text(x);
        long digest = x.digest();
        for (int act = 0; act < 17; act++) {
            act(x, act);
            due("count(4) behind act " + act, x.count(4), 3);
            due("act " + act + " changes", text(x).equals(was) && x.digest() == digest ? 1 : 0, 0);
            due("undo() of act " + act, x.undo(), 2);
            dueText("what is there behind the undone act " + act, text(x), was);
            due("digest()", x.digest(), digest);
            sampleIs(x, 0, 1, 2, 4);
        }
        x = new FairDraws();
        for (int n = 1; n <= 13; n++) {
            x.pass(1);
            due("count(4)", x.count(4), Math.min(n, 10));
        }
        for (int n = 9; n >= 0; n--) {
            due("undo()", x.undo(), n);
            due("count(2)", x.count(2), n + 3);
            due("count(4)", x.count(4), n);
        }
        due("undo()", x.undo(), -1);
        due("count(2)", x.count(2), 3);
        x.come(0, 0, 1);
        x.undo();
        due("an undone one's number", x.come(0, 0, 1), 0);
        due("its lot", x.of(0, 3), 609);
        failedActs();
        ends();
    }

    /** One act of each kind, each of which changes something behind undoing()'s first calls. */
    private static void act(FairDraws x, int act) {
        switch (act) {
            case 0: x.come(0, 0, 1); break;
            case 1: x.put(0, 0, 1, 1023); break;
            case 2: x.pass(5); break;
            case 3: x.size(0, 1); break;
            case 4: x.window(0, 3); break;
            case 5: x.weigh(0, 20); break;
            case 6: x.again(4); break;
            case 7: x.drop(1); break;
            case 8: x.move(1, 2); break;
            case 9: x.merge(0, 3); break;
            case 10: x.rename(0, 9); break;
            case 11: x.thin(0); break;
            case 12: x.swap(1, 4); break;
            case 13: x.weighAll(0, 3); break;
            case 14: x.split(0, 1, 3); break;
            case 15: x.purge(); break;
            default: x.seed(9); break;
        }
    }

    /** What does nothing can't be undone, and doesn't push out what can. */
    private static void failedActs() {
        FairDraws x = new FairDraws();
        for (int n = 0; n < 10; n++) {
            x.pass(1);
        }
        x.thin(0);
        x.purge();
        x.seed(1);
        x.weighAll(0, 2);
        x.merge(0, 1);
        x.size(0, 4);
        x.window(0, 0);
        x.rename(0, 1);
        x.split(0, 0, 1);
        x.pass(0);
        for (int n = 9; n >= 0; n--) {
            due("undo()", x.undo(), n);
            due("count(2)", x.count(2), n);
        }
        FairDraws y = new FairDraws();
        y.pass(1);
        y.keep(0);
        y.feed(1, 1, 1, 1, 1);
        due("undo()", y.undo(), 0);
        due("the tape stays", y.count(5), 20);
        due("the shelf stays", y.count(6), 1);
    }

    private static void keeping() {
        FairDraws x = five();
        due("keep(0)", x.keep(0), 5);
        due("count(6)", x.count(6), 1);
        due("keep(2)", x.keep(2), -1);
        due("keep(-1)", x.keep(-1), -1);
        x.put(0, 0, 1, 600);
        due("count(4)", x.count(4), 1);
        due("keep(1)", x.keep(1), 6);
        due("count(6)", x.count(6), 3);
        due("keep is no act", x.count(4), 1);
        due("same(0, 0)", x.same(0, 0), 0);
        due("keep(0) in place of what it had", x.keep(0), 6);
        due("same(0, 0)", x.same(0, 0), 1);
        ends();
    }

    private static void goingBack() {
        FairDraws x = five();
        x.pass(2);
        x.window(1, 5);
        x.seed(5);
        x.keep(0);
        String was = text(x);
        x.size(0, 1);
        x.put(0, 0, 1, 600);
        x.drop(1);
        x.feed(1, 2, 3, 4, 5);
        due("back(1)", x.back(1), -2);
        due("back(2)", x.back(2), -1);
        due("back(-1)", x.back(-1), -1);
        due("count(4)", x.count(4), 6);
        due("back(0)", x.back(0), 5);
        dueText("what is there", text(x), was);
        due("of(1, 5)", x.of(1, 5), 2);
        due("undo()", x.undo(), -1);
        due("count(5)", x.count(5), 20);
        x.drop(1);
        due("back(0) once more", x.back(0), 5);
        due("of(1, 5)", x.of(1, 5), 2);
        sampleIs(x, 0, 1, 3, 2);
        x.again(0);
        due("put's number", x.put(0, 0, 1, 1), 5);
        due("back(0) to fewer", x.back(0), 5);
        due("of(5, 0)", x.of(5, 0), -1);
        ends();
    }

    private static void ofItems() {
        FairDraws x = fiveByTicks();
        x.pass(3);
        x.drop(3);
        int[][] want = {{0, 0, 1, 100, 0, 1, -2, -2}, {0, 1, 1, 500, 2, 2, 0, 0}, {0, 0, 1, 300, 4, 2, 1, 1},
            {0, 2, 1, 500, 6, 0, -2, -2}, {0, 1, 1, 200, 8, 2, 2, 2}};
        for (int item = 0; item < 5; item++) {
            for (int what = 0; what < 8; what++) {
                due("of(" + item + ", " + what + ")", x.of(item, what), want[item][what]);
            }
        }
        x.size(0, 2);
        due("of(4, 6)", x.of(4, 6), -2);
        due("of(4, 7)", x.of(4, 7), 2);
        due("of(0, 8)", x.of(0, 8), -1);
        due("of(0, -1)", x.of(0, -1), -1);
        due("of(5, 0)", x.of(5, 0), -1);
        due("of(-1, 0)", x.of(-1, 0), -1);
        due("of(MAX, 0)", x.of(MAX, 0), -1);
        ends();
    }

    private static void orders() {
        FairDraws x = of("key 0 a 1 512;key 0 a 2 256;key 1 a 2 257;key 0 a 20 1;key 0 a 10 32;key 0 a 19 1;"
            + "key 0 a 5 2;key 0 a 10 4;key 0 a 20 1023;key 0 a 19 1023;key 0 a 1 1023");
        due("1 by 2 and a half times a half, whose root it is", x.order(0, 1), 0);
        due("order(0, 2)", x.order(0, 2), 2);
        due("order(2, 0)", x.order(2, 0), 1);
        due("order(0, 0)", x.order(0, 0), 0);
        // 2^-10 to the 1/20 and 2^-5 to the 1/10 are both 2^-(1/2); 2^-10 to the 1/19 is less.
        due("order(3, 4)", x.order(3, 4), 0);
        due("order(3, 5)", x.order(3, 5), 1);
        due("order(5, 3)", x.order(5, 3), 2);
        // 2^-9 to the 1/5, 2^-8 to the 1/10.
        due("order(6, 7)", x.order(6, 7), 2);
        due("order(8, 9)", x.order(8, 9), 1);
        due("order(10, 9)", x.order(10, 9), 2);
        due("order(0, 11)", x.order(0, 11), -1);
        due("order(11, 0)", x.order(11, 0), -1);
        due("order(-1, 0)", x.order(-1, 0), -1);
        x.drop(0);
        due("order of a dropped one", x.order(0, 1), 0);
        FairDraws y = of("key 0 a 2 16;key 0 a 4 1");
        // (16/1024)^(1/2) is 1/8, (1/1024)^(1/4) is 0.177..
        due("order(0, 1)", y.order(0, 1), 2);
        // Some of the closest keys that there are: the logarithms are alike up to the eighth digit.
        int[][] close = {{205, 17, 437, 9}, {240, 15, 163, 19}, {568, 11, 370, 19}, {548, 16, 527, 17},
            {73, 13, 247, 7}, {793, 20, 824, 17}};
        for (int[] keys : close) {
            FairDraws z = of("key 0 a " + keys[1] + " " + keys[0] + ";key 0 a " + keys[3] + " " + keys[2]);
            due("order of close ones", z.order(0, 1), 2);
            due("order of close ones", z.order(1, 0), 1);
            due("the first ahead", z.sample(0, 0), 1);
        }
        due("like ones are kept by numbers", of("key 0 a 2 256;key 0 a 1 512;key 0 a 3 128").sample(0, 0), 0);
        ends();
    }

    private static void parts() {
        FairDraws x = of("key 0 a 1 512;key 0 a 2 256;key 0 a 3 128;key 0 a 1 1023;key 0 a 1 1;key 0 a 20 1;"
            + "key 0 a 20 1023");
        for (int item = 0; item < 3; item++) {
            due("part of a half", x.part(item, 1000), 500);
            due("part of a half", x.part(item, 999), 499);
            due("part of a half", x.part(item, 2), 1);
            due("part of a half", x.part(item, 1), 0);
        }
        due("part(3, 1000)", x.part(3, 1000), 999);
        due("part(3, 1)", x.part(3, 1), 0);
        due("part(4, 1000)", x.part(4, 1000), 0);
        // 2^-(1/2) is 0.70710..
        due("part(5, 1000)", x.part(5, 1000), 707);
        due("part(5, 3)", x.part(5, 3), 2);
        // (1023/1024)^(1/20) is 0.99995..
        due("part(6, 1000)", x.part(6, 1000), 999);
        due("part(0, 0)", x.part(0, 0), -1);
        due("part(0, 1001)", x.part(0, 1001), -1);
        due("part(7, 5)", x.part(7, 5), -1);
        due("part(-1, 5)", x.part(-1, 5), -1);
        x.drop(0);
        due("part of a dropped one", x.part(0, 1000), 500);
        ends();
    }

    private static void samples() {
        FairDraws x = five();
        sampleIs(x, 0, 1, 3, 2);
        due("sample(0, 3)", x.sample(0, 3), -2);
        due("sample(0, MAX)", x.sample(0, MAX), -2);
        due("sample(0, -2)", x.sample(0, -2), -1);
        due("sample(0, MIN)", x.sample(0, MIN), -1);
        due("sample(4, 0)", x.sample(4, 0), -1);
        due("sample(-1, -1)", x.sample(-1, -1), -1);
        due("sample(1, 0)", x.sample(1, 0), -2);
        x.put(0, 0, 1, 500);
        sampleIs(x, 0, 1, 3, 5);
        x = fiveByTicks();
        x.pass(4);
        sampleIs(x, 0, 3, 2, 4);
        ends();
    }

    private static void mergedOnes() {
        FairDraws x = five();
        tellMore(x);
        // By lots: 6 of shard 2 (900), 1 and 3 (500), 5 of shard 1 (400), 2 (300), 4 (200), 0 (100).
        int[] want = {6, 1, 3, 5, 2, 4, 0};
        for (int k = 0; k < 7; k++) {
            due("merged(15, 24, " + k + ")", x.merged(15, 24, k), want[k]);
        }
        due("merged(15, 24, -1)", x.merged(15, 24, -1), 7);
        due("merged(15, 2, -1)", x.merged(15, 2, -1), 2);
        due("merged(15, 2, 2)", x.merged(15, 2, 2), -2);
        due("merged(6, 24, -1)", x.merged(6, 24, -1), 2);
        due("merged(6, 24, 1)", x.merged(6, 24, 1), 5);
        due("merged(3, 4, 2)", x.merged(3, 4, 2), 5);
        due("merged(8, 1, -1)", x.merged(8, 1, -1), 0);
        due("merged(8, 1, 0)", x.merged(8, 1, 0), -2);
        int[][] wrong = {{0, 1, 0}, {16, 1, 0}, {-1, 1, 0}, {1, 0, 0}, {1, 25, 0}, {1, 1, -2}};
        for (int[] one : wrong) {
            due("merged of wrong ones", x.merged(one[0], one[1], one[2]), -1);
        }
        x.window(2, 1);
        x.pass(1);
        due("merged without those that expired", x.merged(15, 24, 0), 1);
        due("more than sizes tell", of("item 0 a 1 times 30").merged(1, 24, -1), 24);
        ends();
    }

    private static void tellMore(FairDraws x) {
        due("put", x.put(1, 3, 1, 400), 5);
        due("put", x.put(2, 4, 1, 900), 6);
    }

    private static void partsOf() {
        FairDraws x = five();
        tellMore(x);
        due("partOf(15, 3, 0)", x.partOf(15, 3, 0), 2);
        due("partOf(15, 1, 2)", x.partOf(15, 1, 2), 1);
        due("partOf(15, 4, 1)", x.partOf(15, 4, 1), 1);
        due("partOf(15, 3, 1)", x.partOf(15, 3, 1), 0);
        due("partOf(15, 24, 0)", x.partOf(15, 24, 0), 5);
        due("partOf(2, 24, 0)", x.partOf(2, 24, 0), 0);
        due("partOf(2, 24, 3)", x.partOf(2, 24, 3), 0);
        int[][] wrong = {{0, 1, 0}, {16, 1, 0}, {1, 0, 0}, {1, 25, 0}, {1, 1, 4}, {1, 1, -1}};
        for (int[] one : wrong) {
            due("partOf of wrong ones", x.partOf(one[0], one[1], one[2]), -1);
        }
        ends();
    }

    private static void cappedOnes() {
        FairDraws x = of("size 0 3;key 0 a 1 900;key 0 a 1 800;key 0 b 1 700;key 0 a 1 600;key 0 b 1 500;key 0 c 1 400");
        int[][] want = {{0, 2, 5}, {0, 1, 2}, {0, 1, 2}};
        for (int m = 1; m <= 3; m++) {
            due("capped(0, " + m + ", -1)", x.capped(0, m, -1), 3);
            for (int k = 0; k < 3; k++) {
                due("capped(0, " + m + ", " + k + ")", x.capped(0, m, k), want[m - 1][k]);
            }
            due("capped(0, " + m + ", 3)", x.capped(0, m, 3), -2);
        }
        x.size(0, 12);
        due("capped(0, 1, -1)", x.capped(0, 1, -1), 3);
        due("capped(0, 2, -1)", x.capped(0, 2, -1), 5);
        due("capped(0, 2, 3)", x.capped(0, 2, 3), 4);
        due("capped(0, 12, -1)", x.capped(0, 12, -1), 6);
        due("capped(1, 1, -1)", x.capped(1, 1, -1), 0);
        due("capped(0, 0, 0)", x.capped(0, 0, 0), -1);
        due("capped(0, 13, 0)", x.capped(0, 13, 0), -1);
        due("capped(4, 1, 0)", x.capped(4, 1, 0), -1);
        due("capped(-1, 1, 0)", x.capped(-1, 1, 0), -1);
        due("capped(0, 1, -2)", x.capped(0, 1, -2), -1);
        ends();
    }

    private static void lastOnes() {
        FairDraws x = five();
        due("last(0)", x.last(0), 2);
        x.size(0, 5);
        due("last(0)", x.last(0), 0);
        x.size(0, 6);
        due("last(0)", x.last(0), -2);
        due("last(1)", x.last(1), -2);
        due("last(4)", x.last(4), -1);
        due("last(-1)", x.last(-1), -1);
        ends();
    }

    private static void needed() {
        FairDraws x = five();
        due("needs(0, 1)", x.needs(0, 1), 301);
        // A square above 300/1024 to the power of 2: 87.89.. of 1024.
        due("needs(0, 2)", x.needs(0, 2), 88);
        due("needs(0, 20)", x.needs(0, 20), 1);
        due("needs(1, 1)", x.needs(1, 1), 1);
        x.size(0, 1);
        due("needs(0, 1)", x.needs(0, 1), 501);
        // (500/1024)^2 of 1024 is 244.14..
        due("needs(0, 2)", x.needs(0, 2), 245);
        x.put(0, 0, 1, 1023);
        due("needs(0, 1)", x.needs(0, 1), -2);
        due("needs(0, 2)", x.needs(0, 2), 1023);
        x.weigh(5, 20);
        due("needs(0, 20)", x.needs(0, 20), -2);
        due("needs(0, 19)", x.needs(0, 19), -2);
        due("needs(0, 0)", x.needs(0, 0), -1);
        due("needs(0, 21)", x.needs(0, 21), -1);
        due("needs(4, 1)", x.needs(4, 1), -1);
        due("needs(-1, 1)", x.needs(-1, 1), -1);
        ends();
    }

    private static void heavyOnes() {
        FairDraws x = five();
        due("heavy(0, 300)", x.heavy(0, 300), 2);
        due("heavy(0, 301)", x.heavy(0, 301), 1);
        due("heavy(0, 88)", x.heavy(0, 88), 2);
        due("heavy(0, 87)", x.heavy(0, 87), 3);
        due("heavy(1, 1)", x.heavy(1, 1), 1);
        x.size(0, 1);
        // 1 by 1024 to the power of 1 by 10 is 0.5, above 500 by 1024.
        due("heavy(0, 1)", x.heavy(0, 1), 10);
        x.put(0, 0, 19, 1023);
        due("heavy(0, 1023)", x.heavy(0, 1023), 20);
        due("heavy(0, 1022)", x.heavy(0, 1022), -2);
        due("heavy(0, 0)", x.heavy(0, 0), -1);
        due("heavy(0, 1024)", x.heavy(0, 1024), -1);
        due("heavy(4, 1)", x.heavy(4, 1), -1);
        due("heavy(-1, 1)", x.heavy(-1, 1), -1);
        ends();
    }

    private static void skipped() {
        FairDraws x = of("size 0 1;key 0 a 1 608");
        // The lots from seed 1 on: 609, 954, 315, ..
        due("skip(0, 1)", x.skip(0, 1), 0);
        x.put(0, 0, 1, 609);
        due("skip(0, 1)", x.skip(0, 1), 1);
        due("skip(0, 20)", x.skip(0, 20), 0);
        due("skip(1, 1)", x.skip(1, 1), 0);
        due("count(3)", x.count(3), 1);
        x.put(0, 0, 1, 1023);
        due("skip(0, 1)", x.skip(0, 1), -2);
        x = of("size 0 1;key 0 a 1 1022");
        skippedTill(x, 999);
        skippedTill(x, 1000);
        due("skip(0, 0)", x.skip(0, 0), -1);
        due("skip(0, 21)", x.skip(0, 21), -1);
        due("skip(4, 1)", x.skip(4, 1), -1);
        due("skip(-1, 1)", x.skip(-1, 1), -1);
        ends();
    }

    /** By a seed that has its first lot 1023 behind so many others, when there is one. */
    private static void skippedTill(FairDraws x, int passedOver) {
        for (int from = 0; from < 65536; from++) {
            int seed = from;
            int n = -1;
            int lot = 0;
            while (n <= passedOver && lot != 1023) {
                seed = 25173 * seed + 13849 & 65535;
                lot = seed >> 6;
                n += lot > 0 ? 1 : 0;
            }
            if (n == passedOver && lot == 1023) {
                x.seed(from);
                due("skip when " + passedOver + " are passed over", x.skip(0, 1), passedOver < 1000 ? passedOver : -2);
                return;
            }
        }
        due("a seed for " + passedOver, 0, 1);
    }

    private static void lotsAhead() {
        FairDraws x = of("key 0 a 1 512;key 1 a 1 1023;key 0 a 1 1;key 0 a 20 1023");
        due("lots(0, 1)", x.lots(0, 1), 511);
        due("lots(0, 2)", x.lots(0, 2), 767);
        due("lots(0, 20)", x.lots(0, 20), 1023);
        due("lots(1, 1)", x.lots(1, 1), 0);
        due("lots(1, 2)", x.lots(1, 2), 1);
        due("lots(2, 1)", x.lots(2, 1), 1022);
        due("lots(2, 2)", x.lots(2, 2), 1023);
        due("lots(3, 20)", x.lots(3, 20), 0);
        due("lots(0, 0)", x.lots(0, 0), -1);
        due("lots(0, 21)", x.lots(0, 21), -1);
        due("lots(4, 1)", x.lots(4, 1), -1);
        due("lots(-1, 1)", x.lots(-1, 1), -1);
        x.drop(0);
        due("lots of a dropped one", x.lots(0, 1), -2);
        due("lots of a dropped one, wrong weight", x.lots(0, 21), -1);
        x.window(0, 1);
        x.pass(1);
        due("lots of one that isn't alive", x.lots(2, 1), 1022);
        ends();
    }

    private static void nextLots() {
        FairDraws x = new FairDraws();
        due("nextLot(0)", x.nextLot(0), 609);
        due("nextLot(1)", x.nextLot(1), 954);
        due("nextLot(2)", x.nextLot(2), 315);
        due("nextLot(-1)", x.nextLot(-1), -1);
        due("nextLot(1000)", x.nextLot(1000), -1);
        due("count(3)", x.count(3), 1);
        int last = x.nextLot(999);
        int tenth = x.nextLot(9);
        due("nextLot(999) is a lot", last >= 1 && last <= 1023 ? 1 : 0, 1);
        for (int n = 0; n < 9; n++) {
            x.come(0, 0, 1);
        }
        due("nextLot(9), when nine came", x.nextLot(0), tenth);
        due("nextLot(999), when nine came", x.nextLot(990), last);
        x.seed(zeroAhead());
        int next = (25173 * ((25173 * zeroAhead() + 13849) & 65535) + 13849) & 65535;
        due("nextLot by a lot 0", x.nextLot(0), next / 64);
        ends();
    }

    private static void kindsOf() {
        FairDraws x = five();
        // One behind the other: b, c, a, b, a.
        int[] want = {1, 2, 3, 3, 3};
        for (int n = 1; n <= 5; n++) {
            due("kinds(0, " + n + ")", x.kinds(0, n), want[n - 1]);
        }
        due("kinds(0, 12)", x.kinds(0, 12), 3);
        due("kinds(1, 1)", x.kinds(1, 1), 0);
        due("kinds(0, 0)", x.kinds(0, 0), -1);
        due("kinds(0, 13)", x.kinds(0, 13), -1);
        due("kinds(4, 1)", x.kinds(4, 1), -1);
        due("kinds(-1, 1)", x.kinds(-1, 1), -1);
        due("total(0, 4)", x.total(0, 4), 3);
        ends();
    }

    private static void sizesForKinds() {
        FairDraws x = of("key 0 b 1 900;key 0 b 1 800;key 0 a 1 700;key 0 b 1 600;key 0 z 1 500");
        due("sizeForKinds(0, 1)", x.sizeForKinds(0, 1), 1);
        due("sizeForKinds(0, 2)", x.sizeForKinds(0, 2), 3);
        due("sizeForKinds(0, 3)", x.sizeForKinds(0, 3), 5);
        due("sizeForKinds(0, 4)", x.sizeForKinds(0, 4), -2);
        due("sizeForKinds(0, 12)", x.sizeForKinds(0, 12), -2);
        due("sizeForKinds(1, 1)", x.sizeForKinds(1, 1), -2);
        due("sizeForKinds(0, 0)", x.sizeForKinds(0, 0), -1);
        due("sizeForKinds(0, 13)", x.sizeForKinds(0, 13), -1);
        due("sizeForKinds(4, 1)", x.sizeForKinds(4, 1), -1);
        due("sizeForKinds(-1, 1)", x.sizeForKinds(-1, 1), -1);
        StringBuilder all = new StringBuilder("key 0 a 1 1000");
        for (int n = 1; n < 14; n++) {
            all.append(";key 0 ").append((char) ('a' + n)).append(" 1 ").append(1000 - n);
        }
        x = of(all.toString());
        due("sizeForKinds(0, 12)", x.sizeForKinds(0, 12), 12);
        x.rename(1, 0);
        due("sizeForKinds(0, 12), when two of the first are alike", x.sizeForKinds(0, 12), -2);
        ends();
    }

    private static void sharedLabels() {
        FairDraws x = five();
        x.put(1, 0, 1, 5);
        x.put(1, 2, 1, 5);
        x.put(1, 25, 1, 5);
        x.put(2, 25, 1, 5);
        due("shared(0, 1)", x.shared(0, 1), 5);
        due("shared(1, 0)", x.shared(1, 0), 5);
        due("shared(1, 2)", x.shared(1, 2), 1 << 25);
        due("shared(0, 3)", x.shared(0, 3), 0);
        due("shared(0, 0)", x.shared(0, 0), 7);
        x.size(0, 1);
        due("shared(0, 1)", x.shared(0, 1), 0);
        due("shared(0, 4)", x.shared(0, 4), -1);
        due("shared(4, 0)", x.shared(4, 0), -1);
        due("shared(-1, 0)", x.shared(-1, 0), -1);
        due("shared(0, -1)", x.shared(0, -1), -1);
        ends();
    }

    private static void withoutOne() {
        FairDraws x = five();
        int[] want = {3, 2, 4};
        for (int k = 0; k < 3; k++) {
            due("without(1, " + k + ")", x.without(1, k), want[k]);
        }
        due("without(1, 3)", x.without(1, 3), -2);
        due("without(1, -1)", x.without(1, -1), 3);
        due("without(0, 0)", x.without(0, 0), 1);
        due("without(0, -2)", x.without(0, -2), -1);
        due("without(5, 0)", x.without(5, 0), -1);
        due("without(-1, 0)", x.without(-1, 0), -1);
        due("of(1, 5)", x.of(1, 5), 2);
        x.drop(0);
        due("without(0, 0), dropped", x.without(0, 0), -2);
        due("without(0, -1), dropped", x.without(0, -1), -2);
        due("without(0, -2), dropped", x.without(0, -2), -1);
        x.drop(1);
        due("without(4, -1)", x.without(4, -1), 2);
        ends();
    }

    private static void expiredOnes() {
        FairDraws x = fiveByTicks();
        x.pass(5);
        due("expired(0, -1)", x.expired(0, -1), 2);
        due("expired(0, 0)", x.expired(0, 0), 0);
        due("expired(0, 1)", x.expired(0, 1), 1);
        due("expired(0, 2)", x.expired(0, 2), -2);
        due("expired(1, -1)", x.expired(1, -1), 0);
        due("expired(0, -2)", x.expired(0, -2), -1);
        due("expired(4, 0)", x.expired(4, 0), -1);
        due("expired(-1, 0)", x.expired(-1, 0), -1);
        x.drop(0);
        due("expired(0, 0)", x.expired(0, 0), 1);
        due("expired(0, -1)", x.expired(0, -1), 1);
        x.pass(1);
        due("one just out of the window", x.expired(0, 1), 2);
        ends();
    }

    private static void busiestTicks() {
        FairDraws x = of("key 0 a 1 5;wait 3;key 1 a 1 5;wait 1;key 2 a 1 5;wait 1;key 3 a 1 5;key 0 a 1 5;wait 9;"
            + "key 0 a 1 5;key 0 a 1 5");
        // Ticks 0, 3, 4, 5, 5, 14, 14.
        due("busiest(1, 0)", x.busiest(1, 0), 2);
        due("busiest(1, 1)", x.busiest(1, 1), 5);
        due("busiest(2, 0)", x.busiest(2, 0), 3);
        due("busiest(2, 1)", x.busiest(2, 1), 4);
        due("busiest(3, 0)", x.busiest(3, 0), 4);
        due("busiest(3, 1)", x.busiest(3, 1), 3);
        due("busiest(5, 0)", x.busiest(5, 0), 4);
        due("busiest(6, 0)", x.busiest(6, 0), 5);
        due("busiest(6, 1)", x.busiest(6, 1), 0);
        due("busiest(9999, 0)", x.busiest(9999, 0), 7);
        x.drop(3);
        due("busiest(1, 1)", x.busiest(1, 1), 14);
        due("busiest(2, 0)", x.busiest(2, 0), 2);
        due("busiest(2, 1)", x.busiest(2, 1), 3);
        x.drop(0);
        due("a dropped one's tick", x.busiest(9999, 1), 3);
        x.undo();
        x.window(0, 1);
        x.pass(50);
        due("those that aren't alive count", x.busiest(9999, 0), 6);
        due("busiest(0, 0)", x.busiest(0, 0), -1);
        due("busiest(10000, 0)", x.busiest(10000, 0), -1);
        due("busiest(1, 2)", x.busiest(1, 2), -1);
        due("busiest(1, -1)", x.busiest(1, -1), -1);
        x = of("key 0 a 1 5;key 0 a 1 5;key 0 a 1 5;wait 9;key 0 a 1 5;wait 1;key 0 a 1 5;wait 1;key 0 a 1 5;"
            + "wait 1;key 0 a 1 5");
        due("busiest(1, 0)", x.busiest(1, 0), 3);
        due("busiest(2, 0)", x.busiest(2, 0), 3);
        due("busiest(3, 1)", x.busiest(3, 1), 0);
        due("busiest(4, 1)", x.busiest(4, 1), 9);
        x = new FairDraws();
        due("busiest of none, 0", x.busiest(1, 0), 0);
        due("busiest of none, 1", x.busiest(1, 1), -2);
        ends();
    }

    private static void weightsFor() {
        FairDraws x = of("size 0 2;key 0 a 1 512;key 0 a 2 256;key 0 a 2 257;key 0 a 1 1;key 0 a 9 999");
        x.drop(4);
        // Item 1 has the key of item 0 by weight 2, but the greater number.
        due("weightFor(1)", x.weightFor(1), 3);
        due("weightFor(0)", x.weightFor(0), 1);
        due("weightFor(2)", x.weightFor(2), 2);
        due("weightFor(3)", x.weightFor(3), 11);
        due("weightFor(4), dropped", x.weightFor(4), -2);
        due("weightFor(5)", x.weightFor(5), -1);
        due("weightFor(-1)", x.weightFor(-1), -1);
        due("of(3, 2)", x.of(3, 2), 1);
        x.size(0, 1);
        x.put(0, 0, 20, 1023);
        due("weightFor(0)", x.weightFor(0), -2);
        x.window(0, 1);
        x.pass(1);
        due("weightFor of one that isn't alive", x.weightFor(5), -2);
        due("like keys, the lesser number", of("size 0 1;key 0 a 1 256;key 0 a 1 512").weightFor(0), 2);
        due("the greatest", of("size 0 1;key 0 a 19 1023;key 0 a 1 1023").weightFor(1), 20);
        due("room", of("size 0 2;key 0 a 5 1;key 0 a 1 512").weightFor(0), 1);
        ends();
    }

    private static void sizesFor() {
        FairDraws x = five();
        int[] want = {5, 1, 3, 2, 4};
        for (int item = 0; item < 5; item++) {
            due("sizeFor(" + item + ")", x.sizeFor(item), want[item]);
        }
        x.drop(1);
        due("sizeFor(1)", x.sizeFor(1), -2);
        due("sizeFor(0)", x.sizeFor(0), 4);
        due("sizeFor(5)", x.sizeFor(5), -1);
        due("sizeFor(-1)", x.sizeFor(-1), -1);
        x.window(0, 1);
        x.pass(1);
        due("sizeFor of one that isn't alive", x.sizeFor(0), -2);
        x = of("key 0 a 1 900;key 0 a 1 800 ;item 1 a 20 times 12;item 1 a 1");
        due("sizeFor(14)", x.sizeFor(14), -2);
        x.drop(13);
        due("sizeFor(14)", x.sizeFor(14), 12);
        ends();
    }

    private static void windowsFor() {
        FairDraws x = fiveByTicks();
        x.pass(2);
        // At tick 10: 0 (lot 100) of tick 0, 1 (500) of 2, 2 (300) of 4, 3 (500) of 6, 4 (200) of 8; size 3.
        due("windowFor(1)", x.windowFor(1), 9999);
        due("windowFor(3)", x.windowFor(3), 9999);
        due("windowFor(2)", x.windowFor(2), 9999);
        // Ahead of 4 are 3, 2, 1 : that of tick 2 must be out.
        due("windowFor(4)", x.windowFor(4), 8);
        due("windowFor(0)", x.windowFor(0), -2);
        x.size(0, 1);
        due("windowFor(4)", x.windowFor(4), 4);
        due("windowFor(3)", x.windowFor(3), 8);
        due("windowFor(1)", x.windowFor(1), 9999);
        due("windowFor(2)", x.windowFor(2), -2);
        x.drop(3);
        due("windowFor(3), dropped", x.windowFor(3), -2);
        due("windowFor(2)", x.windowFor(2), 8);
        due("windowFor(5)", x.windowFor(5), -1);
        due("windowFor(-1)", x.windowFor(-1), -1);
        x.window(0, 1);
        due("one that isn't alive by the window of now", x.windowFor(2), 8);
        due("an undone one", x.put(0, 0, 1, 900), 5);
        x.undo();
        due("when one that was ahead is undone", x.windowFor(2), 8);
        x = of("key 0 a 1 5;wait 9999");
        due("of 9999 ticks ago", x.windowFor(0), -2);
        due("of 9998 ticks ago", of("key 0 a 1 5;wait 9998").windowFor(0), 9999);
        due("of the same tick", of("size 0 1;key 0 a 1 5;key 0 a 1 6;wait 3").windowFor(0), -2);
        ends();
    }

    private static void laterOnes() {
        FairDraws x = fiveByTicks();
        // At tick 8 now; the items expire at ticks 10, 12, 14, 16, 18.
        due("later(0, 0, 0)", x.later(0, 0, 0), 1);
        due("later(0, 3, 0)", x.later(0, 3, 0), 1);
        due("later(0, 4, 0)", x.later(0, 4, 0), 3);
        due("later(0, 4, 2)", x.later(0, 4, 2), 4);
        due("later(0, 6, -1)", x.later(0, 6, -1), 2);
        due("later(0, 6, 2)", x.later(0, 6, 2), -2);
        due("later(0, 9, -1)", x.later(0, 9, -1), 1);
        due("later(0, 10, -1)", x.later(0, 10, -1), 0);
        due("later(0, 9999, -1)", x.later(0, 9999, -1), 0);
        due("later(0, 10000, -1)", x.later(0, 10000, -1), -1);
        due("later(0, -1, -1)", x.later(0, -1, -1), -1);
        due("later(0, 0, -2)", x.later(0, 0, -2), -1);
        due("later(4, 0, 0)", x.later(4, 0, 0), -1);
        due("later(-1, 0, 0)", x.later(-1, 0, 0), -1);
        due("count(2)", x.count(2), 8);
        x.window(0, 0);
        due("without a window", x.later(0, 9999, -1), 3);
        ends();
    }

    private static void entering() {
        FairDraws x = fiveByTicks();
        // The sample at tick 8 is 1, 3, 2; 1 expires in 4 ticks, then 4 comes in. 0 expires in 2.
        due("enters(1)", x.enters(1), 0);
        due("enters(2)", x.enters(2), 0);
        due("enters(4)", x.enters(4), 4);
        due("enters(0)", x.enters(0), -2);
        x.size(0, 1);
        due("enters(3)", x.enters(3), 4);
        due("enters(2)", x.enters(2), -2);
        due("enters(4)", x.enters(4), 8);
        x.drop(3);
        due("enters(3), dropped", x.enters(3), -2);
        due("enters(4)", x.enters(4), 6);
        due("enters(5)", x.enters(5), -1);
        due("enters(-1)", x.enters(-1), -1);
        x.pass(3);
        due("enters(0), not alive", x.enters(0), -2);
        x.window(0, 0);
        due("without a window", x.enters(4), -2);
        due("without a window", x.enters(1), 0);
        due("those of one tick", of("size 0 1;window 0 5;key 0 a 1 5;key 0 a 1 6").enters(0), -2);
        due("an expired rival", of("size 0 1;window 0 1;key 0 a 1 6;wait 2;key 0 a 1 5").enters(1), 0);
        due("the next tick", of("size 0 1;window 0 5;key 0 a 1 6;wait 1;key 0 a 1 5").enters(1), 4);
        ends();
    }

    private static void changing() {
        FairDraws x = fiveByTicks();
        due("changes(0)", x.changes(0), 4);
        x.pass(4);
        sampleIs(x, 0, 3, 2, 4);
        due("changes(0)", x.changes(0), 2);
        x.pass(5);
        due("changes(0)", x.changes(0), 1);
        x.pass(1);
        due("changes(0), none alive", x.changes(0), -2);
        due("changes(1)", x.changes(1), -2);
        x.window(0, 0);
        due("changes(0), without a window", x.changes(0), -2);
        x.window(0, 9999);
        due("changes(0)", x.changes(0), 2 + 9999 - 18);
        due("changes(4)", x.changes(4), -1);
        due("changes(-1)", x.changes(-1), -1);
        ends();
    }

    private static void thenAsItWas() {
        FairDraws x = fiveByTicks();
        x.size(0, 2);
        int[][] want = {{0}, {1, 0}, {1, 2}, {1, 3}, {1, 3}};
        for (int item = 0; item < 5; item++) {
            due("then(" + item + ", -1)", x.then(item, -1), want[item].length);
            for (int k = 0; k < want[item].length; k++) {
                due("then(" + item + ", " + k + ")", x.then(item, k), want[item][k]);
            }
            due("then(" + item + ", 2)", x.then(item, 2), -2);
        }
        x.window(0, 5);
        // Behind 4, at tick 8, that of tick 2 was out, that of tick 4 was not.
        due("then(4, 0)", x.then(4, 0), 3);
        due("then(4, 1)", x.then(4, 1), 2);
        due("then(0, -2)", x.then(0, -2), -1);
        due("then(5, 0)", x.then(5, 0), -1);
        due("then(-1, 0)", x.then(-1, 0), -1);
        x.drop(3);
        due("then(3, 0), dropped", x.then(3, 0), -2);
        due("then(3, -1), dropped", x.then(3, -1), -2);
        due("then(3, -2), dropped", x.then(3, -2), -1);
        due("then(4, 0)", x.then(4, 0), 2);
        x.move(2, 1);
        due("then(4, 0)", x.then(4, 0), 4);
        due("then(2, 0)", x.then(2, 0), 2);
        x.pass(500);
        due("then of one that isn't alive", x.then(1, 0), 1);
        ends();
    }

    private static void playedAgain() {
        FairDraws x = five();
        x.size(0, 2);
        // 0 in, 1 in, 2 in (out 0), 3 in (out 2), 4 not.
        due("played(0, 0)", x.played(0, 0), 4);
        due("played(0, 1)", x.played(0, 1), 2);
        x.size(0, 12);
        due("played(0, 0)", x.played(0, 0), 5);
        due("played(0, 1)", x.played(0, 1), 0);
        x.size(0, 1);
        // 0 in, 1 in (out 0), 3 has the key of 1, which came first.
        due("played(0, 0)", x.played(0, 0), 2);
        due("played(0, 1)", x.played(0, 1), 1);
        x.drop(1);
        due("played(0, 0)", x.played(0, 0), 3);
        due("played(0, 1)", x.played(0, 1), 2);
        due("played(1, 0)", x.played(1, 0), 0);
        due("played(0, 2)", x.played(0, 2), -1);
        due("played(0, -1)", x.played(0, -1), -1);
        due("played(4, 0)", x.played(4, 0), -1);
        due("played(-1, 0)", x.played(-1, 0), -1);
        x = fiveByTicks();
        x.size(0, 1);
        x.window(0, 2);
        due("each alone in its window", x.played(0, 0), 5);
        due("each alone in its window", x.played(0, 1), 0);
        ends();
    }

    private static void outByOnes() {
        FairDraws x = five();
        x.size(0, 2);
        int[] want = {2, -2, 3, -2, -2};
        for (int item = 0; item < 5; item++) {
            due("outBy(" + item + ")", x.outBy(item), want[item]);
        }
        x.put(0, 0, 1, 501);
        x.undo();
        due("outBy(3), when who put it out is undone", x.outBy(3), -2);
        x.put(0, 0, 1, 501);
        x.put(0, 0, 1, 502);
        due("outBy(3)", x.outBy(3), 5);
        due("outBy(1)", x.outBy(1), 6);
        due("outBy(4), never in", x.outBy(4), -2);
        x.drop(2);
        due("outBy(0)", x.outBy(0), 3);
        due("outBy(2), dropped", x.outBy(2), -2);
        due("outBy(7)", x.outBy(7), -1);
        due("outBy(-1)", x.outBy(-1), -1);
        x.move(1, 1);
        due("outBy(0), when 1 is elsewhere", x.outBy(0), 4);
        x = fiveByTicks();
        x.size(0, 1);
        due("outBy(0)", x.outBy(0), 1);
        x.window(0, 2);
        due("who expires isn't put out", x.outBy(0), -2);
        ends();
    }

    private static void labelCounts() {
        FairDraws x = of("size 0 2;window 0 5;key 0 a 7 5;wait 5;key 0 a 3 500;key 0 a 4 5;key 0 b 5 900;key 1 a 9 9");
        x.put(0, 0, 11, 9);
        x.drop(5);
        int[] want = {2, 7, 1, 3};
        for (int what = 0; what < 4; what++) {
            due("labels(0, 0, " + what + ")", x.labels(0, 0, what), want[what]);
        }
        due("labels(0, 1, 0)", x.labels(0, 1, 0), 1);
        x.put(0, 0, 5, 5);
        x.undo();
        for (int what = 0; what < 4; what++) {
            due("labels(0, 0, " + what + ") behind an undone one", x.labels(0, 0, what), want[what]);
        }
        due("labels of the first one", of("key 0 a 7 5").labels(0, 0, 1), 7);
        due("labels(1, 0, 1)", x.labels(1, 0, 1), 9);
        due("labels(0, 25, 0)", x.labels(0, 25, 0), 0);
        due("labels(0, 0, 4)", x.labels(0, 0, 4), -1);
        due("labels(0, 0, -1)", x.labels(0, 0, -1), -1);
        due("labels(0, 26, 0)", x.labels(0, 26, 0), -1);
        due("labels(0, -1, 0)", x.labels(0, -1, 0), -1);
        due("labels(4, 0, 0)", x.labels(4, 0, 0), -1);
        due("labels(-1, 0, 0)", x.labels(-1, 0, 0), -1);
        ends();
    }

    private static void totals() {
        FairDraws x = of("size 0 2;window 0 5;key 0 a 7 5;wait 5;key 0 a 3 500;key 0 a 4 5;key 0 b 5 900;key 1 a 9 9");
        x.put(0, 0, 11, 9);
        x.drop(5);
        int[] want = {3, 12, 8, 4, 2, 5};
        for (int what = 0; what < 6; what++) {
            due("total(0, " + what + ")", x.total(0, what), want[what]);
        }
        due("total(1, 2)", x.total(1, 2), 9);
        x.put(0, 0, 5, 5);
        x.undo();
        for (int what = 0; what < 6; what++) {
            due("total(0, " + what + ") behind an undone one", x.total(0, what), want[what]);
        }
        due("total(3, 0)", x.total(3, 0), 0);
        due("total(0, 6)", x.total(0, 6), -1);
        due("total(0, -1)", x.total(0, -1), -1);
        due("total(4, 0)", x.total(4, 0), -1);
        due("total(-1, 0)", x.total(-1, 0), -1);
        ends();
    }

    private static void modes() {
        FairDraws x = of("size 0 5;key 0 c 1 900;key 0 b 1 800;key 0 b 1 700;key 0 c 1 600;key 0 a 1 500;key 0 a 1 400;"
            + "key 0 a 1 300;key 1 z 1 5");
        due("mode(0), of two that have two", x.mode(0), 1);
        x.size(0, 1);
        due("mode(0)", x.mode(0), 2);
        x.size(0, 7);
        due("mode(0)", x.mode(0), 0);
        due("mode(1)", x.mode(1), 25);
        due("mode(2)", x.mode(2), -2);
        due("mode(4)", x.mode(4), -1);
        due("mode(-1)", x.mode(-1), -1);
        ends();
    }

    private static void unlikes() {
        FairDraws x = of("key 0 a 1 900;key 0 a 1 800;key 0 b 1 700;key 0 a 1 600;key 0 z 1 5;key 1 b 1 5;key 1 b 1 6;"
            + "key 1 z 1 7");
        // a 3, b 1 and b 2, z 1
        due("unlike(0, 1)", x.unlike(0, 1), 5);
        due("unlike(1, 0)", x.unlike(1, 0), 5);
        due("unlike(0, 0)", x.unlike(0, 0), 0);
        due("unlike(2, 1)", x.unlike(2, 1), 3);
        due("unlike(2, 3)", x.unlike(2, 3), 0);
        due("unlike(0, 4)", x.unlike(0, 4), -1);
        due("unlike(4, 0)", x.unlike(4, 0), -1);
        due("unlike(-1, 0)", x.unlike(-1, 0), -1);
        due("unlike(0, -1)", x.unlike(0, -1), -1);
        ends();
    }

    private static void sames() {
        FairDraws x = five();
        due("same(0, 0), nothing kept", x.same(0, 0), -2);
        x.keep(0);
        due("same(0, 0)", x.same(0, 0), 1);
        due("same(0, 3)", x.same(0, 3), 1);
        due("same(1, 0)", x.same(1, 0), -2);
        due("same(2, 0)", x.same(2, 0), -1);
        due("same(-1, 0)", x.same(-1, 0), -1);
        due("same(0, 4)", x.same(0, 4), -1);
        due("same(1, -1)", x.same(1, -1), -1);
        x.drop(0);
        due("another one dropped", x.same(0, 0), 1);
        x.swap(1, 2);
        // Now 3, 1 of 300 ahead of it: 2 has 500: 2, 3, 1 in place of 1, 3, 2.
        due("others ahead", x.same(0, 0), 0);
        x.undo();
        due("undone", x.same(0, 0), 1);
        x.drop(1);
        x.size(0, 2);
        x.keep(1);
        x.undo();
        x.undo();
        x.size(0, 2);
        x.drop(3);
        // 1, 2 in place of 3, 2.
        due("another first one", x.same(1, 0), 0);
        x.undo();
        x.undo();
        x.back(0);
        FairDraws y = five();
        y.keep(1);
        due("nothing kept on the other shelf", y.same(0, 0), -2);
        x.drop(0);
        x.size(0, 2);
        due("fewer", x.same(0, 0), 0);
        x.size(0, 4);
        due("more", x.same(0, 0), 0);
        x.keep(1);
        due("same(1, 0)", x.same(1, 0), 1);
        x.window(0, 1);
        x.pass(1);
        due("the shelf has its own tick and window", x.same(1, 0), 0);
        ends();
    }

    private static void toldBytes() {
        FairDraws x = of("size 1 12;window 2 9999;seed 65535;key 3 z 20 1023;wait 9999;wait 9999;wait 2;key 0 a 1 1;"
            + "key 1 b 2 22;wait 5;key 2 c 3 33;wait 9999");
        String shards = "size 0 4;window 0 0;size 1 12;window 1 0;size 2 4;window 2 9999;size 3 4;window 3 0";
        String want = shards + ";key 3 z 20 1023;wait 9999;wait 9999;wait 2;key 0 a 1 1;key 1 b 2 22;wait 5;"
            + "key 2 c 3 33;wait 9999;seed 65535";
        dueText("told", text(x), want);
        due("told(-1)", x.told(-1), want.length());
        due("told behind the last", x.told(want.length()), -2);
        due("told(MAX)", x.told(MAX), -2);
        due("told(-2)", x.told(-2), -1);
        due("told(MIN)", x.told(MIN), -1);
        x.drop(1);
        x.drop(3);
        x.weigh(2, 7);
        x.rename(1, 4);
        x.move(2, 3);
        x.pass(1);
        x.seed(0);
        dueText("told", text(x), shards + ";key 3 z 20 1023;wait 9999;wait 9999;wait 2;key 3 e 7 22;wait 9999;wait 6;"
            + "seed 0");
        x.drop(0);
        x.drop(2);
        dueText("told", text(x), shards + ";" + "wait 9999;".repeat(3) + "wait 8;seed 0");
        x = of("key 0 a 10 10;wait 1;key 0 a 1 100;wait 99;key 0 a 1 1000;wait 900;key 0 a 1 999;wait 9000;key 0 a 1 99;"
            + "wait 1;seed 10000");
        dueText("told", text(x), "size 0 4;window 0 0;size 1 4;window 1 0;size 2 4;window 2 0;size 3 4;window 3 0;"
            + "key 0 a 10 10;wait 1;key 0 a 1 100;wait 99;key 0 a 1 1000;wait 900;key 0 a 1 999;wait 9000;key 0 a 1 99;"
            + "wait 1;seed 10000");
        x = of("wait 9998;wait 1");
        due("told(-1) of one wait", x.told(-1), 86 + 10);
        x = five();
        String text = text(x);
        tell(x, text);
        dueText("what was told, told", text(x), text);
        ends();
    }

    private static void digests() {
        FairDraws x = new FairDraws();
        due("digest()", x.digest(), 17);
        x.pass(6);
        x.put(1, 2, 3, 4);
        long one = ((((17L * 31 + 1) * 31 + 2) * 31 + 3) * 31 + 4) * 31 + 6;
        due("digest() of one", x.digest(), one);
        x.put(0, 25, 20, 1023);
        long two = ((((one * 31) * 31 + 25) * 31 + 20) * 31 + 1023) * 31 + 6;
        due("digest() of two", x.digest(), two);
        x.drop(0);
        one = ((((17L * 31 + 4) * 31 + 2) * 31 + 3) * 31 + 4) * 31 + 6;
        due("digest() of a dropped one", x.digest(), ((((one * 31) * 31 + 25) * 31 + 20) * 31 + 1023) * 31 + 6);
        x = of("key 1 b 1 1;key 1 b 1 1;key 1 b 1 1");
        java.math.BigInteger sum = java.math.BigInteger.valueOf(17);
        for (int n = 0; n < 15; n++) {
            sum = sum.multiply(java.math.BigInteger.valueOf(31)).add(java.math.BigInteger.valueOf(n % 5 < 4 ? 1 : 0));
        }
        due("digest() that goes round", x.digest(), sum.longValue());
        ends();
    }

    private static void counts() {
        FairDraws x = fiveByTicks();
        x.drop(1);
        x.pass(3);
        x.seed(99);
        x.keep(1);
        x.put(1, 0, 1, 1);
        x.feed(1, 2, 3, 4, 5);
        x.end(13);
        int[] want = {6, 5, 11, 99, 4, 13, 2, 4};
        for (int what = 0; what < 8; what++) {
            due("count(" + what + ")", x.count(what), want[what]);
        }
        x.keep(0);
        due("count(6)", x.count(6), 3);
        due("count(8)", x.count(8), -1);
        due("count(-1)", x.count(-1), -1);
        due("count(MIN)", x.count(MIN), -1);
        ends();
    }
}
