/** The edges of promises 25 to 42 and 53 to 60: items, keys, samples, labels, what is told. */
public final class AskEdgesTest {
    private static final Edges EDGES = new Edges("AskEdgesTest");
    private static final World NEW = new World();
    private static final World RICH = World.RICH;

    /** One behind the other, the first ahead: 1 b, 3 c, 2 a, 4 b, 0 a. */
    private static final World FIVE = new World("size 0 3;key 0 a 1 100;key 0 b 1 500;key 0 a 1 300;key 0 c 1 500;"
        + "key 0 b 1 200");

    /** Thirteen of shard 0, the first ahead, of labels a to m; thirteen of shard 3, all of label z. */
    private static final World THIRTEENS = new World("size 0 12;size 3 12;item 3 z 1 times 13", "put(0, 0, 1, 1013)",
        "put(0, 1, 1, 1012)", "put(0, 2, 1, 1011)", "put(0, 3, 1, 1010)", "put(0, 4, 1, 1009)", "put(0, 5, 1, 1008)",
        "put(0, 6, 1, 1007)", "put(0, 7, 1, 1006)", "put(0, 8, 1, 1005)", "put(0, 9, 1, 1004)", "put(0, 10, 1, 1003)",
        "put(0, 11, 1, 1002)", "put(0, 12, 1, 1001)");

    private static final World FULL = new World("item 0 a 1 times 50;item 1 b 20 times 50");

    public static void main(String[] args) {
        ofItems();
        orders();
        likeKeys();
        parts();
        samples();
        mergedOnes();
        partsOf();
        cappedOnes();
        lastOnes();
        needed();
        heavyOnes();
        skipped();
        lotsAhead();
        nextLots();
        kindsOf();
        sizesForKinds();
        sharedLabels();
        withoutOne();
        expiredOnes();
        labelCounts();
        totals();
        modes();
        unlikes();
        sames();
        toldShards();
        toldWaits();
        digests();
        counts();
        EDGES.end(25, 42, 53, 60);
    }

    private static void ofItems() {
        EDGES.promise(25);
        EDGES.refuses("without these", RICH, -1, Edges.beyond("of", 0, 6, 0, 7));
        EDGES.asks("a dropped one", RICH, "of(5, 0)", 0, "of(5, 1)", 0, "of(5, 2)", 5, "of(5, 3)", 9, "of(5, 4)", 6, "of(5, 5)",
            0, "of(5, 6)", -2, "of(5, 7)", -2);
        EDGES.asks("one that expired", RICH, "of(2, 0)", 1, "of(2, 1)", 0, "of(2, 2)", 2, "of(2, 3)", 300, "of(2, 4)", 2,
            "of(2, 5)", 1, "of(2, 6)", -2, "of(2, 7)", -2);
        EDGES.asks("the last one", RICH, "of(6, 0)", 1, "of(6, 1)", 4, "of(6, 2)", 1, "of(6, 3)", Lots.drawn(77, 0), "of(6, 4)",
            6, "of(6, 5)", 2);
        EDGES.asks("none is ahead of the first", FIVE, "of(1, 6)", 0, "of(1, 7)", 0);
        EDGES.asks("the last one in and the first one not in", FIVE, "of(2, 6)", 2, "of(2, 7)", 2, "of(4, 6)", -2, "of(4, 7)", 3);
        EDGES.asks("of 13", THIRTEENS, "of(24, 6)", 11, "of(24, 7)", 11, "of(25, 6)", -2, "of(25, 7)", 12);
        EDGES.runs("time above the tick less the window", RICH.and("pass(1)"), "of(0, 5)", 2, "pass(1)", 10, "of(0, 5)", 1,
            "drop(0)", 2, "of(0, 5)", 0);
        EDGES.runs("ahead of it is no dropped, expired, other shard's one", FIVE.and("drop(1)", "move(3, 1)"), "of(2, 6)", 0,
            "of(4, 7)", 1);
    }

    private static World two(int lot, int weight, int otherLot, int otherWeight) {
        return new World("key 0 a " + weight + " " + lot + ";key 0 a " + otherWeight + " " + otherLot);
    }

    private static void orders() {
        EDGES.promise(26);
        EDGES.refuses("without these", RICH, -1, Edges.beyond("order", 0, 6, 0, 6));
        EDGES.asks("one and itself", RICH, "order(0, 0)", 0, "order(6, 6)", 0, "order(5, 5)", 0);
        EDGES.asks("dropped and expired ones", RICH, "order(3, 5)", 1, "order(5, 3)", 2, "order(2, 1)", 1, "order(1, 2)", 2);
        EDGES.asks("the least and the greatest key", two(1, 1, 1023, 20), "order(0, 1)", 2, "order(1, 0)", 1);
        EDGES.asks("the least key twice", two(1, 1, 1, 1), "order(0, 1)", 0);
        EDGES.asks("the greatest key twice", two(1023, 20, 1023, 20), "order(0, 1)", 0, "order(1, 0)", 0);
        EDGES.asks("just below the greatest", two(1022, 20, 1023, 20), "order(0, 1)", 2);
        EDGES.asks("just below the greatest", two(1023, 20, 1023, 19), "order(0, 1)", 1);
        EDGES.asks("just above the least", two(2, 1, 1, 1), "order(0, 1)", 1);
        EDGES.asks("just above the least", two(1, 2, 1, 1), "order(0, 1)", 1);
        // Of all keys these are the closest: exact whole numbers tell them apart.
        EDGES.asks("close ones", two(548, 16, 527, 17), "order(0, 1)", 2, "order(1, 0)", 1, "sample(0, 0)", 1);
        EDGES.asks("close ones", two(240, 15, 163, 19), "order(0, 1)", 2, "order(1, 0)", 1, "sample(0, 0)", 1);
    }

    /** The square root of n * n by 1024 is n by 32; the fifth root of 243 by 1024 is 3 by 4. */
    private static void likeKeys() {
        for (int weight = 1; weight <= 10; weight++) {
            for (int n = 1; n < 32; n++) {
                World world = two(n * n, 2 * weight, 32 * n, weight);
                EDGES.asks("alike", world, "order(0, 1)", 0, "order(1, 0)", 0, "sample(0, 0)", 0, "sample(0, 1)", 1);
                EDGES.runs("the next one is greater", world.and("put(0, 0, " + 2 * weight + ", " + (n * n + 1) + ")"),
                    "order(2, 1)", 1, "order(0, 2)", 2, "sample(0, 0)", 2);
            }
        }
        for (int weight = 1; weight <= 4; weight++) {
            EDGES.asks("alike", two(243, 5 * weight, 768, weight), "order(0, 1)", 0, "sample(0, 0)", 0);
            EDGES.asks("alike", two(768, weight, 243, 5 * weight), "order(0, 1)", 0, "sample(0, 0)", 0);
            EDGES.asks("alike", two(32, 5 * weight, 512, weight), "order(0, 1)", 0);
            EDGES.asks("nearly", two(244, 5 * weight, 768, weight), "order(0, 1)", 1, "order(1, 0)", 2);
            EDGES.asks("nearly", two(242, 5 * weight, 768, weight), "order(0, 1)", 2, "sample(0, 0)", 1);
        }
        EDGES.asks("alike", two(1, 10, 512, 1), "order(0, 1)", 0);
        EDGES.asks("alike", two(1, 20, 512, 2), "order(0, 1)", 0);
    }

    private static void parts() {
        EDGES.promise(27);
        EDGES.refuses("without these", RICH, -1, Edges.beyond("part", 0, 6, 1, 1000));
        EDGES.asks("a dropped one and one that expired", RICH, "part(5, 1000)", 387, "part(2, 1000)", 541);
        EDGES.asks("by 1: no key is 1", RICH, "part(0, 1)", 0, "part(4, 1)", 0);
        EDGES.asks("the least key", two(1, 1, 1, 20), "part(0, 1000)", 0, "part(0, 1)", 0, "part(1, 1000)", 707, "part(1, 1)", 0);
        EDGES.asks("the greatest key", two(1023, 20, 1023, 1), "part(0, 1000)", 999, "part(0, 1)", 0, "part(1, 1000)", 999,
            "part(0, 2)", 1);
        for (int n = 1; n < 32; n++) {
            EDGES.asks("no more than the key: as much", two(n * n, 2, n * n, 20), "part(0, 32)", n, "part(0, 992)", 31 * n,
                "part(0, 1)", 0);
            EDGES.asks("no more than the key: as much", two(32 * n, 1, 32 * n - 1, 1), "part(0, 32)", n, "part(1, 32)", n - 1);
        }
        EDGES.asks("no more than the key: as much", two(243, 5, 242, 5), "part(0, 4)", 3, "part(0, 1000)", 750, "part(1, 4)", 2,
            "part(1, 1000)", 749);
        EDGES.asks("no more than the key: as much", two(1, 10, 1, 10), "part(0, 1000)", 500, "part(0, 999)", 499, "part(0, 2)", 1);
    }

    private static void samples() {
        EDGES.promise(28);
        EDGES.asks("from the first to the last", FIVE, "sample(0, -1)", 3, "sample(0, 0)", 1, "sample(0, 1)", 3, "sample(0, 2)", 2);
        EDGES.refuses("not so many", FIVE, -2, "sample(0, 3)", "sample(0, 4)", "sample(0, MAX)", "sample(1, 0)", "sample(3, MAX)");
        EDGES.refuses("without that shard", RICH, -1, "sample(-1, 0)", "sample(4, 0)", "sample(MIN, 0)", "sample(MAX, 0)",
            "sample(-1, -1)", "sample(4, -1)");
        EDGES.refuses("k below NONE", RICH, -1, "sample(0, -2)", "sample(3, -2)", "sample(0, MIN)");
        EDGES.refuses("NONE ahead of -2", RICH, -1, "sample(4, MAX)", "sample(2, -2)", "sample(2, MIN)");
        EDGES.asks("empty", RICH, "sample(2, -1)", 0, "sample(2, 0)", -2, "sample(3, -1)", 0);
        EDGES.asks("full", THIRTEENS, "sample(0, -1)", 12, "sample(0, 11)", 24, "sample(0, 12)", -2);
        EDGES.asks("like keys: the lesser number", new World("size 0 2;item 1 a 1;key 0 a 1 5;key 0 a 1 5;key 0 a 1 5"),
            "sample(0, 0)", 1, "sample(0, 1)", 2, "sample(0, 2)", -2);
        World fewer = FIVE.and("size(0, 5)");
        EDGES.runs("all, if there are fewer", fewer, "sample(0, -1)", 5, "size(0, 6)", 5, "sample(0, -1)", 5);
        EDGES.runs("dropped, moved ones leave it", FIVE, "drop(1)", 4, "sample(0, 0)", 3, "move(3, 2)", 0, "sample(0, 0)", 2,
            "sample(2, 0)", 3, "sample(0, -1)", 3, "drop(0)", 2, "sample(0, -1)", 2);
    }

    private static void mergedOnes() {
        EDGES.promise(29);
        EDGES.asks("the first ahead", RICH, "merged(15, 24, -1)", 5, "merged(15, 24, 0)", 3, "merged(15, 24, 1)", 6,
            "merged(15, 24, 2)", 4, "merged(15, 24, 3)", 0, "merged(15, 24, 4)", 1, "merged(15, 24, 5)", -2);
        EDGES.asks("the least of each", RICH, "merged(1, 1, -1)", 1, "merged(1, 1, 0)", 3, "merged(1, 1, 1)", -2);
        EDGES.asks("each shard by its bit", new World("item 0 a 1;item 1 a 1;item 2 a 1;item 3 a 1"), "merged(1, 24, 0)", 0,
            "merged(2, 24, 0)", 1, "merged(4, 24, 0)", 2, "merged(8, 24, 0)", 3, "merged(1, 24, -1)", 1, "merged(14, 24, -1)", 3,
            "merged(13, 24, -1)", 3, "merged(7, 24, -1)", 3, "merged(15, 24, -1)", 4);
        EDGES.asks("all, if there are fewer", THIRTEENS, "merged(1, 24, -1)", 13, "merged(9, 24, -1)", 24, "merged(9, 23, -1)",
            23, "merged(9, 24, 24)", -2, "merged(6, 24, -1)", 0);
        EDGES.asks("sizes don't count", FULL, "merged(3, 24, -1)", 24, "merged(1, 24, -1)", 24, "merged(2, 5, -1)", 5);
        EDGES.refuses("not so many", RICH, -2, "merged(15, 24, MAX)", "merged(12, 1, 0)", "merged(15, 3, 3)");
        EDGES.refuses("without these", RICH, -1, "merged(0, 1, 0)", "merged(16, 1, 0)", "merged(-1, 1, 0)", "merged(MIN, 1, 0)", "merged(MAX, 1, 0)", "merged(17, 24, 0)",
            "merged(1, 0, 0)", "merged(1, 25, 0)", "merged(1, -1, 0)", "merged(15, MIN, 0)", "merged(15, MAX, 0)",
            "merged(0, 1, -1)", "merged(15, 0, -1)", "merged(15, 25, -1)");
        EDGES.refuses("k below NONE", RICH, -1, "merged(15, 24, -2)", "merged(1, 1, MIN)");
        EDGES.refuses("NONE ahead of -2", RICH, -1, "merged(12, 25, 0)", "merged(16, 1, MAX)", "merged(12, 1, -2)");
        EDGES.asks("each by its own window", new World("window 0 5;key 0 a 1 9;key 1 a 1 8;wait 5"), "merged(3, 24, -1)", 1,
            "merged(3, 24, 0)", 1, "merged(1, 24, -1)", 0);
        EDGES.asks("like keys: the lesser number", new World("key 3 a 1 9;key 0 a 1 9;key 2 a 1 9"), "merged(15, 2, 0)", 0,
            "merged(15, 2, 1)", 1, "merged(5, 1, 0)", 1);
    }

    private static void partsOf() {
        EDGES.promise(30);
        EDGES.asks("how many", RICH, "partOf(15, 24, 0)", 3, "partOf(15, 24, 1)", 2, "partOf(15, 24, 2)", 0, "partOf(15, 24, 3)", 0,
            "partOf(15, 1, 0)", 1, "partOf(15, 1, 1)", 0, "partOf(15, 2, 1)", 1, "partOf(15, 3, 0)", 1);
        EDGES.asks("a shard that is not of the set", RICH, "partOf(2, 24, 0)", 0, "partOf(1, 24, 3)", 0, "partOf(1, 1, 0)", 1);
        EDGES.asks("full", THIRTEENS, "partOf(1, 24, 0)", 13, "partOf(8, 24, 3)", 13, "partOf(8, 24, 0)", 0);
        EDGES.refuses("without these", RICH, -1, Edges.beyond("partOf", 1, 15, 1, 24, 0, 3));
        EDGES.holds("together they are all", THIRTEENS.make().partOf(9, 24, 0) + THIRTEENS.make().partOf(9, 24, 3) == 24);
    }

    private static void cappedOnes() {
        EDGES.promise(31);
        World world = new World("size 0 3;key 0 a 1 900;key 0 a 1 800;key 0 b 1 700;key 0 a 1 600;key 0 b 1 500;key 0 c 1 400");
        EDGES.asks("the least cap", world, "capped(0, 1, -1)", 3, "capped(0, 1, 0)", 0, "capped(0, 1, 1)", 2, "capped(0, 1, 2)", 5,
            "capped(0, 1, 3)", -2);
        EDGES.asks("whose label m are in it", world, "capped(0, 2, 0)", 0, "capped(0, 2, 1)", 1, "capped(0, 2, 2)", 2,
            "capped(0, 2, 3)", -2, "capped(0, 2, -1)", 3);
        EDGES.runs("fewer than its size", world, "size(0, 4)", 3, "capped(0, 1, -1)", 3, "capped(0, 1, 3)", -2, "capped(0, 2, 3)", 4,
            "capped(0, 3, 3)", 3);
        EDGES.asks("the greatest cap", THIRTEENS, "capped(3, 12, -1)", 12, "capped(3, 11, -1)", 11, "capped(3, 11, 11)", -2,
            "capped(3, 1, -1)", 1, "capped(0, 1, -1)", 12, "capped(0, 1, 11)", 24, "capped(0, 12, 12)", -2);
        EDGES.asks("empty", RICH, "capped(2, 1, -1)", 0, "capped(2, 12, 0)", -2);
        EDGES.refuses("without these", world, -1, "capped(-1, 1, 0)", "capped(4, 1, 0)", "capped(MIN, 1, 0)", "capped(MAX, 1, 0)",
            "capped(0, 0, 0)", "capped(0, 13, 0)", "capped(0, -1, 0)", "capped(0, MIN, 0)", "capped(0, MAX, 0)", "capped(0, 0, -1)",
            "capped(0, 13, -1)", "capped(4, 1, -1)");
        EDGES.refuses("k below NONE", world, -1, "capped(0, 1, -2)", "capped(0, 12, MIN)");
        EDGES.refuses("NONE ahead of -2", world, -1, "capped(1, 13, 0)", "capped(4, 1, MAX)", "capped(1, 1, -2)");
        EDGES.refuses("not so many", world, -2, "capped(0, 1, MAX)", "capped(1, 1, 0)");
    }

    private static void lastOnes() {
        EDGES.promise(32);
        EDGES.asks("as many as its size", FIVE, "last(0)", 2);
        EDGES.asks("of size 1", FIVE.and("size(0, 1)"), "last(0)", 1);
        EDGES.asks("all of them", FIVE.and("size(0, 5)"), "last(0)", 0);
        EDGES.asks("of size 12", THIRTEENS, "last(0)", 24);
        EDGES.refuses("fewer than its size", FIVE.and("size(0, 6)"), -2, "last(0)", "last(1)");
        EDGES.refuses("fewer than its size: some expired", RICH, -2, "last(1)", "last(3)");
        EDGES.refuses("without it", RICH, -1, Edges.beyond("last", 0, 3));
    }

    private static void needed() {
        EDGES.promise(33);
        EDGES.refuses("without these", RICH, -1, Edges.beyond("needs", 0, 3, 1, 20));
        EDGES.asks("room: the least lot", RICH, "needs(1, 1)", 1, "needs(2, 20)", 1, "needs(3, 1)", 1);
        // The last one of shard 0 has the square root of 100 by 1024, which is 320 by 1024.
        EDGES.asks("a like key is behind: the lesser number is ahead", RICH, "needs(0, 1)", 321, "needs(0, 2)", 101,
            "needs(0, 4)", 10, "needs(0, 20)", 1);
        World top = new World("size 0 1;key 0 a 20 1023;size 1 1;key 1 a 1 1023;size 2 1;key 2 a 20 1022;size 3 1;key 3 a 1 1");
        EDGES.asks("none is enough", top, "needs(0, 1)", -2, "needs(0, 19)", -2, "needs(0, 20)", -2, "needs(1, 1)", -2);
        EDGES.asks("the greatest lot", top, "needs(1, 2)", 1023, "needs(2, 20)", 1023, "needs(2, 19)", 1023);
        EDGES.asks("behind the least key", top, "needs(3, 1)", 2, "needs(3, 2)", 1);
        EDGES.asks("those that expired don't stand there", RICH.and("pass(2)"), "needs(0, 1)", 1);
        EDGES.asks("nor dropped ones", FIVE.and("size(0, 5)", "drop(0)"), "needs(0, 1)", 1);
        EDGES.asks("full by one", FIVE.and("size(0, 5)"), "needs(0, 1)", 101);
    }

    private static void heavyOnes() {
        EDGES.promise(34);
        EDGES.refuses("without these", RICH, -1, Edges.beyond("heavy", 0, 3, 1, 1023));
        EDGES.asks("room: the least weight", RICH, "heavy(1, 1)", 1, "heavy(2, 1023)", 1, "heavy(3, 1)", 1);
        EDGES.asks("a like key is behind", RICH, "heavy(0, 321)", 1, "heavy(0, 320)", 2, "heavy(0, 101)", 2, "heavy(0, 100)", 3,
            "heavy(0, 1)", 6);
        World top = new World("size 0 1;key 0 a 20 1023;size 1 1;key 1 a 19 1023;size 2 1;key 2 a 1 1023;size 3 1;key 3 a 1 1");
        EDGES.asks("none is enough", top, "heavy(0, 1)", -2, "heavy(0, 1023)", -2, "heavy(1, 1022)", -2, "heavy(2, 1)", -2);
        EDGES.asks("the greatest weight", top, "heavy(1, 1023)", 20);
        EDGES.asks("the least ones", top, "heavy(3, 1)", 2, "heavy(3, 2)", 1, "heavy(2, 1023)", 2);
        EDGES.asks("those that expired don't stand there", RICH.and("pass(2)"), "heavy(0, 1)", 1);
    }

    private static void skipped() {
        EDGES.promise(35);
        EDGES.refuses("without these", RICH, -1, Edges.beyond("skip", 0, 3, 1, 20));
        EDGES.asks("room: none is passed over", RICH, "skip(1, 1)", 0, "skip(2, 20)", 0, "skip(3, 1)", 0);
        // The lots from seed 1 on are 609, 954, 315, ..
        EDGES.asks("the first is enough", new World("size 0 1;key 0 a 1 608"), "skip(0, 1)", 0);
        EDGES.asks("a like key is behind", new World("size 0 1;key 0 a 1 609"), "skip(0, 1)", 1);
        EDGES.asks("each as if it came first", new World("size 0 1;key 0 a 1 953"), "skip(0, 1)", 1);
        World high = new World("size 0 1;key 0 a 1 1022");
        // From seed 5146 on the first lot 1023 is that behind 999 others, from 8525 on that behind 1000.
        EDGES.holds("the lot behind 999", Lots.drawn(5146, 999) == 1023 && Lots.drawn(8525, 1000) == 1023);
        EDGES.asks("1000 are tried: the last of them", high.and("seed(5146)"), "skip(0, 1)", 999);
        EDGES.asks("1000 are tried: one behind them", high.and("seed(8525)"), "skip(0, 1)", -2);
        EDGES.asks("none would", new World("size 0 1;key 0 a 20 1023"), "skip(0, 20)", -2, "skip(0, 1)", -2);
        EDGES.asks("a lot 0 is drawn again, it is none", new World("size 0 1;key 0 a 1 953;seed " + Lots.seedAheadOfZeros(1)),
            "skip(0, 20)", 0, "skip(0, 1)", firstAbove(953, Lots.seedAheadOfZeros(1)));
    }

    private static int firstAbove(int lot, int seed) {
        int n = 0;
        while (Lots.drawn(seed, n) <= lot) {
            n++;
        }
        return n;
    }

    private static void lotsAhead() {
        EDGES.promise(36);
        EDGES.refuses("without these", RICH, -1, Edges.beyond("lots", 0, 6, 1, 20));
        World world = new World("key 0 a 1 1;key 0 a 20 1023;key 0 a 1 1023;key 0 a 1 512;key 0 a 20 1022");
        EDGES.asks("all but its own, the like one is behind", world, "lots(0, 1)", 1022);
        EDGES.asks("all", world, "lots(0, 2)", 1023, "lots(0, 20)", 1023, "lots(3, 20)", 1023);
        EDGES.asks("none", world, "lots(1, 1)", 0, "lots(1, 20)", 0, "lots(2, 1)", 0);
        EDGES.asks("one", world, "lots(2, 2)", 1, "lots(4, 20)", 1);
        EDGES.asks("like keys", world, "lots(3, 1)", 511, "lots(3, 2)", 767, "lots(3, 10)", 1022, "lots(3, 11)", 1023);
        EDGES.asks("one that expired", RICH, "lots(2, 2)", 723, "lots(2, 1)", 469);
        EDGES.refuses("it is dropped", RICH, -2, "lots(5, 1)", "lots(5, 20)");
        EDGES.refuses("NONE ahead of -2", RICH, -1, "lots(5, 0)", "lots(5, 21)", "lots(5, MIN)");
    }

    private static void nextLots() {
        EDGES.promise(37);
        EDGES.refuses("for others", RICH, -1, Edges.beyond("nextLot", 0, 999));
        EDGES.asks("the first and the last", RICH, "nextLot(0)", Lots.drawn(9, 0), "nextLot(1)", Lots.drawn(9, 1), "nextLot(998)",
            Lots.drawn(9, 998), "nextLot(999)", Lots.drawn(9, 999));
        int seed = Lots.seedAheadOfZeros(1);
        EDGES.asks("a lot 0 is drawn again", NEW.and("seed(" + seed + ")"), "nextLot(0)", Lots.drawn(seed, 0), "nextLot(1)",
            Lots.drawn(seed, 1), "nextLot(999)", Lots.drawn(seed, 999));
        EDGES.asks("when 100 came too", FULL, "nextLot(0)", Lots.drawn(1, 100));
        EDGES.runs("as it is drawn then", RICH, "nextLot(1)", Lots.drawn(9, 1), "come(0, 0, 1)", 7, "nextLot(0)", Lots.drawn(9, 1),
            "again(0)", Lots.drawn(9, 1));
    }

    private static void kindsOf() {
        EDGES.promise(38);
        EDGES.refuses("without these", RICH, -1, Edges.beyond("kinds", 0, 3, 1, 12));
        EDGES.asks("the least and the greatest", THIRTEENS, "kinds(0, 1)", 1, "kinds(0, 2)", 2, "kinds(0, 12)", 12, "kinds(3, 1)", 1,
            "kinds(3, 12)", 1, "kinds(1, 12)", 0, "kinds(2, 1)", 0);
        EDGES.asks("fewer items than the size", FIVE, "kinds(0, 1)", 1, "kinds(0, 2)", 2, "kinds(0, 3)", 3, "kinds(0, 12)", 3);
        EDGES.asks("labels 0 and 25", new World("key 0 a 1 1;key 0 z 1 1"), "kinds(0, 2)", 2);
        EDGES.asks("those that are alive", RICH, "kinds(1, 12)", 2, "kinds(0, 12)", 3);
    }

    private static void sizesForKinds() {
        EDGES.promise(39);
        EDGES.refuses("without these", RICH, -1, Edges.beyond("sizeForKinds", 0, 3, 1, 12));
        EDGES.asks("the least and the greatest", THIRTEENS, "sizeForKinds(0, 1)", 1, "sizeForKinds(0, 12)", 12,
            "sizeForKinds(0, 11)", 11, "sizeForKinds(3, 1)", 1);
        EDGES.refuses("none is enough", THIRTEENS, -2, "sizeForKinds(3, 2)", "sizeForKinds(3, 12)", "sizeForKinds(1, 1)");
        EDGES.refuses("none is enough: the size goes to 12", THIRTEENS.and("rename(1, 0)"), -2, "sizeForKinds(0, 12)");
        EDGES.asks("at least", new World("key 0 b 1 900;key 0 b 1 800;key 0 a 1 700;key 0 b 1 600;key 0 z 1 500"),
            "sizeForKinds(0, 1)", 1, "sizeForKinds(0, 2)", 3, "sizeForKinds(0, 3)", 5, "sizeForKinds(0, 4)", -2);
    }

    private static void sharedLabels() {
        EDGES.promise(40);
        EDGES.refuses("without these", RICH, -1, Edges.beyond("shared", 0, 3, 0, 3));
        World world = new World("key 0 a 1 9;key 0 z 1 8;key 0 m 1 7;key 3 a 1 9;key 3 z 1 8;key 3 b 1 7");
        EDGES.asks("bits 0 and 25", world, "shared(0, 3)", 1 | 1 << 25, "shared(3, 0)", 1 | 1 << 25);
        EDGES.asks("none", world, "shared(0, 1)", 0, "shared(1, 0)", 0, "shared(1, 2)", 0, "shared(2, 2)", 0);
        EDGES.asks("one and itself", world, "shared(0, 0)", 1 | 1 << 12 | 1 << 25, "shared(3, 3)", 3 | 1 << 25);
        EDGES.asks("in the samples alone", world.and("size(0, 1)"), "shared(0, 3)", 1);
        EDGES.asks("all 12", THIRTEENS, "shared(0, 0)", 4095, "shared(0, 3)", 0, "shared(3, 3)", 1 << 25);
        EDGES.asks("those that expired are not in", RICH, "shared(0, 1)", 1 << 2);
    }

    private static void withoutOne() {
        EDGES.promise(41);
        EDGES.asks("one that is in it", FIVE, "without(1, -1)", 3, "without(1, 0)", 3, "without(1, 2)", 4, "without(1, 3)", -2);
        EDGES.asks("one that is not in it", FIVE, "without(0, -1)", 3, "without(0, 0)", 1, "without(0, 2)", 2, "without(4, 2)", 2);
        EDGES.asks("the first of fewer", FIVE.and("size(0, 5)"), "without(1, -1)", 4, "without(1, 3)", 0, "without(1, 4)", -2);
        EDGES.asks("the only one", new World("key 3 a 1 5"), "without(0, -1)", 0, "without(0, 0)", -2);
        EDGES.asks("one that expired", RICH, "without(2, -1)", 2, "without(2, 0)", 6, "without(2, 1)", 4, "without(2, 2)", -2);
        EDGES.refuses("not so many", FIVE, -2, "without(0, 3)", "without(0, MAX)");
        EDGES.refuses("it is dropped", RICH, -2, "without(5, 0)", "without(5, MAX)");
        EDGES.refuses("without it", RICH, -1, "without(-1, 0)", "without(7, 0)", "without(MIN, 0)", "without(MAX, 0)",
            "without(7, -1)", "without(-1, -1)");
        EDGES.refuses("k below NONE", RICH, -1, "without(0, -2)", "without(6, MIN)");
        EDGES.refuses("NONE ahead of -2", RICH, -1, "without(5, -2)", "without(5, MIN)", "without(7, MAX)");
    }

    private static void expiredOnes() {
        EDGES.promise(42);
        World world = new World("window 0 5;key 0 a 1 5;key 1 a 1 5;wait 1;key 0 b 1 5;wait 1;key 0 z 1 6;wait 3");
        EDGES.asks("a tick that is that less the window", world, "expired(0, -1)", 1, "expired(0, 0)", 0, "expired(0, 1)", -2);
        EDGES.runs("by numbers", world, "pass(1)", 6, "expired(0, -1)", 2, "expired(0, 1)", 2, "pass(1)", 7, "expired(0, -1)", 3,
            "expired(0, 2)", 3, "drop(2)", 2, "expired(0, 1)", 3, "expired(0, 2)", -2);
        EDGES.asks("without a window none", world, "expired(1, -1)", 0, "expired(1, 0)", -2);
        EDGES.asks("none that is dropped", RICH.and("drop(2)"), "expired(1, -1)", 0, "expired(0, -1)", 0);
        EDGES.refuses("not so many", RICH, -2, "expired(1, 1)", "expired(1, MAX)", "expired(0, 0)", "expired(3, 0)");
        EDGES.refuses("without that shard", RICH, -1, "expired(-1, 0)", "expired(4, 0)", "expired(MIN, 0)", "expired(MAX, 0)",
            "expired(4, -1)");
        EDGES.refuses("k below NONE", RICH, -1, "expired(1, -2)", "expired(0, MIN)");
        EDGES.refuses("NONE ahead of -2", RICH, -1, "expired(4, MAX)", "expired(3, -2)");
    }

    private static void labelCounts() {
        EDGES.promise(53);
        EDGES.refuses("without these", RICH, -1, Edges.beyond("labels", 0, 3, 0, 25, 0, 3));
        EDGES.asks("none", RICH, "labels(0, 25, 0)", 0, "labels(0, 25, 1)", 0, "labels(0, 25, 2)", 0, "labels(0, 25, 3)", 0,
            "labels(3, 0, 3)", 0);
        EDGES.asks("one that expired", RICH, "labels(1, 0, 0)", 0, "labels(1, 0, 1)", 0, "labels(1, 0, 2)", 0, "labels(1, 0, 3)", 1);
        EDGES.asks("not dropped ones", RICH, "labels(0, 0, 0)", 1, "labels(0, 0, 1)", 1, "labels(0, 0, 2)", 1, "labels(0, 0, 3)", 1);
        EDGES.asks("more than the sample", THIRTEENS, "labels(3, 25, 0)", 13, "labels(3, 25, 1)", 13, "labels(3, 25, 2)", 12,
            "labels(3, 25, 3)", 13);
        EDGES.asks("50 of weight 20", FULL, "labels(1, 1, 0)", 50, "labels(1, 1, 1)", 1000, "labels(1, 1, 2)", 4);
    }

    private static void totals() {
        EDGES.promise(54);
        EDGES.refuses("without these", RICH, -1, Edges.beyond("total", 0, 3, 0, 5));
        EDGES.asks("one that expired", RICH, "total(1, 0)", 2, "total(1, 1)", 21, "total(1, 2)", 21, "total(1, 3)", 3, "total(1, 4)",
            4, "total(1, 5)", 3);
        EDGES.asks("not dropped ones", RICH, "total(0, 0)", 3, "total(0, 1)", 9, "total(0, 2)", 9, "total(0, 3)", 3, "total(0, 4)", 3,
            "total(0, 5)", 10);
        EDGES.asks("none", RICH, "total(2, 0)", 0, "total(2, 1)", 0, "total(2, 2)", 0, "total(2, 3)", 0, "total(3, 4)", 6,
            "total(3, 5)", 8);
        EDGES.asks("all", FULL, "total(1, 0)", 50, "total(1, 1)", 1000, "total(1, 2)", 80, "total(1, 3)", 50);
        EDGES.asks("by the size", THIRTEENS, "total(0, 2)", 12, "total(0, 1)", 13);
    }

    private static void modes() {
        EDGES.promise(55);
        EDGES.refuses("without it", RICH, -1, Edges.beyond("mode", 0, 3));
        EDGES.refuses("it is empty", RICH, -2, "mode(2)", "mode(3)");
        EDGES.refuses("it is empty: none is alive", RICH.and("pass(20)"), -2, "mode(0)", "mode(1)");
        EDGES.asks("of several the least", RICH, "mode(0)", 0, "mode(1)", 2);
        EDGES.asks("of several the least", THIRTEENS, "mode(0)", 0, "mode(3)", 25);
        EDGES.asks("most", new World("size 0 5;key 0 a 1 9;key 0 b 1 8;key 0 z 1 7;key 0 z 1 6;key 0 b 1 5;key 0 a 1 4;key 0 a 1 3"),
            "mode(0)", 1);
    }

    private static void unlikes() {
        EDGES.promise(56);
        EDGES.refuses("without these", RICH, -1, Edges.beyond("unlike", 0, 3, 0, 3));
        EDGES.asks("one and itself", THIRTEENS, "unlike(0, 0)", 0, "unlike(3, 3)", 0, "unlike(1, 2)", 0);
        EDGES.asks("all", THIRTEENS, "unlike(0, 3)", 24, "unlike(3, 0)", 24, "unlike(0, 1)", 12, "unlike(1, 3)", 12);
        EDGES.asks("labels 0 and 25, more or fewer", new World("key 0 a 1 9;key 0 a 1 8;key 0 z 1 7;key 1 a 1 9;key 1 z 1 8;key 1 z 1 7"),
            "unlike(0, 1)", 2, "unlike(1, 0)", 2);
        EDGES.asks("those that expired are not in", RICH, "unlike(0, 1)", 3);
    }

    private static void sames() {
        EDGES.promise(57);
        EDGES.refuses("without these", RICH, -1, Edges.beyond("same", 0, 1, 0, 3));
        EDGES.refuses("NONE ahead of -2", NEW, -1, Edges.beyond("same", 0, 1, 0, 3));
        EDGES.refuses("nothing is kept on it", NEW.and("keep(1)"), -2, "same(0, 0)", "same(0, 3)");
        EDGES.refuses("nothing is kept on it", NEW.and("keep(0)"), -2, "same(1, 0)", "same(1, 3)");
        EDGES.asks("both are empty", NEW.and("keep(0)"), "same(0, 0)", 1, "same(0, 3)", 1);
        World kept = FIVE.and("keep(1)");
        EDGES.asks("as it is", kept, "same(1, 0)", 1, "same(1, 1)", 1);
        EDGES.asks("who is not in it doesn't count", kept.and("drop(0)", "drop(4)"), "same(1, 0)", 1);
        EDGES.asks("numbers alone count", kept.and("rename(1, 5)", "weigh(1, 20)", "seed(7)", "pass(3)", "window(0, 9)"), "same(1, 0)",
            1);
        EDGES.asks("one behind the other", kept.and("weigh(3, 20)"), "same(1, 0)", 0);
        EDGES.asks("fewer", kept.and("size(0, 2)"), "same(1, 0)", 0);
        EDGES.asks("more", kept.and("size(0, 4)"), "same(1, 0)", 0);
        EDGES.asks("none any more", kept.and("merge(0, 1)"), "same(1, 0)", 0, "same(1, 1)", 0);
        EDGES.asks("another first one", FIVE.and("size(0, 1)", "keep(1)", "drop(1)"), "same(1, 0)", 0);
        EDGES.asks("another last one", kept.and("drop(2)"), "same(1, 0)", 0);
        EDGES.runs("the shelf's tick is its own", FIVE.and("window(0, 5)", "keep(0)", "pass(5)"), "same(0, 0)", 0, "back(0)", 5,
            "same(0, 0)", 1);
    }

    private static void told(String sentence, World world, String text) {
        EDGES.asks(sentence, world, "told(-1)", text.length(), "told(0)", (int) text.charAt(0), "told(" + (text.length() - 1) + ")",
            (int) text.charAt(text.length() - 1), "told(" + text.length() + ")", -2, "told(MAX)", -2);
        FairDraws x = world.make();
        StringBuilder heard = new StringBuilder();
        for (int k = 0; k < x.told(-1); k++) {
            heard.append((char) x.told(k));
            // An object is used for at most 512 calls.
            x = k % 100 == 99 ? world.make() : x;
        }
        EDGES.holds(sentence + ": " + heard + " in place of " + text, heard.toString().equals(text));
    }

    private static void toldShards() {
        EDGES.promise(58);
        EDGES.refuses("for others", RICH, -1, "told(-2)", "told(-3)", "told(MIN)");
        told("as at first", NEW, "size 0 4;window 0 0;size 1 4;window 1 0;size 2 4;window 2 0;size 3 4;window 3 0;seed 1");
        told("the least numbers", new World("size 0 1;size 1 1;size 2 1;size 3 1;seed 0;key 0 a 1 1"),
            "size 0 1;window 0 0;size 1 1;window 1 0;size 2 1;window 2 0;size 3 1;window 3 0;key 0 a 1 1;seed 0");
        told("the greatest numbers", new World("size 0 12;window 0 9999;size 1 12;window 1 9999;size 2 12;window 2 9999;size 3 12;"
            + "window 3 9999;seed 65535;key 3 z 20 1023"), "size 0 12;window 0 9999;size 1 12;window 1 9999;size 2 12;window 2 9999;"
            + "size 3 12;window 3 9999;key 3 z 20 1023;seed 65535");
        told("noughts at the end and within", new World("size 0 10;window 0 10;size 1 10;window 1 100;size 2 10;window 2 1000;size 3 10;"
            + "window 3 9009;seed 10000;key 0 a 10 1000;key 0 b 20 909"), "size 0 10;window 0 10;size 1 10;window 1 100;size 2 10;"
            + "window 2 1000;size 3 10;window 3 9009;key 0 a 10 1000;key 0 b 20 909;seed 10000");
        told("not those that are dropped, but those that expired", RICH, "size 0 3;window 0 10;size 1 4;window 1 3;size 2 4;window 2 0;"
            + "size 3 6;window 3 8;key 0 a 1 500;key 0 b 2 100;wait 2;key 1 a 2 300;wait 4;key 0 c 6 500;key 1 c 20 7;key 1 e 1 "
            + Lots.drawn(77, 0) + ";wait 2;seed 9");
        FairDraws full = new World("seed 40000", "item 0 a 20 times 50;item 1 b 20 times 50").make();
        EDGES.holds("a text of 100 items is longer than the tape", full.told(-1) > 1200 && full.told(full.told(-1) - 1) >= '0'
            && full.told(full.told(-1)) == -2);
    }

    private static void toldWaits() {
        String shards = "size 0 4;window 0 0;size 1 4;window 1 0;size 2 4;window 2 0;size 3 4;window 3 0;";
        told("a wait for the rest", NEW.and("pass(1)"), shards + "wait 1;seed 1");
        told("9999 are no more than 9999", NEW.and("pass(9999)"), shards + "wait 9999;seed 1");
        told("more than 9999", NEW.and("pass(9999)", "pass(1)"), shards + "wait 9999;wait 1;seed 1");
        told("twice 9999", NEW.and("pass(9999)", "pass(9999)"), shards + "wait 9999;wait 9999;seed 1");
        told("twice 9999 and 1", NEW.and("pass(9999)", "pass(9999)", "pass(1)"), shards + "wait 9999;wait 9999;wait 1;seed 1");
        told("99999", new World("wait 9999;".repeat(10) + "wait 9"), shards + "wait 9999;".repeat(10) + "wait 9;seed 1");
        told("of more than 9999 ahead of an item", new World("wait 9;wait 9999;key 0 a 1 1"), shards
            + "wait 9999;wait 9;key 0 a 1 1;seed 1");
        told("none between those of one tick, none for the rest", new World("wait 5;key 0 a 1 1;key 1 b 2 2"), shards
            + "wait 5;key 0 a 1 1;key 1 b 2 2;seed 1");
        told("a dropped one's wait is the next one's", new World("wait 5;key 0 a 1 1;wait 6;key 0 b 1 2;wait 7", "drop(0)"), shards
            + "wait 11;key 0 b 1 2;wait 7;seed 1");
        told("the last one's wait is the rest's", new World("wait 5;key 0 a 1 1;wait 6;key 0 b 1 2;wait 7", "drop(1)"), shards
            + "wait 5;key 0 a 1 1;wait 13;seed 1");
        told("all are dropped", new World("wait 9999;key 0 a 1 1;wait 6", "drop(0)"), shards + "wait 9999;wait 6;seed 1");
    }

    private static void digests() {
        EDGES.promise(59);
        EDGES.asks("17 at first", NEW, "digest()", 17);
        EDGES.asks("no items, though there is more", NEW.and("pass(5)", "size(0, 1)", "seed(7)"), "digest()", 17);
        long one = ((((17L * 31 + 3) * 31 + 25) * 31 + 20) * 31 + 1023) * 31 + 99999;
        EDGES.asks("the greatest", new World("wait 9999;".repeat(10) + "wait 9;key 3 z 20 1023"), "digest()", one);
        long dropped = ((((17L * 31 + 4) * 31) * 31 + 1) * 31 + 1) * 31;
        EDGES.asks("4: dropped", new World("key 3 a 1 1", "drop(0)"), "digest()", dropped);
        EDGES.asks("0: not so", new World("key 0 a 1 1"), "digest()", ((((17L * 31) * 31) * 31 + 1) * 31 + 1) * 31);
        java.math.BigInteger sum = java.math.BigInteger.valueOf(17);
        for (int item = 0; item < 100; item++) {
            int[] parts = {item < 50 ? 0 : 1, item < 50 ? 0 : 1, item < 50 ? 1 : 20, Lots.drawn(1, item), 0};
            for (int part : parts) {
                sum = sum.multiply(java.math.BigInteger.valueOf(31)).add(java.math.BigInteger.valueOf(part));
            }
        }
        EDGES.asks("longs, which go round", FULL, "digest()", sum.longValue());
    }

    private static void counts() {
        EDGES.promise(60);
        EDGES.refuses("for others", RICH, -1, Edges.beyond("count", 0, 7));
        EDGES.asks("each", RICH, "count(0)", 7, "count(1)", 6, "count(2)", 8, "count(3)", 9, "count(4)", 10, "count(5)", 20, "count(6)",
            3, "count(7)", 5);
        EDGES.asks("the most", FULL, "count(0)", 100, "count(1)", 100, "count(7)", 100, "count(4)", 0, "count(3)", Lots.seed(1, 99));
        EDGES.asks("the last tick", new World("wait 9999;".repeat(10) + "wait 9"), "count(2)", 99999);
        EDGES.asks("one act", NEW.and("pass(1)"), "count(4)", 1);
        EDGES.asks("shelves as bits", NEW.and("keep(1)"), "count(6)", 2);
        EDGES.asks("shelves as bits", NEW.and("keep(0)"), "count(6)", 1);
        EDGES.asks("alive ones of all shards", RICH.and("pass(1)"), "count(7)", 3, "count(1)", 6);
        EDGES.asks("alive ones of all shards", RICH.and("pass(2)"), "count(7)", 1, "count(1)", 6);
    }
}
