/** The edges of promises 5 to 24: acts, what is undone, what is kept. */
public final class ActEdgesTest {
    private static final Edges EDGES = new Edges("ActEdgesTest");
    private static final World NEW = new World();
    private static final World RICH = World.RICH;

    private static final World FULL = new World("item 0 a 1 times 50;item 1 b 20 times 49", "put(2, 2, 2, 2)", "drop(3)",
        "pass(5)");

    public static void main(String[] args) {
        coming();
        putting();
        hundredCame();
        passing();
        sizes();
        windows();
        weighing();
        drawnAgain();
        dropping();
        moving();
        merging();
        renaming();
        thinning();
        swapping();
        weighingAll();
        splitting();
        purging();
        seeds();
        undoing();
        undoneInTurn();
        undoneIsNowhere();
        whenHundredCame();
        keeping();
        goingBack();
        EDGES.end(5, 24);
    }

    private static void coming() {
        EDGES.promise(5);
        EDGES.acts("the least of each", RICH, "come(0, 0, 1)", 7, "of(7, 0)", 0, "of(7, 1)", 0, "of(7, 2)", 1, "of(7, 3)",
            Lots.drawn(9, 0), "of(7, 4)", 8, "count(3)", Lots.seed(9, 0));
        EDGES.acts("the greatest of each", RICH, "come(3, 25, 20)", 7, "of(7, 0)", 3, "of(7, 1)", 25, "of(7, 2)", 20,
            "of(7, 3)", Lots.drawn(9, 0), "come(3, 25, 20)", 8, "of(8, 3)", Lots.drawn(9, 1));
        EDGES.acts("numbered from 0 on", NEW, "come(0, 0, 1)", 0, "of(0, 3)", 609, "come(0, 0, 1)", 1, "of(1, 3)", 954);
        EDGES.refuses("without these", RICH, -1, Edges.beyond("come", 0, 3, 0, 25, 1, 20));
        EDGES.runs("none has a number again", RICH, "drop(6)", 2, "come(0, 0, 1)", 7, "drop(7)", 3, "come(0, 0, 1)", 8);
        EDGES.runs("but an undone one didn't come", RICH, "come(0, 0, 1)", 7, "undo()", 9, "count(3)", 9, "come(1, 1, 2)", 7,
            "of(7, 3)", Lots.drawn(9, 0), "of(7, 0)", 1);
        int seed = Lots.seedAheadOfZeros(1);
        EDGES.holds("no two lots 0 follow one another", Lots.seedAheadOfZeros(2) == -1);
        EDGES.acts("a lot 0 is drawn again", RICH.and("seed(" + seed + ")"), "come(0, 0, 1)", 7, "of(7, 3)",
            Lots.seedBehind(Lots.seedBehind(seed)) / 64, "count(3)", Lots.seedBehind(Lots.seedBehind(seed)));
        EDGES.acts("seeds go round", RICH.and("seed(65535)"), "come(0, 0, 1)", 7, "count(3)", 54212, "of(7, 3)", 847);
        EDGES.acts("seeds go round", RICH.and("seed(0)"), "come(0, 0, 1)", 7, "count(3)", 13849, "of(7, 3)", 216);
    }

    private static void putting() {
        EDGES.promise(6);
        EDGES.acts("the least of each", RICH, "put(0, 0, 1, 1)", 7, "of(7, 0)", 0, "of(7, 1)", 0, "of(7, 2)", 1, "of(7, 3)", 1,
            "of(7, 4)", 8, "count(3)", 9);
        EDGES.acts("the greatest of each", RICH, "put(3, 25, 20, 1023)", 7, "of(7, 0)", 3, "of(7, 1)", 25, "of(7, 2)", 20,
            "of(7, 3)", 1023, "of(7, 4)", 8, "count(3)", 9);
        EDGES.acts("numbered from 0 on", NEW, "put(0, 0, 1, 1)", 0, "put(0, 0, 1, 1)", 1);
        EDGES.refuses("without these", RICH, -1, Edges.beyond("put", 0, 3, 0, 25, 1, 20, 1, 1023));
        EDGES.runs("none has a number again", RICH, "drop(6)", 2, "put(0, 0, 1, 1)", 7, "undo()", 9, "put(0, 0, 1, 2)", 7,
            "of(7, 3)", 2);
    }

    private static void hundredCame() {
        World ninetyNine = new World("item 0 a 1 times 50;item 1 b 20 times 49", "drop(3)");
        int seed = Lots.seed(1, 98);
        EDGES.promise(5);
        EDGES.acts("the 100th", ninetyNine, "come(0, 0, 1)", 99, "of(99, 3)", Lots.drawn(1, 99), "count(0)", 100,
            "come(0, 0, 1)", -2, "count(3)", Lots.seed(1, 99));
        EDGES.refuses("100 came", FULL, -2, "come(0, 0, 1)", "come(3, 25, 20)");
        EDGES.refuses("100 came, though each is dropped", FULL.and("thin(0)", "thin(1)", "merge(0, 1)", "thin(1)", "pass(1)",
            "window(1, 1)", "window(2, 1)", "purge()"), -2, "come(0, 0, 1)");
        EDGES.refuses("NONE ahead of it", FULL, -1, Edges.beyond("come", 0, 3, 0, 25, 1, 20));
        EDGES.promise(6);
        EDGES.acts("the 100th", ninetyNine, "put(0, 0, 1, 7)", 99, "of(99, 3)", 7, "count(0)", 100, "put(0, 0, 1, 7)", -2,
            "count(3)", seed);
        EDGES.refuses("100 came", FULL, -2, "put(0, 0, 1, 1)", "put(3, 25, 20, 1023)");
        EDGES.refuses("NONE ahead of it", FULL, -1, Edges.beyond("put", 0, 3, 0, 25, 1, 20, 1, 1023));
    }

    private static void passing() {
        EDGES.promise(7);
        World late = new World("wait 9999;".repeat(10) + "key 0 a 1 1");
        EDGES.acts("the least", RICH, "pass(1)", 9, "count(2)", 9);
        EDGES.acts("the greatest", RICH, "pass(9999)", 10007, "count(2)", 10007);
        EDGES.refuses("for others", RICH, -1, Edges.beyond("pass", 1, 9999));
        EDGES.acts("99999 is not above 99999", late, "pass(9)", 99999, "pass(1)", -2, "count(2)", 99999, "undo()", 0);
        EDGES.refuses("it would be above 99999", late, -2, "pass(10)", "pass(9999)");
        EDGES.refuses("it would be above 99999", late.and("pass(9)"), -2, "pass(1)", "pass(9999)");
        EDGES.refuses("NONE ahead of it", late.and("pass(9)"), -1, Edges.beyond("pass", 1, 9999));
        EDGES.runs("who came stays at its time", late, "pass(9)", 99999, "of(0, 4)", 99990, "put(0, 0, 1, 1)", 1, "of(1, 4)",
            99999);
    }

    private static void sizes() {
        EDGES.promise(8);
        World many = new World("item 0 a 1 times 13;item 1 a 1 times 13;item 2 a 1 times 13;item 3 a 1 times 13");
        for (int shard = 0; shard < 4; shard++) {
            String sample = "sample(" + shard + ", -1)";
            EDGES.acts("the least", many, "size(" + shard + ", 1)", 4, "total(" + shard + ", 4)", 1, sample, 1);
            EDGES.acts("the greatest", many, "size(" + shard + ", 12)", 4, "total(" + shard + ", 4)", 12, sample, 12,
                "size(" + shard + ", 11)", 12, sample, 11);
            EDGES.refuses("it is so", many, -2, "size(" + shard + ", 4)");
        }
        EDGES.runs("of this shard alone", RICH, "size(1, 9)", 4, "total(0, 4)", 3, "total(2, 4)", 4, "total(3, 4)", 6);
        EDGES.refuses("it is so", RICH, -2, "size(0, 3)", "size(1, 4)", "size(2, 4)", "size(3, 6)");
        EDGES.refuses("without these", RICH, -1, Edges.beyond("size", 0, 3, 1, 12));
        EDGES.runs("all, if there are fewer", RICH, "size(0, 4)", 3, "sample(0, -1)", 3, "last(0)", -2);
    }

    private static void windows() {
        EDGES.promise(9);
        for (int shard = 0; shard < 4; shard++) {
            World world = new World("key " + shard + " a 1 5;wait 9998;key " + shard + " a 1 5");
            String window = "window(" + shard + ", ";
            String sample = "sample(" + shard + ", -1)";
            EDGES.acts("the greatest", world, window + "9999)", 0, "total(" + shard + ", 5)", 9999, sample, 2, "pass(1)", 9999,
                sample, 1);
            EDGES.acts("the least", world.and(window + "1)"), window + "0)", 1, "total(" + shard + ", 5)", 0, sample, 2);
            EDGES.acts("time above the tick less the window", world, window + "9998)", 0, sample, 1);
            EDGES.acts("of now alone", world, window + "1)", 0, sample, 1, "pass(1)", 9999, sample, 0);
            EDGES.refuses("it is so", world, -2, window + "0)");
        }
        EDGES.runs("of this shard alone", RICH, "window(2, 9)", 0, "total(0, 5)", 10, "total(1, 5)", 3, "total(3, 5)", 8);
        EDGES.refuses("it is so", RICH, -2, "window(0, 10)", "window(1, 3)", "window(2, 0)", "window(3, 8)");
        EDGES.refuses("without these", RICH, -1, Edges.beyond("window", 0, 3, 0, 9999));
        EDGES.runs("who expired is alive again by a greater one", RICH, "of(2, 5)", 1, "window(1, 6)", 3, "of(2, 5)", 1,
            "window(1, 7)", 6, "of(2, 5)", 2, "window(1, 0)", 7, "of(2, 5)", 2);
    }

    private static void weighing() {
        EDGES.promise(10);
        EDGES.acts("the greatest", RICH, "weigh(0, 20)", 1, "of(0, 2)", 20, "sample(0, 0)", 0);
        EDGES.acts("the least", RICH, "weigh(3, 1)", 6, "of(3, 2)", 1, "sample(0, 0)", 0);
        EDGES.acts("one that expired", RICH, "weigh(2, 3)", 2, "of(2, 2)", 3, "of(2, 5)", 1);
        EDGES.acts("the last one", RICH, "weigh(6, 2)", 1, "of(6, 2)", 2);
        EDGES.refuses("it is so", RICH, -2, "weigh(0, 1)", "weigh(4, 20)", "weigh(2, 2)");
        EDGES.refuses("without these", RICH, -1, Edges.beyond("weigh", 0, 6, 1, 20));
        EDGES.refuses("it is dropped", RICH, -1, "weigh(5, 1)", "weigh(5, 20)");
        EDGES.refuses("NONE ahead of -2: it is dropped and so", RICH, -1, "weigh(5, 5)");
    }

    private static void drawnAgain() {
        EDGES.promise(11);
        int seed = Lots.seedAheadOfZeros(1);
        EDGES.acts("the first", RICH, "again(0)", Lots.drawn(9, 0), "of(0, 3)", Lots.drawn(9, 0), "count(3)", Lots.seed(9, 0),
            "of(0, 4)", 0, "again(0)", Lots.drawn(9, 1));
        EDGES.acts("its place goes with it", new World("key 0 a 1 700;key 0 a 1 5"), "again(1)", 609, "sample(0, 0)", 0, "again(1)", 954,
            "sample(0, 0)", 1);
        EDGES.acts("the last", RICH, "again(6)", Lots.drawn(9, 0), "of(6, 3)", Lots.drawn(9, 0));
        EDGES.acts("one that expired", RICH, "again(2)", Lots.drawn(9, 0), "of(2, 3)", Lots.drawn(9, 0));
        EDGES.acts("a lot 0 is drawn again", RICH.and("seed(" + seed + ")"), "again(0)",
            Lots.seedBehind(Lots.seedBehind(seed)) / 64, "count(3)", Lots.seedBehind(Lots.seedBehind(seed)));
        EDGES.acts("an act, though the lot is as it was", new World("key 0 a 1 609"), "again(0)", 609, "count(3)",
            Lots.seed(1, 0));
        EDGES.acts("when 100 came", FULL, "again(99)", Lots.drawn(1, 99));
        EDGES.refuses("without it", RICH, -1, Edges.beyond("again", 0, 6));
        EDGES.refuses("it is dropped", RICH, -1, "again(5)");
        EDGES.refuses("it is dropped", FULL, -1, "again(3)", "again(100)");
    }

    private static void dropping() {
        EDGES.promise(12);
        EDGES.acts("how many of its shard are not", RICH, "drop(0)", 2, "of(0, 5)", 0, "of(0, 0)", 0, "sample(0, -1)", 2);
        EDGES.acts("those that expired count", RICH, "drop(6)", 2);
        EDGES.acts("one that expired", RICH, "drop(2)", 2, "of(2, 5)", 0, "expired(1, -1)", 0);
        EDGES.acts("the last one of its shard", FULL, "drop(99)", 0, "total(2, 3)", 0);
        EDGES.runs("one behind the other", RICH, "drop(0)", 2, "drop(1)", 1, "drop(3)", 0, "total(0, 3)", 0);
        EDGES.refuses("without it", RICH, -1, Edges.beyond("drop", 0, 6));
        EDGES.refuses("it is so", RICH, -1, "drop(5)");
        EDGES.runs("it is so", RICH, "drop(0)", 2, "drop(0)", -1, "count(1)", 5);
    }

    private static void moving() {
        EDGES.promise(13);
        for (int shard = 1; shard < 4; shard++) {
            EDGES.acts("from which", RICH, "move(0, " + shard + ")", 0, "of(0, 0)", shard, "move(0, 0)", shard);
        }
        EDGES.acts("the last one", RICH, "move(6, 0)", 1, "of(6, 0)", 0, "of(6, 4)", 6);
        EDGES.acts("one that expired is alive by another window", RICH, "move(2, 2)", 1, "of(2, 5)", 2, "of(2, 4)", 2);
        EDGES.acts("one that is alive expires by another window", RICH, "move(0, 1)", 0, "of(0, 5)", 1, "move(0, 3)", 1,
            "of(0, 5)", 1);
        EDGES.refuses("it is there", RICH, -2, "move(0, 0)", "move(6, 1)", "move(2, 1)");
        EDGES.refuses("without these", RICH, -1, Edges.beyond("move", 0, 6, 0, 3));
        EDGES.refuses("it is dropped", RICH, -1, "move(5, 1)", "move(5, 3)");
        EDGES.refuses("NONE ahead of -2: it is dropped and there", RICH, -1, "move(5, 0)");
    }

    private static void merging() {
        EDGES.promise(14);
        EDGES.acts("how many; dropped ones stay", RICH, "merge(0, 3)", 3, "of(0, 0)", 3, "of(1, 0)", 3, "of(3, 0)", 3,
            "of(5, 0)", 0, "total(0, 3)", 0);
        EDGES.acts("those that expired go too", RICH, "merge(1, 0)", 3, "of(2, 0)", 0, "of(2, 5)", 2, "total(0, 3)", 6);
        EDGES.acts("the last shard", FULL, "merge(2, 3)", 1, "merge(3, 0)", 1, "merge(0, 2)", 50, "merge(1, 3)", 49);
        EDGES.refuses("there are none", RICH, -2, "merge(2, 0)", "merge(3, 1)", "merge(2, 3)");
        EDGES.refuses("there are none but dropped ones", new World("key 1 a 1 1", "drop(0)"), -2, "merge(1, 2)");
        EDGES.refuses("without these", RICH, -1, Edges.beyond("merge", 0, 3, 0, 3));
        EDGES.refuses("without these", RICH, -1, "merge(4, 0)", "merge(0, 4)", "merge(4, 4)", "merge(-1, -1)", "merge(3, -1)",
            "merge(-1, 0)");
        EDGES.refuses("unlike ones", RICH, -1, "merge(0, 0)", "merge(1, 1)");
        EDGES.refuses("NONE ahead of -2: like ones, and there are none", RICH, -1, "merge(2, 2)", "merge(3, 3)");
        EDGES.refuses("NONE ahead of -2: no shard, and there are none", RICH, -1, "merge(2, 4)", "merge(3, -1)");
    }

    private static void renaming() {
        EDGES.promise(15);
        EDGES.acts("of all shards; dropped ones are not", RICH, "rename(0, 25)", 2, "of(0, 1)", 25, "of(2, 1)", 25,
            "of(5, 1)", 0);
        EDGES.acts("the last label", RICH.and("rename(2, 25)"), "rename(25, 0)", 2, "of(3, 1)", 0, "of(4, 1)", 0);
        EDGES.acts("into one that there is", RICH, "rename(1, 2)", 1, "of(1, 1)", 2, "rename(2, 1)", 3, "of(1, 1)", 1);
        EDGES.refuses("there are none", RICH, -2, "rename(3, 0)", "rename(25, 24)", "rename(24, 25)");
        EDGES.refuses("there are none but dropped ones", new World("key 1 a 1 1", "drop(0)"), -2, "rename(0, 1)");
        EDGES.refuses("without these", RICH, -1, Edges.beyond("rename", 0, 25, 0, 25));
        EDGES.refuses("without these", RICH, -1, "rename(26, 0)", "rename(0, 26)", "rename(-1, 0)", "rename(0, -1)",
            "rename(26, 26)");
        EDGES.refuses("unlike ones", RICH, -1, "rename(0, 0)", "rename(2, 2)");
        EDGES.refuses("NONE ahead of -2: like ones, and there are none", RICH, -1, "rename(25, 25)", "rename(3, 3)");
        EDGES.refuses("NONE ahead of -2: no label, and there are none", RICH, -1, "rename(3, 26)", "rename(25, -1)");
    }

    private static void thinning() {
        EDGES.promise(16);
        World sized = RICH.and("size(0, 1)");
        EDGES.acts("how many (that were not yet)", sized, "thin(0)", 2, "of(0, 5)", 0, "of(1, 5)", 0, "of(3, 5)", 2,
            "of(5, 5)", 0, "count(1)", 4);
        EDGES.acts("those that expired", RICH, "thin(1)", 1, "of(2, 5)", 0, "of(4, 5)", 2, "of(6, 5)", 2);
        EDGES.acts("all, when none is alive", RICH.and("pass(20)"), "thin(0)", 3, "total(0, 3)", 0, "total(1, 3)", 3);
        EDGES.acts("by the size", new World("size 2 12;item 2 a 1 times 13"), "thin(2)", 1, "thin(2)", -2, "total(2, 3)", 12);
        EDGES.refuses("there are none", RICH, -2, "thin(0)", "thin(2)", "thin(3)");
        EDGES.refuses("there are none: as many as the size", new World("size 2 12;item 2 a 1 times 12"), -2, "thin(2)");
        EDGES.refuses("without it", RICH, -1, Edges.beyond("thin", 0, 3));
    }

    private static void swapping() {
        EDGES.promise(17);
        EDGES.acts("their lots alone", RICH, "swap(0, 1)", 1, "of(0, 3)", 100, "of(1, 3)", 500, "of(0, 2)", 1, "of(1, 2)", 2);
        EDGES.acts("of two shards, one expired", RICH, "swap(2, 0)", 1, "of(0, 3)", 300, "of(2, 3)", 500);
        EDGES.acts("the last one", RICH, "swap(0, 6)", 1, "of(6, 3)", 500, "swap(6, 0)", 1, "of(0, 3)", 500);
        EDGES.refuses("the lots are alike", RICH, -2, "swap(0, 3)", "swap(3, 0)");
        EDGES.refuses("without these", RICH, -1, Edges.beyond("swap", 0, 6, 0, 6));
        EDGES.refuses("without these", RICH, -1, "swap(7, 0)", "swap(0, 7)", "swap(7, 7)", "swap(6, -1)", "swap(-1, -1)");
        EDGES.refuses("it is dropped", RICH, -1, "swap(5, 0)", "swap(0, 5)");
        EDGES.refuses("NONE ahead of -2: like ones, whose lots are alike", RICH, -1, "swap(0, 0)", "swap(6, 6)");
        EDGES.refuses("NONE ahead of -2: it is dropped, and the lots are alike", new World("key 0 a 1 5;key 0 a 1 5", "drop(1)"),
            -1, "swap(0, 1)", "swap(1, 0)");
    }

    private static void weighingAll() {
        EDGES.promise(18);
        World world = new World("key 1 a 1 5;key 1 a 7 5;key 1 a 10 5;key 1 a 20 5;key 1 a 19 5;key 1 a 3 5;key 2 a 3 5;"
            + "key 3 a 20 5", "drop(5)", "window(1, 1)", "pass(1)");
        EDGES.acts("the least, 20 at most", world, "weighAll(1, 2)", 4, "of(0, 2)", 2, "of(1, 2)", 14, "of(2, 2)", 20, "of(3, 2)",
            20, "of(4, 2)", 20, "of(5, 2)", 3, "of(6, 2)", 3);
        EDGES.acts("just above 20", world, "weighAll(1, 3)", 4, "of(0, 2)", 3, "of(1, 2)", 20, "of(2, 2)", 20);
        EDGES.acts("the greatest", world, "weighAll(1, 20)", 4, "of(0, 2)", 20, "of(1, 2)", 20, "of(5, 2)", 3,
            "weighAll(1, 2)", -2);
        EDGES.acts("19 times", world, "weighAll(1, 19)", 4, "of(0, 2)", 19, "weighAll(1, 2)", 1, "of(0, 2)", 20);
        EDGES.acts("keys go with it", RICH.and("put(0, 0, 1, 499)"), "weighAll(0, 20)", 4, "sample(0, 0)", 0, "sample(0, 1)", 3,
            "sample(0, 2)", 7);
        EDGES.refuses("none would: 20 is so", world, -2, "weighAll(3, 2)", "weighAll(3, 20)");
        EDGES.refuses("none would: there are none", world, -2, "weighAll(0, 2)");
        EDGES.refuses("none would: dropped", new World("key 0 a 1 1", "drop(0)"), -2, "weighAll(0, 2)");
        EDGES.refuses("without these", RICH, -1, Edges.beyond("weighAll", 0, 3, 2, 20));
        EDGES.refuses("NONE ahead of -2", world, -1, "weighAll(0, 1)", "weighAll(3, 21)", "weighAll(3, 0)", "weighAll(4, 2)");
    }

    private static void splitting() {
        EDGES.promise(19);
        EDGES.acts("of the label and the shard; dropped ones stay", RICH, "split(0, 0, 3)", 1, "of(0, 0)", 3, "of(5, 0)", 0,
            "of(2, 0)", 1, "of(1, 0)", 0);
        EDGES.acts("those that expired", RICH, "split(1, 0, 0)", 1, "of(2, 0)", 0);
        EDGES.acts("the last label, several", new World("key 3 z 1 5;key 3 z 1 6;key 3 y 1 7"), "split(3, 25, 0)", 2, "of(0, 0)",
            0, "of(1, 0)", 0, "of(2, 0)", 3);
        EDGES.refuses("there are none", RICH, -2, "split(0, 4, 1)", "split(2, 0, 1)", "split(0, 25, 3)", "split(1, 1, 0)");
        EDGES.refuses("there are none but dropped ones", new World("key 1 a 1 1", "drop(0)"), -2, "split(1, 0, 2)");
        for (String wrong : new String[] {"-1", "4", "MIN", "MAX"}) {
            EDGES.refuses("without these", RICH, -1, "split(" + wrong + ", 0, 1)", "split(0, 0, " + wrong + ")");
        }
        for (String wrong : new String[] {"-1", "26", "MIN", "MAX"}) {
            EDGES.refuses("without these", RICH, -1, "split(0, " + wrong + ", 1)", "split(0, " + wrong + ", 3)");
        }
        EDGES.refuses("without these", RICH, -1, "split(4, 0, 0)", "split(0, 0, 4)", "split(0, 0, -1)", "split(-1, 0, 0)",
            "split(0, 26, 1)", "split(4, 0, 4)");
        EDGES.refuses("unlike shards", RICH, -1, "split(0, 0, 0)", "split(1, 2, 1)");
        EDGES.refuses("NONE ahead of -2: like ones, and there are none", RICH, -1, "split(2, 0, 2)", "split(0, 25, 0)");
    }

    private static void purging() {
        EDGES.promise(20);
        EDGES.acts("how many", RICH, "purge()", 1, "of(2, 5)", 0, "of(4, 5)", 2, "count(1)", 5, "purge()", -2);
        EDGES.acts("of all shards, each by its window", RICH.and("put(2, 0, 1, 1)", "pass(2)"), "purge()", 5, "of(0, 5)", 0,
            "of(1, 5)", 0, "of(2, 5)", 0, "of(4, 5)", 0, "of(6, 5)", 0, "of(3, 5)", 2, "of(7, 5)", 2, "count(1)", 2);
        EDGES.runs("a tick ahead of that", RICH.and("pass(1)"), "purge()", 3, "of(0, 5)", 2, "of(4, 5)", 0);
        EDGES.refuses("there are none", NEW, -2, "purge()");
        EDGES.refuses("there are none: all are alive", FULL, -2, "purge()");
        EDGES.refuses("there are none: those are dropped", RICH.and("drop(2)"), -2, "purge()");
        EDGES.refuses("there are none without a window", new World("key 0 a 1 1;wait 9999"), -2, "purge()");
    }

    private static void seeds() {
        EDGES.promise(21);
        EDGES.acts("the least", RICH, "seed(0)", 9, "count(3)", 0, "nextLot(0)", 216);
        EDGES.acts("the greatest", RICH, "seed(65535)", 9, "count(3)", 65535, "nextLot(0)", 847);
        EDGES.refuses("it is so", RICH, -2, "seed(9)");
        EDGES.refuses("it is so", NEW, -2, "seed(1)");
        EDGES.refuses("for another one", RICH, -1, Edges.beyond("seed", 0, 65535));
    }

    private static void undoing() {
        EDGES.promise(22);
        EDGES.refuses("if none can", NEW, -1, "undo()");
        EDGES.refuses("if none can", new World("key 0 a 1 1", "tape seed 1"), -1, "undo()");
        EDGES.refuses("nothing behind back()", RICH.and("back(0)"), -1, "undo()");
        EDGES.runs("how many more can be", RICH, "undo()", 9, "undo()", 8, "undo()", 7, "undo()", 6, "undo()", 5, "undo()", 4,
            "undo()", 3, "undo()", 2, "undo()", 1, "undo()", 0, "undo()", -1, "undo()", -1, "of(5, 5)", 0, "of(3, 2)", 1,
            "count(2)", 6, "count(0)", 6);
        EDGES.runs("the last first", RICH, "undo()", 9, "of(6, 1)", 3, "of(0, 3)", 500, "undo()", 8, "of(0, 3)", 100, "count(3)",
            9, "undo()", 7, "count(2)", 8, "undo()", 6, "count(2)", 6);
        EDGES.runs("tape and shelves stay", RICH, "undo()", 9, "count(5)", 20, "count(6)", 3, "tell()", 1, "back(1)", 6);
        EDGES.runs("what is kept stays, though its act is undone", NEW, "pass(1)", 1, "keep(0)", 0, "undo()", 0, "count(2)", 0,
            "back(0)", 0, "count(2)", 1);
        EDGES.runs("tape stays as it is now", NEW, "pass(1)", 1, "feed(0, 0, 0, 0, 0)", 20, "undo()", 0, "count(5)", 20, "end(7)",
            7, "undo()", -1, "count(5)", 7);
        EDGES.runs("none that was refused", NEW, "pass(3)", 3, "pass(0)", -1, "size(0, 4)", -2, "drop(0)", -1, "undo()", 0,
            "count(2)", 0, "undo()", -1);
    }

    /** The last 10 and no more, wherever in a row of acts and undone ones they stand. */
    private static void undoneInTurn() {
        for (int acts = 0; acts <= 25; acts++) {
            for (int undone = 0; undone <= 3; undone++) {
                FairDraws x = new FairDraws();
                int tick = 0;
                for (int n = 0; n < acts; n++) {
                    tick = x.pass(1);
                }
                int can = Math.min(acts, 10);
                for (int n = 0; n < undone && can > 0; n++, can--, tick--) {
                    EDGES.holds("how many more behind " + acts, x.undo() == can - 1);
                }
                for (int n = 0; n < 2; n++) {
                    tick = x.pass(1);
                    can = Math.min(can + 1, 10);
                }
                for (; can > 0; can--) {
                    EDGES.holds("how many more behind " + acts, x.undo() == can - 1 && x.count(2) == --tick);
                }
                EDGES.holds("none more behind " + acts, x.undo() == -1 && x.count(2) == tick && x.count(4) == 0);
            }
        }
    }

    /** What an undone act had brought is in no answer any more, nor does it come back with a later one. */
    private static void undoneIsNowhere() {
        String[] acts = {"come(0, 0, 1)", "put(0, 0, 20, 1023)", "put(1, 2, 20, 1023)", "pass(2)", "size(0, 1)", "window(1, 0)",
            "weigh(1, 20)", "again(0)", "drop(3)", "move(4, 0)", "merge(1, 0)", "rename(2, 0)", "thin(1)", "swap(1, 4)",
            "weighAll(0, 20)", "split(1, 2, 0)", "purge()", "seed(65535)"};
        for (String act : acts) {
            EDGES.alike("undone", RICH.and(act, "undo()"), RICH);
            EDGES.alike("undone, when there are fewer items", RICH.and("put(0, 0, 1, 900)", act, "undo()", "undo()"), RICH);
            EDGES.alike("not there in what was kept", RICH.and("keep(0)", act, "back(0)"), RICH.and("keep(0)"));
        }
        EDGES.runs("a dropped one that is undone", RICH, "put(0, 0, 1, 1)", 7, "drop(7)", 3, "undo()", 9, "undo()", 8,
            "put(0, 0, 1, 1)", 7, "of(7, 5)", 2, "count(1)", 7);
        EDGES.runs("a dropped one that was not kept", RICH, "put(0, 0, 1, 1)", 7, "drop(7)", 3, "back(0)", 5, "come(0, 0, 1)", 5,
            "put(0, 0, 1, 1)", 6, "put(0, 0, 1, 1)", 7, "of(7, 5)", 2, "of(5, 5)", 2);
    }

    /** 100 items are the most: 49 of shard 0 that are not dropped, 49 of shard 1, one of shard 2. */
    private static void whenHundredCame() {
        Object[][] each = {{10, "weigh(99, 20)", 2}, {11, "again(99)", Lots.drawn(1, 99)}, {12, "drop(98)", 48}, {13, "move(99, 3)", 2},
            {14, "merge(1, 0)", 49}, {15, "rename(0, 5)", 49}, {15, "rename(1, 5)", 49}, {16, "thin(0)", 45}, {16, "thin(1)", 45},
            {17, "swap(0, 99)", 1}, {18, "weighAll(0, 3)", 49}, {18, "weighAll(2, 3)", 1}, {19, "split(1, 1, 3)", 49},
            {21, "seed(5)", Lots.seed(1, 98)}, {7, "pass(1)", 6}, {8, "size(1, 12)", 4}, {9, "window(1, 1)", 0}};
        for (Object[] one : each) {
            EDGES.promise((Integer) one[0]);
            EDGES.acts("when 100 came", FULL, one[1], one[2]);
        }
        EDGES.promise(20);
        EDGES.acts("when 100 came", FULL.and("window(1, 1)", "window(2, 5)"), "purge()", 50);
        EDGES.promise(22);
        EDGES.runs("the 100th is undone", FULL, "undo()", 2, "undo()", 1, "undo()", 0, "count(0)", 99, "undo()", -1, "come(0, 0, 1)",
            99, "come(0, 0, 1)", -2);
    }

    private static void keeping() {
        EDGES.promise(23);
        EDGES.runs("of none", NEW, "keep(0)", 0, "count(6)", 1, "keep(1)", 0, "count(6)", 3, "back(1)", 0);
        EDGES.runs("the other shelf", NEW, "keep(1)", 0, "count(6)", 2, "back(0)", -2);
        EDGES.runs("of 100", FULL, "keep(1)", 100, "drop(0)", 48, "back(1)", 100, "of(0, 5)", 2);
        EDGES.refuses("without that shelf", RICH, -1, Edges.beyond("keep", 0, 1));
        EDGES.refuses("without that shelf", NEW, -1, Edges.beyond("keep", 0, 1));
        EDGES.runs("no act", RICH, "keep(0)", 7, "count(4)", 10, "undo()", 9);
        EDGES.runs("in place of what was kept", RICH, "keep(0)", 7, "drop(0)", 2, "back(0)", 7, "of(0, 5)", 2, "back(1)", 6);
        EDGES.runs("what comes later isn't kept", RICH, "keep(0)", 7, "put(0, 0, 1, 1)", 7, "pass(1)", 9, "size(0, 9)", 3,
            "window(0, 9)", 10, "seed(1)", 9, "back(0)", 7, "count(2)", 8, "count(3)", 9, "total(0, 4)", 3, "total(0, 5)", 10,
            "of(7, 0)", -1);
        EDGES.runs("not the tape", RICH, "keep(0)", 7, "end(3)", 3, "back(0)", 7, "count(5)", 3);
        EDGES.runs("not the shelves", RICH, "keep(0)", 7, "put(0, 0, 1, 1)", 7, "keep(1)", 8, "back(0)", 7, "back(1)", 8);
    }

    private static void goingBack() {
        EDGES.promise(24);
        EDGES.runs("all is as it was kept", RICH, "back(0)", 5, "count(1)", 5, "count(2)", 6, "count(3)", 77, "count(4)", 0,
            "count(5)", 20, "count(6)", 3, "of(0, 3)", 100, "of(3, 2)", 1, "total(3, 4)", 4, "total(3, 5)", 0, "come(0, 0, 1)",
            5, "undo()", 0, "undo()", -1);
        EDGES.runs("from either shelf, again", RICH, "back(1)", 6, "of(3, 2)", 6, "of(5, 5)", 0, "total(3, 5)", 8, "back(0)", 5,
            "total(3, 5)", 0, "back(1)", 6, "drop(0)", 2, "back(1)", 6, "of(0, 5)", 2);
        EDGES.runs("nothing can be undone then", RICH, "back(1)", 6, "undo()", -1, "pass(1)", 7, "undo()", 0, "count(2)", 6,
            "undo()", -1);
        EDGES.refuses("without that shelf", RICH, -1, Edges.beyond("back", 0, 1));
        EDGES.refuses("NONE ahead of -2", NEW, -1, Edges.beyond("back", 0, 1));
        EDGES.refuses("nothing is kept", NEW.and("pass(1)", "feed(0, 0, 0, 0, 0)"), -2, "back(0)", "back(1)");
        EDGES.refuses("nothing is kept on that one", NEW.and("keep(1)", "pass(1)"), -2, "back(0)");
        EDGES.refuses("nothing is kept on that one", NEW.and("keep(0)", "pass(1)"), -2, "back(1)");
        EDGES.runs("tell() leaves it", RICH, "tell()", 1, "back(0)", 5, "of(4, 2)", 20);
        EDGES.runs("of none, when there are many", NEW.and("keep(0)", "item 0 a 1 times 50"), "back(0)", 0, "count(0)", 0,
            "digest()", 17, "sample(0, -1)", 0);
    }
}
