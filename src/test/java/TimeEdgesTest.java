/** The edges of promises 43 to 52: the busiest ticks, by what one would be in, what comes with time, played again. */
public final class TimeEdgesTest {
    private static final Edges EDGES = new Edges("TimeEdgesTest");
    private static final World NEW = new World();
    private static final World RICH = World.RICH;

    /** Of one shard: items 0 to 4 of ticks 0, 2, 4, 6, 8, their lots 100, 500, 300, 500, 200; it is tick 8. */
    private static final World TICKS = new World("size 0 3;window 0 10;key 0 a 1 100;wait 2;key 0 b 1 500;wait 2;"
        + "key 0 a 1 300;wait 2;key 0 c 1 500;wait 2;key 0 b 1 200");

    /** Item 0 of lot 6 at tick 0, item 1 of lot 5 so many ticks later: the size is 1. */
    private static World rivals(int ticks) {
        return new World("size 0 1;key 0 a 1 6;wait " + ticks + ";key 0 a 1 5");
    }

    public static void main(String[] args) {
        busiestTicks();
        busiestEnds();
        weightsFor();
        sizesFor();
        windowsFor();
        windowsForRivals();
        laterOnes();
        hundredAsked();
        entering();
        enteringBehindRivals();
        changing();
        thenAsItWas();
        playedAgain();
        outByOnes();
        EDGES.end(43, 52);
    }

    private static void busiestTicks() {
        EDGES.promise(43);
        EDGES.refuses("without these", RICH, -1, Edges.beyond("busiest", 1, 9999, 0, 1));
        EDGES.asks("of none", NEW, "busiest(1, 0)", 0, "busiest(1, 1)", -2, "busiest(9999, 0)", 0, "busiest(9999, 1)", -2);
        EDGES.asks("of none that is not dropped", new World("key 0 a 1 1", "drop(0)"), "busiest(1, 0)", 0, "busiest(1, 1)", -2);
        EDGES.asks("one tick alone", RICH, "busiest(1, 0)", 3, "busiest(1, 1)", 6);
        EDGES.asks("the first counted", RICH, "busiest(2, 0)", 3, "busiest(3, 0)", 3, "busiest(3, 1)", 0, "busiest(4, 0)", 3,
            "busiest(5, 0)", 4, "busiest(5, 1)", 2, "busiest(6, 0)", 4, "busiest(7, 0)", 6, "busiest(7, 1)", 0);
        EDGES.asks("of several the least first tick", TICKS, "busiest(1, 0)", 1, "busiest(1, 1)", 0, "busiest(3, 0)", 2,
            "busiest(3, 1)", 0, "busiest(8, 0)", 4, "busiest(8, 1)", 0, "busiest(9, 0)", 5);
        EDGES.asks("a tick that is a time of one", new World("wait 7;key 0 a 1 1;wait 5"), "busiest(9999, 1)", 7, "busiest(1, 1)", 7);
        EDGES.asks("not a dropped one's", TICKS.and("drop(0)"), "busiest(9, 0)", 4, "busiest(9, 1)", 2, "busiest(1, 1)", 2);
        EDGES.asks("of all shards, expired ones too", RICH.and("pass(9999)"), "busiest(9999, 0)", 6, "busiest(9999, 1)", 0);
    }

    private static void busiestEnds() {
        World world = new World("key 0 a 1 1;wait 9998;key 0 a 1 1");
        EDGES.asks("9999 ticks", world, "busiest(9999, 0)", 2, "busiest(9998, 0)", 1, "busiest(9999, 1)", 0);
        world = new World("key 0 a 1 1;wait 9999;key 0 a 1 1");
        EDGES.asks("9999 ticks are not 10000", world, "busiest(9999, 0)", 1, "busiest(9999, 1)", 0);
        world = new World("wait 9999;".repeat(10) + "key 0 a 1 1;wait 9;key 0 a 1 1");
        EDGES.asks("up to the last tick", world, "busiest(9999, 0)", 2, "busiest(10, 1)", 99990, "busiest(9, 0)", 1);
        EDGES.asks("100 of one tick", new World("item 0 a 1 times 50;item 1 a 1 times 50"), "busiest(1, 0)", 100, "busiest(1, 1)", 0);
    }

    private static void weightsFor() {
        EDGES.promise(44);
        EDGES.refuses("without it", RICH, -1, Edges.beyond("weightFor", 0, 6));
        EDGES.refuses("it is not alive", RICH, -2, "weightFor(2)", "weightFor(5)");
        EDGES.refuses("it is not alive any more", RICH.and("pass(2)"), -2, "weightFor(0)", "weightFor(4)");
        EDGES.asks("room: the least", RICH, "weightFor(0)", 1, "weightFor(3)", 1, "weightFor(4)", 1, "weightFor(6)", 1);
        World like = new World("size 0 1;key 0 a 2 256;key 0 a 1 512;key 0 a 1 256;key 0 a 20 1");
        EDGES.asks("of like keys the lesser number is ahead", new World("size 0 1;key 0 a 1 256;key 0 a 1 512"), "weightFor(0)", 2,
            "weightFor(1)", 1);
        EDGES.asks("of like keys the greater number is behind", new World("size 0 1;key 0 a 2 256;key 0 a 1 256"), "weightFor(1)", 3);
        EDGES.asks("its own weight doesn't count", like, "weightFor(3)", 11);
        EDGES.asks("the greatest", new World("size 0 1;key 0 a 19 1023;key 0 a 1 1023"), "weightFor(1)", 20);
        EDGES.refuses("none is enough", new World("size 0 1;key 0 a 20 1023;key 0 a 1 1023"), -2, "weightFor(1)");
        EDGES.asks("the lesser number by the greatest", new World("size 0 1;key 0 a 1 1023;key 0 a 20 1023"), "weightFor(0)", 20);
        EDGES.refuses("none is enough", new World("size 0 1;key 0 a 1 1022;key 0 a 20 1023"), -2, "weightFor(0)");
        EDGES.asks("the only one", new World("size 0 1;key 0 a 9 1"), "weightFor(0)", 1);
    }

    private static void sizesFor() {
        EDGES.promise(45);
        EDGES.refuses("without it", RICH, -1, Edges.beyond("sizeFor", 0, 6));
        EDGES.refuses("it is not alive", RICH, -2, "sizeFor(2)", "sizeFor(5)");
        EDGES.asks("the least", RICH, "sizeFor(3)", 1, "sizeFor(0)", 2, "sizeFor(1)", 3, "sizeFor(6)", 1, "sizeFor(4)", 2);
        World world = new World("size 0 1;item 0 a 20 times 11;key 0 a 1 1;key 0 a 1 1;key 0 a 1 1");
        EDGES.asks("the greatest", world, "sizeFor(11)", 12);
        EDGES.refuses("none is enough", world, -2, "sizeFor(12)", "sizeFor(13)");
        EDGES.asks("when one ahead is dropped", world.and("drop(3)"), "sizeFor(11)", 11, "sizeFor(12)", 12, "sizeFor(13)", -2);
    }

    private static void windowsFor() {
        EDGES.promise(46);
        EDGES.refuses("without it", RICH, -1, Edges.beyond("windowFor", 0, 6));
        EDGES.refuses("it is dropped", RICH, -2, "windowFor(5)");
        EDGES.asks("none puts it out: the greatest", TICKS, "windowFor(0)", -2, "windowFor(1)", 9999, "windowFor(2)", 9999,
            "windowFor(3)", 9999, "windowFor(4)", 6);
        EDGES.asks("of 9998 ticks ago", new World("key 0 a 1 5;wait 9998"), "windowFor(0)", 9999);
        EDGES.refuses("of 9999 ticks ago", new World("key 0 a 1 5;wait 9999"), -2, "windowFor(0)");
        EDGES.asks("one that expired by the window of now", RICH, "windowFor(2)", 9999);
        EDGES.asks("without a window now", new World("key 0 a 1 5"), "windowFor(0)", 9999);
    }

    private static void windowsForRivals() {
        EDGES.refuses("one ahead came at the same tick", rivals(0), -2, "windowFor(1)");
        EDGES.refuses("one ahead came later", new World("size 0 1;key 0 a 1 5;wait 1;key 0 a 1 6"), -2, "windowFor(0)");
        EDGES.asks("one ahead came a tick ago: the least", rivals(1), "windowFor(1)", 1);
        EDGES.asks("both a tick older", rivals(1).and("pass(1)"), "windowFor(1)", 2);
        EDGES.asks("one ahead came 9998 ticks ago", rivals(9998), "windowFor(1)", 9998);
        EDGES.asks("one ahead came 9999 ticks ago", rivals(9999), "windowFor(1)", 9999);
        EDGES.asks("one ahead came 10000 ticks ago", rivals(9999).and("pass(1)"), "windowFor(1)", 9999);
        EDGES.refuses("both came more than 9998 ticks ago", rivals(1).and("pass(9999)"), -2, "windowFor(0)", "windowFor(1)");
        EDGES.asks("a dropped one is not ahead", rivals(1).and("drop(0)"), "windowFor(1)", 9999);
        EDGES.asks("nor one of another shard", rivals(1).and("move(0, 1)"), "windowFor(1)", 9999);
        EDGES.asks("one that expired by the window of now is", rivals(3).and("window(0, 1)"), "windowFor(1)", 3);
        EDGES.asks("of a like key the lesser number is", new World("size 0 1;key 0 a 1 5;wait 2;key 0 a 1 5"), "windowFor(1)", 2,
            "windowFor(0)", 9999);
        World three = new World("size 0 2;key 0 a 1 9;wait 3;key 0 a 1 8;wait 4;key 0 a 1 7");
        EDGES.asks("as many as the size tells, the latest first", three, "windowFor(2)", 7);
        EDGES.asks("as many as the size tells", three.and("size(0, 3)"), "windowFor(2)", 9999);
        EDGES.asks("as many as the size tells", three.and("size(0, 1)"), "windowFor(2)", 4);
    }

    private static void laterOnes() {
        EDGES.promise(47);
        // The items expire at ticks 10, 12, 14, 16, 18.
        EDGES.asks("none passed", TICKS, "later(0, 0, -1)", 3, "later(0, 0, 0)", 1, "later(0, 0, 2)", 2, "later(0, 0, 3)", -2);
        EDGES.asks("a tick ahead of it and then", TICKS, "later(0, 3, 0)", 1, "later(0, 4, 0)", 3, "later(0, 4, 2)", 4, "later(0, 5, 2)",
            4, "later(0, 6, 2)", -2, "later(0, 6, -1)", 2, "later(0, 9, 0)", 4, "later(0, 10, 0)", -2, "later(0, 10, -1)", 0);
        EDGES.asks("the most that may pass", TICKS, "later(0, 9999, -1)", 0, "later(1, 9999, -1)", 0);
        EDGES.asks("without a window it stays", TICKS.and("window(0, 0)"), "later(0, 9999, -1)", 3, "later(0, 9999, 0)", 1);
        EDGES.asks("the greatest window", new World("window 0 9999;key 0 a 1 1"), "later(0, 9998, 0)", 0, "later(0, 9999, 0)", -2);
        EDGES.refuses("without these", TICKS, -1, "later(-1, 0, 0)", "later(4, 0, 0)", "later(MIN, 0, 0)", "later(MAX, 0, 0)",
            "later(0, -1, 0)", "later(0, 10000, 0)", "later(0, MIN, 0)", "later(0, MAX, 0)", "later(0, -1, -1)",
            "later(0, 10000, -1)", "later(4, 0, -1)");
        EDGES.refuses("k below NONE", TICKS, -1, "later(0, 0, -2)", "later(3, 9999, MIN)");
        EDGES.refuses("NONE ahead of -2", TICKS, -1, "later(1, 10000, 0)", "later(4, 0, MAX)", "later(1, 0, -2)");
        EDGES.refuses("not so many", TICKS, -2, "later(0, 0, MAX)", "later(1, 0, 0)");
        EDGES.asks("those that expired are not alive again", RICH, "later(1, 0, -1)", 2, "later(1, 1, -1)", 0);
    }

    /** The last rows that there are. */
    private static void hundredAsked() {
        World full = new World("size 0 12;item 0 a 20 times 50;item 0 a 20 times 49", "put(0, 0, 1, 1)");
        EDGES.promise(44);
        EDGES.asks("when 100 came", full, "weightFor(99)", -2);
        EDGES.promise(45);
        EDGES.asks("when 100 came", full, "sizeFor(99)", -2);
        EDGES.promise(46);
        EDGES.asks("when 100 came", full, "windowFor(99)", -2);
        EDGES.asks("when 100 came", full.and("pass(5)"), "windowFor(99)", -2);
        EDGES.promise(48);
        EDGES.asks("when 100 came", full, "enters(99)", -2);
        EDGES.promise(52);
        EDGES.asks("when 100 came", full, "outBy(99)", -2);
    }

    private static void entering() {
        EDGES.promise(48);
        EDGES.refuses("without it", RICH, -1, Edges.beyond("enters", 0, 6));
        EDGES.asks("it is", TICKS, "enters(1)", 0, "enters(2)", 0, "enters(3)", 0);
        EDGES.asks("when one ahead expires", TICKS, "enters(4)", 4);
        EDGES.refuses("never: it expires first", TICKS, -2, "enters(0)");
        EDGES.refuses("never: it is dropped, it expired", RICH, -2, "enters(5)", "enters(2)");
        EDGES.refuses("never: without a window", TICKS.and("window(0, 0)"), -2, "enters(0)", "enters(4)");
        EDGES.asks("it is, without a window", TICKS.and("window(0, 0)"), "enters(1)", 0);
        EDGES.runs("as it comes to be", TICKS, "pass(1)", 9, "enters(4)", 3, "pass(2)", 11, "enters(4)", 1, "enters(0)", -2, "pass(1)", 12,
            "enters(4)", 0, "sample(0, 2)", 4, "pass(6)", 18, "enters(4)", -2);
    }

    private static void enteringBehindRivals() {
        EDGES.refuses("never: those of one tick expire at once", rivals(0).and("window(0, 5)"), -2, "enters(1)");
        EDGES.refuses("never: one ahead came later", new World("size 0 1;window 0 5;key 0 a 1 5;wait 1;key 0 a 1 6"), -2, "enters(0)");
        EDGES.asks("one ahead came a tick ago", rivals(1).and("window(0, 5)"), "enters(1)", 4);
        EDGES.asks("in one tick", rivals(1).and("window(0, 2)"), "enters(1)", 1);
        EDGES.asks("one ahead expired just now", rivals(1).and("window(0, 1)"), "enters(1)", 0, "enters(0)", -2);
        EDGES.asks("one ahead expired long ago", rivals(7).and("window(0, 1)"), "enters(1)", 0, "enters(0)", -2);
        EDGES.asks("one ahead expired long ago", rivals(7).and("window(0, 3)"), "enters(1)", 0, "enters(0)", -2);
        EDGES.asks("in the most ticks", rivals(1).and("window(0, 9999)"), "enters(1)", 9998);
        EDGES.asks("a dropped one is not ahead", rivals(1).and("window(0, 5)", "drop(0)"), "enters(1)", 0);
        World three = new World("size 0 2;window 0 9;key 0 a 1 9;wait 3;key 0 a 1 8;wait 4;key 0 a 1 7");
        EDGES.asks("as many as the size tells are ahead", three, "enters(2)", 2);
        EDGES.asks("as many as the size tells are ahead", three.and("size(0, 1)"), "enters(2)", 5);
        EDGES.asks("fewer are ahead", three.and("size(0, 3)"), "enters(2)", 0);
    }

    private static void changing() {
        EDGES.promise(49);
        EDGES.refuses("without it", RICH, -1, Edges.beyond("changes", 0, 3));
        EDGES.refuses("it stays for ever: without a window", TICKS.and("window(0, 0)"), -2, "changes(0)");
        EDGES.refuses("it stays for ever: it is empty", TICKS.and("window(1, 5)"), -2, "changes(1)", "changes(2)");
        EDGES.refuses("it stays for ever: all expired", TICKS.and("pass(10)"), -2, "changes(0)");
        EDGES.asks("not when one expires that is not in it", TICKS, "changes(0)", 4);
        EDGES.asks("when one expires that is in it", TICKS.and("size(0, 5)"), "changes(0)", 2);
        EDGES.asks("when the only one expires", TICKS.and("pass(9)"), "changes(0)", 1);
        EDGES.asks("in the most ticks", new World("window 0 9999;key 0 a 1 1"), "changes(0)", 9999);
        EDGES.asks("in one tick", new World("window 3 1;key 3 a 1 1"), "changes(3)", 1);
        EDGES.runs("as it comes to be", TICKS, "pass(3)", 11, "changes(0)", 1, "sample(0, 0)", 1, "pass(1)", 12, "sample(0, 0)", 3,
            "changes(0)", 2);
        EDGES.asks("a dropped one doesn't expire", TICKS.and("drop(1)"), "changes(0)", 6);
    }

    private static void thenAsItWas() {
        EDGES.promise(50);
        EDGES.asks("behind the first", TICKS, "then(0, -1)", 1, "then(0, 0)", 0, "then(0, 1)", -2);
        EDGES.asks("behind the last", TICKS, "then(4, -1)", 3, "then(4, 0)", 1, "then(4, 1)", 3, "then(4, 2)", 2, "then(4, 3)", -2);
        EDGES.asks("up to its number", TICKS.and("pass(9999)"), "then(2, -1)", 3, "then(2, 0)", 1, "then(2, 1)", 2, "then(2, 2)", 0);
        // At tick 8 a window of 4 lets in those of ticks 6, 8; one of 5 that of tick 4 too.
        EDGES.asks("alive at its time", TICKS.and("window(0, 4)"), "then(4, -1)", 2, "then(4, 0)", 3, "then(4, 1)", 4);
        EDGES.asks("alive at its time", TICKS.and("window(0, 5)"), "then(4, -1)", 3, "then(4, 1)", 2);
        EDGES.asks("alone in its window", TICKS.and("window(0, 1)"), "then(4, -1)", 1, "then(4, 0)", 4, "then(0, 0)", 0);
        EDGES.asks("by the size of now", TICKS.and("size(0, 1)"), "then(4, -1)", 1, "then(4, 0)", 1, "then(0, 0)", 0);
        EDGES.asks("by items as they are now", TICKS.and("drop(1)", "weigh(4, 20)", "move(3, 1)"), "then(4, -1)", 3, "then(4, 0)", 4,
            "then(4, 1)", 2, "then(4, 2)", 0, "then(3, -1)", 1, "then(3, 0)", 3);
        EDGES.asks("one that expired", RICH, "then(2, -1)", 1, "then(2, 0)", 2, "then(6, 0)", 6, "then(6, 1)", 4, "then(6, 2)", -2);
        EDGES.refuses("not so many", TICKS, -2, "then(0, 1)", "then(4, MAX)");
        EDGES.refuses("it is dropped", RICH, -2, "then(5, 0)", "then(5, MAX)");
        EDGES.refuses("without it", RICH, -1, "then(-1, 0)", "then(7, 0)", "then(MIN, 0)", "then(MAX, 0)", "then(7, -1)", "then(-1, -1)");
        EDGES.refuses("k below NONE", RICH, -1, "then(0, -2)", "then(6, MIN)");
        EDGES.refuses("NONE ahead of -2", RICH, -1, "then(5, -2)", "then(5, MIN)", "then(7, MAX)");
    }

    private static void playedAgain() {
        EDGES.promise(51);
        EDGES.refuses("without these", RICH, -1, Edges.beyond("played", 0, 3, 0, 1));
        EDGES.asks("of none", RICH, "played(2, 0)", 0, "played(2, 1)", 0);
        EDGES.asks("of one", new World("key 3 a 1 1"), "played(3, 0)", 1, "played(3, 1)", 0);
        EDGES.asks("of none that is not dropped", new World("key 3 a 1 1", "drop(0)"), "played(3, 0)", 0);
        EDGES.asks("full: who is behind all doesn't come in", TICKS, "played(0, 0)", 4, "played(0, 1)", 1);
        EDGES.asks("room for all", TICKS.and("size(0, 5)"), "played(0, 0)", 5, "played(0, 1)", 0);
        EDGES.asks("room for all but one", TICKS.and("size(0, 4)"), "played(0, 0)", 5, "played(0, 1)", 1);
        EDGES.asks("a like key is behind", TICKS.and("size(0, 1)"), "played(0, 0)", 2, "played(0, 1)", 1);
        EDGES.asks("who expires is not put out", TICKS.and("window(0, 2)", "size(0, 1)"), "played(0, 0)", 5, "played(0, 1)", 0);
        EDGES.asks("who is alive still is", TICKS.and("window(0, 3)", "size(0, 1)"), "played(0, 0)", 3, "played(0, 1)", 2);
        EDGES.asks("those that expired by now count", TICKS.and("pass(9999)"), "played(0, 0)", 4, "played(0, 1)", 1);
        EDGES.asks("100, each ahead of those that came", rising(), "played(0, 0)", 100, "played(0, 1)", 96, "outBy(0)", 4, "outBy(95)", 99,
            "outBy(96)", -2);
    }

    /** 100 items, each with a greater key than all ahead of it. */
    private static World rising() {
        World world = new World();
        for (int from = 0; from < 100; from += 20) {
            String[] puts = new String[20];
            for (int n = 0; n < 20; n++) {
                puts[n] = "put(0, 0, 1, " + (from + n + 1) + ")";
            }
            world = world.and(puts);
        }
        return world;
    }

    private static void outByOnes() {
        EDGES.promise(52);
        EDGES.refuses("without it", RICH, -1, Edges.beyond("outBy", 0, 6));
        EDGES.asks("the first", TICKS.and("size(0, 1)"), "outBy(0)", 1, "outBy(1)", -2, "outBy(3)", -2);
        EDGES.refuses("there is none: never in it", TICKS.and("size(0, 1)"), -2, "outBy(2)", "outBy(3)", "outBy(4)");
        EDGES.refuses("there is none: it is in it still", TICKS, -2, "outBy(1)", "outBy(2)", "outBy(3)");
        EDGES.asks("behind the last of more than the size", TICKS, "outBy(0)", 3, "outBy(4)", -2);
        EDGES.refuses("there is none: it expired first", TICKS.and("window(0, 2)", "size(0, 1)"), -2, "outBy(0)", "outBy(1)", "outBy(2)");
        EDGES.asks("it was alive still", TICKS.and("window(0, 3)", "size(0, 1)"), "outBy(0)", 1, "outBy(1)", -2, "outBy(2)", 3);
        EDGES.refuses("there is none: it is dropped", RICH, -2, "outBy(5)");
        EDGES.asks("not by a dropped one", TICKS.and("size(0, 1)", "drop(1)"), "outBy(0)", 2, "outBy(1)", -2);
        EDGES.asks("not by one of another shard", TICKS.and("size(0, 1)", "move(1, 1)", "move(2, 1)"), "outBy(0)", 3, "outBy(1)", -2);
        EDGES.asks("one that expired by now", TICKS.and("size(0, 1)", "pass(9999)"), "outBy(0)", 1);
        EDGES.asks("in again when one ahead expired, then out", new World("size 0 1;window 0 4;key 0 a 1 9;wait 2;key 0 a 1 5;wait 2;"
            + "key 0 a 1 4;wait 1;key 0 a 1 8"), "outBy(1)", 3, "outBy(0)", -2, "outBy(2)", -2, "played(0, 0)", 2, "played(0, 1)", 1);
    }
}
