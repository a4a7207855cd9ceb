/** The edges of promises 1 to 4: a new object, the tape, and the texts that it tells. */
public final class TextEdgesTest {
    private static final Edges EDGES = new Edges("TextEdgesTest");
    private static final World NEW = new World();
    private static final World RICH = World.RICH;

    private static final String FIFTY = "item 0 a 1 times 50";
    private static final String NINETY_NINE = FIFTY + ";item 0 a 1 times 49";
    private static final String HUNDRED = FIFTY + ";" + FIFTY;
    private static final String TEN_WAITS = "wait 9999;".repeat(10);

    public static void main(String[] args) {
        newObject();
        newObjectAsked();
        feeding();
        bytesOfNumbers();
        ending();
        tellsInPlaceOfAll();
        lengthsOfTexts();
        leastAndGreatestNumbers();
        digitsGoOn();
        labelsOfOneLetter();
        blanks();
        statements();
        wordsThatCannotStand();
        bytesThatCannotStand();
        textEnds();
        numbersNotAsTold();
        tooManyItems();
        tooManyTicks();
        firstFault();
        drawnLots();
        EDGES.end(1, 4);
    }

    private static void newObject() {
        EDGES.promise(1);
        EDGES.asks("no items, tick 0, seed 1, nothing undone, taped, kept", NEW, "count(0)", 0, "count(1)", 0, "count(2)", 0,
            "count(3)", 1, "count(4)", 0, "count(5)", 0, "count(6)", 0, "count(7)", 0, "digest()", 17);
        for (int shard = 0; shard < 4; shard++) {
            String of = "(" + shard + ", ";
            EDGES.asks("size 4 and window 0 at first, nothing in it", NEW, "total" + of + "4)", 4, "total" + of + "5)", 0,
                "total" + of + "0)", 0, "total" + of + "1)", 0, "total" + of + "2)", 0, "total" + of + "3)", 0,
                "sample" + of + "-1)", 0, "sample" + of + "0)", -2, "capped" + of + "1, -1)", 0, "expired" + of + "-1)", 0,
                "later" + of + "0, -1)", 0, "kinds" + of + "12)", 0, "sizeForKinds" + of + "1)", -2, "needs" + of + "1)", 1,
                "heavy" + of + "1)", 1, "skip" + of + "1)", 0, "played" + of + "0)", 0, "played" + of + "1)", 0,
                "last(" + shard + ")", -2, "changes(" + shard + ")", -2, "mode(" + shard + ")", -2);
        }
        EDGES.refuses("no items", NEW, -1, "of(0, 0)", "order(0, 0)", "part(0, 1)", "lots(0, 1)", "without(0, -1)",
            "weightFor(0)", "sizeFor(0)", "windowFor(0)", "enters(0)", "then(0, -1)", "outBy(0)", "weigh(0, 2)", "again(0)",
            "drop(0)", "move(0, 1)", "swap(0, 1)", "undo()");
        EDGES.refuses("there are none", NEW, -2, "merge(0, 1)", "rename(0, 1)", "thin(0)", "weighAll(0, 2)",
            "split(0, 0, 1)", "purge()", "back(0)", "back(1)", "same(0, 0)", "same(1, 0)", "merged(15, 24, 0)");
    }

    private static void newObjectAsked() {
        EDGES.asks("merged ones of none", NEW, "merged(15, 24, -1)", 0, "partOf(15, 24, 0)", 0, "shared(0, 1)", 0,
            "unlike(0, 1)", 0, "busiest(9999, 0)", 0, "busiest(9999, 1)", -2, "told(-1)", 86, "nextLot(0)", 609);
        EDGES.refuses("an empty tape", NEW, -3, "tell()");
        EDGES.runs("two objects have nothing in common", RICH, "count(0)", 7);
        EDGES.runs("two objects have nothing in common", NEW, "count(0)", 0, "back(0)", -2, "count(5)", 0);
    }

    /** A tape of n bytes, a text with blanks behind it. */
    private static World taped(int n) {
        return RICH.and("tape seed 8;key 2 q 4 444" + " ".repeat(n - 20));
    }

    private static void feeding() {
        EDGES.promise(2);
        String feed = "feed(1936026724, 540483360, 538976288, 538976288, 538976288)";
        EDGES.runs("how many it has", NEW, feed, 20, feed, 40, feed, 60, "end(41)", 41, feed, 61, "end(0)", 0, feed, 20);
        EDGES.runs("400 are no more than 400", taped(380), feed, 400, "count(5)", 400, feed, -1, "count(5)", 400);
        EDGES.refuses("it would have more than 400", taped(381), -1, feed);
        EDGES.refuses("it would have more than 400", taped(399), -1, feed);
        EDGES.refuses("it would have more than 400", taped(400), -1, feed, "feed(0, 0, 0, 0, 0)");
        EDGES.runs("what didn't come isn't there later", taped(381), feed, -1, "end(20)", 20, "tell()", 1, "count(3)", 8);
        EDGES.runs("no act", RICH.and("tape 1"), "count(4)", 10, feed, 21, "count(4)", 10, "undo()", 9, "count(5)", 21);
    }

    private static void bytesOfNumbers() {
        // "wait" is 0x77616974.
        EDGES.runs("of each number the highest first", NEW, "feed(" + 0x77616974 + ", " + 0x20313b73 + ", " + 0x65656420
            + ", " + 0x323b7761 + ", " + 0x69742033 + ")", 20, "tell()", 0, "count(2)", 4, "count(3)", 2);
        for (int place = 0; place < 20; place++) {
            int[] numbers = {0x20202020, 0x20202020, 0x20202020, 0x20202020, 0x20202020};
            for (int sign : new int[] {0, 127, 128, 255}) {
                int shift = 24 - 8 * (place % 4);
                numbers[place / 4] = numbers[place / 4] & ~(255 << shift) | sign << shift;
                String feed = "feed(" + numbers[0] + ", " + numbers[1] + ", " + numbers[2] + ", " + numbers[3] + ", "
                    + numbers[4] + ")";
                EDGES.runs("each byte at its place", NEW, feed, 20, "tell()", -2 - (8 * place + 1));
            }
        }
        EDGES.runs("the least and the greatest number", NEW, "feed(MIN, MAX, -1, 0, 1)", 20, "tell()", -3);
    }

    private static void ending() {
        EDGES.promise(3);
        EDGES.runs("its first n bytes alone", RICH, "count(5)", 20, "end(20)", 20, "count(5)", 20, "end(6)", 6, "count(5)",
            6, "end(7)", -1, "tell()", 0, "count(3)", 8);
        EDGES.runs("none", RICH, "end(0)", 0, "count(5)", 0, "end(1)", -1, "end(0)", 0, "tell()", -3);
        EDGES.runs("none of none", NEW, "end(0)", 0);
        EDGES.runs("the whole full tape", taped(400), "end(400)", 400, "tell()", 1);
        EDGES.refuses("if it has not so many", NEW, -1, "end(1)", "end(MAX)");
        EDGES.refuses("if it has not so many", RICH, -1, "end(21)", "end(400)", "end(MAX)");
        EDGES.refuses("if it has not so many", taped(400), -1, "end(401)");
        EDGES.refuses("n is below 0", RICH, -1, "end(-1)", "end(-2)", "end(MIN)");
        EDGES.refuses("n is below 0", NEW, -1, "end(-1)", "end(MIN)");
        EDGES.runs("no act", RICH, "end(3)", 3, "count(4)", 10, "undo()", 9, "count(5)", 3);
    }

    private static void tellsInPlaceOfAll() {
        EDGES.promise(4);
        EDGES.tells("as at first ahead of it", RICH, "wait 0", 0, "count(0)", 0, "count(2)", 0, "count(3)", 1,
            "total(0, 4)", 4, "total(0, 5)", 0, "total(3, 4)", 4, "total(3, 5)", 0, "digest()", 17, "told(-1)", 86);
        EDGES.tells("in place of all there was", RICH, "key 3 z 20 1023", 1, "count(0)", 1, "of(0, 0)", 3, "of(1, 0)", -1,
            "sample(0, -1)", 0, "sample(3, 0)", 0, "come(0, 0, 1)", 1);
        EDGES.tells("shelves stay", RICH, "seed 5", 0, "count(6)", 3, "back(1)", 6, "of(3, 2)", 6, "back(0)", 5, "of(3, 2)", 1);
        EDGES.runs("the tape is empty then", RICH, "tell()", 1, "count(5)", 0, "tell()", -3, "count(0)", 1, "count(3)", 8);
        EDGES.runs("acts behind it can be undone", RICH, "tell()", 1, "pass(1)", 1, "undo()", 0, "undo()", -1, "count(0)", 1);
        EDGES.faults("but for the tape nothing happens", RICH, "size 0 9;window 0 9;seed 3;wait 3;key 0 a 1 1;x", 46, 1);
        EDGES.faults("but for the tape nothing happens", NEW, "size 0 9;window 0 9;seed 3;wait 3;key 0 a 1 1;x", 46, 1);
        EDGES.runs("a fault leaves nothing to the next text", RICH.and("tape size 0 9;seed 3;key 0 a 1 1;x"), "tell()", -2 - 225,
            "feed(1937074534, 540024889, 538976288, 538976288, 538976288)", 20, "tell()", -3);
        EDGES.tells("what a fault had read is not there", new World(), "size 1 2", 0, "total(0, 4)", 4);
    }

    private static void lengthsOfTexts() {
        EDGES.tells("at most 400 bytes", NEW, "key 0 a 1 5" + " ".repeat(389), 1);
        EDGES.tells("at most 400 bytes", NEW, " ".repeat(389) + "key 0 a 1 5", 1, "of(0, 3)", 5);
        EDGES.tells("at most 400 bytes", NEW, "seed 1;".repeat(56) + " seed 12", 0, "count(3)", 12);
        EDGES.tells("the least text", NEW, "seed0", 0, "count(3)", 0);
        EDGES.faults("the text ends", RICH, "", 0, 1);
        EDGES.faults("the text ends", RICH, " ".repeat(400), 400, 1);
        EDGES.faults("the text ends", RICH, "seed 1;".repeat(57), 399, 1);
        EDGES.faults("the text ends", RICH, "seed 1;".repeat(57) + " ", 400, 1);
        EDGES.faults("the last byte", RICH, "key 0 a 1 5" + " ".repeat(388) + "x", 399, 1);
    }

    private static void leastAndGreatestNumbers() {
        for (int shard = 0; shard < 4; shard++) {
            EDGES.tells("the least", NEW, "size " + shard + " 1;window " + shard + " 0;item " + shard + " a 1 times 1;key "
                + shard + " a 1 1", 2, "total(" + shard + ", 4)", 1, "total(" + shard + ", 5)", 0, "of(0, 0)", shard,
                "of(1, 0)", shard, "of(1, 2)", 1, "of(1, 3)", 1, "of(0, 3)", 609);
            EDGES.tells("the greatest", NEW, "size " + shard + " 12;window " + shard + " 9999;item " + shard
                + " z 20 times 50;key " + shard + " z 20 1023", 51, "total(" + shard + ", 4)", 12,
                "total(" + shard + ", 5)", 9999, "of(49, 0)", shard, "of(49, 2)", 20, "of(50, 0)", shard, "of(50, 1)", 25,
                "of(50, 2)", 20, "of(50, 3)", 1023);
        }
        EDGES.tells("the least seed and wait", NEW, "seed 0;wait 0", 0, "count(3)", 0, "count(2)", 0);
        EDGES.tells("the greatest seed and wait", NEW, "seed 65535;wait 9999", 0, "count(3)", 65535, "count(2)", 9999);
        EDGES.tells("the last that is told counts", NEW, "size 0 5;size 0 6;window 0 7;window 0 0;seed 3;seed 4", 0,
            "total(0, 4)", 6, "total(0, 5)", 0, "count(3)", 4);
    }

    private static void digitsGoOn() {
        EDGES.tells("digits, as far as they go on", NEW, "size 0000 0012", 0, "total(0, 4)", 12);
        EDGES.tells("digits, as far as they go on", NEW, "seed " + "0".repeat(390) + "65535", 0, "count(3)", 65535);
        EDGES.tells("digits go on no more", NEW, "key 0 a 1 9", 1, "of(0, 2)", 1, "of(0, 3)", 9);
        EDGES.faults("1 and 9 are one number", RICH, "key 0 a 19", 10, 1);
        EDGES.faults("0 and 4 are one number", RICH, "size 04", 5, 2);
        EDGES.faults("no number goes round", RICH, "seed 4294967297", 5, 2);
        EDGES.faults("no number goes round", RICH, "seed 18446744073709551617", 5, 2);
        EDGES.faults("no number goes round", RICH, "seed 2147483648", 5, 2);
        EDGES.faults("no number goes round", RICH, "size 4294967296 5", 5, 2);
        EDGES.faults("no number goes round", RICH, "seed 1" + "0".repeat(394), 5, 2);
        EDGES.faults("no number goes round", RICH, "wait " + "9".repeat(395), 5, 2);
        EDGES.tells("digits 0 to 9", NEW, "seed 10234;wait 5678;window 1 9", 0, "count(3)", 10234, "count(2)", 5678);
    }

    private static void labelsOfOneLetter() {
        for (char letter = 'a'; letter <= 'z'; letter++) {
            EDGES.tells("a: 0", NEW, "item 0" + letter + "1;key 0 " + letter + " 1 1", 2, "of(0, 1)", letter - 'a',
                "of(1, 1)", letter - 'a');
        }
        for (String start : new String[] {"item 0 ", "key 0 "}) {
            int place = start.length();
            for (String label : new String[] {"aa", "az", "ab", "times", "A", "Z", "`", "{", "1", ";", "@", "[", "-"}) {
                EDGES.faults("a word of one letter", RICH, start + label + " 1 1", place, 1);
            }
        }
        EDGES.faults("a label must stand there", RICH, "key 0 1 1", 6, 1);
        EDGES.faults("no label in size", RICH, "size a 1", 5, 1);
    }

    private static void blanks() {
        EDGES.tells("as one likes: none", NEW, "size0 5;window1 6;seed7;wait8;item0a1times2;key1b2 3", 3, "total(0, 4)", 5,
            "total(1, 5)", 6, "count(3)", (25173 * ((25173 * 7 + 13849) % 65536) + 13849) % 65536, "count(2)", 8);
        EDGES.tells("as one likes: many", NEW, "  size  0   5  ;  item 0  a  1   times   2 ; key   1   b  2  3   ", 3,
            "of(2, 3)", 3);
        for (int sign : new int[] {0, 9, 10, 13, 31, 33, 160}) {
            EDGES.faults("blanks are 32 alone", RICH, "seed" + (char) sign + "5", 4, 1);
            EDGES.faults("blanks are 32 alone", RICH, (char) sign + "seed 5", 0, 1);
            EDGES.faults("blanks are 32 alone", RICH, "seed 5" + (char) sign, 6, 1);
        }
        EDGES.faults("a blank parts a word", RICH, "se ed 5", 0, 1);
        EDGES.faults("a blank parts a number", RICH, "seed 5 5", 7, 1);
        EDGES.faults("none between letters is one word", RICH, "item 0 atimes 2", 7, 1);
    }

    private static void statements() {
        EDGES.tells("one", NEW, "seed 5", 0, "count(3)", 5);
        EDGES.tells("several", NEW, "seed 5;seed 6;seed 7", 0, "count(3)", 7);
        EDGES.faults("a statement behind each ;", RICH, "seed 5;", 7, 1);
        EDGES.faults("a statement behind each ;", RICH, "seed 5;;seed 6", 7, 1);
        EDGES.faults("a statement behind each ;", RICH, "seed 5; ;seed 6", 8, 1);
        EDGES.faults("a statement ahead of each ;", RICH, ";seed 5", 0, 1);
        EDGES.faults("; between them", RICH, "seed 5 seed 6", 7, 1);
        EDGES.faults("; between them", RICH, "seed 5,seed 6", 6, 1);
        EDGES.faults("; between them", RICH, "seed 5:seed 6", 6, 1);
        EDGES.tells("none of times", NEW, "item 0 a 1;item 0 a 1", 2);
        EDGES.faults("times but once", RICH, "item 0 a 1 times 2 times 2", 19, 1);
    }

    private static void wordsThatCannotStand() {
        String[] words = {"s", "siz", "sizes", "sizex", "windo", "windows", "see", "seeds", "wai", "waits", "ite", "items",
            "ke", "keys", "times", "a", "z", "sample", "itemkey"};
        for (String word : words) {
            EDGES.faults("a word that cannot stand there", RICH, word + " 0 1 1 1", 0, 1);
            EDGES.faults("a word that cannot stand there", RICH, "seed 1;  " + word + " 0 1", 9, 1);
            EDGES.faults("a word that ends the text", RICH, word, 0, 1);
        }
        String[] starts = {"size ", "size 0 ", "window ", "window 0 ", "seed ", "wait ", "item ", "item 0 a ", "key ",
            "key 0 a ", "key 0 a 1 ", "item 0 a 1 times "};
        for (String start : starts) {
            EDGES.faults("a word for a number", RICH, start + "a", start.length(), 1);
            EDGES.faults("a word for a number", RICH, start + "seed 1", start.length(), 1);
        }
        String[] ends = {"size 0 4 ", "window 0 4 ", "seed 1 ", "wait 1 ", "key 0 a 1 1 ", "item 0 a 1 times 1 "};
        for (String end : ends) {
            EDGES.faults("a word behind a statement", RICH, end + "times 1", end.length(), 1);
            EDGES.faults("a word behind a statement", RICH, end + "x", end.length(), 1);
            EDGES.faults("a number behind a statement", RICH, end + "99999", end.length(), 1);
        }
        EDGES.faults("not times", RICH, "item 0 a 1 time 1", 11, 1);
        EDGES.faults("not times", RICH, "item 0 a 1 timess 1", 11, 1);
        EDGES.faults("not times", RICH, "item 0 a 1 seed 1", 11, 1);
        EDGES.faults("no times", RICH, "item 0 a 1 5", 11, 1);
        EDGES.faults("small letters", RICH, "Seed 5", 0, 1);
        EDGES.faults("small letters", RICH, "seEd 5", 0, 1);
        EDGES.faults("small letters", RICH, "item 0 a 1 Times 5", 11, 1);
    }

    private static void bytesThatCannotStand() {
        int[] signs = {0, 1, '-', '+', '.', ',', '/', ':', '<', '@', '[', '`', '{', 127, 128, 176, 225, 255};
        for (int sign : signs) {
            EDGES.faults("a byte that cannot stand there", RICH, (char) sign + "seed 1", 0, 1);
            EDGES.faults("a byte for a number", RICH, "seed " + (char) sign + "1", 5, 1);
            EDGES.faults("a byte behind a number", RICH, "seed 1" + (char) sign, 6, 1);
            EDGES.faults("a byte for a shard", RICH, "size " + (char) sign + " 1", 5, 1);
            EDGES.faults("a byte for a label", RICH, "key 0 " + (char) sign + " 1 1", 6, 1);
            EDGES.faults("a byte behind a label", RICH, "key 0 a" + (char) sign + " 1 1", 7, 1);
            EDGES.faults("a byte behind a ;", RICH, "seed 1;" + (char) sign, 7, 1);
            EDGES.faults("a byte for times", RICH, "item 0 a 1 " + (char) sign, 11, 1);
        }
        EDGES.faults("a number for a statement", RICH, "5", 0, 1);
        EDGES.faults("a number for a statement", RICH, "seed 1;99999", 7, 1);
        EDGES.faults("; for a number", RICH, "size 0;4", 6, 1);
        EDGES.faults("; for a shard", RICH, "size;0 4", 4, 1);
    }

    private static void textEnds() {
        String[] whole = {"size 0 4", "window 0 4", "seed 1", "wait 1", "item 0 a 1 times 1", "key 0 a 1 1"};
        for (String text : whole) {
            for (int n = 0; n < text.length(); n++) {
                String part = text.substring(0, n);
                boolean inWord = n > 0 && n < text.indexOf(' ') || part.matches("item 0 a 1 t[ime]*");
                boolean isWhole = part.matches("(size|window) 0 4|(seed|wait) 1|item 0 a 1 ?");
                if (!inWord && !isWhole) {
                    EDGES.faults("the text ends: the place behind its last byte", RICH, part, n, 1);
                    EDGES.faults("the text ends: the place behind its last byte", RICH, "seed 9;" + part, 7 + n, 1);
                }
            }
        }
        EDGES.runs("what is behind the tape's end is not of the text", RICH.and("tape seed 12;seed 345"), "end(9)", 9, "tell()",
            -2 - (8 * 8 + 1));
        EDGES.runs("what is behind the tape's end is not of the text", NEW.and("tape seed 12345"), "end(7)", 7, "tell()", 0,
            "count(3)", 12);
        EDGES.runs("what is behind the tape's end is not of the text", NEW.and("tape item 0 ab 1"), "end(8)", 8, "tell()",
            -2 - (8 * 8 + 1));
        EDGES.runs("what is behind the tape's end is not of the text", NEW.and("tape item 0 a 1 times 5"), "end(10)", 10,
            "tell()", 1);
        EDGES.runs("what is behind the tape's end is not of the text", NEW.and("tape windows"), "end(6)", 6, "tell()",
            -2 - (8 * 6 + 1));
    }

    private static void numbersNotAsTold() {
        String[] texts = {"size #4 1", "size #99999 1", "size 0 #0", "size 0 #13", "size 3 #20", "window #4 1",
            "window 0 #10000", "window 0 #65536", "seed #65536", "seed #99999", "wait #10000", "wait #99999", "item #4 a 1",
            "item 0 a #0", "item 0 a #21", "item 0 a 1 times #0", "item 0 a 1 times #51", "item 0 a 1 times #100",
            "key #4 a 1 1", "key 0 a #0 1", "key 0 a #21 1", "key 0 a 1 #0", "key 0 a 1 #1024", "key 0 a 1 #00",
            "size 0 #00000", "seed 1; size   #0004 4", "size#4 4", "item 0a#21", "size #4", "size #4 x", "key #9"};
        for (String marked : texts) {
            EDGES.faults("a number (where it begins) that is not as told", RICH, marked.replace("#", ""),
                marked.indexOf('#'), 2);
        }
    }

    private static void tooManyItems() {
        EDGES.tells("100 are no more than 100", NEW, HUNDRED, 100, "count(0)", 100, "of(99, 3)", Lots.drawn(1, 99));
        EDGES.tells("100 are no more than 100", NEW, NINETY_NINE + ";item 0 a 1", 100);
        EDGES.tells("100 are no more than 100", NEW, NINETY_NINE + ";item 0 a 1 times 1", 100);
        EDGES.tells("100 are no more than 100", NEW, NINETY_NINE + ";key 0 a 1 1", 100);
        String[] more = {"item 0 a 1", "item 0 a 1 times 1", "item 0 a 1 times 50", "key 0 a 1 1", "item 0 a 1 ",
            "key 3 z 20 1023", "item 0 a 1;seed 1", "key 0 a 1 1 ;x", "item 0 a 1;"};
        for (String statement : more) {
            EDGES.faults("more than 100 items", RICH, HUNDRED + ";" + statement, 40, 3);
            EDGES.faults("its first byte", RICH, HUNDRED + ";  " + statement, 42, 3);
        }
        EDGES.faults("more than 100 items", RICH, NINETY_NINE + ";item 0 a 1 times 2", 40, 3);
        EDGES.faults("more than 100 items", RICH, FIFTY + ";key 0 a 1 1;" + FIFTY, 32, 3);
        EDGES.faults("asked as it ends", RICH, HUNDRED + ";item 0 a 21", 49, 2);
        EDGES.faults("asked as it ends", RICH, HUNDRED + ";item 0 a 1 times", 56, 1);
        EDGES.faults("asked as it ends", RICH, HUNDRED + ";item 0 a 1 times 51", 57, 2);
        EDGES.faults("asked as it ends", RICH, HUNDRED + ";item 0 a", 48, 1);
        EDGES.faults("asked as it ends", RICH, HUNDRED + ";key 0 a 1 1024", 50, 2);
        EDGES.faults("asked as it ends", RICH, HUNDRED + ";key 0 a 1", 49, 1);
        EDGES.tells("others may follow", NEW, HUNDRED + ";size 0 5;window 0 6;wait 7;seed 8", 100, "count(3)", 8);
    }

    private static void tooManyTicks() {
        EDGES.tells("99999 is not above 99999", NEW, TEN_WAITS + "wait 9", 0, "count(2)", 99999);
        EDGES.tells("99999 is not above 99999", NEW, TEN_WAITS + "wait 9;wait 0;key 0 a 1 1", 1, "of(0, 4)", 99999);
        EDGES.faults("above 99999", RICH, TEN_WAITS + "wait 10", 100, 3);
        EDGES.faults("above 99999", RICH, TEN_WAITS + "wait 9999", 100, 3);
        EDGES.faults("above 99999", RICH, TEN_WAITS + "wait 9;wait 1", 107, 3);
        EDGES.faults("its first byte", RICH, TEN_WAITS + "wait 9;  wait 1;x", 109, 3);
        EDGES.faults("asked as it ends", RICH, TEN_WAITS + "wait 10000", 105, 2);
        EDGES.faults("asked as it ends", RICH, TEN_WAITS + "wait", 104, 1);
        EDGES.faults("asked as it ends", RICH, TEN_WAITS + "wait x", 105, 1);
        EDGES.tells("the tick was told anew, not added to", RICH.and("pass(9999)"), TEN_WAITS + "wait 9", 0, "count(2)", 99999);
    }

    private static void firstFault() {
        EDGES.faults("the first that is met", RICH, "size 9 99", 5, 2);
        EDGES.faults("the first that is met", RICH, "size 0 99 x", 7, 2);
        EDGES.faults("the first that is met", RICH, "size 9 x", 5, 2);
        EDGES.faults("the first that is met", RICH, "size x 99", 5, 1);
        EDGES.faults("the first that is met", RICH, "key 0 ab 99 9999", 6, 1);
        EDGES.faults("the first that is met", RICH, "key 9 ab 99 9999", 4, 2);
        EDGES.faults("the first that is met", RICH, "key 0 a 99 9999", 8, 2);
        EDGES.faults("the first that is met", RICH, "item 0 a 21 times 51", 9, 2);
        EDGES.faults("the first that is met", RICH, "seed 65536;x", 5, 2);
        EDGES.faults("the first that is met", RICH, "x;seed 65536", 0, 1);
        EDGES.faults("the first that is met", RICH, HUNDRED + ";item 0 a 1;wait 10000", 40, 3);
        EDGES.faults("of one place the least", RICH, "seed 1 99999", 7, 1);
        EDGES.faults("of one place the least", RICH, "key 0 99 1 1", 6, 1);
        EDGES.faults("of one place the least", RICH, HUNDRED + ";item", 44, 1);
        EDGES.faults("of one place the least", RICH, HUNDRED + ";items 0 a 1", 40, 1);
    }

    private static void drawnLots() {
        EDGES.tells("their lots are drawn, one behind the other", NEW, "item 0 a 1 times 3;item 1 b 2", 4, "of(0, 3)", 609,
            "of(1, 3)", 954, "of(2, 3)", 315, "of(3, 3)", Lots.drawn(1, 3));
        EDGES.tells("by the seed as it is told there", NEW, "item 0 a 1;seed 1;item 0 a 1;seed 65535;item 0 a 1", 3,
            "of(0, 3)", 609, "of(1, 3)", 609, "of(2, 3)", 54212 / 64, "count(3)", 54212);
        EDGES.tells("a key draws none", NEW, "key 0 a 1 5;item 0 a 1;key 0 a 1 6;item 0 a 1", 4, "of(1, 3)", 609, "of(3, 3)", 954);
        int seed = Lots.seedAheadOfZeros(1);
        EDGES.tells("a lot 0 is drawn again", NEW, "seed " + seed + ";item 0 a 1", 1, "of(0, 3)", Lots.drawn(seed, 0));
        EDGES.tells("at the tick as it is told there", NEW, "item 0 a 1;wait 5;item 0 a 1 times 2;wait 0;key 0 a 1 1;wait 9999", 4,
            "of(0, 4)", 0, "of(1, 4)", 5, "of(2, 4)", 5, "of(3, 4)", 5, "count(2)", 10004);
    }
}
