import java.math.BigInteger;
import java.util.ArrayDeque;
import java.util.ArrayList;
import java.util.Arrays;
import java.util.Comparator;
import java.util.List;
import java.util.function.IntPredicate;

/**
 * The document told once more, by trying everything: the tests of random runs hold FairDraws against it.
 * It shares no code with FairDraws and takes none of its short ways.
 */
public final class Model {
    private static final BigInteger[][] POWERS = new BigInteger[1025][21];

    static {
        for (int base = 0; base <= 1024; base++) {
            for (int exponent = 0; exponent <= 20; exponent++) {
                POWERS[base][exponent] = BigInteger.valueOf(base).pow(exponent);
            }
        }
    }

    private static final class Item {
        int number;
        int shard;
        int label;
        int weight;
        int lot;
        int time;
        boolean dropped;

        Item copy() {
            Item item = new Item();
            item.number = number;
            item.shard = shard;
            item.label = label;
            item.weight = weight;
            item.lot = lot;
            item.time = time;
            item.dropped = dropped;
            return item;
        }
    }

    private static final class All {
        List<Item> items = new ArrayList<>();
        int tick = 0;
        int seed = 1;
        int[] size = {4, 4, 4, 4};
        int[] window = {0, 0, 0, 0};

        All copy() {
            All all = new All();
            for (Item item : items) {
                all.items.add(item.copy());
            }
            all.tick = tick;
            all.seed = seed;
            all.size = size.clone();
            all.window = window.clone();
            return all;
        }

        int draw() {
            int lot;
            do {
                seed = (int) ((25173L * seed + 13849L) % 65536L);
                lot = seed / 64;
            } while (lot == 0);
            return lot;
        }

        Item add(int shard, int label, int weight, int lot) {
            Item item = new Item();
            item.number = items.size();
            item.shard = shard;
            item.label = label;
            item.weight = weight;
            item.lot = lot;
            item.time = tick;
            items.add(item);
            return item;
        }

        boolean alive(Item item) {
            return !item.dropped && (window[item.shard] == 0 || item.time > tick - window[item.shard]);
        }

        List<Item> aliveOf(int shard) {
            List<Item> found = new ArrayList<>();
            for (Item item : items) {
                if (item.shard == shard && alive(item)) {
                    found.add(item);
                }
            }
            found.sort(AHEAD);
            return found;
        }

        List<Item> sampleOf(int shard) {
            return firstOf(aliveOf(shard), size[shard]);
        }
    }

    private static final Comparator<Item> AHEAD = (a, b) -> {
        int sign = compareKeys(b, a);
        return sign != 0 ? sign : Integer.compare(a.number, b.number);
    };

    private All all = new All();
    private final ArrayDeque<All> past = new ArrayDeque<>();
    private final All[] shelves = new All[2];
    private final List<Integer> tape = new ArrayList<>();

    private static int compareKeys(Item a, Item b) {
        BigInteger left = POWERS[a.lot][b.weight].multiply(POWERS[1024][a.weight]);
        BigInteger right = POWERS[b.lot][a.weight].multiply(POWERS[1024][b.weight]);
        return left.compareTo(right);
    }

    private static <T> List<T> firstOf(List<T> list, int n) {
        return new ArrayList<>(list.subList(0, Math.min(n, list.size())));
    }

    private static int kth(List<Item> list, int k) {
        return k == -1 ? list.size() : k < list.size() ? list.get(k).number : -2;
    }

    private static boolean in(int n, int least, int most) {
        return least <= n && n <= most;
    }

    private static boolean shardIs(int n) {
        return in(n, 0, 3);
    }

    private static boolean labelIs(int n) {
        return in(n, 0, 25);
    }

    private static boolean weightIs(int n) {
        return in(n, 1, 20);
    }

    private boolean itemIs(int n) {
        return in(n, 0, all.items.size() - 1);
    }

    private boolean undroppedIs(int n) {
        return itemIs(n) && !all.items.get(n).dropped;
    }

    private void act() {
        past.addLast(all.copy());
        if (past.size() > 10) {
            past.removeFirst();
        }
    }

    private List<Item> those(java.util.function.Predicate<Item> which) {
        List<Item> found = new ArrayList<>();
        for (Item item : all.items) {
            if (which.test(item)) {
                found.add(item);
            }
        }
        return found;
    }

    private static int least(int from, int to, IntPredicate which) {
        for (int n = from; n <= to; n++) {
            if (which.test(n)) {
                return n;
            }
        }
        return -2;
    }

    // Tape

    public int feed(int a, int b, int c, int d, int e) {
        if (tape.size() + 20 > 400) {
            return -1;
        }
        for (int n : new int[] {a, b, c, d, e}) {
            tape.add(n >>> 24);
            tape.add(n >>> 16 & 255);
            tape.add(n >>> 8 & 255);
            tape.add(n & 255);
        }
        return tape.size();
    }

    public int end(int n) {
        if (n < 0 || n > tape.size()) {
            return -1;
        }
        while (tape.size() > n) {
            tape.remove(tape.size() - 1);
        }
        return n;
    }

    public int tell() {
        StringBuilder text = new StringBuilder();
        for (int sign : tape) {
            text.append((char) sign);
        }
        tape.clear();
        All told = new All();
        int fault = new Grammar(text.toString(), told).fault();
        if (fault >= 0) {
            return -2 - fault;
        }
        all = told;
        past.clear();
        return all.items.size();
    }

    /** Cuts the text into tokens first, then looks at each statement's form. */
    private static final class Grammar {
        private final List<String> tokens = new ArrayList<>();
        private final List<Integer> places = new ArrayList<>();
        private final All told;
        private int next = 0;

        private static final class Fault extends RuntimeException {
            final int code;

            Fault(int place, int kind) {
                super(null, null, false, false);
                code = 8 * place + kind;
            }
        }

        Grammar(String text, All told) {
            this.told = told;
            java.util.regex.Matcher matcher =
                java.util.regex.Pattern.compile("[0-9]+|[a-z]+|[^ ]", java.util.regex.Pattern.DOTALL).matcher(text);
            while (matcher.find()) {
                tokens.add(matcher.group());
                places.add(matcher.start());
            }
            tokens.add("");
            places.add(text.length());
        }

        int fault() {
            try {
                statement();
                while (!tokens.get(next).isEmpty()) {
                    if (!tokens.get(next).equals(";")) {
                        throw new Fault(places.get(next), 1);
                    }
                    next++;
                    statement();
                }
                return -1;
            } catch (Fault fault) {
                return fault.code;
            }
        }

        private int number(int least, int most) {
            String token = tokens.get(next);
            if (!token.matches("[0-9]+")) {
                throw new Fault(places.get(next), 1);
            }
            BigInteger value = new BigInteger(token);
            if (value.compareTo(BigInteger.valueOf(least)) < 0 || value.compareTo(BigInteger.valueOf(most)) > 0) {
                throw new Fault(places.get(next), 2);
            }
            next++;
            return value.intValue();
        }

        private int label() {
            String token = tokens.get(next);
            if (!token.matches("[a-z]")) {
                throw new Fault(places.get(next), 1);
            }
            next++;
            return token.charAt(0) - 'a';
        }

        private void statement() {
            int start = places.get(next);
            String word = tokens.get(next);
            if (!List.of("size", "window", "seed", "wait", "item", "key").contains(word)) {
                throw new Fault(start, 1);
            }
            next++;
            switch (word) {
                case "size" -> {
                    int shard = number(0, 3);
                    told.size[shard] = number(1, 12);
                }
                case "window" -> {
                    int shard = number(0, 3);
                    told.window[shard] = number(0, 9999);
                }
                case "seed" -> told.seed = number(0, 65535);
                case "wait" -> {
                    told.tick += number(0, 9999);
                    if (told.tick > 99999) {
                        throw new Fault(start, 3);
                    }
                }
                default -> items(start, word.equals("key"));
            }
        }

        private void items(int start, boolean key) {
            int shard = number(0, 3);
            int label = label();
            int weight = number(1, 20);
            int lot = key ? number(1, 1023) : 0;
            int times = 1;
            if (!key && tokens.get(next).equals("times")) {
                next++;
                times = number(1, 50);
            }
            if (told.items.size() + times > 100) {
                throw new Fault(start, 3);
            }
            for (int n = 0; n < times; n++) {
                told.add(shard, label, weight, key ? lot : told.draw());
            }
        }
    }

    // Acts

    public int come(int shard, int label, int weight) {
        if (!shardIs(shard) || !labelIs(label) || !weightIs(weight)) {
            return -1;
        }
        if (all.items.size() == 100) {
            return -2;
        }
        act();
        return all.add(shard, label, weight, all.draw()).number;
    }

    public int put(int shard, int label, int weight, int lot) {
        if (!shardIs(shard) || !labelIs(label) || !weightIs(weight) || !in(lot, 1, 1023)) {
            return -1;
        }
        if (all.items.size() == 100) {
            return -2;
        }
        act();
        return all.add(shard, label, weight, lot).number;
    }

    public int pass(int ticks) {
        if (!in(ticks, 1, 9999)) {
            return -1;
        }
        if (all.tick + ticks > 99999) {
            return -2;
        }
        act();
        return all.tick += ticks;
    }

    public int size(int shard, int n) {
        if (!shardIs(shard) || !in(n, 1, 12)) {
            return -1;
        }
        return change(all.size[shard], n, () -> all.size[shard] = n);
    }

    public int window(int shard, int n) {
        if (!shardIs(shard) || !in(n, 0, 9999)) {
            return -1;
        }
        return change(all.window[shard], n, () -> all.window[shard] = n);
    }

    public int weigh(int item, int weight) {
        if (!undroppedIs(item) || !weightIs(weight)) {
            return -1;
        }
        return change(all.items.get(item).weight, weight, () -> all.items.get(item).weight = weight);
    }

    public int seed(int n) {
        if (!in(n, 0, 65535)) {
            return -1;
        }
        return change(all.seed, n, () -> all.seed = n);
    }

    private int change(int was, int is, Runnable how) {
        if (was == is) {
            return -2;
        }
        act();
        how.run();
        return was;
    }

    public int again(int item) {
        if (!undroppedIs(item)) {
            return -1;
        }
        act();
        return all.items.get(item).lot = all.draw();
    }

    public int drop(int item) {
        if (!undroppedIs(item)) {
            return -1;
        }
        act();
        all.items.get(item).dropped = true;
        int shard = all.items.get(item).shard;
        return those(each -> each.shard == shard && !each.dropped).size();
    }

    public int move(int item, int shard) {
        if (!undroppedIs(item) || !shardIs(shard)) {
            return -1;
        }
        return change(all.items.get(item).shard, shard, () -> all.items.get(item).shard = shard);
    }

    private int forAll(List<Item> which, java.util.function.Consumer<Item> how) {
        if (which.isEmpty()) {
            return -2;
        }
        act();
        which.forEach(how);
        return which.size();
    }

    public int merge(int from, int to) {
        if (!shardIs(from) || !shardIs(to) || from == to) {
            return -1;
        }
        return forAll(those(each -> !each.dropped && each.shard == from), each -> each.shard = to);
    }

    public int rename(int label, int other) {
        if (!labelIs(label) || !labelIs(other) || label == other) {
            return -1;
        }
        return forAll(those(each -> !each.dropped && each.label == label), each -> each.label = other);
    }

    public int thin(int shard) {
        if (!shardIs(shard)) {
            return -1;
        }
        List<Item> sample = all.sampleOf(shard);
        return forAll(those(each -> !each.dropped && each.shard == shard && !sample.contains(each)),
            each -> each.dropped = true);
    }

    public int swap(int item, int other) {
        if (!undroppedIs(item) || !undroppedIs(other) || item == other) {
            return -1;
        }
        Item a = all.items.get(item);
        Item b = all.items.get(other);
        if (a.lot == b.lot) {
            return -2;
        }
        act();
        int lot = a.lot;
        a.lot = b.lot;
        b.lot = lot;
        return 1;
    }

    public int weighAll(int shard, int n) {
        if (!shardIs(shard) || !in(n, 2, 20)) {
            return -1;
        }
        return forAll(those(each -> !each.dropped && each.shard == shard && each.weight != 20),
            each -> each.weight = Math.min(20, n * each.weight));
    }

    public int split(int shard, int label, int to) {
        if (!shardIs(shard) || !labelIs(label) || !shardIs(to) || shard == to) {
            return -1;
        }
        return forAll(those(each -> !each.dropped && each.shard == shard && each.label == label),
            each -> each.shard = to);
    }

    public int purge() {
        return forAll(those(each -> !each.dropped && !all.alive(each)), each -> each.dropped = true);
    }

    public int undo() {
        if (past.isEmpty()) {
            return -1;
        }
        all = past.removeLast();
        return past.size();
    }

    public int keep(int shelf) {
        if (!in(shelf, 0, 1)) {
            return -1;
        }
        shelves[shelf] = all.copy();
        return all.items.size();
    }

    public int back(int shelf) {
        if (!in(shelf, 0, 1)) {
            return -1;
        }
        if (shelves[shelf] == null) {
            return -2;
        }
        all = shelves[shelf].copy();
        past.clear();
        return all.items.size();
    }

    // Items

    public int of(int item, int what) {
        if (!itemIs(item) || !in(what, 0, 7)) {
            return -1;
        }
        Item it = all.items.get(item);
        int place = what == 6 ? all.sampleOf(it.shard).indexOf(it) : all.aliveOf(it.shard).indexOf(it);
        return switch (what) {
            case 0 -> it.shard;
            case 1 -> it.label;
            case 2 -> it.weight;
            case 3 -> it.lot;
            case 4 -> it.time;
            case 5 -> it.dropped ? 0 : all.alive(it) ? 2 : 1;
            default -> place < 0 ? -2 : place;
        };
    }

    public int order(int item, int other) {
        if (!itemIs(item) || !itemIs(other)) {
            return -1;
        }
        int sign = compareKeys(all.items.get(item), all.items.get(other));
        return sign == 0 ? 0 : sign > 0 ? 1 : 2;
    }

    public int part(int item, int n) {
        if (!itemIs(item) || !in(n, 1, 1000)) {
            return -1;
        }
        Item it = all.items.get(item);
        int most = 0;
        for (int p = 0; p <= n; p++) {
            // p / n <= (lot / 1024) ^ (1 / weight)
            BigInteger left = BigInteger.valueOf(p).pow(it.weight).multiply(BigInteger.valueOf(1024));
            BigInteger right = BigInteger.valueOf(n).pow(it.weight).multiply(BigInteger.valueOf(it.lot));
            if (left.compareTo(right) <= 0) {
                most = p;
            }
        }
        return most;
    }

    // Samples

    public int sample(int shard, int k) {
        return !shardIs(shard) || k < -1 ? -1 : kth(all.sampleOf(shard), k);
    }

    private List<Item> mergedSample(int set, int n) {
        List<Item> found = those(each -> (set & 1 << each.shard) != 0 && all.alive(each));
        found.sort(AHEAD);
        return firstOf(found, n);
    }

    public int merged(int set, int n, int k) {
        return !in(set, 1, 15) || !in(n, 1, 24) || k < -1 ? -1 : kth(mergedSample(set, n), k);
    }

    public int partOf(int set, int n, int shard) {
        if (!in(set, 1, 15) || !in(n, 1, 24) || !shardIs(shard)) {
            return -1;
        }
        return (int) mergedSample(set, n).stream().filter(each -> each.shard == shard).count();
    }

    public int capped(int shard, int m, int k) {
        if (!shardIs(shard) || !in(m, 1, 12) || k < -1) {
            return -1;
        }
        List<Item> made = new ArrayList<>();
        for (Item item : all.aliveOf(shard)) {
            if (made.size() < all.size[shard] && made.stream().filter(each -> each.label == item.label).count() < m) {
                made.add(item);
            }
        }
        return kth(made, k);
    }

    public int last(int shard) {
        if (!shardIs(shard)) {
            return -1;
        }
        return kth(all.sampleOf(shard), all.size[shard] - 1);
    }

    /** Whether one that comes now would be in the sample; it is not counted whether 100 came. */
    private boolean wouldBeIn(int shard, int weight, int lot) {
        All then = all.copy();
        Item item = then.add(shard, 0, weight, lot);
        return then.sampleOf(shard).contains(item);
    }

    public int needs(int shard, int weight) {
        return !shardIs(shard) || !weightIs(weight) ? -1 : least(1, 1023, lot -> wouldBeIn(shard, weight, lot));
    }

    public int heavy(int shard, int lot) {
        return !shardIs(shard) || !in(lot, 1, 1023) ? -1 : least(1, 20, weight -> wouldBeIn(shard, weight, lot));
    }

    public int skip(int shard, int weight) {
        if (!shardIs(shard) || !weightIs(weight)) {
            return -1;
        }
        All drawn = all.copy();
        for (int k = 0; k < 1000; k++) {
            if (wouldBeIn(shard, weight, drawn.draw())) {
                return k;
            }
        }
        return -2;
    }

    public int lots(int item, int weight) {
        if (!itemIs(item) || !weightIs(weight)) {
            return -1;
        }
        if (all.items.get(item).dropped) {
            return -2;
        }
        Item come = new Item();
        come.number = all.items.size();
        come.weight = weight;
        int n = 0;
        for (int lot = 1; lot <= 1023; lot++) {
            come.lot = lot;
            n += AHEAD.compare(come, all.items.get(item)) < 0 ? 1 : 0;
        }
        return n;
    }

    public int nextLot(int k) {
        if (!in(k, 0, 999)) {
            return -1;
        }
        All drawn = all.copy();
        for (int n = 0; n < k; n++) {
            drawn.draw();
        }
        return drawn.draw();
    }

    private long kindsBySize(int shard, int n) {
        return firstOf(all.aliveOf(shard), n).stream().mapToInt(each -> each.label).distinct().count();
    }

    public int kinds(int shard, int n) {
        return !shardIs(shard) || !in(n, 1, 12) ? -1 : (int) kindsBySize(shard, n);
    }

    public int sizeForKinds(int shard, int m) {
        return !shardIs(shard) || !in(m, 1, 12) ? -1 : least(1, 12, n -> kindsBySize(shard, n) >= m);
    }

    private int[] labelsOfSample(int shard) {
        int[] n = new int[26];
        for (Item item : all.sampleOf(shard)) {
            n[item.label]++;
        }
        return n;
    }

    public int shared(int shard, int other) {
        if (!shardIs(shard) || !shardIs(other)) {
            return -1;
        }
        int bits = 0;
        for (Item a : all.sampleOf(shard)) {
            for (Item b : all.sampleOf(other)) {
                bits |= a.label == b.label ? 1 << a.label : 0;
            }
        }
        return bits;
    }

    // What would be

    public int without(int item, int k) {
        if (!itemIs(item) || k < -1) {
            return -1;
        }
        All then = all.copy();
        Item it = then.items.get(item);
        if (it.dropped) {
            return -2;
        }
        it.dropped = true;
        return kth(then.sampleOf(it.shard), k);
    }

    public int expired(int shard, int k) {
        if (!shardIs(shard) || k < -1) {
            return -1;
        }
        return kth(those(each -> each.shard == shard && !each.dropped && !all.alive(each)), k);
    }

    public int busiest(int ticks, int what) {
        if (!in(ticks, 1, 9999) || !in(what, 0, 1)) {
            return -1;
        }
        int most = 0;
        int first = -2;
        for (Item start : all.items) {
            int n = those(each -> !each.dropped && each.time >= start.time && each.time < start.time + ticks).size();
            if (!start.dropped && (n > most || n == most && start.time < first)) {
                most = n;
                first = start.time;
            }
        }
        return what == 0 ? most : first;
    }

    public int weightFor(int item) {
        if (!itemIs(item)) {
            return -1;
        }
        if (!all.alive(all.items.get(item))) {
            return -2;
        }
        return least(1, 20, weight -> {
            All then = all.copy();
            Item it = then.items.get(item);
            it.weight = weight;
            return then.sampleOf(it.shard).contains(it);
        });
    }

    public int sizeFor(int item) {
        if (!itemIs(item)) {
            return -1;
        }
        if (!all.alive(all.items.get(item))) {
            return -2;
        }
        return least(1, 12, size -> {
            All then = all.copy();
            Item it = then.items.get(item);
            then.size[it.shard] = size;
            return then.sampleOf(it.shard).contains(it);
        });
    }

    /** The items of its shard, but for dropped ones, that are ahead of it. */
    private List<Item> rivals(Item it) {
        return those(each -> !each.dropped && each.shard == it.shard && AHEAD.compare(each, it) < 0);
    }

    public int windowFor(int item) {
        if (!itemIs(item)) {
            return -1;
        }
        All then = all.copy();
        Item it = then.items.get(item);
        if (it.dropped) {
            return -2;
        }
        List<Item> rivals = rivals(it);
        for (int window = 9999; window >= 1; window--) {
            then.window[it.shard] = window;
            if (then.alive(it) && rivals.stream().filter(then::alive).count() < then.size[it.shard]) {
                return window;
            }
        }
        return -2;
    }

    public int later(int shard, int ticks, int k) {
        if (!shardIs(shard) || !in(ticks, 0, 9999) || k < -1) {
            return -1;
        }
        All then = all.copy();
        then.tick += ticks;
        return kth(then.sampleOf(shard), k);
    }

    public int enters(int item) {
        if (!itemIs(item)) {
            return -1;
        }
        All then = all.copy();
        Item it = then.items.get(item);
        List<Item> rivals = rivals(it);
        return least(0, 10001, ticks -> {
            then.tick = all.tick + ticks;
            return then.alive(it) && rivals.stream().filter(then::alive).count() < then.size[it.shard];
        });
    }

    public int changes(int shard) {
        if (!shardIs(shard)) {
            return -1;
        }
        List<Item> now = all.sampleOf(shard);
        All then = all.copy();
        then.items = all.items;
        List<Item> undropped = those(each -> !each.dropped && each.shard == shard);
        undropped.sort(AHEAD);
        return least(1, 10001, ticks -> {
            then.tick = all.tick + ticks;
            List<Item> sample = new ArrayList<>();
            for (Item item : undropped) {
                if (then.alive(item) && sample.size() < then.size[shard]) {
                    sample.add(item);
                }
            }
            return !sample.equals(now);
        });
    }

    // Played again

    private List<Item> asItWas(Item at, boolean withIt) {
        List<Item> found = those(each -> !each.dropped && each.shard == at.shard && each.number <= at.number
            && (withIt || each != at)
            && (all.window[at.shard] == 0 || each.time > at.time - all.window[at.shard]));
        found.sort(AHEAD);
        return firstOf(found, all.size[at.shard]);
    }

    public int then(int item, int k) {
        if (!itemIs(item) || k < -1) {
            return -1;
        }
        return all.items.get(item).dropped ? -2 : kth(asItWas(all.items.get(item), true), k);
    }

    public int played(int shard, int what) {
        if (!shardIs(shard) || !in(what, 0, 1)) {
            return -1;
        }
        int n = 0;
        for (Item item : those(each -> !each.dropped && each.shard == shard)) {
            List<Item> behind = asItWas(item, true);
            boolean counted = what == 0 ? behind.contains(item) : !behind.containsAll(asItWas(item, false));
            n += counted ? 1 : 0;
        }
        return n;
    }

    public int outBy(int item) {
        if (!itemIs(item)) {
            return -1;
        }
        Item it = all.items.get(item);
        for (Item by : those(each -> !each.dropped && each.shard == it.shard)) {
            if (by != it && asItWas(by, false).contains(it) && !asItWas(by, true).contains(it)) {
                return by.number;
            }
        }
        return -2;
    }

    // Counts

    private static int weightsOf(List<Item> items) {
        return items.stream().mapToInt(each -> each.weight).sum();
    }

    public int labels(int shard, int label, int what) {
        if (!shardIs(shard) || !labelIs(label) || !in(what, 0, 3)) {
            return -1;
        }
        List<Item> alive = those(each -> each.shard == shard && each.label == label && all.alive(each));
        return switch (what) {
            case 0 -> alive.size();
            case 1 -> weightsOf(alive);
            case 2 -> labelsOfSample(shard)[label];
            default -> those(each -> each.shard == shard && each.label == label && !each.dropped).size();
        };
    }

    public int total(int shard, int what) {
        if (!shardIs(shard) || !in(what, 0, 5)) {
            return -1;
        }
        return switch (what) {
            case 0 -> all.aliveOf(shard).size();
            case 1 -> weightsOf(all.aliveOf(shard));
            case 2 -> weightsOf(all.sampleOf(shard));
            case 3 -> those(each -> each.shard == shard && !each.dropped).size();
            case 4 -> all.size[shard];
            default -> all.window[shard];
        };
    }

    public int mode(int shard) {
        if (!shardIs(shard)) {
            return -1;
        }
        int[] n = labelsOfSample(shard);
        int most = Arrays.stream(n).max().getAsInt();
        return most == 0 ? -2 : least(0, 25, label -> n[label] == most);
    }

    public int unlike(int shard, int other) {
        if (!shardIs(shard) || !shardIs(other)) {
            return -1;
        }
        int sum = 0;
        for (int label = 0; label < 26; label++) {
            sum += Math.abs(labelsOfSample(shard)[label] - labelsOfSample(other)[label]);
        }
        return sum;
    }

    public int same(int shelf, int shard) {
        if (!in(shelf, 0, 1) || !shardIs(shard)) {
            return -1;
        }
        if (shelves[shelf] == null) {
            return -2;
        }
        List<Integer> now = all.sampleOf(shard).stream().map(each -> each.number).toList();
        List<Integer> kept = shelves[shelf].sampleOf(shard).stream().map(each -> each.number).toList();
        return now.equals(kept) ? 1 : 0;
    }

    private static void waits(List<String> statements, int ticks) {
        int rest = ticks;
        while (rest > 9999) {
            statements.add("wait 9999");
            rest -= 9999;
        }
        if (rest > 0) {
            statements.add("wait " + rest);
        }
    }

    String text() {
        List<String> statements = new ArrayList<>();
        for (int shard = 0; shard < 4; shard++) {
            statements.add("size " + shard + " " + all.size[shard]);
            statements.add("window " + shard + " " + all.window[shard]);
        }
        int tick = 0;
        for (Item item : those(each -> !each.dropped)) {
            waits(statements, item.time - tick);
            tick = item.time;
            statements.add("key " + item.shard + " " + (char) ('a' + item.label) + " " + item.weight + " " + item.lot);
        }
        waits(statements, all.tick - tick);
        statements.add("seed " + all.seed);
        return String.join(";", statements);
    }

    public int told(int k) {
        String text = text();
        return k < -1 ? -1 : k == -1 ? text.length() : k < text.length() ? text.charAt(k) : -2;
    }

    public long digest() {
        long sum = 17;
        for (Item item : all.items) {
            for (int n : new int[] {item.dropped ? 4 : item.shard, item.label, item.weight, item.lot, item.time}) {
                sum = sum * 31 + n;
            }
        }
        return sum;
    }

    public int count(int what) {
        if (!in(what, 0, 7)) {
            return -1;
        }
        return switch (what) {
            case 0 -> all.items.size();
            case 1 -> those(each -> !each.dropped).size();
            case 2 -> all.tick;
            case 3 -> all.seed;
            case 4 -> past.size();
            case 5 -> tape.size();
            case 6 -> (shelves[0] == null ? 0 : 1) + (shelves[1] == null ? 0 : 2);
            default -> those(all::alive).size();
        };
    }
}
