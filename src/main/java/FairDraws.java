/** Fair draws from a stream with weights. The document's numbered promises tell what each call does. */
public final class FairDraws {
    public static final int NONE = -1;

    /** The answer -2, which each promise tells in words of its own. */
    private static final int NOT_SO = -2;

    private static final int SHARDS = 4;
    private static final int SHELVES = 2;
    private static final int LABELS = 26;
    private static final int MAX_ITEMS = 100;
    private static final int MAX_WEIGHT = 20;
    private static final int MAX_LOT = 1023;
    private static final int LOT_PARTS = 1024;
    private static final int FIRST_SIZE = 4;
    private static final int MAX_SIZE = 12;
    private static final int MAX_WINDOW = 9999;
    private static final int MAX_PASS = 9999;
    private static final int MAX_TICK = 99999;
    private static final int FIRST_SEED = 1;
    private static final int MAX_SEED = 65535;
    private static final int MAX_TAPE = 400;
    private static final int FED_AT_ONCE = 20;
    private static final int MAX_TIMES = 50;
    private static final int MAX_UNDONE = 10;
    private static final int MAX_TRIED = 1000;
    private static final int MAX_MERGED = 24;
    private static final int MAX_PARTS = 1000;
    private static final int ANY = -1;

    /** Halved down to 1, its sums reach every number up to 1023: lots, and parts by up to 1000. */
    private static final int FIRST_STEP = 512;

    private final State state = new State();
    private final History history = new History();
    private final Tape tape = new Tape();
    private final State[] shelves = new State[SHELVES];
    private final Sampler sampler = new Sampler();
    private final Sampler secondSampler = new Sampler();
    private final Teller teller = new Teller();
    private int keptShelves = 0;

    public FairDraws() {
        for (int shelf = 0; shelf < SHELVES; shelf++) {
            shelves[shelf] = new State();
        }
    }

    // The tape

    public int feed(int a, int b, int c, int d, int e) {
        if (tape.length > MAX_TAPE - FED_AT_ONCE) {
            return NONE;
        }
        tape.append(a);
        tape.append(b);
        tape.append(c);
        tape.append(d);
        tape.append(e);
        return tape.length;
    }

    public int end(int n) {
        if (!isWithin(n, 0, tape.length)) {
            return NONE;
        }
        tape.length = n;
        return n;
    }

    public int tell() {
        int fault = tape.read();
        tape.length = 0;
        if (fault != NONE) {
            return NOT_SO - fault;
        }
        state.copyFrom(tape.draft);
        state.rankAll();
        history.clear();
        return state.came;
    }

    // Acts

    public int come(int shard, int label, int weight) {
        if (!isShard(shard) || !isLabel(label) || !isWeight(weight)) {
            return NONE;
        }
        if (state.came >= MAX_ITEMS) {
            return NOT_SO;
        }
        history.add(state);
        return state.addRanked(shard, label, weight, state.drawLot());
    }

    public int put(int shard, int label, int weight, int lot) {
        if (!isShard(shard) || !isLabel(label) || !isWeight(weight) || !isLot(lot)) {
            return NONE;
        }
        if (state.came >= MAX_ITEMS) {
            return NOT_SO;
        }
        history.add(state);
        return state.addRanked(shard, label, weight, lot);
    }

    public int pass(int ticks) {
        if (!isWithin(ticks, 1, MAX_PASS)) {
            return NONE;
        }
        if (state.tick + ticks > MAX_TICK) {
            return NOT_SO;
        }
        history.add(state);
        state.tick += ticks;
        return state.tick;
    }

    public int size(int shard, int n) {
        if (!isShard(shard) || !isWithin(n, 1, MAX_SIZE)) {
            return NONE;
        }
        int was = state.sizes[shard];
        if (was == n) {
            return NOT_SO;
        }
        history.add(state);
        state.sizes[shard] = n;
        return was;
    }

    public int window(int shard, int n) {
        if (!isShard(shard) || !isWithin(n, 0, MAX_WINDOW)) {
            return NONE;
        }
        int was = state.windows[shard];
        if (was == n) {
            return NOT_SO;
        }
        history.add(state);
        state.windows[shard] = n;
        return was;
    }

    public int weigh(int item, int weight) {
        if (!state.hasUndropped(item) || !isWeight(weight)) {
            return NONE;
        }
        int was = state.weightOf[item];
        if (was == weight) {
            return NOT_SO;
        }
        history.add(state);
        state.weightOf[item] = weight;
        state.rankAll();
        return was;
    }

    public int again(int item) {
        if (!state.hasUndropped(item)) {
            return NONE;
        }
        history.add(state);
        int lot = state.drawLot();
        state.lotOf[item] = lot;
        state.rankAll();
        return lot;
    }

    public int drop(int item) {
        if (!state.hasUndropped(item)) {
            return NONE;
        }
        history.add(state);
        state.isDropped[item] = true;
        return state.countUndropped(state.shardOf[item], ANY);
    }

    public int move(int item, int shard) {
        if (!state.hasUndropped(item) || !isShard(shard)) {
            return NONE;
        }
        int was = state.shardOf[item];
        if (was == shard) {
            return NOT_SO;
        }
        history.add(state);
        state.shardOf[item] = shard;
        return was;
    }

    public int merge(int from, int to) {
        if (!isShard(from) || !isShard(to) || from == to) {
            return NONE;
        }
        return moveAll(from, ANY, to);
    }

    public int rename(int label, int other) {
        if (!isLabel(label) || !isLabel(other) || label == other) {
            return NONE;
        }
        int n = state.countUndropped(ANY, label);
        if (n == 0) {
            return NOT_SO;
        }
        history.add(state);
        for (int item = 0; item < state.came; item++) {
            if (state.isUndroppedOf(item, ANY, label)) {
                state.labelOf[item] = other;
            }
        }
        return n;
    }

    public int thin(int shard) {
        if (!isShard(shard)) {
            return NONE;
        }
        sampler.take(state, shard);
        int n = state.countUndropped(shard, ANY) - sampler.n;
        if (n == 0) {
            return NOT_SO;
        }
        history.add(state);
        for (int item = 0; item < state.came; item++) {
            if (state.isUndroppedOf(item, shard, ANY) && sampler.placeOf(item) == NONE) {
                state.isDropped[item] = true;
            }
        }
        return n;
    }

    public int swap(int item, int other) {
        if (!state.hasUndropped(item) || !state.hasUndropped(other) || item == other) {
            return NONE;
        }
        int lot = state.lotOf[item];
        if (lot == state.lotOf[other]) {
            return NOT_SO;
        }
        history.add(state);
        state.lotOf[item] = state.lotOf[other];
        state.lotOf[other] = lot;
        state.rankAll();
        return 1;
    }

    public int weighAll(int shard, int n) {
        if (!isShard(shard) || !isWithin(n, 2, MAX_WEIGHT)) {
            return NONE;
        }
        int changed = 0;
        for (int item = 0; item < state.came; item++) {
            if (state.isUndroppedOf(item, shard, ANY) && state.weightOf[item] < MAX_WEIGHT) {
                changed++;
            }
        }
        if (changed == 0) {
            return NOT_SO;
        }
        history.add(state);
        for (int item = 0; item < state.came; item++) {
            if (state.isUndroppedOf(item, shard, ANY)) {
                state.weightOf[item] = Math.min(state.weightOf[item] * n, MAX_WEIGHT);
            }
        }
        state.rankAll();
        return changed;
    }

    public int split(int shard, int label, int to) {
        if (!isShard(shard) || !isLabel(label) || !isShard(to) || shard == to) {
            return NONE;
        }
        return moveAll(shard, label, to);
    }

    public int purge() {
        int n = state.countUndropped(ANY, ANY) - state.countAlive(ANY, ANY);
        if (n == 0) {
            return NOT_SO;
        }
        history.add(state);
        for (int item = 0; item < state.came; item++) {
            if (!state.isAlive(item)) {
                state.isDropped[item] = true;
            }
        }
        return n;
    }

    public int seed(int n) {
        if (!isWithin(n, 0, MAX_SEED)) {
            return NONE;
        }
        int was = state.seed;
        if (was == n) {
            return NOT_SO;
        }
        history.add(state);
        state.seed = n;
        return was;
    }

    private int moveAll(int from, int label, int to) {
        int n = state.countUndropped(from, label);
        if (n == 0) {
            return NOT_SO;
        }
        history.add(state);
        for (int item = 0; item < state.came; item++) {
            if (state.isUndroppedOf(item, from, label)) {
                state.shardOf[item] = to;
            }
        }
        return n;
    }

    // Undone, kept

    public int undo() {
        if (!history.restore(state)) {
            return NONE;
        }
        return history.length;
    }

    public int keep(int shelf) {
        if (!isShelf(shelf)) {
            return NONE;
        }
        shelves[shelf].copyFrom(state);
        keptShelves |= 1 << shelf;
        return state.came;
    }

    public int back(int shelf) {
        if (!isShelf(shelf)) {
            return NONE;
        }
        if (!isKept(shelf)) {
            return NOT_SO;
        }
        state.copyFrom(shelves[shelf]);
        history.clear();
        return state.came;
    }

    // Items and keys

    public int of(int item, int what) {
        if (!state.hasItem(item)) {
            return NONE;
        }
        switch (what) {
            case 0:
                return state.shardOf[item];
            case 1:
                return state.labelOf[item];
            case 2:
                return state.weightOf[item];
            case 3:
                return state.lotOf[item];
            case 4:
                return state.timeOf[item];
            case 5:
                return lifeOf(item);
            case 6:
                return aheadInSample(item);
            case 7:
                return aheadOfAlive(item);
            default:
                return NONE;
        }
    }

    public int order(int item, int other) {
        if (!state.hasItem(item) || !state.hasItem(other)) {
            return NONE;
        }
        int sign = state.compareKeys(item, other);
        if (sign == 0) {
            return 0;
        }
        return sign > 0 ? 1 : 2;
    }

    public int part(int item, int n) {
        if (!state.hasItem(item) || !isWithin(n, 1, MAX_PARTS)) {
            return NONE;
        }
        int parts = 0;
        for (int step = FIRST_STEP; step > 0; step >>= 1) {
            if (parts + step <= n && state.isPartOfKey(parts + step, n, item)) {
                parts += step;
            }
        }
        return parts;
    }

    private int lifeOf(int item) {
        if (state.isAlive(item)) {
            return 2;
        }
        return state.isDropped[item] ? 0 : 1;
    }

    private int aheadInSample(int item) {
        sampler.take(state, state.shardOf[item]);
        int place = sampler.placeOf(item);
        return place == NONE ? NOT_SO : place;
    }

    private int aheadOfAlive(int item) {
        sampler.ask(state, state.shardOf[item]);
        sampler.most = MAX_ITEMS;
        sampler.fill(state);
        int place = sampler.placeOf(item);
        return place == NONE ? NOT_SO : place;
    }

    // Samples

    public int sample(int shard, int k) {
        if (!isShard(shard) || k < NONE) {
            return NONE;
        }
        sampler.take(state, shard);
        return sampler.kth(k);
    }

    public int merged(int set, int n, int k) {
        if (!isSet(set) || !isWithin(n, 1, MAX_MERGED) || k < NONE) {
            return NONE;
        }
        takeMerged(set, n);
        return sampler.kth(k);
    }

    public int partOf(int set, int n, int shard) {
        if (!isSet(set) || !isWithin(n, 1, MAX_MERGED) || !isShard(shard)) {
            return NONE;
        }
        takeMerged(set, n);
        int parts = 0;
        for (int k = 0; k < sampler.n; k++) {
            if (state.shardOf[sampler.found[k]] == shard) {
                parts++;
            }
        }
        return parts;
    }

    public int capped(int shard, int m, int k) {
        if (!isShard(shard) || !isWithin(m, 1, MAX_SIZE) || k < NONE) {
            return NONE;
        }
        sampler.ask(state, shard);
        sampler.cap = m;
        sampler.fill(state);
        return sampler.kth(k);
    }

    public int last(int shard) {
        if (!isShard(shard)) {
            return NONE;
        }
        return lastOfFull(shard);
    }

    private void takeMerged(int set, int n) {
        sampler.ask(state, 0);
        sampler.set = set;
        sampler.most = n;
        sampler.fill(state);
    }

    /** The last one of a full sample, the one that a new item must get ahead of; NOT_SO: there is room. */
    private int lastOfFull(int shard) {
        sampler.take(state, shard);
        if (sampler.n < sampler.most) {
            return NOT_SO;
        }
        return sampler.lastOne();
    }

    // By which lot, weight one would be in

    public int needs(int shard, int weight) {
        if (!isShard(shard) || !isWeight(weight)) {
            return NONE;
        }
        int lot = leastLotForSample(shard, weight);
        return lot > MAX_LOT ? NOT_SO : lot;
    }

    public int heavy(int shard, int lot) {
        if (!isShard(shard) || !isLot(lot)) {
            return NONE;
        }
        int rival = lastOfFull(shard);
        for (int weight = 1; weight <= MAX_WEIGHT; weight++) {
            if (rival == NOT_SO || state.compareToKey(lot, weight, rival) > 0) {
                return weight;
            }
        }
        return NOT_SO;
    }

    public int skip(int shard, int weight) {
        if (!isShard(shard) || !isWeight(weight)) {
            return NONE;
        }
        int least = leastLotForSample(shard, weight);
        int seed = state.seed;
        for (int k = 0; k < MAX_TRIED; k++) {
            seed = seedOfNextLot(seed);
            if (lotOfSeed(seed) >= least) {
                return k;
            }
        }
        return NOT_SO;
    }

    public int lots(int item, int weight) {
        if (!state.hasItem(item) || !isWeight(weight)) {
            return NONE;
        }
        if (state.isDropped[item]) {
            return NOT_SO;
        }
        return MAX_LOT + 1 - leastLotAhead(weight, item);
    }

    public int nextLot(int k) {
        if (!isWithin(k, 0, MAX_TRIED - 1)) {
            return NONE;
        }
        int seed = state.seed;
        for (int drawn = 0; drawn <= k; drawn++) {
            seed = seedOfNextLot(seed);
        }
        return lotOfSeed(seed);
    }

    private int leastLotForSample(int shard, int weight) {
        int rival = lastOfFull(shard);
        return rival == NOT_SO ? 1 : leastLotAhead(weight, rival);
    }

    /** The least lot by which a new item of a weight gets ahead of an item; MAX_LOT + 1: none does. */
    private int leastLotAhead(int weight, int item) {
        int behind = 0;
        for (int step = FIRST_STEP; step > 0; step >>= 1) {
            if (behind + step <= MAX_LOT && state.compareToKey(behind + step, weight, item) <= 0) {
                behind += step;
            }
        }
        return behind + 1;
    }

    // Labels of samples

    public int kinds(int shard, int n) {
        if (!isShard(shard) || !isWithin(n, 1, MAX_SIZE)) {
            return NONE;
        }
        return kindsBySize(shard, n);
    }

    public int sizeForKinds(int shard, int m) {
        if (!isShard(shard) || !isWithin(m, 1, MAX_SIZE)) {
            return NONE;
        }
        for (int n = 1; n <= MAX_SIZE; n++) {
            if (kindsBySize(shard, n) >= m) {
                return n;
            }
        }
        return NOT_SO;
    }

    public int shared(int shard, int other) {
        if (!isShard(shard) || !isShard(other)) {
            return NONE;
        }
        sampler.take(state, shard);
        secondSampler.take(state, other);
        int bits = 0;
        for (int label = 0; label < LABELS; label++) {
            if (sampler.ofLabel[label] > 0 && secondSampler.ofLabel[label] > 0) {
                bits |= 1 << label;
            }
        }
        return bits;
    }

    private int kindsBySize(int shard, int n) {
        sampler.ask(state, shard);
        sampler.most = n;
        sampler.fill(state);
        int kinds = 0;
        for (int label = 0; label < LABELS; label++) {
            if (sampler.ofLabel[label] > 0) {
                kinds++;
            }
        }
        return kinds;
    }

    // What would be, what expires, who comes in then

    public int without(int item, int k) {
        if (!state.hasItem(item) || k < NONE) {
            return NONE;
        }
        if (state.isDropped[item]) {
            return NOT_SO;
        }
        takeWithout(item);
        return sampler.kth(k);
    }

    public int expired(int shard, int k) {
        if (!isShard(shard) || k < NONE) {
            return NONE;
        }
        int n = 0;
        for (int item = 0; item < state.came; item++) {
            if (state.isUndroppedOf(item, shard, ANY) && !state.isAlive(item)) {
                if (n == k) {
                    return item;
                }
                n++;
            }
        }
        return k == NONE ? n : NOT_SO;
    }

    public int busiest(int ticks, int what) {
        if (!isWithin(ticks, 1, MAX_PASS) || !isWithin(what, 0, 1)) {
            return NONE;
        }
        int most = 0;
        int first = NOT_SO;
        for (int item = 0; item < state.came; item++) {
            int from = state.timeOf[item];
            int n = state.countUndroppedBetween(from, from + ticks - 1);
            // Items come one behind the other, so of like ones the first that is met has the least tick.
            if (!state.isDropped[item] && n > most) {
                most = n;
                first = from;
            }
        }
        return what == 0 ? most : first;
    }

    public int weightFor(int item) {
        if (!state.hasItem(item)) {
            return NONE;
        }
        if (!state.isAlive(item)) {
            return NOT_SO;
        }
        takeWithout(item);
        for (int weight = 1; weight <= MAX_WEIGHT; weight++) {
            if (sampler.n < sampler.most || state.wouldBeAhead(item, weight, sampler.lastOne())) {
                return weight;
            }
        }
        return NOT_SO;
    }

    public int sizeFor(int item) {
        if (!state.hasItem(item)) {
            return NONE;
        }
        int ahead = aheadOfAlive(item);
        return ahead == NOT_SO || ahead >= MAX_SIZE ? NOT_SO : ahead + 1;
    }

    public int windowFor(int item) {
        if (!state.hasItem(item)) {
            return NONE;
        }
        if (state.isDropped[item]) {
            return NOT_SO;
        }
        int rivalTime = rivalTime(item);
        int window = rivalTime == NONE ? MAX_WINDOW : Math.min(state.tick - rivalTime, MAX_WINDOW);
        return state.timeOf[item] > state.tick - window ? window : NOT_SO;
    }

    public int later(int shard, int ticks, int k) {
        if (!isShard(shard) || !isWithin(ticks, 0, MAX_PASS) || k < NONE) {
            return NONE;
        }
        sampler.ask(state, shard);
        sampler.tick = state.tick + ticks;
        sampler.fill(state);
        return sampler.kth(k);
    }

    public int enters(int item) {
        if (!state.hasItem(item)) {
            return NONE;
        }
        if (!state.isAlive(item)) {
            return NOT_SO;
        }
        int rivalTime = rivalTime(item);
        int window = state.windows[state.shardOf[item]];
        if (rivalTime == NONE || window > 0 && rivalTime <= state.tick - window) {
            return 0;
        }
        // All who came at one tick expire at once: the item must have come later than its rival.
        return window > 0 && state.timeOf[item] > rivalTime ? rivalTime + window - state.tick : NOT_SO;
    }

    public int changes(int shard) {
        if (!isShard(shard)) {
            return NONE;
        }
        int window = state.windows[shard];
        sampler.take(state, shard);
        if (window == 0 || sampler.n == 0) {
            return NOT_SO;
        }
        int first = MAX_TICK;
        for (int k = 0; k < sampler.n; k++) {
            first = Math.min(first, state.timeOf[sampler.found[k]]);
        }
        return first + window - state.tick;
    }

    private void takeWithout(int item) {
        sampler.ask(state, state.shardOf[item]);
        sampler.leftOut = item;
        sampler.fill(state);
    }

    /**
     * The time of the one of the items of its shard that are not dropped and ahead of it, behind which, the latest
     * first, there are as many as the size tells: while that one is alive, the item is not in the sample.
     * NONE: there are fewer.
     */
    private int rivalTime(int item) {
        int shard = state.shardOf[item];
        int n = 0;
        for (int rival = state.came - 1; rival >= 0; rival--) {
            if (rival != item && state.isUndroppedOf(rival, shard, ANY) && state.isAhead(rival, item)) {
                n++;
                if (n == state.sizes[shard]) {
                    return state.timeOf[rival];
                }
            }
        }
        return NONE;
    }

    // Played again

    public int then(int item, int k) {
        if (!state.hasItem(item) || k < NONE) {
            return NONE;
        }
        if (state.isDropped[item]) {
            return NOT_SO;
        }
        askThen(item);
        sampler.fill(state);
        return sampler.kth(k);
    }

    public int played(int shard, int what) {
        if (!isShard(shard) || !isWithin(what, 0, 1)) {
            return NONE;
        }
        int n = 0;
        for (int item = 0; item < state.came; item++) {
            if (state.isUndroppedOf(item, shard, ANY)) {
                int out = putOutBy(item);
                // Where there was room (NOT_SO), it came in and put nobody out.
                if (out >= 0 || what == 0 && out == NOT_SO) {
                    n++;
                }
            }
        }
        return n;
    }

    public int outBy(int item) {
        if (!state.hasItem(item)) {
            return NONE;
        }
        if (state.isDropped[item]) {
            return NOT_SO;
        }
        for (int next = item + 1; next < state.came; next++) {
            if (state.isUndroppedOf(next, state.shardOf[item], ANY) && putOutBy(next) == item) {
                return next;
            }
        }
        return NOT_SO;
    }

    private void askThen(int item) {
        sampler.ask(state, state.shardOf[item]);
        sampler.upTo = item;
        sampler.tick = state.timeOf[item];
    }

    /** Whom an item put out of the sample as it was; NOT_SO: there was room for it; NONE: it didn't come in. */
    private int putOutBy(int item) {
        askThen(item);
        sampler.leftOut = item;
        sampler.fill(state);
        if (sampler.n < sampler.most) {
            return NOT_SO;
        }
        int last = sampler.lastOne();
        return state.isAhead(item, last) ? last : NONE;
    }

    // Counts

    public int labels(int shard, int label, int what) {
        if (!isShard(shard) || !isLabel(label)) {
            return NONE;
        }
        switch (what) {
            case 0:
                return state.countAlive(shard, label);
            case 1:
                return state.weightAlive(shard, label);
            case 2:
                sampler.take(state, shard);
                return sampler.ofLabel[label];
            case 3:
                return state.countUndropped(shard, label);
            default:
                return NONE;
        }
    }

    public int total(int shard, int what) {
        if (!isShard(shard)) {
            return NONE;
        }
        switch (what) {
            case 0:
                return state.countAlive(shard, ANY);
            case 1:
                return state.weightAlive(shard, ANY);
            case 2:
                return weightOfSample(shard);
            case 3:
                return state.countUndropped(shard, ANY);
            case 4:
                return state.sizes[shard];
            case 5:
                return state.windows[shard];
            default:
                return NONE;
        }
    }

    public int mode(int shard) {
        if (!isShard(shard)) {
            return NONE;
        }
        sampler.take(state, shard);
        int most = 0;
        int first = NOT_SO;
        for (int label = 0; label < LABELS; label++) {
            if (sampler.ofLabel[label] > most) {
                most = sampler.ofLabel[label];
                first = label;
            }
        }
        return first;
    }

    public int unlike(int shard, int other) {
        if (!isShard(shard) || !isShard(other)) {
            return NONE;
        }
        sampler.take(state, shard);
        secondSampler.take(state, other);
        int sum = 0;
        for (int label = 0; label < LABELS; label++) {
            sum += Math.abs(sampler.ofLabel[label] - secondSampler.ofLabel[label]);
        }
        return sum;
    }

    public int same(int shelf, int shard) {
        if (!isShelf(shelf) || !isShard(shard)) {
            return NONE;
        }
        if (!isKept(shelf)) {
            return NOT_SO;
        }
        sampler.take(state, shard);
        secondSampler.take(shelves[shelf], shard);
        return sampler.isLike(secondSampler) ? 1 : 0;
    }

    public int told(int k) {
        if (k < NONE) {
            return NONE;
        }
        return teller.kth(state, k);
    }

    public long digest() {
        long sum = 17;
        for (int item = 0; item < state.came; item++) {
            sum = 31 * sum + (state.isDropped[item] ? SHARDS : state.shardOf[item]);
            sum = 31 * sum + state.labelOf[item];
            sum = 31 * sum + state.weightOf[item];
            sum = 31 * sum + state.lotOf[item];
            sum = 31 * sum + state.timeOf[item];
        }
        return sum;
    }

    public int count(int what) {
        switch (what) {
            case 0:
                return state.came;
            case 1:
                return state.countUndropped(ANY, ANY);
            case 2:
                return state.tick;
            case 3:
                return state.seed;
            case 4:
                return history.length;
            case 5:
                return tape.length;
            case 6:
                return keptShelves;
            case 7:
                return state.countAlive(ANY, ANY);
            default:
                return NONE;
        }
    }

    private int weightOfSample(int shard) {
        sampler.take(state, shard);
        int sum = 0;
        for (int k = 0; k < sampler.n; k++) {
            sum += state.weightOf[sampler.found[k]];
        }
        return sum;
    }

    // What the arguments may be

    private static boolean isWithin(int n, int least, int most) {
        return n >= least && n <= most;
    }

    private static boolean isShard(int shard) {
        return isWithin(shard, 0, SHARDS - 1);
    }

    private static boolean isSet(int set) {
        return isWithin(set, 1, (1 << SHARDS) - 1);
    }

    private static boolean isLabel(int label) {
        return isWithin(label, 0, LABELS - 1);
    }

    private static boolean isWeight(int weight) {
        return isWithin(weight, 1, MAX_WEIGHT);
    }

    private static boolean isLot(int lot) {
        return isWithin(lot, 1, MAX_LOT);
    }

    private static boolean isShelf(int shelf) {
        return isWithin(shelf, 0, SHELVES - 1);
    }

    private boolean isKept(int shelf) {
        return (keptShelves >> shelf & 1) == 1;
    }

    // Lots are drawn

    /** The seed by which the next lot is drawn: the first one from here on whose lot is not 0. */
    private static int seedOfNextLot(int seed) {
        int next = seed;
        // Of any 65536 seeds one behind the other each stands there once, so 65 would do.
        for (int tries = 0; tries <= MAX_SEED; tries++) {
            next = (25173 * next + 13849) & MAX_SEED;
            if (lotOfSeed(next) > 0) {
                break;
            }
        }
        return next;
    }

    private static int lotOfSeed(int seed) {
        return seed >> 6;
    }

    /** Compares keys exactly: numbers of up to 210 bits are held in rows of limbs, the lowest first. */
    private static final class Keys {
        private static final int LIMBS = 5;
        private static final int LIMB_BITS = 50;
        private static final long LIMB_MASK = (1L << LIMB_BITS) - 1;

        private final long[] left = new long[LIMBS];
        private final long[] right = new long[LIMBS];

        /** The sign of one key less another one. */
        int compare(int lot, int weight, int otherLot, int otherWeight) {
            if (weight == otherWeight) {
                return Integer.compare(lot, otherLot);
            }
            // A lot's part is below 1, so its key grows with the weight as it does with the lot.
            if (lot == otherLot || (lot > otherLot) == (weight > otherWeight)) {
                return Integer.compare(weight, otherWeight);
            }
            int common = Math.min(weight, otherWeight);
            setToOne(left);
            multiply(left, lot, otherWeight);
            multiply(left, LOT_PARTS, weight - common);
            setToOne(right);
            multiply(right, otherLot, weight);
            multiply(right, LOT_PARTS, otherWeight - common);
            return compareRows();
        }

        /** Whether parts by n are no more than a key. */
        boolean isPart(int parts, int n, int lot, int weight) {
            setToOne(left);
            multiply(left, parts, weight);
            multiply(left, LOT_PARTS, 1);
            setToOne(right);
            multiply(right, n, weight);
            multiply(right, lot, 1);
            return compareRows() <= 0;
        }

        private static void setToOne(long[] row) {
            for (int limb = 0; limb < row.length; limb++) {
                row[limb] = limb == 0 ? 1 : 0;
            }
        }

        private static void multiply(long[] row, int factor, int times) {
            for (int n = 0; n < times; n++) {
                long carry = 0;
                for (int limb = 0; limb < row.length; limb++) {
                    long product = row[limb] * factor + carry;
                    row[limb] = product & LIMB_MASK;
                    carry = product >> LIMB_BITS;
                }
            }
        }

        private int compareRows() {
            for (int limb = LIMBS - 1; limb >= 0; limb--) {
                if (left[limb] != right[limb]) {
                    return Long.compare(left[limb], right[limb]);
                }
            }
            return 0;
        }
    }

    /** All there is but tape, shelves, and what can be undone. */
    private static final class State {
        private final Keys keys = new Keys();
        private final int[] shardOf = new int[MAX_ITEMS];
        private final int[] labelOf = new int[MAX_ITEMS];
        private final int[] weightOf = new int[MAX_ITEMS];
        private final int[] lotOf = new int[MAX_ITEMS];
        private final int[] timeOf = new int[MAX_ITEMS];
        private final boolean[] isDropped = new boolean[MAX_ITEMS];
        /** All items that came, dropped ones too, the first ahead. */
        private final int[] ranked = new int[MAX_ITEMS];
        private final int[] sizes = new int[SHARDS];
        private final int[] windows = new int[SHARDS];
        private int came;
        private int tick;
        private int seed;

        State() {
            reset();
        }

        void reset() {
            came = 0;
            tick = 0;
            seed = FIRST_SEED;
            for (int shard = 0; shard < SHARDS; shard++) {
                sizes[shard] = FIRST_SIZE;
                windows[shard] = 0;
            }
        }

        void copyFrom(State from) {
            came = from.came;
            tick = from.tick;
            seed = from.seed;
            for (int shard = 0; shard < SHARDS; shard++) {
                sizes[shard] = from.sizes[shard];
                windows[shard] = from.windows[shard];
            }
            for (int item = 0; item < came; item++) {
                shardOf[item] = from.shardOf[item];
                labelOf[item] = from.labelOf[item];
                weightOf[item] = from.weightOf[item];
                lotOf[item] = from.lotOf[item];
                timeOf[item] = from.timeOf[item];
                isDropped[item] = from.isDropped[item];
                ranked[item] = from.ranked[item];
            }
        }

        boolean hasItem(int item) {
            return isWithin(item, 0, came - 1);
        }

        boolean hasUndropped(int item) {
            return hasItem(item) && !isDropped[item];
        }

        int drawLot() {
            seed = seedOfNextLot(seed);
            return lotOfSeed(seed);
        }

        int addRanked(int shard, int label, int weight, int lot) {
            int item = add(shard, label, weight, lot);
            rank(item);
            return item;
        }

        /** Many that come at once are ranked when all are there; the caller has looked whether there is room. */
        int add(int shard, int label, int weight, int lot) {
            int item = came;
            shardOf[item] = shard;
            labelOf[item] = label;
            weightOf[item] = weight;
            lotOf[item] = lot;
            timeOf[item] = tick;
            isDropped[item] = false;
            came++;
            return item;
        }

        void rankAll() {
            for (int item = 0; item < came; item++) {
                rank(item);
            }
        }

        /** Puts an item among those of lesser numbers, which are ranked. */
        private void rank(int item) {
            int ahead = 0;
            for (int step = 64; step > 0; step >>= 1) {
                if (ahead + step <= item && isAhead(ranked[ahead + step - 1], item)) {
                    ahead += step;
                }
            }
            for (int place = item; place > ahead; place--) {
                ranked[place] = ranked[place - 1];
            }
            ranked[ahead] = item;
        }

        boolean isAhead(int item, int other) {
            return wouldBeAhead(item, weightOf[item], other);
        }

        boolean wouldBeAhead(int item, int weight, int other) {
            int sign = keys.compare(lotOf[item], weight, lotOf[other], weightOf[other]);
            return sign > 0 || sign == 0 && item < other;
        }

        int compareKeys(int item, int other) {
            return compareToKey(lotOf[item], weightOf[item], other);
        }

        int compareToKey(int lot, int weight, int other) {
            return keys.compare(lot, weight, lotOf[other], weightOf[other]);
        }

        boolean isPartOfKey(int parts, int n, int item) {
            return keys.isPart(parts, n, lotOf[item], weightOf[item]);
        }

        boolean isAlive(int item) {
            return isAliveAt(item, tick);
        }

        boolean isAliveAt(int item, int when) {
            int window = windows[shardOf[item]];
            return !isDropped[item] && (window == 0 || timeOf[item] > when - window);
        }

        boolean isUndroppedOf(int item, int shard, int label) {
            return !isDropped[item]
                && (shard == ANY || shardOf[item] == shard)
                && (label == ANY || labelOf[item] == label);
        }

        private boolean isAliveOf(int item, int shard, int label) {
            return isUndroppedOf(item, shard, label) && isAlive(item);
        }

        int countUndropped(int shard, int label) {
            int n = 0;
            for (int item = 0; item < came; item++) {
                if (isUndroppedOf(item, shard, label)) {
                    n++;
                }
            }
            return n;
        }

        int countUndroppedBetween(int first, int last) {
            int n = 0;
            for (int item = 0; item < came; item++) {
                if (!isDropped[item] && isWithin(timeOf[item], first, last)) {
                    n++;
                }
            }
            return n;
        }

        int countAlive(int shard, int label) {
            int n = 0;
            for (int item = 0; item < came; item++) {
                if (isAliveOf(item, shard, label)) {
                    n++;
                }
            }
            return n;
        }

        int weightAlive(int shard, int label) {
            int sum = 0;
            for (int item = 0; item < came; item++) {
                if (isAliveOf(item, shard, label)) {
                    sum += weightOf[item];
                }
            }
            return sum;
        }
    }

    /** The states ahead of the last acts, in rows that are used in turn. */
    private static final class History {
        private final State[] rows = new State[MAX_UNDONE];
        private int next = 0;
        private int length = 0;

        History() {
            for (int row = 0; row < MAX_UNDONE; row++) {
                rows[row] = new State();
            }
        }

        void add(State state) {
            rows[next].copyFrom(state);
            next = next + 1 < MAX_UNDONE ? next + 1 : 0;
            length = Math.min(length + 1, MAX_UNDONE);
        }

        boolean restore(State state) {
            if (length == 0) {
                return false;
            }
            next = next > 0 ? next - 1 : MAX_UNDONE - 1;
            length--;
            state.copyFrom(rows[next]);
            return true;
        }

        void clear() {
            length = 0;
        }
    }

    /** Makes samples: ask() sets what a shard's sample asks for, the caller changes some of it, fill() makes it. */
    private static final class Sampler {
        private final int[] found = new int[MAX_ITEMS];
        private final int[] ofLabel = new int[LABELS];
        private int n = 0;
        private int set;
        private int most;
        private int tick;
        private int upTo;
        private int leftOut;
        private int cap;

        void take(State state, int shard) {
            ask(state, shard);
            fill(state);
        }

        void ask(State state, int shard) {
            set = 1 << shard;
            most = state.sizes[shard];
            tick = state.tick;
            upTo = MAX_ITEMS;
            leftOut = NONE;
            cap = MAX_ITEMS;
        }

        void fill(State state) {
            n = 0;
            for (int label = 0; label < LABELS; label++) {
                ofLabel[label] = 0;
            }
            for (int place = 0; place < state.came && n < most; place++) {
                int item = state.ranked[place];
                int label = state.labelOf[item];
                if (isAskedFor(state, item) && ofLabel[label] < cap) {
                    found[n] = item;
                    n++;
                    ofLabel[label]++;
                }
            }
        }

        private boolean isAskedFor(State state, int item) {
            return (set >> state.shardOf[item] & 1) == 1
                && item <= upTo
                && item != leftOut
                && state.isAliveAt(item, tick);
        }

        int kth(int k) {
            if (k == NONE) {
                return n;
            }
            return k >= 0 && k < n ? found[k] : NOT_SO;
        }

        int lastOne() {
            return n > 0 ? found[n - 1] : NOT_SO;
        }

        int placeOf(int item) {
            for (int place = 0; place < n; place++) {
                if (found[place] == item) {
                    return place;
                }
            }
            return NONE;
        }

        boolean isLike(Sampler other) {
            boolean like = n == other.n;
            for (int place = 0; place < n && like; place++) {
                like = found[place] == other.found[place];
            }
            return like;
        }
    }

    /** The bytes that were fed, and the stream that they tell. */
    private static final class Tape {
        private static final int BYTE_OR_WORD = 1;
        private static final int NUMBER = 2;
        private static final int STATEMENT = 3;

        private final int[] bytes = new int[MAX_TAPE];
        private final State draft = new State();
        private int length = 0;
        private int at;
        private int fault;

        /** The four bytes of a number; the caller has looked whether there is room. */
        void append(int number) {
            for (int shift = 24; shift >= 0; shift -= 8) {
                bytes[length] = number >> shift & 255;
                length++;
            }
        }

        /** Reads the text into the draft, whose items are not ranked: the fault; NONE: there is none. */
        int read() {
            draft.reset();
            at = 0;
            fault = NONE;
            // No statement is shorter than a byte.
            for (int statements = 0; statements <= MAX_TAPE; statements++) {
                readStatement();
                skipBlanks();
                if (fault != NONE || at >= length) {
                    break;
                }
                if (bytes[at] != ';') {
                    meet(at, BYTE_OR_WORD);
                    break;
                }
                at++;
            }
            return fault;
        }

        private void readStatement() {
            skipBlanks();
            int start = at;
            if (takes("size")) {
                readSize();
            } else if (takes("window")) {
                readWindow();
            } else if (takes("seed")) {
                readSeed();
            } else if (takes("wait")) {
                readWait(start);
            } else if (takes("item")) {
                readItems(start);
            } else if (takes("key")) {
                readKey(start);
            } else {
                meet(start, BYTE_OR_WORD);
            }
        }

        private void readSize() {
            int shard = number(0, SHARDS - 1);
            int n = number(1, MAX_SIZE);
            if (fault == NONE) {
                draft.sizes[shard] = n;
            }
        }

        private void readWindow() {
            int shard = number(0, SHARDS - 1);
            int n = number(0, MAX_WINDOW);
            if (fault == NONE) {
                draft.windows[shard] = n;
            }
        }

        private void readSeed() {
            int n = number(0, MAX_SEED);
            if (fault == NONE) {
                draft.seed = n;
            }
        }

        private void readWait(int start) {
            int ticks = number(0, MAX_PASS);
            if (draft.tick + ticks > MAX_TICK) {
                meet(start, STATEMENT);
            }
            if (fault == NONE) {
                draft.tick += ticks;
            }
        }

        private void readItems(int start) {
            int shard = number(0, SHARDS - 1);
            int label = label();
            int weight = number(1, MAX_WEIGHT);
            int times = 1;
            if (takes("times")) {
                times = number(1, MAX_TIMES);
            }
            if (draft.came + times > MAX_ITEMS) {
                meet(start, STATEMENT);
            }
            for (int n = 0; n < times && fault == NONE; n++) {
                draft.add(shard, label, weight, draft.drawLot());
            }
        }

        private void readKey(int start) {
            int shard = number(0, SHARDS - 1);
            int label = label();
            int weight = number(1, MAX_WEIGHT);
            int lot = number(1, MAX_LOT);
            if (draft.came >= MAX_ITEMS) {
                meet(start, STATEMENT);
            }
            if (fault == NONE) {
                draft.add(shard, label, weight, lot);
            }
        }

        /** A number from least to most; least, where it is not as told. */
        private int number(int least, int most) {
            skipBlanks();
            int start = at;
            int value = 0;
            for (; at < length && isWithin(bytes[at], '0', '9'); at++) {
                // Digits may go on for the whole tape: no number that is told is above that of ticks.
                value = Math.min(10 * value + bytes[at] - '0', MAX_TICK + 1);
            }
            if (at == start) {
                meet(start, BYTE_OR_WORD);
            } else if (!isWithin(value, least, most)) {
                meet(start, NUMBER);
            }
            return fault == NONE ? value : least;
        }

        private int label() {
            skipBlanks();
            if (!isLetter(at) || isLetter(at + 1)) {
                meet(at, BYTE_OR_WORD);
                return 0;
            }
            int label = bytes[at] - 'a';
            at++;
            return label;
        }

        /** Goes on behind a word, if it stands there next and there was no fault. */
        private boolean takes(String word) {
            skipBlanks();
            int end = at + word.length();
            if (fault != NONE || end > length || isLetter(end)) {
                return false;
            }
            for (int sign = 0; sign < word.length(); sign++) {
                if (bytes[at + sign] != word.charAt(sign)) {
                    return false;
                }
            }
            at = end;
            return true;
        }

        private void skipBlanks() {
            while (at < length && bytes[at] == ' ') {
                at++;
            }
        }

        private boolean isLetter(int place) {
            return place < length && isWithin(bytes[place], 'a', 'z');
        }

        /** Only the first fault that is met counts. */
        private void meet(int place, int kind) {
            if (fault == NONE) {
                fault = 8 * place + kind;
            }
        }
    }

    /** Tells the stream as a text, of which it keeps the wanted byte alone. */
    private static final class Teller {
        private int wanted;
        private int heard;
        private int length;

        int kth(State state, int k) {
            wanted = k;
            heard = NOT_SO;
            length = 0;
            tellShards(state);
            int tick = 0;
            for (int item = 0; item < state.came; item++) {
                if (!state.isDropped[item]) {
                    tellWaits(state.timeOf[item] - tick);
                    tick = state.timeOf[item];
                    tellItem(state, item);
                }
            }
            tellWaits(state.tick - tick);
            tellWord("seed");
            tellNumber(state.seed);
            return k == NONE ? length : heard;
        }

        private void tellShards(State state) {
            for (int shard = 0; shard < SHARDS; shard++) {
                tellWord("size");
                tellNumber(shard);
                tellNumber(state.sizes[shard]);
                tellWord("window");
                tellNumber(shard);
                tellNumber(state.windows[shard]);
            }
        }

        private void tellItem(State state, int item) {
            tellWord("key");
            tellNumber(state.shardOf[item]);
            tellByte(' ');
            tellByte('a' + state.labelOf[item]);
            tellNumber(state.weightOf[item]);
            tellNumber(state.lotOf[item]);
        }

        private void tellWaits(int ticks) {
            for (int rest = ticks; rest > 0; rest -= MAX_PASS) {
                tellWord("wait");
                tellNumber(Math.min(rest, MAX_PASS));
            }
        }

        private void tellWord(String word) {
            if (length > 0) {
                tellByte(';');
            }
            for (int sign = 0; sign < word.length(); sign++) {
                tellByte(word.charAt(sign));
            }
        }

        private void tellNumber(int n) {
            tellByte(' ');
            for (int unit = 10000; unit > 0; unit /= 10) {
                if (n >= unit || unit == 1) {
                    tellByte('0' + n / unit % 10);
                }
            }
        }

        private void tellByte(int sign) {
            if (length == wanted) {
                heard = sign;
            }
            length++;
        }
    }
}
