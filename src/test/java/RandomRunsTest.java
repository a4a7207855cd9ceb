import java.lang.reflect.Method;
import java.nio.charset.StandardCharsets;
import java.util.ArrayList;
import java.util.List;
import java.util.Random;

/** Random runs of up to 512 calls, each call's answer held against the model's. The seeds are fixed. */
public final class RandomRunsTest {
    /** Each method with the kinds of its arguments: the ranges that the document names. */
    private static final String[] CALLS = {
        "come shard label weight", "come shard label weight", "come shard label weight", "come shard label weight",
        "put shard label weight lot", "put shard label weight lot", "put shard label weight lot",
        "pass ticks", "pass ticks", "size shard size", "window shard window", "window shard window",
        "weigh item weight", "again item", "drop item", "move item shard", "merge shard shard",
        "rename label label", "thin shard", "swap item item", "weighAll shard factor", "split shard label shard",
        "purge", "seed seed", "undo", "undo", "undo", "keep shelf", "back shelf", "feed any any any any any",
        "end tape", "tell",
        "of item what", "order item item", "part item parts", "sample shard k", "merged set merged k",
        "partOf set merged shard", "capped shard size k", "last shard", "needs shard weight", "heavy shard lot",
        "skip shard weight", "lots item weight", "nextLot far", "kinds shard size", "sizeForKinds shard size",
        "shared shard shard", "without item k", "expired shard k", "busiest ticks what", "weightFor item",
        "sizeFor item", "windowFor item", "later shard ticks k", "enters item", "changes shard", "then item k",
        "played shard bit", "outBy item", "labels shard label what", "total shard what", "mode shard",
        "unlike shard shard", "same shelf shard", "told far", "digest", "count what",
    };

    private final Random random;
    /** How far ticks, windows, labels go in this run: small worlds meet more often. */
    private final int span;
    private final int kinds;
    private final Model model = new Model();
    private final FairDraws draws = new FairDraws();
    private final StringBuilder trail = new StringBuilder();

    private RandomRunsTest(long seed) {
        random = new Random(seed);
        span = new int[] {3, 12, 60, 9999}[random.nextInt(4)];
        kinds = new int[] {2, 4, 26}[random.nextInt(3)];
    }

    public static void main(String[] args) throws Exception {
        int runs = args.length > 0 ? Integer.parseInt(args[0]) : 1500;
        int passed = 0;
        int failed = 0;
        for (int run = 0; run < runs && failed < 3; run++) {
            RandomRunsTest test = new RandomRunsTest(run);
            String wrong = test.play();
            if (wrong == null) {
                passed++;
            } else {
                failed++;
                System.out.println("run " + run + ":\n" + test.trail + "WRONG " + wrong);
            }
        }
        System.out.println("RandomRunsTest: " + passed + " passed, " + failed + " failed");
        if (failed > 0) {
            System.exit(1);
        }
    }

    private String play() throws Exception {
        int calls = 40 + random.nextInt(240);
        int texts = random.nextInt(4);
        for (int n = 0; n < calls; n++) {
            String wrong = random.nextInt(60) < texts || n == 0 && texts > 1 ? text() : call();
            if (wrong == null && model.digest() != draws.digest()) {
                wrong = "digest()";
            }
            if (wrong != null) {
                return wrong;
            }
        }
        return look();
    }

    /** At the end all that can be looked at is looked at. */
    private String look() throws Exception {
        for (int what = 0; what < 8; what++) {
            String wrong = same("count", what);
            if (wrong != null) {
                return wrong;
            }
        }
        String text = model.text();
        for (int k = -1; k <= text.length(); k++) {
            if (model.told(k) != draws.told(k)) {
                return "told(" + k + ") of " + text;
            }
        }
        return null;
    }

    private String call() throws Exception {
        String[] words = CALLS[random.nextInt(CALLS.length)].split(" ");
        int[] args = new int[words.length - 1];
        for (int n = 0; n < args.length; n++) {
            args[n] = argument(words[n + 1]);
        }
        return same(words[0], args);
    }

    private String same(String name, int... args) throws Exception {
        Class<?>[] types = new Class<?>[args.length];
        Object[] values = new Object[args.length];
        List<String> texts = new ArrayList<>();
        for (int n = 0; n < args.length; n++) {
            types[n] = int.class;
            values[n] = args[n];
            texts.add(String.valueOf(args[n]));
        }
        Method due = Model.class.getMethod(name, types);
        Method got = FairDraws.class.getMethod(name, types);
        long want = ((Number) due.invoke(model, values)).longValue();
        String call = name + "(" + String.join(", ", texts) + ")";
        long is;
        try {
            is = ((Number) got.invoke(draws, values)).longValue();
        } catch (java.lang.reflect.InvocationTargetException thrown) {
            return call + " threw " + thrown.getCause();
        }
        trail.append(call).append(" = ").append(is).append('\n');
        return is == want ? null : call + " answered " + is + ", due is " + want;
    }

    private int argument(String kind) {
        if (kind.equals("any")) {
            return random.nextInt(5) == 0 ? random.nextInt() : 0x20202020;
        }
        int least = kind.equals("k") ? -1 : "weight lot size parts ticks merged set".contains(kind) ? 1
            : kind.equals("factor") ? 2 : 0;
        int most = most(kind);
        switch (random.nextInt(50)) {
            case 0:
                return least - 1;
            case 1:
                return most + 1;
            case 2:
                return new int[] {Integer.MIN_VALUE, Integer.MAX_VALUE, -1, -2, 1 << 30}[random.nextInt(5)];
            case 3:
                return most;
            case 4:
                return least;
            default:
                int top = usual(kind, most);
                return least + random.nextInt(Math.max(1, top - least + 1));
        }
    }

    private int most(String kind) {
        switch (kind) {
            case "shard": return 3;
            case "label": return 25;
            case "weight": case "factor": return 20;
            case "lot": return 1023;
            case "ticks": case "window": return 9999;
            case "size": return 12;
            case "item": return model.count(0) - 1;
            case "seed": return 65535;
            case "shelf": case "bit": return 1;
            case "tape": return model.count(5);
            case "what": return 7;
            case "parts": return 1000;
            case "k": return 12;
            case "set": return 15;
            case "merged": return 24;
            case "far": return 999;
            default: throw new IllegalArgumentException(kind);
        }
    }

    private int usual(String kind, int most) {
        switch (kind) {
            case "shard": return random.nextInt(3) == 0 ? 3 : 1;
            case "label": return kinds - 1;
            case "ticks": case "window": return random.nextInt(6) == 0 ? most : span;
            case "weight": return random.nextInt(3) == 0 ? most : 3;
            case "factor": return random.nextInt(3) == 0 ? most : 3;
            case "k": return random.nextInt(2) == 0 ? 3 : most;
            default: return most;
        }
    }

    /** A text is fed and told; now and then one sign of it is wrong. */
    private String text() throws Exception {
        String text = random.nextInt(6) == 0 ? model.text() : statements();
        StringBuilder bytes = new StringBuilder(text.length() > 400 ? text.substring(0, 400) : text);
        if (random.nextInt(2) == 0 && bytes.length() > 0) {
            int at = random.nextInt(bytes.length());
            String signs = " ;09azAe\t" + (char) 233 + (char) 0;
            char sign = signs.charAt(random.nextInt(signs.length()));
            switch (random.nextInt(4)) {
                case 0: bytes.setCharAt(at, sign); break;
                case 1: bytes.insert(at, sign); break;
                case 2: bytes.deleteCharAt(at); break;
                default: bytes.setLength(at); break;
            }
        }
        if (bytes.length() > 400) {
            bytes.setLength(400);
        }
        trail.append("text ").append(bytes).append('\n');
        return feed(bytes.toString());
    }

    private String feed(String text) throws Exception {
        byte[] bytes = text.getBytes(StandardCharsets.ISO_8859_1);
        String wrong = same("end", 0);
        for (int from = 0; from < bytes.length && wrong == null; from += 20) {
            int[] numbers = new int[5];
            for (int n = 0; n < 20; n++) {
                int sign = from + n < bytes.length ? bytes[from + n] & 255 : 0;
                numbers[n / 4] |= sign << 24 - 8 * (n % 4);
            }
            wrong = same("feed", numbers);
        }
        if (wrong == null) {
            wrong = same("end", bytes.length);
        }
        return wrong == null ? same("tell") : wrong;
    }

    private String statements() {
        StringBuilder text = new StringBuilder();
        int n = 1 + random.nextInt(20);
        for (int k = 0; k < n; k++) {
            if (k > 0) {
                text.append(blanks()).append(';').append(blanks());
            }
            text.append(statement());
        }
        return text.toString();
    }

    private String blanks() {
        return random.nextInt(8) == 0 ? " ".repeat(random.nextInt(3)) : "";
    }

    private String gap() {
        return random.nextInt(12) == 0 ? "" : random.nextInt(12) == 0 ? "   " : " ";
    }

    private String statement() {
        char label = (char) ('a' + random.nextInt(kinds));
        switch (random.nextInt(8)) {
            case 0: return "size" + gap() + number("shard") + " " + number("size");
            case 1: return "window" + gap() + number("shard") + " " + number("window");
            case 2: return "seed" + gap() + number("seed");
            case 3: return "wait" + gap() + (random.nextInt(3) == 0 ? 9999 : number("ticks"));
            case 4: case 5: return item(label);
            default: return "key" + gap() + number("shard") + gap() + label + gap() + number("weight") + " "
                + number("lot");
        }
    }

    private String item(char label) {
        String item = "item" + gap() + number("shard") + gap() + label + gap() + number("weight");
        return random.nextInt(2) == 0 ? item
            : item + gap() + "times" + gap() + (random.nextInt(4) == 0 ? 1 + random.nextInt(50) : 1 + random.nextInt(6));
    }

    private String number(String kind) {
        return random.nextInt(30) == 0 ? "00" + Math.abs(argument(kind) % 100000) : valid(kind);
    }

    private String valid(String kind) {
        int n = argument(kind);
        return String.valueOf(random.nextInt(10) == 0 ? Math.abs((long) n) : Math.min(Math.max(n, 1), most(kind)));
    }
}
