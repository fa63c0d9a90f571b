import java.util.ArrayList;
import java.util.Arrays;
import java.util.Collections;
import java.util.HashMap;
import java.util.List;
import java.util.Map;
import java.util.Random;
import java.util.TreeSet;

/** Runs of 512 calls, by a fixed seed, against a slow kitchen that tries all ways there are. */
public final class RandomRunsTest {
    private static final int RUNS = 1000;
    private static final int CALLS = 512;

    public static void main(String[] args) {
        int runs = args.length > 0 ? Integer.parseInt(args[0]) : RUNS;
        int first = args.length > 1 ? Integer.parseInt(args[1]) : 0;
        int wrong = 0;
        long useful = 0;
        for (int run = first; run < first + runs && wrong < 10; run++) {
            Run one = new Run(run);
            if (!one.play() || !one.cookings() || !one.packings() || !one.orders()) {
                wrong++;
            }
            useful += one.useful;
        }
        System.out.println("random runs: " + runs + ", calls not answered by NONE or false: " + useful
                + ", runs with a wrong answer: " + wrong);
        if (wrong != 0) {
            System.exit(1);
        }
    }

    /** One run: a kitchen, a slow kitchen, and calls that are mostly possible. */
    private static final class Run {
        final int seed;
        final Random random;
        SugarKitchen x = new SugarKitchen();
        SlowKitchen slow = new SlowKitchen();
        final int style;
        final int[] weights;
        long useful;

        Run(int seed) {
            this.seed = seed;
            random = new Random(seed * 7919L + 17);
            style = random.nextInt(4);
            weights = new int[1 + random.nextInt(6)];
            int step = new int[] {1, 5, 10, 50}[random.nextInt(4)];
            for (int i = 0; i < weights.length; i++) {
                weights[i] = 10 + step * random.nextInt(style == 0 ? 6 : 30);
            }
        }

        boolean play() {
            for (int call = 0; call < CALLS; call++) {
                String[] name = new String[1];
                int[] answers = one(name, call);
                if (answers[0] != answers[1]) {
                    System.out.println("run " + seed + ", call " + call + ": " + name[0] + " answered "
                            + answers[0] + ", due is " + answers[1]);
                    return false;
                }
                if (answers[0] > 0) {
                    useful++;
                }
            }
            return true;
        }

        void begin() {
            x = new SugarKitchen();
            slow = new SlowKitchen();
        }

        boolean same(String call, int got, int want) {
            if (got != want) {
                System.out.println("run " + seed + ": " + call + " answered " + got + ", due is " + want);
            }
            if (got > 0) {
                useful++;
            }
            return got == want;
        }

        int newBatch(int kind, int mass) {
            x.lot(mass, 0);
            x.batch(kind);
            int lot = slow.lot(mass, 0);
            int batch = slow.batch(kind);
            x.put(batch, lot, mass);
            slow.put(batch, lot, mass);
            return batch;
        }

        void makeGood(int batch) {
            x.cook(batch, 1);
            x.vouch(batch);
            slow.cook(batch, 1);
            slow.vouch(batch);
        }

        /** Batches with all of their rows told, cooked, and all that is told of them. */
        boolean cookings() {
            begin();
            for (int i = 0; i < 12; i++) {
                int batch = newBatch(random.nextInt(6), 1 + random.nextInt(5000));
                int length = random.nextInt(9);
                int stirred = random.nextInt(9);
                x.row(batch, 0, length);
                slow.row(batch, 0, length);
                x.row(batch, 1, stirred);
                slow.row(batch, 1, stirred);
                for (int place = 0; place < 8; place++) {
                    int bits = bits();
                    boolean yes = random.nextBoolean();
                    x.tick(batch, place, bits);
                    slow.tick(batch, place, bits);
                    x.stir(batch, place, yes);
                    slow.stir(batch, place, yes);
                }
                int low = random.nextInt(1300);
                int high = low + random.nextInt(300);
                x.grain(low, high);
                slow.grain(low, high);
                x.table(low, high % 901);
                slow.table(low, high % 901);
                x.bounds(i % 6, high % 50, 900 - low % 500);
                slow.bounds(i % 6, high % 50, 900 - low % 500);
                int ticks = 1 + random.nextInt(Math.max(1, length + random.nextInt(3) - 1));
                if (!same("cook", x.cook(batch, ticks), slow.cook(batch, ticks))
                        || !same("why", x.why(batch), slow.why(batch))) {
                    return false;
                }
                for (int what = 0; what <= 12; what++) {
                    if (!same("batchOf " + what, x.batchOf(batch, what), slow.batchOf(batch, what))) {
                        return false;
                    }
                }
            }
            return true;
        }

        /** Trays with pieces of all SORTS, packed until little is left. */
        boolean packings() {
            begin();
            for (int kind = 3; kind <= 5; kind++) {
                makeGood(newBatch(kind, 1000000));
            }
            int many = 4 + random.nextInt(style == 0 ? 60 : 14);
            for (int piece = 0; piece < many; piece++) {
                int batch = random.nextInt(2);
                int weight = weights[random.nextInt(weights.length)] + random.nextInt(style == 1 ? 1 : 9);
                int spot = random.nextInt(144);
                x.cut(batch, weight, 1);
                slow.cut(batch, weight, 1);
                x.place(piece, spot / 24, spot % 24);
                slow.place(piece, spot / 24, spot % 24);
                if (random.nextInt(4) == 0) {
                    x.dip(piece, 2, 5);
                    slow.dip(piece, 2, 5);
                    x.allow(piece);
                    slow.allow(piece);
                }
            }
            for (int i = 0; i < 10; i++) {
                int[] p = packing();
                String by = p[0] + ", " + p[1] + ", " + p[2];
                for (int what = 0; what <= 4; what++) {
                    if (!same("would(" + by + ", " + what + ")", x.would(p[0], p[1], p[2], what),
                            slow.would(p[0], p[1], p[2], what))) {
                        return false;
                    }
                }
                int box = slow.pack(p[0], p[1], p[2]);
                if (!same("pack(" + by + ")", x.pack(p[0], p[1], p[2]), box)) {
                    return false;
                }
                for (int j = 0; j < 15; j++) {
                    int what = j / 5 * 100 + j % 5;
                    if (!same("boxOf " + what, x.boxOf(box, what), slow.boxOf(box, what))) {
                        return false;
                    }
                }
            }
            return true;
        }

        /** Queues of up to ten, often with like sums, both ways. */
        boolean orders() {
            begin();
            int most = random.nextInt(40) == 0 ? 10 : 7;
            int kinds = 1 + random.nextInt(6);
            for (int i = 0; i < most; i++) {
                int kind = random.nextInt(3) == 0 ? 4 : random.nextInt(kinds);
                x.batch(kind);
                slow.batch(kind);
            }
            int greatest = new int[] {1, 3, 9, 600}[random.nextInt(4)];
            for (int i = 0; i < 36; i++) {
                int minutes = random.nextInt(greatest + 1);
                x.wash(i / 6, i % 6, minutes);
                slow.wash(i / 6, i % 6, minutes);
            }
            List<Integer> numbers = new ArrayList<>();
            for (int i = 0; i < most; i++) {
                numbers.add(i);
            }
            Collections.shuffle(numbers, random);
            for (int batch : numbers) {
                x.queue(batch);
                slow.queue(batch);
            }
            for (int i = -2; i <= most; i++) {
                if (!same("order(true, " + i + ")", x.order(true, i), slow.order(true, i))
                        || !same("order(false, " + i + ")", x.order(false, i), slow.order(false, i))) {
                    return false;
                }
            }
            return true;
        }

        int pick(int many) {
            return random.nextInt(60) == 0 ? random.nextInt(many + 4) - 2 : random.nextInt(Math.max(many, 1));
        }

        int range(int low, int high) {
            switch (random.nextInt(40)) {
                case 0: return low - 1;
                case 1: return high + 1;
                case 2: return low;
                case 3: return high;
                case 4: return random.nextInt();
                default: return low + random.nextInt(high - low + 1);
            }
        }

        int bits() {
            switch (random.nextInt(12)) {
                case 0: return random.nextInt();
                case 1: return 0x7fc00000 | random.nextInt(100);
                case 2: return Float.floatToIntBits(random.nextInt(20) * 0.1f);
                default: return Float.floatToIntBits((900 + random.nextInt(300)) / 10f);
            }
        }

        /** Mostly the first batch that isn't cooked (or is, and is of the kinds from low to high). */
        int someBatch(boolean cooked, int low, int high) {
            for (int i = 0; i < slow.batches.size() && random.nextInt(8) != 0; i++) {
                SlowBatch b = slow.batches.get(i);
                if (b.cooked == cooked && b.kind >= low && b.kind <= high && random.nextInt(6) != 0) {
                    return i;
                }
            }
            return pick(slow.batches.size());
        }

        int rawBatch() {
            return someBatch(false, 0, 5);
        }

        int piece() {
            return pick(slow.pieces.size());
        }

        int freshPiece() {
            for (int i = 0; i < slow.pieces.size(); i++) {
                if (slow.pieces.get(i).box < 0 && slow.pieces.get(i).spot < 0 && random.nextInt(4) != 0) {
                    return i;
                }
            }
            return piece();
        }

        int[] packing() {
            int base = weights[random.nextInt(weights.length)];
            int weight = random.nextInt(5) == 0 ? range(1, 8000)
                    : base * (1 + random.nextInt(style == 1 ? 9 : 4)) + random.nextInt(20);
            int over = random.nextInt(3) == 0 ? range(0, 500) : random.nextInt(60);
            int sorts = random.nextInt(3) == 0 ? range(1, 15) : 15;
            return new int[] {sorts, weight, over};
        }

        /** Which call comes next: runs lean to cooking, to packing or to the queue, or to none. */
        int nextStage(int call) {
            if (call < 30) {
                return random.nextInt(14);
            }
            if (random.nextInt(4) == 0) {
                return random.nextInt(44);
            }
            switch (style) {
                case 0: return 2 + random.nextInt(14);
                case 1: return call < 60 ? 11 + random.nextInt(2) : 16 + random.nextInt(19);
                case 2: return call < 60 ? random.nextInt(2) : 36 + random.nextInt(5);
                default: return call < 90 ? random.nextInt(14) : 11 + random.nextInt(33);
            }
        }

        int[] one(String[] name, int call) {
            int stage = nextStage(call);
            int a;
            int b;
            int c;
            switch (stage) {
                case 0:
                    a = range(0, 1000000); b = range(0, 255);
                    name[0] = "lot(" + a + ", " + b + ")";
                    return new int[] {x.lot(a, b), slow.lot(a, b)};
                case 1:
                    a = random.nextInt(3) == 0 ? range(0, 5) : 3 + random.nextInt(3);
                    name[0] = "batch(" + a + ")";
                    return new int[] {x.batch(a), slow.batch(a)};
                case 2: case 3:
                    a = rawBatch(); b = pick(slow.lots.size());
                    c = range(1, b >= 0 && b < slow.lots.size() ? Math.max(1, slow.lots.get(b)[0] / 2) : 5);
                    name[0] = "put(" + a + ", " + b + ", " + c + ")";
                    return new int[] {x.put(a, b, c), slow.put(a, b, c)};
                case 4:
                    a = rawBatch(); b = range(0, 1);
                    c = random.nextInt(5) == 0 ? range(-1, 60) : random.nextInt(8);
                    name[0] = "row(" + a + ", " + b + ", " + c + ")";
                    return two(x.row(a, b, c), slow.row(a, b, c));
                case 5: case 6: case 7:
                    a = rawBatch(); b = pick(8); c = bits();
                    name[0] = "tick(" + a + ", " + b + ", " + c + ")";
                    return two(x.tick(a, b, c), slow.tick(a, b, c));
                case 8:
                    a = rawBatch(); b = pick(8); boolean yes = random.nextInt(4) != 0;
                    name[0] = "stir(" + a + ", " + b + ", " + yes + ")";
                    return two(x.stir(a, b, yes), slow.stir(a, b, yes));
                case 9:
                    a = random.nextInt(2) == 0 ? range(-50, 1300) : 900 + call + random.nextInt(50);
                    b = random.nextInt(3) == 0 ? range(0, 900) : random.nextInt(300);
                    name[0] = "table(" + a + ", " + b + ")";
                    return new int[] {x.table(a, b), slow.table(a, b)};
                case 10:
                    a = random.nextInt(3) == 0 ? range(-10, 1200) : range(0, 900); b = a + range(-10, 300);
                    name[0] = "grain(" + a + ", " + b + ")";
                    return two(x.grain(a, b), slow.grain(a, b));
                case 11:
                    a = rawBatch();
                    b = random.nextInt(6) == 0 ? range(1, 60) : 1 + random.nextInt(6);
                    name[0] = "cook(" + a + ", " + b + ")";
                    return new int[] {x.cook(a, b), slow.cook(a, b)};
                case 12:
                    a = someBatch(true, 0, 5);
                    name[0] = "vouch(" + a + ")";
                    return two(x.vouch(a), slow.vouch(a));
                case 13:
                    a = someBatch(true, 0, 5); b = random.nextInt(15) - 1;
                    name[0] = "batchOf(" + a + ", " + b + ")";
                    return new int[] {x.batchOf(a, b), slow.batchOf(a, b)};
                default:
                    return stage < 30 ? pieceCall(name, stage) : boxCall(name, stage);
            }
        }

        int[] pieceCall(String[] name, int stage) {
            int a;
            int b;
            int c;
            switch (stage) {
                case 14:
                    a = range(0, 5); b = random.nextInt(3) == 0 ? range(0, 300) : 0;
                    c = random.nextInt(2) == 0 ? range(0, 900) : 900;
                    name[0] = "bounds(" + a + ", " + b + ", " + c + ")";
                    return two(x.bounds(a, b, c), slow.bounds(a, b, c));
                case 15:
                    if (random.nextInt(4) != 0) {
                        a = someBatch(true, 0, 5);
                        name[0] = "why(" + a + ")";
                        return new int[] {x.why(a), slow.why(a)};
                    }
                    int[] d = {range(440, 460), range(260, 275), range(305, 318), range(312, 325), range(285, 300)};
                    int n = random.nextInt(5) == 0 ? range(1, 20) : 1 + random.nextInt(2);
                    name[0] = "temper(" + Arrays.toString(d) + ", " + n + ")";
                    return two(x.temper(d[0], d[1], d[2], d[3], d[4], n), slow.temper(d, n));
                case 16: case 17: case 18:
                    a = random.nextInt(3) == 0 ? pick(slow.batches.size()) : slow.someCoat();
                    b = slow.wantedDegree(a) + (random.nextInt(3) == 0 ? random.nextInt(50) - 25 : 0);
                    name[0] = "heat(" + a + ", " + b + ")";
                    return new int[] {x.heat(a, b), slow.heat(a, b)};
                case 19: case 20:
                    a = someBatch(true, 3, 4);
                    b = random.nextInt(9) == 0 ? range(10, 2000) : weights[random.nextInt(weights.length)];
                    c = random.nextInt(20) == 0 ? range(1, 99) : 1 + random.nextInt(4);
                    name[0] = "cut(" + a + ", " + b + ", " + c + ")";
                    return new int[] {x.cut(a, b, c), slow.cut(a, b, c)};
                case 21:
                    a = piece(); b = random.nextInt(5) == 0 ? pick(slow.batches.size()) : slow.someCoat();
                    c = random.nextInt(5) == 0 ? range(1, 1000) : 5;
                    name[0] = "dip(" + a + ", " + b + ", " + c + ")";
                    return new int[] {x.dip(a, b, c), slow.dip(a, b, c)};
                case 22: case 23: case 24: case 25: case 26:
                    a = freshPiece(); b = pick(6); c = pick(24);
                    name[0] = "place(" + a + ", " + b + ", " + c + ")";
                    return two(x.place(a, b, c), slow.place(a, b, c));
                case 27:
                    a = piece();
                    if (random.nextInt(3) == 0) {
                        name[0] = "take(" + a + ")";
                        return two(x.take(a), slow.take(a));
                    }
                    name[0] = "allow(" + a + ")";
                    return two(x.allow(a), slow.allow(a));
                case 28:
                    a = piece(); b = random.nextInt(11) - 1;
                    name[0] = "pieceOf(" + a + ", " + b + ")";
                    return new int[] {x.pieceOf(a, b), slow.pieceOf(a, b)};
                default:
                    a = pick(6); b = pick(24);
                    name[0] = "at(" + a + ", " + b + ")";
                    return new int[] {x.at(a, b), slow.at(a, b)};
            }
        }

        int[] boxCall(String[] name, int stage) {
            int a;
            int b;
            int c;
            int[] p = packing();
            switch (stage) {
                case 30:
                    name[0] = "pack(" + p[0] + ", " + p[1] + ", " + p[2] + ")";
                    return new int[] {x.pack(p[0], p[1], p[2]), slow.pack(p[0], p[1], p[2])};
                case 31: case 32: case 33:
                    a = random.nextInt(20) == 0 ? random.nextInt(8) - 2 : random.nextInt(5);
                    name[0] = "would(" + p[0] + ", " + p[1] + ", " + p[2] + ", " + a + ")";
                    return new int[] {x.would(p[0], p[1], p[2], a), slow.would(p[0], p[1], p[2], a)};
                case 34: case 35:
                    a = pick(slow.boxes.size());
                    b = new int[] {0, 100, 200}[random.nextInt(3)] + random.nextInt(8) - 1;
                    name[0] = "boxOf(" + a + ", " + b + ")";
                    return new int[] {x.boxOf(a, b), slow.boxOf(a, b)};
                case 36: case 37:
                    a = range(0, 5); b = range(0, 5); c = random.nextInt(3) == 0 ? range(0, 600) : random.nextInt(8);
                    name[0] = "wash(" + a + ", " + b + ", " + c + ")";
                    return two(x.wash(a, b, c), slow.wash(a, b, c));
                case 38:
                    a = random.nextInt(25) == 0 || slow.queue.size() > 6 && random.nextInt(3) == 0
                            ? -1 : pick(slow.batches.size());
                    name[0] = "queue(" + a + ")";
                    return new int[] {x.queue(a), slow.queue(a)};
                case 39: case 40:
                    boolean last = random.nextBoolean();
                    a = random.nextInt(12) - 2;
                    name[0] = "order(" + last + ", " + a + ")";
                    return new int[] {x.order(last, a), slow.order(last, a)};
                case 41: case 42:
                    a = pick(slow.lots.size()); b = random.nextInt(20) == 0 ? range(0, 2) : random.nextInt(3);
                    c = random.nextInt(4) == 0 ? random.nextInt(40) - 1 : random.nextInt(3);
                    name[0] = "recall(" + a + ", " + b + ", " + c + ")";
                    return new int[] {x.recall(a, b, c), slow.recall(a, b, c)};
                default:
                    a = random.nextInt(9) - 1;
                    if (random.nextBoolean()) {
                        name[0] = "about(" + a + ")";
                        return new int[] {x.about(a), slow.about(a)};
                    }
                    a = pick(slow.lots.size());
                    name[0] = "left(" + a + ")";
                    return new int[] {x.left(a), slow.left(a)};
            }
        }

        static int[] two(boolean got, boolean want) {
            return new int[] {got ? 1 : 0, want ? 1 : 0};
        }
    }

    private static final class SlowBatch {
        int kind;
        Float[] thermometer;
        Boolean[] stirring;
        final TreeSet<Integer> lots = new TreeSet<>();
        int mass;
        int put;
        boolean cooked;
        boolean vouched;
        Integer top;
        int loss;
        int lost;
        Integer grained;
        Integer absent;
        int phase;
        int count;
        int cut;
        int dipped;
    }

    private static final class SlowPiece {
        int number;
        int batch;
        int weight;
        int coat = -1;
        int tempered = -1;
        boolean allowed;
        int spot = -1;
        int box = -1;
    }

    /** The document in the plainest words: all is searched through, nothing is kept. */
    private static final class SlowKitchen {
        final List<int[]> lots = new ArrayList<>();
        final List<SlowBatch> batches = new ArrayList<>();
        final List<SlowPiece> pieces = new ArrayList<>();
        final List<int[]> boxes = new ArrayList<>();
        final List<int[]> table = new ArrayList<>();
        final List<Integer> queue = new ArrayList<>();
        final int[][] bounds = {{0, 900}, {0, 900}, {0, 900}, {0, 900}, {0, 900}, {0, 900}};
        final int[][] wash = new int[6][6];
        final Map<String, Best> orders = new HashMap<>();
        int[] grain = {0, -1};
        int[] temper = {450, 270, 310, 320, 290};
        int ticks = 2;

        static boolean in(int number, int low, int high) {
            return number >= low && number <= high;
        }

        SlowBatch batchAt(int number) {
            return in(number, 0, batches.size() - 1) ? batches.get(number) : null;
        }

        SlowPiece pieceAt(int number) {
            return in(number, 0, pieces.size() - 1) ? pieces.get(number) : null;
        }

        int lot(int amount, int warnings) {
            if (!in(amount, 0, 1000000) || !in(warnings, 0, 255) || lots.size() == 40) {
                return -1;
            }
            lots.add(new int[] {amount, warnings});
            return lots.size() - 1;
        }

        int batch(int kind) {
            if (!in(kind, 0, 5) || batches.size() == 40) {
                return -1;
            }
            SlowBatch batch = new SlowBatch();
            batch.kind = kind;
            batches.add(batch);
            return batches.size() - 1;
        }

        int put(int batch, int lot, int amount) {
            SlowBatch b = batchAt(batch);
            if (b == null || b.cooked || !in(lot, 0, lots.size() - 1) || !in(amount, 1, lots.get(lot)[0])) {
                return -1;
            }
            lots.get(lot)[0] -= amount;
            b.lots.add(lot);
            b.put += amount;
            b.mass += amount;
            return b.mass;
        }

        boolean row(int batch, int which, int length) {
            SlowBatch b = batchAt(batch);
            if (b == null || b.cooked || !in(which, 0, 1) || !in(length, -1, 60)) {
                return false;
            }
            if (which == 0) {
                b.thermometer = length < 0 ? null : Collections.nCopies(length, 0f).toArray(new Float[0]);
            } else {
                b.stirring = length < 0 ? null : Collections.nCopies(length, false).toArray(new Boolean[0]);
            }
            return true;
        }

        boolean tick(int batch, int place, int bits) {
            SlowBatch b = batchAt(batch);
            if (b == null || b.cooked || b.thermometer == null || !in(place, 0, b.thermometer.length - 1)) {
                return false;
            }
            b.thermometer[place] = Float.intBitsToFloat(bits);
            return true;
        }

        boolean stir(int batch, int place, boolean yes) {
            SlowBatch b = batchAt(batch);
            if (b == null || b.cooked || b.stirring == null || !in(place, 0, b.stirring.length - 1)) {
                return false;
            }
            b.stirring[place] = yes;
            return true;
        }

        int table(int degree, int loss) {
            boolean rises = table.stream().allMatch(row -> row[0] < degree);
            if (!rises || !in(loss, 0, 900) || table.size() == 16) {
                return -1;
            }
            table.add(new int[] {degree, loss});
            return table.size();
        }

        boolean grain(int low, int high) {
            grain = new int[] {low, high};
            return true;
        }

        boolean bounds(int kind, int low, int high) {
            if (!in(kind, 0, 5)) {
                return false;
            }
            bounds[kind] = new int[] {low, high};
            return true;
        }

        int cook(int batch, int many) {
            SlowBatch b = batchAt(batch);
            if (b == null || b.cooked || !in(many, 1, 60) || b.mass == 0) {
                return -1;
            }
            b.cooked = true;
            List<Integer> degrees = new ArrayList<>();
            for (int t = 0; t < many; t++) {
                if (b.thermometer == null || t >= b.thermometer.length) {
                    b.absent = t;
                    break;
                }
                degrees.add(b.thermometer[t].isNaN() ? null : Integer.valueOf((int) (b.thermometer[t] * 10f)));
            }
            b.top = degrees.stream().filter(d -> d != null).max(Integer::compare).orElse(null);
            if (b.top != null) {
                table.stream().filter(row -> row[0] <= b.top).forEach(row -> b.loss = row[1]);
                for (int t = degrees.size() - 1; t > degrees.indexOf(b.top); t--) {
                    boolean stirred = b.stirring != null && t < b.stirring.length && b.stirring[t];
                    if (stirred && degrees.get(t) != null && in(degrees.get(t), grain[0], grain[1])) {
                        b.grained = t;
                    }
                }
            }
            b.lost = (int) ((long) b.mass * b.loss / 1000);
            b.mass -= b.lost;
            return b.mass;
        }

        boolean vouch(int batch) {
            SlowBatch b = batchAt(batch);
            if (b == null || !b.cooked) {
                return false;
            }
            b.vouched = true;
            return true;
        }

        int why(int batch) {
            SlowBatch b = batchAt(batch);
            if (b == null) {
                return -1;
            }
            boolean grains = b.kind == 1 || b.kind == 3 || b.kind == 4;
            boolean[] faults = {false, !b.cooked, b.absent != null, b.loss < bounds[b.kind][0],
                b.loss > bounds[b.kind][1], grains && b.grained == null, b.kind == 2 && b.grained != null};
            for (int fault = 1; fault < 7; fault++) {
                if (faults[fault] && !b.vouched) {
                    return fault;
                }
            }
            return 0;
        }

        int batchOf(int batch, int what) {
            SlowBatch b = batchAt(batch);
            if (b == null || !in(what, 0, 12)) {
                return -1;
            }
            Integer tick = b.absent != null ? b.absent : b.grained;
            return new int[] {b.kind, b.mass, b.put, b.lost, b.loss, b.top == null ? -1000001 : b.top,
                b.grained == null ? 0 : 1, tick == null ? -1 : tick, b.vouched ? 1 : 0, b.phase, b.count,
                b.cut, b.dipped}[what];
        }

        boolean temper(int[] d, int n) {
            if (!(d[1] < d[2] && d[2] <= d[3] && d[3] < d[0] && d[4] <= d[2] && in(n, 1, 20))) {
                return false;
            }
            temper = d;
            ticks = n;
            for (SlowBatch b : batches) {
                b.phase = 0;
                b.count = 0;
            }
            return true;
        }

        int heat(int batch, int degree) {
            SlowBatch b = batchAt(batch);
            if (b == null || b.kind != 5 || !b.cooked) {
                return -1;
            }
            if (b.phase == 3 && (degree > temper[3] || degree < temper[4]) || b.phase == 2 && degree > temper[3]) {
                b.phase = 0;
                b.count = 0;
            }
            if (b.phase < 3) {
                boolean counts = b.phase == 0 ? degree >= temper[0]
                        : b.phase == 1 ? degree <= temper[1] : degree >= temper[2];
                b.count = counts ? b.count + 1 : 0;
                if (b.count == ticks) {
                    b.phase++;
                    b.count = 0;
                }
            }
            return b.phase;
        }

        int someCoat() {
            for (int i = 0; i < batches.size(); i++) {
                if (batches.get(i).kind == 5 && batches.get(i).cooked) {
                    return i;
                }
            }
            return 0;
        }

        int wantedDegree(int batch) {
            SlowBatch b = batchAt(batch);
            return b == null ? 0 : b.phase == 0 ? temper[0] : b.phase == 1 ? temper[1] : temper[2];
        }

        int cut(int batch, int weight, int many) {
            SlowBatch b = batchAt(batch);
            if (b == null || !in(b.kind, 3, 4) || why(batch) != 0 || !in(weight, 10, 2000) || !in(many, 1, 99)) {
                return -1;
            }
            int done = 0;
            while (done < many && b.mass >= weight && pieces.size() < 600) {
                SlowPiece piece = new SlowPiece();
                piece.number = pieces.size();
                piece.batch = batch;
                piece.weight = weight;
                pieces.add(piece);
                b.mass -= weight;
                b.cut += weight;
                done++;
            }
            return done;
        }

        int dip(int piece, int coat, int weight) {
            SlowPiece p = pieceAt(piece);
            SlowBatch b = batchAt(coat);
            if (p == null || b == null || p.box >= 0 || p.coat >= 0 || b.kind != 5 || why(coat) != 0
                    || !in(weight, 1, 1000) || b.mass < weight) {
                return -1;
            }
            b.mass -= weight;
            b.dipped += weight;
            p.weight += weight;
            p.coat = coat;
            p.tempered = b.phase == 3 ? 1 : 0;
            return p.tempered;
        }

        boolean place(int piece, int tray, int place) {
            SlowPiece p = pieceAt(piece);
            if (p == null || p.box >= 0 || !in(tray, 0, 5) || !in(place, 0, 23) || at(tray, place) >= 0) {
                return false;
            }
            p.spot = 24 * tray + place;
            return true;
        }

        boolean take(int piece) {
            SlowPiece p = pieceAt(piece);
            if (p == null || p.spot < 0) {
                return false;
            }
            p.spot = -1;
            return true;
        }

        boolean allow(int piece) {
            SlowPiece p = pieceAt(piece);
            if (p == null || p.tempered != 0) {
                return false;
            }
            p.allowed = true;
            return true;
        }

        boolean fit(SlowPiece p) {
            return p.spot >= 0 && (p.tempered != 0 || p.allowed);
        }

        int sort(SlowPiece p) {
            return batches.get(p.batch).kind - 3 + (p.coat >= 0 ? 2 : 0);
        }

        int pieceOf(int piece, int what) {
            SlowPiece p = pieceAt(piece);
            if (p == null || !in(what, 0, 8)) {
                return -1;
            }
            return new int[] {p.batch, p.weight, p.coat, p.tempered, p.allowed ? 1 : 0,
                p.spot >= 0 ? 1 : p.box >= 0 ? 2 : 0, Math.max(p.spot, p.box), sort(p), fit(p) ? 1 : 0}[what];
        }

        int at(int tray, int place) {
            if (in(tray, 0, 5) && in(place, 0, 23)) {
                for (SlowPiece p : pieces) {
                    if (p.spot == 24 * tray + place) {
                        return p.number;
                    }
                }
            }
            return -1;
        }

        List<SlowPiece> ableTo(int sorts) {
            List<SlowPiece> able = new ArrayList<>();
            for (SlowPiece p : pieces) {
                if (fit(p) && (sorts >> sort(p)) % 2 == 1) {
                    able.add(p);
                }
            }
            able.sort((p, q) -> p.spot - q.spot);
            return able;
        }

        /** The pieces of the box by the best way, or null. For each sum the best way that leads to it. */
        List<SlowPiece> chosen(List<SlowPiece> able, int weight, int over) {
            List<SlowPiece> choice = able.subList(0, Math.min(40, able.size()));
            // A way: bit 39 - i for the i-th of CHOICE, so that the greater number is the better way.
            Map<Integer, Long> ways = new HashMap<>();
            ways.put(0, 0L);
            for (int i = 0; i < choice.size(); i++) {
                Map<Integer, Long> more = new HashMap<>(ways);
                for (Map.Entry<Integer, Long> way : ways.entrySet()) {
                    int sum = way.getKey() + choice.get(i).weight;
                    if (sum <= weight + over) {
                        more.merge(sum, way.getValue() | 1L << (39 - i), Math::max);
                    }
                }
                ways = more;
            }
            for (int sum = weight; sum <= weight + over; sum++) {
                if (ways.containsKey(sum)) {
                    List<SlowPiece> box = new ArrayList<>();
                    for (int i = 0; i < choice.size(); i++) {
                        if ((ways.get(sum) >> (39 - i)) % 2 == 1) {
                            box.add(choice.get(i));
                        }
                    }
                    return box;
                }
            }
            return null;
        }

        static int sum(List<SlowPiece> box) {
            return box.stream().mapToInt(p -> p.weight).sum();
        }

        boolean numbers(int sorts, int weight, int over) {
            return in(sorts, 1, 15) && in(weight, 1, 8000) && in(over, 0, 500);
        }

        int pack(int sorts, int weight, int over) {
            if (!numbers(sorts, weight, over) || boxes.size() == 200) {
                return -1;
            }
            List<SlowPiece> box = chosen(ableTo(sorts), weight, over);
            if (box == null) {
                return -1;
            }
            for (SlowPiece p : box) {
                p.spot = -1;
                p.box = boxes.size();
            }
            boxes.add(new int[] {weight});
            return boxes.size() - 1;
        }

        int would(int sorts, int weight, int over, int what) {
            if (!numbers(sorts, weight, over)) {
                return -1;
            }
            List<SlowPiece> able = ableTo(sorts);
            List<SlowPiece> box = chosen(able, weight, over);
            switch (what) {
                case 0: return box == null ? -1 : sum(box) - weight;
                case 1: return box == null ? -1 : box.size();
                case 2: return full(able, weight, over);
                case 3: return most(able.subList(0, Math.min(14, able.size())), weight, over);
                case 4: return Math.min(40, able.size());
                default: return -1;
            }
        }

        int full(List<SlowPiece> able, int weight, int over) {
            List<SlowPiece> rest = new ArrayList<>(able);
            for (int boxes = 0; ; boxes++) {
                List<SlowPiece> box = chosen(rest, weight, over);
                if (box == null) {
                    return boxes;
                }
                rest.removeAll(box);
            }
        }

        /** By all sets, all boxes out of each. */
        int most(List<SlowPiece> few, int weight, int over) {
            int sets = 1 << few.size();
            int[] sums = new int[sets];
            int[] most = new int[sets];
            for (int set = 1; set < sets; set++) {
                int lowest = Integer.numberOfTrailingZeros(set);
                sums[set] = sums[set & set - 1] + few.get(lowest).weight;
                most[set] = most[set & set - 1];
                for (int box = set; box > 0; box = box - 1 & set) {
                    if (in(sums[box], weight, weight + over)) {
                        most[set] = Math.max(most[set], 1 + most[set ^ box]);
                    }
                }
            }
            return most[sets - 1];
        }

        TreeSet<Integer> lotsOf(SlowPiece p) {
            TreeSet<Integer> in = new TreeSet<>(batches.get(p.batch).lots);
            if (p.coat >= 0) {
                in.addAll(batches.get(p.coat).lots);
            }
            return in;
        }

        List<SlowPiece> inBox(int box) {
            List<SlowPiece> in = new ArrayList<>(pieces);
            in.removeIf(p -> p.box != box);
            return in;
        }

        TreeSet<Integer> lotsOfBox(int box) {
            TreeSet<Integer> in = new TreeSet<>();
            inBox(box).forEach(p -> in.addAll(lotsOf(p)));
            return in;
        }

        static int ith(List<Integer> numbers, int i) {
            return in(i, 0, numbers.size() - 1) ? numbers.get(i) : -1;
        }

        int boxOf(int box, int what) {
            if (!in(box, 0, boxes.size() - 1)) {
                return -1;
            }
            List<SlowPiece> in = inBox(box);
            List<Integer> lotNumbers = new ArrayList<>(lotsOfBox(box));
            if (what >= 200) {
                return ith(lotNumbers, what - 200);
            }
            if (what >= 100) {
                return what - 100 < in.size() ? in.get(what - 100).number : -1;
            }
            int warnings = 0;
            for (int lot : lotNumbers) {
                warnings |= lots.get(lot)[1];
            }
            return in(what, 0, 4)
                    ? new int[] {in.size(), sum(in), boxes.get(box)[0], warnings, lotNumbers.size()}[what] : -1;
        }

        boolean wash(int from, int to, int minutes) {
            if (!in(from, 0, 5) || !in(to, 0, 5) || !in(minutes, 0, 600)) {
                return false;
            }
            wash[from][to] = minutes;
            return true;
        }

        int queue(int batch) {
            if (batch == -1) {
                queue.clear();
                return 0;
            }
            if (batchAt(batch) == null || queue.contains(batch) || queue.size() == 10) {
                return -1;
            }
            queue.add(batch);
            return queue.size();
        }

        int order(boolean nutsLast, int i) {
            // Trying all orders is slow: kept by all that an order can rest on.
            String by = nutsLast + " " + queue + Arrays.deepToString(wash);
            Best best = orders.get(by);
            if (best == null) {
                best = new Best();
                tryOrders(best, new ArrayList<>(), new ArrayList<>(queue), 0, nutsLast);
                orders.put(by, best);
            }
            return i == -1 ? best.minutes : ith(best.order, i);
        }

        /** All orders, earlier ones of the QUEUE first: so the first of like sums is the one. */
        void tryOrders(Best best, List<Integer> so, List<Integer> rest, int minutes, boolean nutsLast) {
            if (minutes >= best.minutes) {
                return;
            }
            if (rest.isEmpty()) {
                best.minutes = minutes;
                best.order = new ArrayList<>(so);
                return;
            }
            boolean others = rest.stream().anyMatch(b -> batches.get(b).kind != 4);
            for (int i = 0; i < rest.size(); i++) {
                Integer next = rest.get(i);
                int kind = batches.get(next).kind;
                if (nutsLast && others && kind == 4) {
                    continue;
                }
                int more = so.isEmpty() ? 0 : wash[batches.get(so.get(so.size() - 1)).kind][kind];
                rest.remove(i);
                so.add(next);
                tryOrders(best, so, rest, minutes + more, nutsLast);
                so.remove(so.size() - 1);
                rest.add(i, next);
            }
        }

        int recall(int lot, int what, int i) {
            List<Integer> found = new ArrayList<>();
            int many = what == 0 ? batches.size() : what == 1 ? pieces.size() : what == 2 ? boxes.size() : 0;
            for (int number = 0; number < many; number++) {
                TreeSet<Integer> in = what == 0 ? batches.get(number).lots
                        : what == 1 ? lotsOf(pieces.get(number)) : lotsOfBox(number);
                if (in.contains(lot)) {
                    found.add(number);
                }
            }
            return ith(found, i);
        }

        int about(int what) {
            int fit = (int) pieces.stream().filter(this::fit).count();
            return in(what, 0, 6) ? new int[] {lots.size(), batches.size(), pieces.size(), boxes.size(),
                table.size(), queue.size(), fit}[what] : -1;
        }

        int left(int lot) {
            return in(lot, 0, lots.size() - 1) ? lots.get(lot)[0] : -1;
        }
    }

    private static final class Best {
        int minutes = Integer.MAX_VALUE;
        List<Integer> order = new ArrayList<>();
    }
}
