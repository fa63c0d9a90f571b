import java.util.ArrayList;
import java.util.Arrays;
import java.util.List;
import java.util.Random;

/** Refused calls answer NONE or false and change nothing; so do questions; the 512th call is as good as any. */
public final class RefusedTest extends Checks {
    /** Asks a kitchen, or uses it up, and notes what it answers. */
    private interface Probe {
        void ask(Calls k, List<Integer> answers);
    }

    private static final List<Probe> PROBES = new ArrayList<>();
    private static final List<List<Integer>> UNTOUCHED = new ArrayList<>();

    public static void main(String[] args) {
        addProbes();
        for (Probe probe : PROBES) {
            UNTOUCHED.add(answersOf(probe, Calls.busy()));
        }
        runAll(RefusedTest.class);
    }

    private static List<Integer> answersOf(Probe probe, Calls k) {
        List<Integer> answers = new ArrayList<>();
        probe.ask(k, answers);
        if (k.made > 512) {
            throw new IllegalStateException("a probe of " + k.made + " calls");
        }
        return answers;
    }

    // ---- what a kitchen can be asked

    private static void addProbes() {
        PROBES.add(RefusedTest::askCounts);
        PROBES.add(RefusedTest::askTrays);
        PROBES.add(RefusedTest::askBatches);
        PROBES.add(RefusedTest::askPieces);
        PROBES.add(RefusedTest::askBoxes);
        PROBES.add(RefusedTest::askLots);
        PROBES.add(RefusedTest::askPacking);
        PROBES.add(RefusedTest::askNumbers);
        PROBES.add(RefusedTest::askPlacesOfRows);
        PROBES.add(RefusedTest::askLossesAndBounds);
        PROBES.add(RefusedTest::askGrain);
        PROBES.add((k, answers) -> askWashing(k, answers, true));
        PROBES.add((k, answers) -> askWashing(k, answers, false));
        PROBES.add(RefusedTest::askCoats);
        for (int ticks = 1; ticks <= 5; ticks++) {
            int over = ticks;
            PROBES.add((k, answers) -> askRows(k, answers, over));
        }
    }

    private static void askCounts(Calls k, List<Integer> answers) {
        for (int what = 0; what <= 6; what++) {
            answers.add(k.call("about", what));
        }
        for (int i = 0; i <= 12; i++) {
            answers.add(k.call("left", i));
            answers.add(k.call("why", i));
            answers.add(k.call("order", 0, i - 1));
            answers.add(k.call("order", 1, i - 1));
        }
    }

    private static void askTrays(Calls k, List<Integer> answers) {
        for (int spot = 0; spot < 144; spot++) {
            answers.add(k.call("at", spot / 24, spot % 24));
        }
    }

    private static void askBatches(Calls k, List<Integer> answers) {
        for (int i = 0; i < 12 * 13; i++) {
            answers.add(k.call("batchOf", i / 13, i % 13));
        }
    }

    private static void askPieces(Calls k, List<Integer> answers) {
        for (int i = 0; i < 12 * 9; i++) {
            answers.add(k.call("pieceOf", i / 9, i % 9));
        }
    }

    private static void askBoxes(Calls k, List<Integer> answers) {
        for (int box = 0; box < 3; box++) {
            for (int i = 0; i < 6; i++) {
                answers.add(k.call("boxOf", box, i));
                answers.add(k.call("boxOf", box, 100 + i));
                answers.add(k.call("boxOf", box, 200 + i));
            }
        }
    }

    private static void askLots(Calls k, List<Integer> answers) {
        for (int lot = 0; lot < 6; lot++) {
            for (int i = 0; i < 11; i++) {
                for (int what = 0; what <= 2; what++) {
                    answers.add(k.call("recall", lot, what, i));
                }
            }
        }
    }

    private static void askPacking(Calls k, List<Integer> answers) {
        int[][] ways = {{15, 100, 0}, {15, 100, 500}, {1, 100, 0}, {2, 90, 100}, {4, 115, 10}, {15, 390, 500},
            {8, 1, 500}};
        for (int[] way : ways) {
            for (int what = 0; what <= 4; what++) {
                answers.add(k.call("would", way[0], way[1], way[2], what));
            }
        }
        for (int[] way : ways) {
            answers.add(k.call("pack", way));
        }
        askBoxes(k, answers);
    }

    private static void askNumbers(Calls k, List<Integer> answers) {
        answers.add(k.call("lot", 9, 9));
        answers.add(k.call("batch", 0));
        answers.add(k.call("cut", 0, 50, 2));
        answers.add(k.call("table", 901, 9));
        answers.add(k.call("queue", 3));
        answers.add(k.call("pack", 15, 90, 500));
        answers.add(k.call("put", 5, 0, 7));
        answers.add(k.call("put", 6, 4, 4));
        askBatches(k, answers);
    }

    private static void askPlacesOfRows(Calls k, List<Integer> answers) {
        for (int batch = 4; batch <= 7; batch++) {
            for (int place : new int[] {0, 1, 2, 3, 4, 5, 59, 60}) {
                answers.add(k.call("tick", batch, place, 0));
                answers.add(k.call("stir", batch, place, 0));
            }
        }
    }

    private static void askRows(Calls k, List<Integer> answers, int ticks) {
        k.call("put", 7, 0, 500);
        k.call("grain", MIN, MAX);
        for (int batch = 4; batch <= 7; batch++) {
            answers.add(k.call("cook", batch, ticks));
            for (int what = 1; what <= 7; what++) {
                answers.add(k.call("batchOf", batch, what));
            }
        }
    }

    /** New batches of each KIND with each LOSS that the TABLE has. */
    private static void askLossesAndBounds(Calls k, List<Integer> answers) {
        float[] tops = {-4.1f, -4f, 60f, 90f};
        for (int i = 0; i < 24; i++) {
            int batch = newBatch(k, i % 6, tops[i / 6]);
            answers.add(k.call("cook", batch, 1));
            answers.add(k.call("batchOf", batch, 4));
            answers.add(k.call("why", batch));
        }
    }

    private static int newBatch(Calls k, int kind, float... degrees) {
        int batch = k.call("batch", kind);
        k.call("put", batch, 0, 1000);
        k.call("row", batch, 0, degrees.length);
        for (int i = 0; i < degrees.length; i++) {
            k.call("tick", batch, i, Float.floatToIntBits(degrees[i]));
        }
        return batch;
    }

    private static void askGrain(Calls k, List<Integer> answers) {
        for (float degree : new float[] {49.9f, 50f, 80f, 80.1f, 0f, -900f, 900f}) {
            int batch = newBatch(k, 1, 1000f, degree);
            k.call("row", batch, 1, 2);
            k.call("stir", batch, 1, 1);
            k.call("cook", batch, 2);
            answers.add(k.call("batchOf", batch, 6));
        }
    }

    /** The minutes from each KIND to those above it (or below), the way back made as dear as can be. */
    private static void askWashing(Calls k, List<Integer> answers, boolean upwards) {
        int first = k.call("about", 1);
        for (int i = 0; i < 12; i++) {
            k.call("batch", i % 6);
        }
        for (int i = 0; i < 36; i++) {
            int from = i / 6;
            int to = i % 6;
            if (from == to || from < to == upwards) {
                k.call("queue", NONE);
                k.call("queue", first + from);
                k.call("queue", first + 6 + to);
                if (from != to) {
                    k.call("wash", to, from, 600);
                }
                answers.add(k.call("order", 0, NONE));
            }
        }
    }

    private static void askCoats(Calls k, List<Integer> answers) {
        int[] degrees = {289, 459, 460, 460, 281, 280, 281, 280, 280, 299, 300, 299, 330, 330, 331, 460, 460, 280, 280,
            331, 459, 460, 460, 280, 280, 300, 300, 290, 330, 290, 289, 290};
        for (int coat = 2; coat <= 3; coat++) {
            for (int degree : degrees) {
                answers.add(k.call("heat", coat, degree));
                answers.add(k.call("batchOf", coat, 10));
            }
        }
        answers.add(k.call("heat", 4, 460));
    }

    // ---- how a call is looked at

    /** A call on a busy kitchen that answers this, and behind which nothing is other than it was. */
    private static void changesNothing(int answer, String name, int... a) {
        String call = name + Arrays.toString(a);
        Calls k = Calls.busy();
        due(call, k.call(name, a), answer);
        for (int i = 0; i < PROBES.size(); i++) {
            Calls touched = Calls.busy();
            touched.call(name, a);
            List<Integer> answers = answersOf(PROBES.get(i), touched);
            due("behind " + call + ", what is other by probe " + i, firstOther(answers, UNTOUCHED.get(i)), NONE);
        }
    }

    private static int firstOther(List<Integer> answers, List<Integer> untouched) {
        for (int i = 0; i < untouched.size(); i++) {
            if (!answers.get(i).equals(untouched.get(i))) {
                return i;
            }
        }
        return NONE;
    }

    private static void refusedNone(String name, int[]... calls) {
        for (int[] a : calls) {
            changesNothing(NONE, name, a);
        }
    }

    private static void refusedFalse(String name, int[]... calls) {
        for (int[] a : calls) {
            changesNothing(0, name, a);
        }
    }

    private static int[] of(int... arguments) {
        return arguments;
    }

    // ---- the kitchen that is asked

    @Says("No lots, batches, pieces, boxes; an empty TABLE and QUEUE.")
    static void busyKitchenIsAsTold() {
        Calls k = Calls.busy();
        row(k, "about", of(5, 11, 10, 2, 3, 4, 5));
        row(k, "why", of(0, 0, 0, 0, 1, 1, 1, 1, 5, 2, 0));
        int[] left = {100000 - 13301, 3500, 0, 0, 4};
        row(k, "left", left);
        int[] where = {0, 1, 1, 1, 1, 0, 2, 2, 1, 1};
        int[] fit = {0, 1, 1, 0, 1, 0, 0, 0, 1, 1};
        int[] sorts = {0, 0, 2, 2, 2, 2, 0, 0, 1, 1};
        for (int piece = 0; piece < 10; piece++) {
            due("where " + piece + " is", k.call("pieceOf", piece, 5), where[piece]);
            due("whether " + piece + " is FIT", k.call("pieceOf", piece, 8), fit[piece]);
            due("SORT of " + piece, k.call("pieceOf", piece, 7), sorts[piece]);
        }
        due("PHASE of 2", k.call("batchOf", 2, 9), 3);
        due("PHASE of 3", k.call("batchOf", 3, 9), 1);
        due("count of 3", k.call("batchOf", 3, 10), 1);
        due("MASS of 3", k.call("batchOf", 3, 1), 37);
        due("MASS of 2", k.call("batchOf", 2, 1), 980);
        due("minutes", k.call("order", 0, NONE), 0);
    }

    private static void row(Calls k, String name, int[] answers) {
        for (int i = 0; i < answers.length; i++) {
            due(name + " " + i, k.call(name, i), answers[i]);
        }
    }

    // ---- the refused calls, by promise

    @Says("NONE for others, or if there are 40.")
    static void refusedLot() {
        refusedNone("lot", of(-1, 0), of(1000001, 0), of(0, -1), of(0, 256), of(MIN, 0), of(MAX, 0),
                of(0, MIN), of(0, MAX));
    }

    @Says("NONE: no such KIND, or there are 40.")
    static void refusedBatch() {
        refusedNone("batch", of(-1), of(6), of(MIN), of(MAX));
    }

    @Says("NONE, changing nothing, for others.")
    static void refusedPut() {
        refusedNone("put", of(-1, 0, 1), of(11, 0, 1), of(MIN, 0, 1), of(MAX, 0, 1), of(5, -1, 1), of(5, 5, 1),
                of(5, MIN, 1), of(5, MAX, 1), of(5, 0, 0), of(5, 0, -1), of(5, 0, MIN), of(5, 0, MAX), of(5, 1, 3501),
                of(5, 2, 1), of(5, 3, 1), of(5, 4, 5), of(0, 0, 1), of(9, 0, 1), of(4, 3, 1), of(7, 2, 1), of(7, 0, 0));
    }

    @Says("False, changing nothing, for others, or if it is cooked.")
    static void refusedRow() {
        refusedFalse("row", of(-1, 0, 1), of(11, 0, 1), of(MIN, 1, 1), of(MAX, 1, 1), of(5, -1, 1), of(5, 2, 1),
                of(5, MIN, 1), of(5, MAX, 1), of(5, 0, 61), of(5, 1, 61), of(5, 0, -2), of(5, 1, -2), of(5, 0, MIN),
                of(5, 1, MAX), of(6, 0, 61), of(6, 1, -2), of(0, 0, 1), of(0, 1, 1), of(0, 0, NONE), of(9, 0, 60));
    }

    @Says("False: no such batch, place, or it is cooked.")
    static void refusedTickAndStir() {
        for (String name : new String[] {"tick", "stir"}) {
            refusedFalse(name, of(-1, 0, 1), of(11, 0, 1), of(MIN, 0, 1), of(MAX, 0, 1), of(5, -1, 1), of(5, 4, 1),
                    of(5, MIN, 1), of(5, MAX, 1), of(6, 0, 1), of(7, 0, 1), of(0, 0, 1), of(0, 1, 1), of(2, 0, 1));
        }
        refusedFalse("tick", of(5, 3, 1));
    }

    @Says("NONE, changing nothing, for others, or if there are 16.")
    static void refusedTable() {
        refusedNone("table", of(900, 1), of(899, 1), of(600, 100), of(MIN, 1), of(901, -1), of(901, 901), of(901, MIN),
                of(901, MAX), of(MAX, 901));
    }

    @Says("BOUNDS of a KIND's LOSS (any): true. False: no such KIND.")
    static void refusedBounds() {
        refusedFalse("bounds", of(-1, 900, 0), of(6, 900, 0), of(MIN, 900, 0), of(MAX, 900, 0));
    }

    @Says("NONE, changing nothing: no such batch, ticks, it is cooked, or has no MASS.")
    static void refusedCook() {
        refusedNone("cook", of(-1, 1), of(11, 1), of(MIN, 1), of(MAX, 1), of(5, 0), of(5, 61), of(5, -1), of(5, MIN),
                of(5, MAX), of(6, 0), of(6, 61), of(7, 1), of(7, 60), of(0, 1), of(9, 1), of(10, 2), of(4, 0));
    }

    @Says("A hand vouches for a cooked batch: true. False for others.")
    static void refusedVouch() {
        refusedFalse("vouch", of(-1), of(11), of(MIN), of(MAX), of(4), of(5), of(7));
    }

    @Says("False, changing nothing: degrees that may not be so, or N below 1 or above 20.")
    static void refusedTemper() {
        refusedFalse("temper", of(500, 310, 310, 350, 250, 1), of(500, 100, 351, 350, 250, 1),
                of(350, 100, 310, 350, 250, 1), of(500, 100, 310, 350, 311, 1), of(500, 100, 310, 350, 250, 0),
                of(500, 100, 310, 350, 250, 21), of(500, 100, 310, 350, 250, MIN), of(500, 100, 310, 350, 250, MAX),
                of(MIN, 100, 310, 350, 250, 1), of(500, MAX, 310, 350, 250, 1), of(500, 100, MAX, 350, 250, 1),
                of(500, 100, MIN, 350, MIN, 1), of(500, 100, 310, MIN, 250, 1), of(500, 100, 310, MAX, 250, 1),
                of(500, 100, 310, 350, MAX, 1), of(0, 0, 0, 0, 0, 1), of(460, 280, 300, 330, 290, 0));
    }

    @Says("A tick of a cooked COAT at a degree: its PHASE behind it. NONE: no such batch.")
    static void refusedHeat() {
        refusedNone("heat", of(-1, 460), of(11, 460), of(MIN, 460), of(MAX, 460), of(4, 460), of(0, 460), of(1, 460),
                of(5, 460), of(10, 460), of(4, MAX), of(0, MIN));
    }

    @Says("how many. NONE for others.")
    static void refusedCut() {
        refusedNone("cut", of(-1, 100, 1), of(11, 100, 1), of(MIN, 100, 1), of(MAX, 100, 1), of(0, 9, 1),
                of(0, 2001, 1),
                of(0, MIN, 1), of(0, MAX, 1), of(0, 100, 0), of(0, 100, 100), of(0, 100, -1), of(0, 100, MIN),
                of(0, 100, MAX), of(2, 100, 1), of(5, 100, 1), of(8, 10, 1), of(9, 10, 1), of(10, 10, 1));
    }

    @Says("NONE, changing nothing, for others.")
    static void refusedDip() {
        refusedNone("dip", of(-1, 2, 1), of(10, 2, 1), of(MIN, 2, 1), of(MAX, 2, 1), of(0, -1, 1), of(0, 11, 1),
                of(0, MIN, 1), of(0, MAX, 1), of(0, 2, 0), of(0, 2, 1001), of(0, 2, -1), of(0, 2, MIN), of(0, 2, MAX),
                of(0, 2, 981), of(0, 3, 38), of(0, 4, 1), of(0, 0, 1), of(0, 10, 1), of(2, 2, 1), of(3, 2, 1),
                of(4, 3, 1), of(5, 2, 1), of(6, 2, 1), of(7, 3, 1));
    }

    @Says("goes to an empty place of a TRAY: true. False for others.")
    static void refusedPlace() {
        refusedFalse("place", of(-1, 2, 0), of(10, 2, 0), of(MIN, 2, 0), of(MAX, 2, 0), of(0, -1, 0), of(0, 6, 0),
                of(0, MIN, 0), of(0, MAX, 0), of(0, 0, -1), of(0, 0, 24), of(0, 0, MIN), of(0, 0, MAX), of(0, 0, 1),
                of(0, 5, 23), of(1, 0, 1), of(1, 0, 2), of(6, 2, 0), of(7, 1, 0), of(0, 178956971, 0), of(0, -1, 30));
    }

    @Says("A piece on a TRAY is loose: true. False for others.")
    static void refusedTake() {
        refusedFalse("take", of(-1), of(10), of(MIN), of(MAX), of(0), of(5), of(6), of(7));
    }

    @Says("False: no such piece, or it isn't one.")
    static void refusedAllow() {
        refusedFalse("allow", of(-1), of(10), of(MIN), of(MAX), of(0), of(1), of(2), of(6), of(8));
    }

    @Says("NONE, changing nothing: other numbers, there are 200, or none can be.")
    static void refusedPack() {
        refusedNone("pack", of(0, 100, 500), of(16, 100, 500), of(-1, 100, 500), of(MIN, 100, 500), of(MAX, 100, 500),
                of(15, 0, 500), of(15, 8001, 500), of(15, -1, 500), of(15, MIN, 500), of(15, MAX, 500), of(15, 100, -1),
                of(15, 100, 501), of(15, 100, MIN), of(15, 100, MAX), of(15, 517, 500), of(15, 101, 13), of(8, 1, 500),
                of(1, 101, 500), of(4, 237, 500), of(15, 1, 88));
    }

    @Says("WASHING from a KIND to a KIND (0 .. 600 minutes): true. False for others.")
    static void refusedWash() {
        refusedFalse("wash", of(-1, 4, 5), of(6, 4, 5), of(MIN, 4, 5), of(MAX, 4, 5), of(3, -1, 5), of(3, 6, 5),
                of(3, MIN, 5), of(3, MAX, 5), of(3, 4, -1), of(3, 4, 601), of(3, 4, MIN), of(3, 4, MAX), of(1, 3, 601),
                of(0, 22, 5), of(2, 10, 5), of(4, -2, 5));
    }

    @Says("NONE: no such batch, it is there, or there are 10.")
    static void refusedQueue() {
        refusedNone("queue", of(-2), of(11), of(MIN), of(MAX), of(6), of(1), of(0), of(2));
    }

    // ---- questions

    @Says("By these SORTS, WEIGHT, OVER, without packing")
    static void questionsChangeNothing() {
        Calls asked = Calls.busy();
        Object[][] questions = {{"why", of(0)}, {"why", of(5)}, {"batchOf", of(2, 9)}, {"pieceOf", of(3, 8)},
            {"at", of(0, 1)}, {"at", of(3, 3)}, {"would", of(15, 100, 500, 0)}, {"would", of(15, 100, 500, 1)},
            {"would", of(15, 100, 500, 2)}, {"would", of(15, 100, 500, 3)}, {"would", of(15, 100, 500, 4)},
            {"would", of(1, 100, 0, 0)}, {"boxOf", of(0, 3)}, {"boxOf", of(1, 100)}, {"order", of(0, 0)},
            {"order", of(1, NONE)}, {"recall", of(0, 1, 2)}, {"about", of(6)}, {"left", of(0)}};
        for (Object[] question : questions) {
            String name = (String) question[0];
            int[] a = (int[]) question[1];
            changesNothing(asked.call(name, a), name, a);
        }
    }

    // ---- how many calls

    @Says("An object is used for at most 512 calls after it has been made; what later calls answer is free.")
    static void theLastCallIsAsGoodAsAny() {
        Object[][] calls = {{"lot", of(5, 5)}, {"batch", of(5)}, {"put", of(5, 0, 9)}, {"row", of(5, 0, 60)},
            {"tick", of(5, 2, 7)}, {"stir", of(5, 3, 1)}, {"table", of(901, 1)}, {"grain", of(1, 2)},
            {"bounds", of(5, 1, 2)}, {"cook", of(5, 60)}, {"vouch", of(8)}, {"why", of(9)}, {"batchOf", of(10, 5)},
            {"temper", of(500, 1, 2, 3, 0, 1)}, {"heat", of(3, 280)}, {"cut", of(0, 100, 99)}, {"dip", of(0, 2, 3)},
            {"place", of(0, 3, 3)}, {"take", of(1)}, {"allow", of(3)}, {"pieceOf", of(2, 1)}, {"at", of(5, 23)},
            {"pack", of(15, 200, 50)}, {"would", of(15, 200, 50, 3)}, {"boxOf", of(1, 1)}, {"wash", of(5, 4, 600)},
            {"queue", of(3)}, {"order", of(1, 3)}, {"recall", of(0, 2, 1)}, {"about", of(2)}, {"left", of(4)}};
        due("each call of the face", calls.length, Calls.NAMES.length);
        for (Object[] call : calls) {
            String name = (String) call[0];
            int[] a = (int[]) call[1];
            int early = Calls.busy().call(name, a);
            yes(name + " can be done", early > 0);
            Calls k = Calls.busy();
            while (k.made < 511) {
                due("about(2) at call " + k.made, k.call("about", 2), 10);
            }
            due(name + Arrays.toString(a) + " as call 512", k.call(name, a), early);
            due("how many calls", k.made, 512);
        }
    }

    @Says("An object is used for at most 512 calls after it has been made; what later calls answer is free.")
    static void noCallThrows() {
        int[] ends = {MIN, MIN + 1, -101, -2, -1, 0, 1, 2, 3, 4, 5, 6, 10, 15, 23, 24, 39, 40, 59, 60, 61, 99, 100, 139,
            199, 200, 239, 300, 500, 599, 600, 601, 1000, 8000, 1000000, 178956971, 715827883, MAX - 1, MAX};
        for (int seed = 0; seed < 40; seed++) {
            Random random = new Random(seed);
            Calls k = seed % 2 == 0 ? Calls.busy() : new Calls();
            for (int i = 0; i < 3000; i++) {
                String name = Calls.NAMES[random.nextInt(Calls.NAMES.length)];
                int[] a = new int[Calls.argumentsOf(name)];
                for (int j = 0; j < a.length; j++) {
                    a[j] = random.nextInt(3) == 0 ? random.nextInt(12) : ends[random.nextInt(ends.length)];
                }
                k.call(name, a);
            }
            yes("pieces are 600 at most", k.call("about", 2) <= 600);
        }
    }
}
