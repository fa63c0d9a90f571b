/** The edges of TEMPER: Terms II, promises 15 and 16. */
public final class TemperEdgesTest extends Checks {
    public static void main(String[] args) {
        runAll(TemperEdgesTest.class);
    }

    /** Heats a COAT by ticks of {degree, PHASE behind it, its count}. */
    private static void ticks(SugarKitchen x, int coat, int[]... ticks) {
        for (int i = 0; i < ticks.length; i++) {
            String tick = "tick " + i + " at " + ticks[i][0];
            due("PHASE, " + tick, x.heat(coat, ticks[i][0]), ticks[i][1]);
            due("PHASE told, " + tick, x.batchOf(coat, 9), ticks[i][1]);
            due("count, " + tick, x.batchOf(coat, 10), ticks[i][2]);
        }
    }

    /** A COAT in a PHASE with count 0, by D1 1000, D2 100, D3 200, D4 300, D5 150 and so many ticks. */
    private static SugarKitchen inPhase(int phase, int n) {
        SugarKitchen x = new SugarKitchen();
        goodBatch(x, COAT, 100);
        yes("temper", x.temper(1000, 100, 200, 300, 150, n));
        int[] wanted = {1000, 100, 200};
        for (int i = 0; i < phase * n; i++) {
            x.heat(0, wanted[i / n]);
        }
        due("PHASE to begin with", x.batchOf(0, 9), phase);
        due("count to begin with", x.batchOf(0, 10), 0);
        return x;
    }

    // ---- which degrees may be so

    @Says("D2 below D3")
    static void secondBelowThird() {
        SugarKitchen x = new SugarKitchen();
        yes("D2 one below D3", x.temper(50, 30, 31, 40, 20, 1));
        no("D2 is D3", x.temper(50, 31, 31, 40, 20, 1));
        no("D2 above D3", x.temper(50, 32, 31, 40, 20, 1));
        no("D2 MAX", x.temper(50, MAX, 31, 40, 20, 1));
        yes("D2 MIN", x.temper(50, MIN, 31, 40, 20, 1));
        yes("D2 MIN, D3 MAX - 1", x.temper(MAX, MIN, MAX - 1, MAX - 1, 20, 1));
        no("D2 MIN, D3 MIN", x.temper(MAX, MIN, MIN, 40, MIN, 1));
        yes("D2 MIN, D3 one above", x.temper(MAX, MIN, MIN + 1, 40, MIN, 1));
    }

    @Says("D3 not above D4")
    static void thirdNotAboveFourth() {
        SugarKitchen x = new SugarKitchen();
        yes("D3 one below D4", x.temper(50, 10, 39, 40, 20, 1));
        yes("D3 is D4", x.temper(50, 10, 40, 40, 20, 1));
        no("D3 above D4", x.temper(50, 10, 41, 40, 20, 1));
        no("D4 MIN", x.temper(50, 10, 41, MIN, 20, 1));
        yes("D3 MIN + 1, D4 MAX - 1", x.temper(MAX, MIN, MIN + 1, MAX - 1, MIN, 1));
    }

    @Says("D4 below D1")
    static void fourthBelowFirst() {
        SugarKitchen x = new SugarKitchen();
        yes("D4 one below D1", x.temper(41, 10, 30, 40, 20, 1));
        no("D4 is D1", x.temper(40, 10, 30, 40, 20, 1));
        no("D4 above D1", x.temper(39, 10, 30, 40, 20, 1));
        no("D1 MIN", x.temper(MIN, 10, 30, 40, 20, 1));
        yes("D1 MAX", x.temper(MAX, 10, 30, 40, 20, 1));
        no("D4 MAX, D1 MAX", x.temper(MAX, 10, 30, MAX, 20, 1));
        yes("D4 MAX - 1, D1 MAX", x.temper(MAX, 10, 30, MAX - 1, 20, 1));
        yes("D4 below 0, D1 MAX", x.temper(MAX, -40, -30, -20, -50, 1));
    }

    @Says("D5 not above D3")
    static void fifthNotAboveThird() {
        SugarKitchen x = new SugarKitchen();
        yes("D5 is D3", x.temper(50, 10, 30, 40, 30, 1));
        no("D5 one above D3", x.temper(50, 10, 30, 40, 31, 1));
        no("D5 MAX", x.temper(50, 10, 30, 40, MAX, 1));
        yes("D5 below D2", x.temper(50, 10, 30, 40, 9, 1));
        yes("D5 MIN", x.temper(50, 10, 30, 40, MIN, 1));
        yes("D5 MIN, D3 MAX - 1", x.temper(MAX, 10, MAX - 1, MAX - 1, MIN, 1));
    }

    @Says("or N below 1 or above 20.")
    static void ticksOneToTwenty() {
        SugarKitchen x = new SugarKitchen();
        for (int n : new int[] {0, -1, 21, MIN, MAX}) {
            no("N " + n, x.temper(50, 10, 30, 40, 20, n));
        }
        for (int n = 1; n <= 20; n++) {
            yes("N " + n, x.temper(50, 10, 30, 40, 20, n));
        }
    }

    @Says("False, changing nothing: degrees that may not be so, or N below 1 or above 20.")
    static void refusedTemperChangesNothing() {
        int[][] refused = {{1000, 200, 200, 300, 150, 2}, {1000, 100, 301, 300, 150, 2}, {300, 100, 200, 300, 150, 2},
            {1000, 100, 200, 300, 201, 2}, {1000, 100, 200, 300, 150, 0}, {1000, 100, 200, 300, 150, 21}};
        for (int[] t : refused) {
            for (int phase = 0; phase <= 3; phase++) {
                SugarKitchen x = inPhase(phase, 2);
                int wanted = new int[] {1000, 100, 200, 150}[phase];
                x.heat(0, wanted);
                int count = x.batchOf(0, 10);
                no("temper", x.temper(t[0], t[1], t[2], t[3], t[4], t[5]));
                due("PHASE", x.batchOf(0, 9), phase);
                due("count", x.batchOf(0, 10), count);
                due("heat by the degrees that were there", x.heat(0, wanted), Math.min(phase + 1, 3));
            }
        }
    }

    // ---- the degrees at first

    @Says("at first 450, 270, 310, 320, 290 and 2")
    static void degreesAtFirst() {
        SugarKitchen x = new SugarKitchen();
        int coat = goodBatch(x, COAT, 100);
        ticks(x, coat, new int[][] {{449, 0, 0}, {450, 0, 1}, {450, 1, 0}, {271, 1, 0}, {270, 1, 1}, {270, 2, 0},
            {309, 2, 0}, {310, 2, 1}, {310, 3, 0}, {290, 3, 0}, {320, 3, 0}, {289, 0, 0},
            {450, 0, 1}, {450, 1, 0}, {270, 1, 1}, {270, 2, 0}, {320, 2, 1}, {320, 3, 0}, {321, 0, 0},
            {450, 0, 1}, {450, 1, 0}, {270, 1, 1}, {270, 2, 0}, {321, 0, 0}});
    }

    // ---- the phases

    @Says("counting ticks one behind the other at which the degree is at least D1 (0)")
    static void phaseZero() {
        for (int n : new int[] {1, 2, 3, 20}) {
            SugarKitchen x = inPhase(0, n);
            due("one below D1", x.heat(0, 999), 0);
            due("count", x.batchOf(0, 10), 0);
            for (int i = 1; i < n; i++) {
                ticks(x, 0, new int[] {i % 2 == 0 ? 1000 : MAX, 0, i});
            }
            ticks(x, 0, new int[] {1000, 1, 0});
        }
    }

    @Says("at most D2 (1)")
    static void phaseOne() {
        for (int n : new int[] {1, 2, 3, 20}) {
            SugarKitchen x = inPhase(1, n);
            due("one above D2", x.heat(0, 101), 1);
            due("count", x.batchOf(0, 10), 0);
            for (int i = 1; i < n; i++) {
                ticks(x, 0, new int[] {i % 2 == 0 ? 100 : MIN, 1, i});
            }
            ticks(x, 0, new int[] {100, 2, 0});
        }
    }

    @Says("at least D3 (2)")
    static void phaseTwo() {
        for (int n : new int[] {1, 2, 3, 20}) {
            SugarKitchen x = inPhase(2, n);
            due("one below D3", x.heat(0, 199), 2);
            due("count", x.batchOf(0, 10), 0);
            for (int i = 1; i < n; i++) {
                ticks(x, 0, new int[] {i % 2 == 0 ? 200 : 300, 2, i});
            }
            ticks(x, 0, new int[] {200, 3, 0});
        }
    }

    @Says("another one sets the count to 0")
    static void anotherDegreeSetsTheCount() {
        ticks(inPhase(0, 3), 0, new int[][] {{1000, 0, 1}, {1000, 0, 2}, {999, 0, 0}, {1000, 0, 1}, {MIN, 0, 0},
            {1000, 0, 1}, {1000, 0, 2}, {1000, 1, 0}});
        ticks(inPhase(1, 3), 0, new int[][] {{100, 1, 1}, {100, 1, 2}, {101, 1, 0}, {100, 1, 1}, {MAX, 1, 0},
            {301, 1, 0}, {100, 1, 1}, {100, 1, 2}, {100, 2, 0}});
        ticks(inPhase(2, 3), 0, new int[][] {{200, 2, 1}, {200, 2, 2}, {199, 2, 0}, {200, 2, 1}, {149, 2, 0},
            {MIN, 2, 0}, {200, 2, 1}, {200, 2, 2}, {200, 3, 0}});
    }

    @Says("at N the next PHASE begins with 0")
    static void nextPhaseBeginsWithNothing() {
        SugarKitchen x = inPhase(0, 1);
        ticks(x, 0, new int[][] {{1000, 1, 0}, {100, 2, 0}, {200, 3, 0}, {200, 3, 0}, {200, 3, 0}});
        SugarKitchen y = inPhase(0, 20);
        for (int i = 1; i < 20; i++) {
            ticks(y, 0, new int[] {1000, 0, i});
        }
        ticks(y, 0, new int[][] {{1000, 1, 0}, {1000, 1, 0}, {100, 1, 1}});
    }

    @Says("In PHASE 2 a degree above D4 sets PHASE 0 with 0, and the tick counts there.")
    static void spoiledInPhaseTwo() {
        ticks(inPhase(2, 3), 0, new int[][] {{200, 2, 1}, {300, 2, 2}, {301, 0, 0}});
        ticks(inPhase(2, 3), 0, new int[][] {{200, 2, 1}, {999, 0, 0}, {1000, 0, 1}});
        ticks(inPhase(2, 3), 0, new int[][] {{200, 2, 1}, {200, 2, 2}, {1000, 0, 1}, {1000, 0, 2}, {1000, 1, 0}});
        ticks(inPhase(2, 3), 0, new int[][] {{MAX, 0, 1}, {999, 0, 0}});
        ticks(inPhase(2, 1), 0, new int[] {301, 0, 0});
        ticks(inPhase(2, 1), 0, new int[] {1000, 1, 0});
    }

    @Says("PHASE 3: in TEMPER; a degree above D4 or below D5 sets PHASE 0 with 0, and the tick counts there.")
    static void spoiledInTemper() {
        ticks(inPhase(3, 3), 0, new int[][] {{300, 3, 0}, {150, 3, 0}, {200, 3, 0}, {151, 3, 0}, {301, 0, 0}});
        ticks(inPhase(3, 3), 0, new int[][] {{150, 3, 0}, {149, 0, 0}, {1000, 0, 1}});
        ticks(inPhase(3, 3), 0, new int[][] {{1000, 0, 1}, {1000, 0, 2}, {1000, 1, 0}});
        ticks(inPhase(3, 3), 0, new int[] {MAX, 0, 1});
        ticks(inPhase(3, 3), 0, new int[] {MIN, 0, 0});
        ticks(inPhase(3, 1), 0, new int[] {149, 0, 0});
        ticks(inPhase(3, 1), 0, new int[] {301, 0, 0});
        ticks(inPhase(3, 1), 0, new int[][] {{1000, 1, 0}, {100, 2, 0}, {200, 3, 0}});
    }

    @Says("In PHASE 2 a degree above D4 sets PHASE 0 with 0, and the tick counts there.")
    static void aboveTheFourthElsewhere() {
        ticks(inPhase(0, 2), 0, new int[][] {{1000, 0, 1}, {301, 0, 0}});
        ticks(inPhase(1, 2), 0, new int[][] {{100, 1, 1}, {301, 1, 0}, {1000, 1, 0}, {1000, 1, 0}, {100, 1, 1}});
    }

    @Says("PHASE 3: in TEMPER; a degree above D4 or below D5 sets PHASE 0 with 0, and the tick counts there.")
    static void belowTheFifthElsewhere() {
        ticks(inPhase(1, 3), 0, new int[][] {{149, 1, 0}, {100, 1, 1}});
        ticks(inPhase(2, 3), 0, new int[][] {{200, 2, 1}, {149, 2, 0}, {200, 2, 1}});
    }

    @Says("PHASE 3: in TEMPER")
    static void temperWithLikeDegrees() {
        SugarKitchen x = new SugarKitchen();
        goodBatch(x, COAT, 100);
        yes("D3, D4 and D5 are one", x.temper(31, 29, 30, 30, 30, 1));
        ticks(x, 0, new int[][] {{31, 1, 0}, {29, 2, 0}, {30, 3, 0}, {30, 3, 0}, {31, 1, 0}, {29, 2, 0}, {30, 3, 0},
            {29, 0, 0}, {30, 0, 0}});
        yes("the ends of int", x.temper(MAX, MIN, 0, 0, MIN, 1));
        ticks(x, 0, new int[][] {{MAX - 1, 0, 0}, {MAX, 1, 0}, {MIN + 1, 1, 0}, {MIN, 2, 0}, {-1, 2, 0}, {0, 3, 0},
            {MIN, 3, 0}, {0, 3, 0}, {1, 0, 0}});
    }

    @Says("Other TEMPERS set all COATS to PHASE 0 with 0.")
    static void otherTempersSetAllCoats() {
        SugarKitchen x = new SugarKitchen();
        int[] wanted = {450, 450, 270, 270, 310, 310};
        for (int coat = 0; coat < 7; coat++) {
            goodBatch(x, COAT, 100);
            for (int i = 0; i < coat; i++) {
                x.heat(coat, wanted[i]);
            }
            due("PHASE of " + coat, x.batchOf(coat, 9), coat / 2);
            due("count of " + coat, x.batchOf(coat, 10), coat % 2);
        }
        yes("another N", x.temper(450, 270, 310, 320, 290, 3));
        for (int coat = 0; coat < 7; coat++) {
            due("PHASE of " + coat, x.batchOf(coat, 9), 0);
            due("count of " + coat, x.batchOf(coat, 10), 0);
        }
        ticks(x, 6, new int[][] {{450, 0, 1}, {450, 0, 2}, {450, 1, 0}});
    }

    @Says("Other TEMPERS set all COATS to PHASE 0 with 0.")
    static void eachOtherNumberIsAnotherTemper() {
        int[][] others = {{451, 270, 310, 320, 290, 2}, {450, 271, 310, 320, 290, 2}, {450, 270, 311, 320, 290, 2},
            {450, 270, 310, 321, 290, 2}, {450, 270, 310, 320, 291, 2}, {450, 270, 310, 320, 290, 1}};
        for (int[] t : others) {
            SugarKitchen x = new SugarKitchen();
            int coat = goodBatch(x, COAT, 100);
            heatInto(x, coat);
            due("PHASE", x.batchOf(coat, 9), 3);
            yes("temper", x.temper(t[0], t[1], t[2], t[3], t[4], t[5]));
            due("PHASE", x.batchOf(coat, 9), 0);
            due("count", x.batchOf(coat, 10), 0);
            int piece = goodBatch(x, CENTRE, 100);
            x.cut(piece, 10, 1);
            due("dip: no more in TEMPER", x.dip(0, coat, 1), 0);
        }
    }

    // ---- heat

    @Says("A tick of a cooked COAT at a degree: its PHASE behind it. NONE: no such batch.")
    static void heatOfNone() {
        SugarKitchen x = new SugarKitchen();
        due("heat(0, 450), no batch", x.heat(0, 450), NONE);
        int coat = goodBatch(x, COAT, 100);
        for (int number : new int[] {-1, 1, 40, MIN, MAX}) {
            due("heat(" + number + ", 450)", x.heat(number, 450), NONE);
        }
        due("count", x.batchOf(coat, 10), 0);
        due("heat", x.heat(coat, 450), 0);
        due("count", x.batchOf(coat, 10), 1);
    }

    @Says("A cooked COAT is heated tick by tick.")
    static void heatOfARawCoat() {
        SugarKitchen x = new SugarKitchen();
        int coat = rawBatch(x, COAT, 100);
        int bare = x.batch(COAT);
        due("heat a raw one", x.heat(coat, 450), NONE);
        due("heat a bare one", x.heat(bare, 450), NONE);
        due("count", x.batchOf(coat, 10), 0);
        x.cook(coat, 1);
        due("why: it needn't be GOOD", x.why(coat), 2);
        ticks(x, coat, new int[][] {{450, 0, 1}, {450, 1, 0}});
    }

    @Says("5 COAT, a SYRUP that is tempered, and dips.")
    static void heatOfOtherKinds() {
        SugarKitchen x = new SugarKitchen();
        for (int kind = 0; kind < 5; kind++) {
            int batch = goodBatch(x, kind, 100);
            due("heat KIND " + kind, x.heat(batch, 450), NONE);
            due("PHASE", x.batchOf(batch, 9), 0);
            due("count", x.batchOf(batch, 10), 0);
        }
    }

    @Says("A cooked COAT is heated tick by tick.")
    static void coatsAreHeatedEachAlone() {
        SugarKitchen x = new SugarKitchen();
        int one = goodBatch(x, COAT, 100);
        int other = goodBatch(x, COAT, 100);
        due("heat one", x.heat(one, 450), 0);
        due("count of the other", x.batchOf(other, 10), 0);
        due("heat the other", x.heat(other, 450), 0);
        due("heat one", x.heat(one, 450), 1);
        due("PHASE of the other", x.batchOf(other, 9), 0);
        due("count of the other", x.batchOf(other, 10), 1);
    }
}
