/** The edges of lots, batches, rows and cooking: Terms I, promises 1 to 14 and 32. */
public final class CookingEdgesTest extends Checks {
    public static void main(String[] args) {
        runAll(CookingEdgesTest.class);
    }

    // ---- a new object, lots, batches

    @Says("No lots, batches, pieces, boxes; an empty TABLE and QUEUE.")
    static void newObjectHasNothing() {
        SugarKitchen x = new SugarKitchen();
        for (int what = 0; what <= 6; what++) {
            due("about(" + what + ")", x.about(what), 0);
        }
        due("left(0)", x.left(0), NONE);
        due("why(0)", x.why(0), NONE);
        due("pieceOf(0, 0)", x.pieceOf(0, 0), NONE);
        due("boxOf(0, 0)", x.boxOf(0, 0), NONE);
        due("order(true, NONE)", x.order(true, NONE), 0);
        due("order(true, 0)", x.order(true, 0), NONE);
        for (int spot = 0; spot < 144; spot++) {
            due("at " + spot, x.at(spot / 24, spot % 24), NONE);
        }
    }

    @Says("No lots, batches, pieces, boxes; an empty TABLE and QUEUE.")
    static void newObjectSharesNothing() {
        SugarKitchen other = laidOut(100, 200);
        other.table(0, 900);
        other.queue(0);
        other.wash(CENTRE, CENTRE, 5);
        other.grain(MIN, MAX);
        other.bounds(SYRUP, 5, 6);
        other.temper(MAX, MIN, 0, 0, 0, 1);
        other.pack(15, 100, 0);
        SugarKitchen x = new SugarKitchen();
        for (int what = 0; what <= 6; what++) {
            due("about(" + what + ")", x.about(what), 0);
        }
        due("at(0, 1)", x.at(0, 1), NONE);
        int batch = cookedBatch(x, SYRUP, row(90f, 80f), 1);
        due("LOSS", x.batchOf(batch, 4), 0);
        due("GRAINED", x.batchOf(batch, 6), 0);
        due("why", x.why(batch), 0);
    }

    @Says("A lot of so much (0 .. 1000000)")
    static void lotAmount() {
        SugarKitchen x = new SugarKitchen();
        for (int amount : new int[] {-1, 1000001, MIN, MAX, 1000000 - MAX}) {
            due("lot(" + amount + ", 0)", x.lot(amount, 0), NONE);
        }
        due("how many", x.about(0), 0);
        due("lot(0, 0)", x.lot(0, 0), 0);
        due("lot(1, 0)", x.lot(1, 0), 1);
        due("lot(1000000, 0)", x.lot(1000000, 0), 2);
        due("left(0)", x.left(0), 0);
        due("left(1)", x.left(1), 1);
        due("left(2)", x.left(2), 1000000);
    }

    @Says("WARNINGS (0 .. 255)")
    static void lotWarnings() {
        for (int warnings : new int[] {-1, 256, 257, MIN, MAX, MIN + 255}) {
            SugarKitchen x = new SugarKitchen();
            due("lot(1, " + warnings + ")", x.lot(1, warnings), NONE);
            due("how many", x.about(0), 0);
        }
        for (int warnings : new int[] {0, 1, 127, 128, 255}) {
            SugarKitchen x = new SugarKitchen();
            due("lot(100, " + warnings + ")", x.lot(100, warnings), 0);
            int batch = x.batch(CENTRE);
            x.put(batch, 0, 100);
            x.cook(batch, 1);
            x.vouch(batch);
            x.cut(batch, 10, 1);
            x.place(0, 0, 0);
            x.pack(15, 10, 0);
            due("its WARNINGS in a box", x.boxOf(0, 3), warnings);
        }
    }

    @Says({"LOTS 0 .. 39", "NONE for others, or if there are 40."})
    static void lotsAreForty() {
        SugarKitchen x = new SugarKitchen();
        for (int i = 0; i < 40; i++) {
            due("a lot that isn't one", x.lot(-1, 0), NONE);
            due("lot " + i, x.lot(i, i), i);
        }
        due("lot 40", x.lot(7, 7), NONE);
        due("lot 40 again", x.lot(0, 0), NONE);
        due("how many", x.about(0), 40);
        for (int i = 0; i < 40; i++) {
            due("left(" + i + ")", x.left(i), i);
        }
        due("left(40)", x.left(40), NONE);
        x.batch(SYRUP);
        due("put of the last", x.put(0, 39, 39), 39);
        due("put of one beyond", x.put(0, 40, 1), NONE);
    }

    @Says("A batch of a KIND: its number. NONE: no such KIND")
    static void batchKind() {
        SugarKitchen x = new SugarKitchen();
        for (int kind : new int[] {-1, 6, MIN, MAX}) {
            due("batch(" + kind + ")", x.batch(kind), NONE);
        }
        due("how many", x.about(1), 0);
        for (int kind = 0; kind < 6; kind++) {
            due("batch(" + kind + ")", x.batch(kind), kind);
            due("its KIND", x.batchOf(kind, 0), kind);
        }
        due("batchOf(6, 0)", x.batchOf(6, 0), NONE);
    }

    @Says({"BATCHES 0 .. 39, each of a KIND", "NONE: no such KIND, or there are 40."})
    static void batchesAreForty() {
        SugarKitchen x = new SugarKitchen();
        for (int i = 0; i < 40; i++) {
            due("no batch", x.batch(6), NONE);
            due("batch " + i, x.batch(5 - i % 6), i);
        }
        for (int kind = 0; kind < 6; kind++) {
            due("batch 40", x.batch(kind), NONE);
        }
        due("how many", x.about(1), 40);
        due("KIND of the last", x.batchOf(39, 0), 2);
        due("KIND of one beyond", x.batchOf(40, 0), NONE);
        x.lot(10, 0);
        due("put into the last", x.put(39, 0, 4), 4);
        due("put into one beyond", x.put(40, 0, 4), NONE);
        due("cook the last", x.cook(39, 1), 4);
        due("queue the last", x.queue(39), 1);
    }

    // ---- put

    @Says("So much (1 .. what it has) of a lot")
    static void putAmount() {
        SugarKitchen x = new SugarKitchen();
        x.lot(100, 0);
        x.batch(SYRUP);
        for (int amount : new int[] {0, -1, 101, MIN, MAX, MIN + 1}) {
            due("put(0, 0, " + amount + ")", x.put(0, 0, amount), NONE);
        }
        due("MASS", x.batchOf(0, 1), 0);
        due("left(0)", x.left(0), 100);
        due("put(0, 0, 1)", x.put(0, 0, 1), 1);
        due("put(0, 0, 100), 99 are left", x.put(0, 0, 100), NONE);
        due("left(0)", x.left(0), 99);
        due("put(0, 0, 99)", x.put(0, 0, 99), 100);
        due("left(0)", x.left(0), 0);
        due("put(0, 0, 1), none is left", x.put(0, 0, 1), NONE);
    }

    @Says("So much (1 .. what it has) of a lot")
    static void putOfAnEmptyLot() {
        SugarKitchen x = new SugarKitchen();
        x.lot(0, 0);
        x.batch(SYRUP);
        due("put(0, 0, 1)", x.put(0, 0, 1), NONE);
        due("put(0, 0, 0)", x.put(0, 0, 0), NONE);
        due("what has some of it", x.recall(0, 0, 0), NONE);
    }

    @Says("goes into a batch that isn't cooked: its MASS.")
    static void putIntoACookedOne() {
        SugarKitchen x = new SugarKitchen();
        x.lot(100, 0);
        x.batch(SYRUP);
        due("put", x.put(0, 0, 10), 10);
        due("put more", x.put(0, 0, 10), 20);
        x.cook(0, 1);
        due("put into a cooked one", x.put(0, 0, 10), NONE);
        due("left(0)", x.left(0), 80);
        due("MASS", x.batchOf(0, 1), 20);
        due("what was put", x.batchOf(0, 2), 20);
        x.vouch(0);
        due("put into one vouched for", x.put(0, 0, 10), NONE);
    }

    @Says("goes into a batch that isn't cooked: its MASS.")
    static void putTheMost() {
        SugarKitchen x = new SugarKitchen();
        x.batch(SYRUP);
        for (int i = 0; i < 40; i++) {
            x.lot(1000000, 0);
            due("put all of lot " + i, x.put(0, i, 1000000), 1000000 * (i + 1));
        }
        due("what was put", x.batchOf(0, 2), 40000000);
    }

    @Says("NONE, changing nothing, for others.")
    static void putOfNoneIntoNone() {
        SugarKitchen x = new SugarKitchen();
        due("put(0, 0, 1)", x.put(0, 0, 1), NONE);
        x.lot(100, 0);
        due("put without a batch", x.put(0, 0, 1), NONE);
        x.batch(SYRUP);
        for (int number : new int[] {-1, 1, 40, 64, MIN, MAX}) {
            due("put(" + number + ", 0, 1)", x.put(number, 0, 1), NONE);
            due("put(0, " + number + ", 1)", x.put(0, number, 1), NONE);
        }
        due("left(0)", x.left(0), 100);
        due("MASS", x.batchOf(0, 1), 0);
        due("what has some of it", x.recall(0, 0, 0), NONE);
    }

    // ---- the rows

    @Says("Both are MISSING at first, or of a told length.")
    static void rowsAreMissingAtFirst() {
        SugarKitchen x = new SugarKitchen();
        int batch = rawBatch(x, SYRUP, 100);
        no("tick(batch, 0, 0)", x.tick(batch, 0, 0));
        no("stir(batch, 0, true)", x.stir(batch, 0, true));
        x.row(batch, 0, 1);
        no("stir(batch, 0, true), the other is told", x.stir(batch, 0, true));
        yes("tick(batch, 0, 0)", x.tick(batch, 0, 0));
        int other = rawBatch(x, SYRUP, 100);
        x.row(other, 1, 1);
        no("tick(other, 0, 0), the other is told", x.tick(other, 0, 0));
        yes("stir(other, 0, true)", x.stir(other, 0, true));
    }

    @Says("has so many places (0 .. 60)")
    static void rowLength() {
        SugarKitchen x = new SugarKitchen();
        int batch = rawBatch(x, SYRUP, 100);
        for (int which = 0; which <= 1; which++) {
            for (int length : new int[] {61, -2, MIN, MAX}) {
                no("row(batch, " + which + ", " + length + ")", x.row(batch, which, length));
                no("a place of it", place(x, batch, which, 0));
            }
            for (int length : new int[] {0, 1, 2, 59, 60, 3}) {
                yes("row(batch, " + which + ", " + length + ")", x.row(batch, which, length));
                due("first place of " + length, place(x, batch, which, 0) ? 1 : 0, length > 0 ? 1 : 0);
                due("last place of " + length, place(x, batch, which, length - 1) ? 1 : 0, length > 0 ? 1 : 0);
                no("place beyond " + length, place(x, batch, which, length));
                no("place ahead", place(x, batch, which, -1));
            }
            no("row of 61", x.row(batch, which, 61));
            yes("the row that was there", place(x, batch, which, 2));
            no("the row that was there", place(x, batch, which, 3));
        }
    }

    private static boolean place(SugarKitchen x, int batch, int which, int place) {
        return which == 0 ? x.tick(batch, place, 0) : x.stir(batch, place, false);
    }

    @Says("all 0, or no")
    static void rowBeginsWithZeros() {
        SugarKitchen x = new SugarKitchen();
        int batch = rawBatch(x, SYRUP, 100);
        x.row(batch, 0, 60);
        for (int i = 0; i < 60; i++) {
            x.tick(batch, i, Float.floatToIntBits(-5f));
        }
        x.row(batch, 0, 1);
        x.row(batch, 0, 60);
        for (int i = 0; i < 59; i++) {
            x.tick(batch, i, Float.floatToIntBits(-5f));
        }
        x.cook(batch, 60);
        due("TOP: the last place's 0", x.batchOf(batch, 5), 0);
    }

    @Says("all 0, or no")
    static void rowOfTheSameLengthBeginsAnew() {
        SugarKitchen x = new SugarKitchen();
        int batch = rawBatch(x, SYRUP, 100);
        readings(x, batch, 90f, 80f);
        yes("row(batch, 0, 2)", x.row(batch, 0, 2));
        x.cook(batch, 2);
        due("TOP", x.batchOf(batch, 5), 0);
    }

    @Says("all 0, or no")
    static void stirringRowBeginsWithNo() {
        SugarKitchen x = new SugarKitchen();
        x.grain(MIN, MAX);
        int batch = rawBatch(x, FUDGE, 100);
        x.row(batch, 0, 60);
        x.row(batch, 1, 60);
        for (int i = 0; i < 60; i++) {
            x.stir(batch, i, true);
        }
        x.row(batch, 1, 0);
        x.row(batch, 1, 60);
        x.cook(batch, 60);
        due("GRAINED", x.batchOf(batch, 6), 0);
    }

    @Says("THERMOMETER row (which 0) or STIRRING row (1)")
    static void rowWhich() {
        SugarKitchen x = new SugarKitchen();
        int batch = rawBatch(x, SYRUP, 100);
        for (int which : new int[] {-1, 2, MIN, MAX}) {
            no("row(batch, " + which + ", 5)", x.row(batch, which, 5));
        }
        no("tick", x.tick(batch, 0, 0));
        no("stir", x.stir(batch, 0, true));
        yes("row(batch, 0, 5)", x.row(batch, 0, 5));
        no("stir", x.stir(batch, 0, true));
        yes("row(batch, 1, 3)", x.row(batch, 1, 3));
        yes("tick at 4", x.tick(batch, 4, 0));
        no("stir at 4", x.stir(batch, 4, true));
        yes("stir at 2", x.stir(batch, 2, true));
    }

    @Says("NONE: it is MISSING: true.")
    static void rowMissingAgain() {
        SugarKitchen x = new SugarKitchen();
        int batch = rawBatch(x, SYRUP, 100);
        yes("row(batch, 0, NONE), missing", x.row(batch, 0, NONE));
        x.row(batch, 0, 2);
        x.row(batch, 1, 2);
        yes("row(batch, 0, NONE)", x.row(batch, 0, NONE));
        no("tick", x.tick(batch, 0, 0));
        yes("stir", x.stir(batch, 0, true));
        yes("row(batch, 1, NONE)", x.row(batch, 1, NONE));
        no("stir", x.stir(batch, 0, true));
        x.cook(batch, 1);
        due("why: DOUBTFUL", x.why(batch), 2);
        due("TOP", x.batchOf(batch, 5), NO_TOP);
    }

    @Says("False, changing nothing, for others, or if it is cooked.")
    static void rowOfNoneOrACookedOne() {
        SugarKitchen x = new SugarKitchen();
        no("row(0, 0, 1), no batch", x.row(0, 0, 1));
        int batch = rawBatch(x, SYRUP, 100);
        for (int number : new int[] {-1, 1, 40, MIN, MAX}) {
            no("row(" + number + ", 0, 1)", x.row(number, 0, 1));
            no("row(" + number + ", 1, NONE)", x.row(number, 1, NONE));
        }
        x.cook(batch, 1);
        for (int length : new int[] {NONE, 0, 1, 60}) {
            no("row of a cooked one", x.row(batch, 0, length));
            no("row of a cooked one", x.row(batch, 1, length));
        }
    }

    @Says("The THERMOMETER's place gets the float with these bits")
    static void tickPlace() {
        SugarKitchen x = new SugarKitchen();
        int batch = rawBatch(x, SYRUP, 100);
        x.row(batch, 0, 60);
        for (int place : new int[] {-1, 60, MIN, MAX}) {
            no("tick(batch, " + place + ", 0)", x.tick(batch, place, 0));
        }
        yes("tick(batch, 0, ..)", x.tick(batch, 0, Float.floatToIntBits(7f)));
        yes("tick(batch, 59, ..)", x.tick(batch, 59, Float.floatToIntBits(9f)));
        x.cook(batch, 59);
        due("TOP of 59 ticks", x.batchOf(batch, 5), 70);
        int other = rawBatch(x, SYRUP, 100);
        x.row(other, 0, 60);
        x.tick(other, 59, Float.floatToIntBits(9f));
        x.cook(other, 60);
        due("TOP of 60 ticks", x.batchOf(other, 5), 90);
    }

    @Says("(of none that is a number: one): true.")
    static void tickOfNoNumber() {
        int[] none = {0x7fc00000, 0x7f800001, 0x7fffffff, 0xff800001, 0xffc00000, 0xffffffff};
        for (int bits : none) {
            SugarKitchen x = new SugarKitchen();
            x.table(MIN, 500);
            int batch = rawBatch(x, SYRUP, 100);
            x.row(batch, 0, 1);
            yes("tick with bits " + bits, x.tick(batch, 0, bits));
            due("cook", x.cook(batch, 1), 100);
            due("TOP", x.batchOf(batch, 5), NO_TOP);
            due("why: not DOUBTFUL", x.why(batch), 0);
        }
    }

    @Says("False: no such batch, place, or it is cooked.")
    static void tickOfNoneOrACookedOne() {
        SugarKitchen x = new SugarKitchen();
        no("tick(0, 0, 0), no batch", x.tick(0, 0, 0));
        int batch = rawBatch(x, SYRUP, 100);
        x.row(batch, 0, 1);
        for (int number : new int[] {-1, 1, 40, MIN, MAX}) {
            no("tick(" + number + ", 0, 0)", x.tick(number, 0, 0));
        }
        x.cook(batch, 1);
        no("tick of a cooked one", x.tick(batch, 0, Float.floatToIntBits(9f)));
        due("TOP", x.batchOf(batch, 5), 0);
    }

    @Says("The STIRRING row's place says yes or no: true.")
    static void stirPlace() {
        for (int last = 0; last <= 1; last++) {
            SugarKitchen x = new SugarKitchen();
            x.grain(MIN, MAX);
            int batch = rawBatch(x, FUDGE, 100);
            x.row(batch, 0, 60);
            x.row(batch, 1, 60);
            for (int place : new int[] {-1, 60, MIN, MAX}) {
                no("stir(batch, " + place + ", true)", x.stir(batch, place, true));
            }
            yes("stir yes", x.stir(batch, 59, true));
            yes("stir no", x.stir(batch, 59, last == 1));
            x.cook(batch, 60);
            due("GRAINED at the last tick", x.batchOf(batch, 7), last == 1 ? 59 : NONE);
        }
    }

    @Says("False: no such batch, place, or it is cooked.")
    static void stirOfNoneOrACookedOne() {
        SugarKitchen x = new SugarKitchen();
        no("stir(0, 0, true), no batch", x.stir(0, 0, true));
        x.grain(MIN, MAX);
        int batch = rawBatch(x, CLEAR, 100);
        x.row(batch, 0, 2);
        x.row(batch, 1, 2);
        for (int number : new int[] {-1, 1, 40, MIN, MAX}) {
            no("stir(" + number + ", 0, true)", x.stir(number, 0, true));
        }
        x.cook(batch, 2);
        no("stir of a cooked one", x.stir(batch, 1, true));
        no("stir of a cooked one, no", x.stir(batch, 1, false));
        due("GRAINED", x.batchOf(batch, 6), 0);
        due("why", x.why(batch), 0);
    }

    // ---- what the thermometer tells

    @Says("a tick whose place isn't there (of the THERMOMETER) makes it DOUBTFUL")
    static void ticksBeyondTheRow() {
        for (int length : new int[] {NONE, 0, 1, 2, 59, 60}) {
            for (int ticks : new int[] {1, 2, 3, 59, 60}) {
                SugarKitchen x = new SugarKitchen();
                int batch = rawBatch(x, SYRUP, 100);
                x.row(batch, 0, length);
                x.row(batch, 1, 60);
                x.cook(batch, ticks);
                int there = Math.max(length, 0);
                due("why, " + ticks + " of " + length, x.why(batch), ticks > there ? 2 : 0);
                due("which was not there", x.batchOf(batch, 7), ticks > there ? there : NONE);
            }
        }
    }

    @Says("a tick whose place isn't there (of the THERMOMETER) makes it DOUBTFUL")
    static void stirringRowMakesNoDoubt() {
        SugarKitchen x = new SugarKitchen();
        int batch = rawBatch(x, SYRUP, 100);
        readings(x, batch, 1f, 2f, 3f);
        x.cook(batch, 3);
        due("why, STIRRING row MISSING", x.why(batch), 0);
        int other = rawBatch(x, SYRUP, 100);
        readings(x, other, 1f, 2f, 3f);
        x.row(other, 1, 1);
        x.cook(other, 3);
        due("why, STIRRING row too short", x.why(other), 0);
    }

    @Says("and the ticks end ahead of it")
    static void ticksEndAheadOfDoubt() {
        SugarKitchen x = new SugarKitchen();
        x.table(-1, 100);
        x.table(900, 200);
        x.grain(0, 800);
        int batch = rawBatch(x, FUDGE, 1000);
        readings(x, batch, 90f, 80f);
        stirrings(x, batch, 60, 1, 2, 3);
        due("cook: what was read ahead counts", x.cook(batch, 60), 800);
        due("why", x.why(batch), 2);
        due("TOP", x.batchOf(batch, 5), 900);
        due("LOSS", x.batchOf(batch, 4), 200);
        due("GRAINED ahead of it", x.batchOf(batch, 6), 1);
        due("which was not there", x.batchOf(batch, 7), 2);
        int other = rawBatch(x, FUDGE, 1000);
        readings(x, other, 90f);
        stirrings(x, other, 60, 1, 2, 3);
        x.cook(other, 60);
        due("GRAINED at a tick that was not there", x.batchOf(other, 6), 0);
        int negative = rawBatch(x, SYRUP, 1000);
        readings(x, negative, -9f);
        x.cook(negative, 2);
        due("TOP: not a 0 of a tick that was not there", x.batchOf(negative, 5), -90);
    }

    @Says("COOKED over so many ticks, from 0 on")
    static void ticksEndWhereTold() {
        SugarKitchen x = new SugarKitchen();
        x.grain(MIN, MAX);
        int batch = rawBatch(x, CLEAR, 1000);
        readings(x, batch, 90f, 80f, 100f);
        stirrings(x, batch, 3, 2);
        x.cook(batch, 2);
        due("TOP of two ticks", x.batchOf(batch, 5), 900);
        due("GRAINED of two ticks", x.batchOf(batch, 6), 0);
        due("why", x.why(batch), 0);
        int one = rawBatch(x, SYRUP, 1000);
        readings(x, one, -3f, 80f);
        x.cook(one, 1);
        due("TOP of one tick", x.batchOf(one, 5), -30);
    }

    @Says("one that is no number is not read")
    static void noNumberIsNotRead() {
        SugarKitchen x = new SugarKitchen();
        int batch = cookedBatch(x, SYRUP, row(Float.NaN, -70f, Float.NaN, -80f, Float.NaN));
        due("TOP", x.batchOf(batch, 5), -700);
        due("why", x.why(batch), 0);
        x.grain(-800, -800);
        int stirred = cookedBatch(x, FUDGE, row(Float.NaN, -70f, Float.NaN, -80f, Float.NaN), 2, 3, 4);
        due("GRAINED at", x.batchOf(stirred, 7), 3);
        x.grain(MIN, MAX);
        int clear = cookedBatch(x, CLEAR, row(-70f, Float.NaN, Float.NaN), 0, 1, 2);
        due("GRAINED where none was read", x.batchOf(clear, 6), 0);
    }

    @Says("else its DEGREE is ten times it (a float), cut to a whole (as Java casts a float to an int).")
    static void degreeIsCut() {
        float[] readings = {0.05f, 0.09999999f, 0.1f, 0.19f, 0.7f, 1.1f, 110.05f, 110.09f, 16777.216f,
            -0.05f, -0.1f, -0.19f, -0.7f, -1.1f, -110.09f, 0f, -0f, Float.MIN_VALUE, -Float.MIN_VALUE};
        for (float reading : readings) {
            due("DEGREE of " + reading, topOf(Float.floatToIntBits(reading)), (int) (10f * reading));
        }
        due("0.7: a float's product", topOf(Float.floatToIntBits(0.7f)), 7);
        due("-0.19: towards 0", topOf(Float.floatToIntBits(-0.19f)), -1);
    }

    @Says("else its DEGREE is ten times it (a float), cut to a whole (as Java casts a float to an int).")
    static void degreeAtTheEndsOfInt() {
        due("the greatest below 2^31", topOf(Float.floatToIntBits(214748352f)), 2147483520);
        due("2^31", topOf(Float.floatToIntBits(214748368f)), MAX);
        due("-2^31", topOf(Float.floatToIntBits(-214748368f)), MIN);
        due("above -2^31", topOf(Float.floatToIntBits(-214748352f)), -2147483520);
        due("far above", topOf(Float.floatToIntBits(1e12f)), MAX);
        due("far below", topOf(Float.floatToIntBits(-1e12f)), MIN);
        due("the greatest float", topOf(Float.floatToIntBits(Float.MAX_VALUE)), MAX);
        due("the least float", topOf(Float.floatToIntBits(-Float.MAX_VALUE)), MIN);
        due("without an end", topOf(Float.floatToIntBits(Float.POSITIVE_INFINITY)), MAX);
        due("without an end below", topOf(Float.floatToIntBits(Float.NEGATIVE_INFINITY)), MIN);
    }

    @Says("TOP is the greatest DEGREE read (none: NONE has no TOP).")
    static void topIsTheGreatest() {
        SugarKitchen x = new SugarKitchen();
        due("first", x.batchOf(cookedBatch(x, SYRUP, row(9f, 8f, 7f)), 5), 90);
        due("middle", x.batchOf(cookedBatch(x, SYRUP, row(7f, 9f, 8f)), 5), 90);
        due("last", x.batchOf(cookedBatch(x, SYRUP, row(7f, 8f, 9f)), 5), 90);
        due("all below 0", x.batchOf(cookedBatch(x, SYRUP, row(-9f, -7f, -8f)), 5), -70);
        due("0 above those below", x.batchOf(cookedBatch(x, SYRUP, row(-9f, 0f, -8f)), 5), 0);
        due("as low as can be", x.batchOf(cookedBatch(x, SYRUP, row(-3e38f)), 5), MIN);
        due("ends", x.batchOf(cookedBatch(x, SYRUP, row(3e38f, -3e38f)), 5), MAX);
    }

    @Says({"5 TOP (NONE - 1000000 without)", "TOP is the greatest DEGREE read (none: NONE has no TOP)."})
    static void noTop() {
        SugarKitchen x = new SugarKitchen();
        x.table(MIN, 900);
        int batch = cookedBatch(x, SYRUP, row(Float.NaN, Float.NaN), 0, 1);
        due("TOP of no numbers", x.batchOf(batch, 5), NO_TOP);
        due("LOSS", x.batchOf(batch, 4), 0);
        due("MASS", x.batchOf(batch, 1), 1000);
        int empty = rawBatch(x, SYRUP, 1000);
        x.row(empty, 0, 0);
        x.cook(empty, 1);
        due("TOP of no places", x.batchOf(empty, 5), NO_TOP);
        due("LOSS", x.batchOf(empty, 4), 0);
        int missing = rawBatch(x, SYRUP, 1000);
        x.cook(missing, 1);
        due("TOP of a MISSING row", x.batchOf(missing, 5), NO_TOP);
        due("LOSS", x.batchOf(missing, 4), 0);
        // A DEGREE may be the same number as no TOP, and is one all the same.
        int low = cookedBatch(x, SYRUP, row(-100000.1f));
        due("TOP", x.batchOf(low, 5), NO_TOP);
        due("LOSS", x.batchOf(low, 4), 900);
        due("TOP -1", x.batchOf(cookedBatch(x, SYRUP, row(-0.1f)), 5), -1);
    }

    // ---- loss

    @Says("from a degree on (above those that are there) a LOSS: how many.")
    static void tableRises() {
        SugarKitchen x = new SugarKitchen();
        due("table(MIN, 1)", x.table(MIN, 1), 1);
        due("table(MIN, 1) again", x.table(MIN, 1), NONE);
        due("table(MIN + 1, 1)", x.table(MIN + 1, 1), 2);
        due("table(0, 1)", x.table(0, 1), 3);
        due("table(0, 2), as it is there", x.table(0, 2), NONE);
        due("table(-1, 2), below", x.table(-1, 2), NONE);
        due("table(MIN, 2), below", x.table(MIN, 2), NONE);
        due("table(1, 2)", x.table(1, 2), 4);
        due("table(MAX, 2)", x.table(MAX, 2), 5);
        due("table(MAX, 3)", x.table(MAX, 3), NONE);
        due("table(MIN, 3)", x.table(MIN, 3), NONE);
        due("how many", x.about(4), 5);
        SugarKitchen y = new SugarKitchen();
        due("table(MAX, 0) first", y.table(MAX, 0), 1);
        due("table(MIN, 0) then", y.table(MIN, 0), NONE);
    }

    @Says("each with a LOSS 0 .. 900")
    static void tableLoss() {
        SugarKitchen x = new SugarKitchen();
        for (int loss : new int[] {-1, 901, 1000, MIN, MAX}) {
            due("table(0, " + loss + ")", x.table(0, loss), NONE);
        }
        due("how many", x.about(4), 0);
        due("table(0, 0)", x.table(0, 0), 1);
        due("table(10, 900)", x.table(10, 900), 2);
        int none = cookedBatch(x, SYRUP, row(0f));
        due("LOSS 0", x.batchOf(none, 4), 0);
        due("MASS", x.batchOf(none, 1), 1000);
        int most = cookedBatch(x, SYRUP, row(1f));
        due("LOSS 900", x.batchOf(most, 4), 900);
        due("MASS", x.batchOf(most, 1), 100);
    }

    @Says({"by a TABLE of up to 16 degrees, rising", "NONE, changing nothing, for others, or if there are 16."})
    static void tableIsSixteen() {
        SugarKitchen x = new SugarKitchen();
        for (int i = 1; i <= 16; i++) {
            due("row " + i, x.table(i * 10, i * 50), i);
        }
        due("row 17", x.table(170, 900), NONE);
        due("row 17", x.table(MAX, 0), NONE);
        due("row 17, not above", x.table(0, 0), NONE);
        due("how many", x.about(4), 16);
        due("LOSS by the 16th", x.batchOf(cookedBatch(x, SYRUP, row(16f)), 4), 800);
        due("LOSS by the 16th, far above", x.batchOf(cookedBatch(x, SYRUP, row(3e38f)), 4), 800);
        due("LOSS by the 15th", x.batchOf(cookedBatch(x, SYRUP, row(15.9f)), 4), 750);
        due("LOSS by the 1st", x.batchOf(cookedBatch(x, SYRUP, row(1f)), 4), 50);
    }

    @Says("that of the last one not above TOP; 0, if there is none such, or no TOP.")
    static void lossByTop() {
        SugarKitchen x = new SugarKitchen();
        due("empty TABLE", x.batchOf(cookedBatch(x, SYRUP, row(3e38f)), 4), 0);
        x.table(-50, 7);
        x.table(50, 300);
        x.table(51, 20);
        due("below the first", x.batchOf(cookedBatch(x, SYRUP, row(-5.1f)), 4), 0);
        due("far below the first", x.batchOf(cookedBatch(x, SYRUP, row(-3e38f)), 4), 0);
        due("at the first", x.batchOf(cookedBatch(x, SYRUP, row(-5f)), 4), 7);
        due("ahead of the second", x.batchOf(cookedBatch(x, SYRUP, row(4.9f)), 4), 7);
        due("at the second", x.batchOf(cookedBatch(x, SYRUP, row(5f)), 4), 300);
        due("at the third, less again", x.batchOf(cookedBatch(x, SYRUP, row(5.1f)), 4), 20);
        due("by TOP, not by the last DEGREE", x.batchOf(cookedBatch(x, SYRUP, row(5f, -9f)), 4), 300);
        due("no TOP", x.batchOf(cookedBatch(x, SYRUP, row(Float.NaN)), 4), 0);
    }

    @Says("that of the last one not above TOP; 0, if there is none such, or no TOP.")
    static void lossAtTheEndsOfInt() {
        SugarKitchen x = new SugarKitchen();
        x.table(MIN, 1);
        x.table(MIN + 1, 2);
        x.table(MAX, 3);
        due("TOP MIN", x.batchOf(cookedBatch(x, SYRUP, row(-3e38f)), 4), 1);
        due("TOP 0", x.batchOf(cookedBatch(x, SYRUP, row(0f)), 4), 2);
        due("TOP MAX", x.batchOf(cookedBatch(x, SYRUP, row(3e38f)), 4), 3);
    }

    @Says("Cooking takes MASS * LOSS / 1000 (cut): that is LOST.")
    static void lostIsCut() {
        int[][] cases = {{1, 900, 0}, {2, 900, 1}, {10, 900, 9}, {999, 1, 0}, {1000, 1, 1}, {1999, 1, 1},
            {2000, 1, 2}, {1000, 900, 900}, {1001, 999 - 99, 900}, {1000000, 0, 0}, {1000000, 899, 899000}};
        for (int[] c : cases) {
            SugarKitchen x = new SugarKitchen();
            x.table(0, c[1]);
            int batch = rawBatch(x, SYRUP, c[0]);
            x.row(batch, 0, 1);
            due("cook " + c[0] + " by " + c[1], x.cook(batch, 1), c[0] - c[2]);
            due("LOST", x.batchOf(batch, 3), c[2]);
            due("MASS", x.batchOf(batch, 1), c[0] - c[2]);
            due("what was put", x.batchOf(batch, 2), c[0]);
        }
    }

    @Says("Cooking takes MASS * LOSS / 1000 (cut): that is LOST.")
    static void lostOfTheMost() {
        // 3000000 times 900 is the first product of whole lots beyond int; 40 lots are the most.
        for (int lots : new int[] {2, 3, 5, 40}) {
            SugarKitchen x = new SugarKitchen();
            x.table(0, 900);
            x.batch(SYRUP);
            for (int i = 0; i < lots; i++) {
                x.lot(1000000, 0);
                x.put(0, i, 1000000);
            }
            x.row(0, 0, 1);
            due("cook " + lots + " lots", x.cook(0, 1), lots * 100000);
            due("LOST", x.batchOf(0, 3), lots * 900000);
        }
    }

    // ---- grained

    @Says("behind the first one at TOP")
    static void grainedBehindTop() {
        SugarKitchen x = new SugarKitchen();
        x.grain(MIN, MAX);
        due("at TOP", x.batchOf(cookedBatch(x, FUDGE, row(9f, 8f), 0), 7), NONE);
        due("right behind TOP", x.batchOf(cookedBatch(x, FUDGE, row(9f, 8f), 1), 7), 1);
        due("ahead of TOP", x.batchOf(cookedBatch(x, FUDGE, row(8f, 9f), 0), 7), NONE);
        due("TOP at the last tick", x.batchOf(cookedBatch(x, FUDGE, row(8f, 9f), 0, 1), 7), NONE);
        due("at TOP again", x.batchOf(cookedBatch(x, FUDGE, row(9f, 9f, 9f), 0, 1), 7), 1);
        due("at TOP a third time", x.batchOf(cookedBatch(x, FUDGE, row(9f, 9f, 9f), 2), 7), 2);
        due("between two TOPS", x.batchOf(cookedBatch(x, FUDGE, row(8f, 9f, 7f, 9f), 2), 7), 2);
        due("behind a high, ahead of TOP", x.batchOf(cookedBatch(x, FUDGE, row(8f, 7f, 9f), 1), 7), NONE);
        due("the same DEGREE by other floats",
                x.batchOf(cookedBatch(x, FUDGE, row(9.01f, 9.05f, 8f), 1), 7), 1);
        due("one tick alone", x.batchOf(cookedBatch(x, FUDGE, row(9f), 0), 7), NONE);
    }

    @Says("at some tick that was cooked")
    static void grainedAtACookedTick() {
        SugarKitchen x = new SugarKitchen();
        x.grain(MIN, MAX);
        for (int ticks = 1; ticks <= 4; ticks++) {
            int batch = rawBatch(x, FUDGE, 100);
            readings(x, batch, 9f, 8f, 7f, 6f);
            stirrings(x, batch, 4, 2);
            x.cook(batch, ticks);
            due("GRAINED over " + ticks, x.batchOf(batch, 6), ticks >= 3 ? 1 : 0);
            due("at", x.batchOf(batch, 7), ticks >= 3 ? 2 : NONE);
        }
    }

    @Says("it was stirred (a place that isn't there: no)")
    static void grainedByStirring() {
        SugarKitchen x = new SugarKitchen();
        x.grain(MIN, MAX);
        for (int length : new int[] {NONE, 0, 1, 2, 3, 60}) {
            int batch = rawBatch(x, FUDGE, 100);
            readings(x, batch, 9f, 8f, 7f);
            x.row(batch, 1, length);
            due("stir the last", x.stir(batch, 2, true) ? 1 : 0, length > 2 ? 1 : 0);
            x.cook(batch, 3);
            due("GRAINED, a STIRRING row of " + length, x.batchOf(batch, 6), length > 2 ? 1 : 0);
            due("at", x.batchOf(batch, 7), length > 2 ? 2 : NONE);
            due("why", x.why(batch), length > 2 ? 0 : 5);
        }
    }

    @Says("it was stirred (a place that isn't there: no)")
    static void grainedByStirringOfARowMadeShorter() {
        SugarKitchen x = new SugarKitchen();
        x.grain(MIN, MAX);
        int batch = rawBatch(x, FUDGE, 100);
        readings(x, batch, 9f, 8f, 7f);
        stirrings(x, batch, 3, 1, 2);
        x.row(batch, 1, 1);
        x.cook(batch, 3);
        due("GRAINED", x.batchOf(batch, 6), 0);
        int missing = rawBatch(x, FUDGE, 100);
        readings(x, missing, 9f, 8f, 7f);
        stirrings(x, missing, 3, 1, 2);
        x.row(missing, 1, NONE);
        x.cook(missing, 3);
        due("GRAINED", x.batchOf(missing, 6), 0);
    }

    @Says("a DEGREE was read within GRAIN")
    static void grainedWithinGrain() {
        int[][] grains = {{80, 80, 1}, {80, 90, 1}, {70, 80, 1}, {81, 90, 0}, {70, 79, 0}, {81, 79, 0},
            {90, 70, 0}, {MIN, MAX, 1}, {MIN, 80, 1}, {80, MAX, 1}, {MIN, 79, 0}, {81, MAX, 0}, {MAX, MIN, 0}};
        for (int[] g : grains) {
            SugarKitchen x = new SugarKitchen();
            yes("grain(" + g[0] + ", " + g[1] + ")", x.grain(g[0], g[1]));
            int batch = cookedBatch(x, FUDGE, row(9f, 8f), 1);
            due("GRAINED within " + g[0] + " .. " + g[1], x.batchOf(batch, 6), g[2]);
        }
    }

    @Says("a DEGREE was read within GRAIN")
    static void grainedAtTheEndsOfInt() {
        SugarKitchen x = new SugarKitchen();
        x.grain(MAX, MAX);
        due("MAX", x.batchOf(cookedBatch(x, FUDGE, row(3e38f, 3e38f), 1), 7), 1);
        x.grain(MIN, MAX - 1);
        due("MAX, not within", x.batchOf(cookedBatch(x, FUDGE, row(3e38f, 3e38f), 1), 7), NONE);
        x.grain(MIN, MIN);
        due("MIN", x.batchOf(cookedBatch(x, FUDGE, row(-3e38f, -3e38f), 1), 7), 1);
        x.grain(MIN + 1, MAX);
        due("MIN, not within", x.batchOf(cookedBatch(x, FUDGE, row(-3e38f, -3e38f), 1), 7), NONE);
    }

    @Says("(two told degrees, at first 0 and -1)")
    static void grainAtFirst() {
        SugarKitchen x = new SugarKitchen();
        int batch = cookedBatch(x, FUDGE, row(9f, 0.1f, 0f, -0.1f, -0.2f), 1, 2, 3, 4);
        due("GRAINED", x.batchOf(batch, 6), 0);
        due("why", x.why(batch), 5);
    }

    @Says("GRAIN is from one degree to another: true, always.")
    static void grainAlways() {
        SugarKitchen x = new SugarKitchen();
        int[] degrees = {MIN, -1, 0, 1, MAX};
        for (int low : degrees) {
            for (int high : degrees) {
                yes("grain(" + low + ", " + high + ")", x.grain(low, high));
            }
        }
        x.grain(80, 80);
        due("GRAINED by the last told", x.batchOf(cookedBatch(x, FUDGE, row(9f, 8f), 1), 6), 1);
    }

    // ---- good

    @Says("BOUNDS of a KIND's LOSS (any): true. False: no such KIND.")
    static void boundsOfKinds() {
        SugarKitchen x = new SugarKitchen();
        for (int kind : new int[] {-1, 6, MIN, MAX}) {
            no("bounds(" + kind + ", 0, 900)", x.bounds(kind, 0, 900));
            no("bounds(" + kind + ", 1, 1)", x.bounds(kind, 1, 1));
        }
        int[] ends = {MIN, -1, 0, 900, 901, MAX};
        for (int kind = 0; kind < 6; kind++) {
            for (int end : ends) {
                yes("bounds(" + kind + ", " + end + ", ..)", x.bounds(kind, end, -1 - end));
            }
        }
    }

    @Says("BOUNDS of a KIND's LOSS (any): true. False: no such KIND.")
    static void boundsOfOneKindAlone() {
        for (int kind = 0; kind < 6; kind++) {
            SugarKitchen x = new SugarKitchen();
            x.grain(80, 80);
            int[] batches = new int[6];
            for (int other = 0; other < 6; other++) {
                batches[other] = other == CLEAR ? cookedBatch(x, other, row(9f, 8f))
                        : cookedBatch(x, other, row(9f, 8f), 1);
            }
            x.bounds(kind, 1, 900);
            for (int other = 0; other < 6; other++) {
                due("why of " + other + ", bounds of " + kind, x.why(batches[other]), other == kind ? 3 : 0);
            }
        }
    }

    @Says({"Why a batch isn't GOOD (by now)", "LOSS within the two BOUNDS of its KIND (at first 0 and 900)"})
    static void lossWithinBounds() {
        SugarKitchen x = new SugarKitchen();
        x.table(10, 300);
        x.table(20, 900);
        int none = cookedBatch(x, SYRUP, row(0f));
        int some = cookedBatch(x, SYRUP, row(1f));
        int most = cookedBatch(x, SYRUP, row(2f));
        due("LOSS 0, at first", x.why(none), 0);
        due("LOSS 300, at first", x.why(some), 0);
        due("LOSS 900, at first", x.why(most), 0);
        x.bounds(SYRUP, 300, 300);
        due("LOSS 0 by 300 .. 300", x.why(none), 3);
        due("LOSS 300 by 300 .. 300", x.why(some), 0);
        due("LOSS 900 by 300 .. 300", x.why(most), 4);
        x.bounds(SYRUP, 299, 301);
        due("LOSS 300 by 299 .. 301", x.why(some), 0);
        x.bounds(SYRUP, 301, 900);
        due("LOSS 300 by 301 .. 900", x.why(some), 3);
        x.bounds(SYRUP, 0, 299);
        due("LOSS 300 by 0 .. 299", x.why(some), 4);
        due("LOSS 0 by 0 .. 299", x.why(none), 0);
        x.bounds(SYRUP, MIN, MAX);
        due("LOSS 900 by MIN .. MAX", x.why(most), 0);
        x.bounds(SYRUP, MAX, MIN);
        due("by MAX .. MIN: too low comes first", x.why(some), 3);
        x.bounds(SYRUP, MIN, MIN);
        due("by MIN .. MIN", x.why(none), 4);
        x.bounds(SYRUP, 901, MAX);
        due("LOSS 900 by 901 .. MAX", x.why(most), 3);
    }

    @Says("GRAINED (1, 3, 4), not GRAINED (2).")
    static void goodByGrain() {
        int[] grained = {0, 0, 6, 0, 0, 0};
        int[] plain = {0, 5, 0, 5, 5, 0};
        SugarKitchen x = new SugarKitchen();
        x.grain(80, 80);
        for (int kind = 0; kind < 6; kind++) {
            due("why, GRAINED, kind " + kind, x.why(cookedBatch(x, kind, row(9f, 8f), 1)), grained[kind]);
            due("why, not GRAINED, kind " + kind, x.why(cookedBatch(x, kind, row(9f, 8f))), plain[kind]);
        }
    }

    @Says({"0 it is (also vouched for)", "Or it was cooked and a hand has VOUCHED for it."})
    static void goodByAHand() {
        SugarKitchen x = new SugarKitchen();
        x.grain(80, 80);
        int doubtful = rawBatch(x, SYRUP, 100);
        x.cook(doubtful, 1);
        int low = cookedBatch(x, SYRUP, row(9f));
        int plain = cookedBatch(x, NUT, row(9f));
        int grained = cookedBatch(x, CLEAR, row(9f, 8f), 1);
        int raw = rawBatch(x, SYRUP, 100);
        x.bounds(SYRUP, 1, 0);
        int[] batches = {doubtful, low, plain, grained};
        int[] faults = {2, 3, 5, 6};
        for (int i = 0; i < 4; i++) {
            due("why ahead", x.why(batches[i]), faults[i]);
            yes("vouch", x.vouch(batches[i]));
            due("why behind", x.why(batches[i]), 0);
        }
        no("vouch for a raw one", x.vouch(raw));
        due("why of a raw one", x.why(raw), 1);
        x.cook(raw, 1);
        due("why: the hand ahead of cooking didn't count", x.why(raw), 2);
    }

    // ---- cook, vouch, why, batchOf, left

    @Says("A batch is COOKED over 1 .. 60 ticks: its MASS then.")
    static void cookTicks() {
        SugarKitchen x = new SugarKitchen();
        int batch = rawBatch(x, SYRUP, 100);
        for (int ticks : new int[] {0, -1, 61, MIN, MAX}) {
            due("cook over " + ticks, x.cook(batch, ticks), NONE);
        }
        due("why", x.why(batch), 1);
        due("cook over 1", x.cook(batch, 1), 100);
        int other = rawBatch(x, SYRUP, 100);
        due("cook over 60", x.cook(other, 60), 100);
        due("why", x.why(other), 2);
    }

    @Says("NONE, changing nothing: no such batch, ticks, it is cooked, or has no MASS.")
    static void cookOfNone() {
        SugarKitchen x = new SugarKitchen();
        due("cook(0, 1), no batch", x.cook(0, 1), NONE);
        int batch = rawBatch(x, SYRUP, 1);
        for (int number : new int[] {-1, 1, 40, MIN, MAX}) {
            due("cook(" + number + ", 1)", x.cook(number, 1), NONE);
        }
        int empty = x.batch(SYRUP);
        due("cook without MASS", x.cook(empty, 1), NONE);
        due("why", x.why(empty), 1);
        due("cook MASS 1", x.cook(batch, 1), 1);
    }

    @Says("NONE, changing nothing: no such batch, ticks, it is cooked, or has no MASS.")
    static void cookAgain() {
        SugarKitchen x = new SugarKitchen();
        x.table(0, 500);
        int batch = rawBatch(x, SYRUP, 1000);
        x.row(batch, 0, 2);
        due("cook", x.cook(batch, 2), 500);
        due("cook again", x.cook(batch, 2), NONE);
        due("cook again, too long", x.cook(batch, 3), NONE);
        due("MASS", x.batchOf(batch, 1), 500);
        due("why", x.why(batch), 0);
    }

    @Says("A hand vouches for a cooked batch: true. False for others.")
    static void vouchForOthers() {
        SugarKitchen x = new SugarKitchen();
        no("vouch(0), no batch", x.vouch(0));
        int batch = rawBatch(x, SYRUP, 100);
        for (int number : new int[] {-1, 1, 40, MIN, MAX}) {
            no("vouch(" + number + ")", x.vouch(number));
        }
        no("vouch for a raw one", x.vouch(batch));
        due("whether it is", x.batchOf(batch, 8), 0);
        x.cook(batch, 1);
        due("whether it is", x.batchOf(batch, 8), 0);
        yes("vouch", x.vouch(batch));
        yes("vouch again", x.vouch(batch));
        due("whether it is", x.batchOf(batch, 8), 1);
    }

    @Says("6 it is: the first of these.")
    static void whyTheFirst() {
        SugarKitchen x = new SugarKitchen();
        x.grain(80, 80);
        int doubtful = rawBatch(x, FUDGE, 100);
        readings(x, doubtful, 9f);
        int raw = rawBatch(x, FUDGE, 100);
        x.cook(doubtful, 2);
        int plain = cookedBatch(x, FUDGE, row(9f));
        int clear = cookedBatch(x, CLEAR, row(9f, 8f), 1);
        x.bounds(FUDGE, 1, -1);
        x.bounds(CLEAR, 1, -1);
        due("raw ahead of all", x.why(raw), 1);
        due("DOUBTFUL ahead of LOSS and grain", x.why(doubtful), 2);
        due("too low ahead of too high and grain", x.why(plain), 3);
        due("too low ahead of too high and grain", x.why(clear), 3);
        x.bounds(FUDGE, 0, -1);
        x.bounds(CLEAR, 0, -1);
        due("DOUBTFUL ahead of too high", x.why(doubtful), 2);
        due("too high ahead of not GRAINED", x.why(plain), 4);
        due("too high ahead of GRAINED", x.why(clear), 4);
        x.bounds(FUDGE, 0, 0);
        x.bounds(CLEAR, 0, 0);
        due("DOUBTFUL ahead of not GRAINED", x.why(doubtful), 2);
        due("not GRAINED", x.why(plain), 5);
        due("GRAINED", x.why(clear), 6);
    }

    @Says("NONE: no such batch.")
    static void whyOfNone() {
        SugarKitchen x = new SugarKitchen();
        due("why(0)", x.why(0), NONE);
        x.batch(SYRUP);
        due("why of one without MASS", x.why(0), 1);
        for (int number : new int[] {-1, 1, 40, MIN, MAX}) {
            due("why(" + number + ")", x.why(number), NONE);
        }
    }

    @Says("12 what was dipped of it. NONE for others.")
    static void batchOfOthers() {
        SugarKitchen x = new SugarKitchen();
        due("batchOf(0, 0), no batch", x.batchOf(0, 0), NONE);
        int batch = goodBatch(x, SYRUP, 100);
        for (int what : new int[] {-1, 13, 14, MIN, MAX}) {
            due("batchOf(batch, " + what + ")", x.batchOf(batch, what), NONE);
        }
        for (int what = 0; what <= 12; what++) {
            for (int number : new int[] {-1, 1, 40, MIN, MAX}) {
                due("batchOf(" + number + ", " + what + ")", x.batchOf(number, what), NONE);
            }
        }
    }

    @Says("(3 to 7 of one that isn't cooked: 0, 0, -1000001, 0, NONE.)")
    static void batchOfARawOne() {
        SugarKitchen x = new SugarKitchen();
        x.table(0, 500);
        x.grain(MIN, MAX);
        int batch = rawBatch(x, FUDGE, 100);
        readings(x, batch, 90f, 80f);
        stirrings(x, batch, 2, 1);
        int bare = x.batch(COAT);
        int[] due = {0, 0, -1000001, 0, NONE};
        for (int what = 3; what <= 7; what++) {
            due("batchOf(batch, " + what + ")", x.batchOf(batch, what), due[what - 3]);
            due("batchOf(bare, " + what + ")", x.batchOf(bare, what), due[what - 3]);
        }
        int[] others = {COAT, 0, 0};
        for (int what = 0; what < 3; what++) {
            due("batchOf(bare, " + what + ")", x.batchOf(bare, what), others[what]);
        }
        for (int what = 8; what <= 12; what++) {
            due("batchOf(bare, " + what + ")", x.batchOf(bare, what), 0);
        }
    }

    @Says("7 the first tick at which it was GRAINED, or, of a DOUBTFUL one, which was not there (NONE)")
    static void batchOfTick() {
        SugarKitchen x = new SugarKitchen();
        x.grain(0, 80);
        due("first of three", x.batchOf(cookedBatch(x, FUDGE, row(9f, 8.1f, 8f, 7f, 6f), 1, 2, 3, 4), 7), 2);
        due("none", x.batchOf(cookedBatch(x, FUDGE, row(9f, 8f)), 7), NONE);
        int batch = rawBatch(x, FUDGE, 100);
        readings(x, batch, 9f, 8f, 7f);
        stirrings(x, batch, 3, 1);
        x.cook(batch, 4);
        due("DOUBTFUL and GRAINED", x.batchOf(batch, 7), 3);
        int late = rawBatch(x, FUDGE, 100);
        x.row(late, 0, 59);
        x.cook(late, 60);
        due("the last tick", x.batchOf(late, 7), 59);
        x.vouch(late);
        due("the last tick, vouched for", x.batchOf(late, 7), 59);
    }

    @Says("What a lot has left; NONE if there is none such.")
    static void leftOfNone() {
        SugarKitchen x = new SugarKitchen();
        due("left(0)", x.left(0), NONE);
        x.lot(5, 0);
        for (int number : new int[] {-1, 1, 40, 64, MIN, MAX}) {
            due("left(" + number + ")", x.left(number), NONE);
        }
        x.batch(SYRUP);
        x.put(0, 0, 4);
        due("left(0)", x.left(0), 1);
        x.put(0, 0, 1);
        due("left(0), all is gone", x.left(0), 0);
    }
}
