/** The edges of the QUEUE, of recall and of counts: of Terms III, promises 27 to 31. */
public final class QueueEdgesTest extends Checks {
    public static void main(String[] args) {
        runAll(QueueEdgesTest.class);
    }

    /** Batches of these KINDS, all in the QUEUE. */
    private static SugarKitchen waiting(int... kinds) {
        SugarKitchen x = new SugarKitchen();
        for (int i = 0; i < kinds.length; i++) {
            x.batch(kinds[i]);
            x.queue(i);
        }
        return x;
    }

    private static void ordered(SugarKitchen x, boolean nutsLast, int minutes, int... batches) {
        due("minutes, nuts last " + nutsLast, x.order(nutsLast, NONE), minutes);
        for (int i = 0; i < batches.length; i++) {
            due("order(" + nutsLast + ", " + i + ")", x.order(nutsLast, i), batches[i]);
        }
        due("order beyond", x.order(nutsLast, batches.length), NONE);
    }

    // ---- wash

    @Says("WASHING from a KIND to a KIND (0 .. 600 minutes): true. False for others.")
    static void washMinutes() {
        SugarKitchen x = waiting(SYRUP, SYRUP);
        yes("wash 600", x.wash(SYRUP, SYRUP, 600));
        ordered(x, false, 600, 0, 1);
        for (int minutes : new int[] {-1, 601, MIN, MAX}) {
            no("wash " + minutes, x.wash(SYRUP, SYRUP, minutes));
        }
        ordered(x, false, 600, 0, 1);
        yes("wash 0", x.wash(SYRUP, SYRUP, 0));
        ordered(x, false, 0, 0, 1);
        yes("wash 1", x.wash(SYRUP, SYRUP, 1));
        ordered(x, false, 1, 0, 1);
    }

    @Says("WASHING from a KIND to a KIND (0 .. 600 minutes): true. False for others.")
    static void washKinds() {
        SugarKitchen x = waiting(SYRUP, FUDGE, CLEAR, CENTRE, NUT, COAT);
        int wrapping = (int) ((1L << 32) / 6 + 1); // six times it is 2 beyond 2^32
        for (int kind : new int[] {-1, 6, 7, MIN, MAX, wrapping, -wrapping}) {
            for (int other : new int[] {0, 5, 6, -1, MIN, MAX}) {
                no("wash(" + kind + ", " + other + ", 600)", x.wash(kind, other, 600));
                no("wash(" + other + ", " + kind + ", 600)", x.wash(other, kind, 600));
            }
        }
        ordered(x, false, 0, 0, 1, 2, 3, 4, 5);
        ordered(x, true, 0, 0, 1, 2, 3, 5, 4);
    }

    @Says("WASHING minutes from a KIND to a KIND (at first 0).")
    static void washEachPair() {
        for (int from = 0; from < 6; from++) {
            for (int to = 0; to < 6; to++) {
                SugarKitchen x = waiting(from, to);
                due("minutes at first", x.order(false, NONE), 0);
                yes("wash(" + from + ", " + to + ", 7)", x.wash(from, to, 7));
                due("the other way is free, or the KIND is one", x.order(false, NONE), from == to ? 7 : 0);
                due("its first", x.order(false, 0), from == to ? 0 : 1);
                x.wash(to, from, 9);
                due("minutes, both told", x.order(false, NONE), from == to ? 9 : 7);
                due("its first", x.order(false, 0), 0);
            }
        }
    }

    @Says("with the least sum of washing between each two neighbours")
    static void noWashingAheadOrBehind() {
        SugarKitchen x = waiting(COAT);
        for (int kind = 0; kind < 6; kind++) {
            x.wash(kind, COAT, 600);
            x.wash(COAT, kind, 600);
        }
        ordered(x, false, 0, 0);
        ordered(x, true, 0, 0);
    }

    // ---- queue

    @Says("THE QUEUE: up to 10 batches, none twice.")
    static void queueIsTen() {
        SugarKitchen x = new SugarKitchen();
        for (int i = 0; i < 40; i++) {
            x.batch(i % 6);
        }
        for (int i = 0; i < 10; i++) {
            due("queue " + i, x.queue(39 - i), i + 1);
            due("queue " + i + " twice", x.queue(39 - i), NONE);
            due("queue the first twice", x.queue(39), NONE);
        }
        due("queue the 11th", x.queue(0), NONE);
        due("queue the 11th", x.queue(29), NONE);
        due("how many", x.about(5), 10);
        ordered(x, false, 0, 39, 38, 37, 36, 35, 34, 33, 32, 31, 30);
        due("queue(NONE)", x.queue(NONE), 0);
        due("how many", x.about(5), 0);
        for (int i = 0; i < 10; i++) {
            due("queue again " + i, x.queue(30 + i), i + 1);
        }
        due("queue the 11th", x.queue(29), NONE);
        ordered(x, false, 0, 30, 31, 32, 33, 34, 35, 36, 37, 38, 39);
    }

    @Says("NONE: no such batch, it is there, or there are 10.")
    static void queueOfNone() {
        SugarKitchen x = new SugarKitchen();
        due("queue(0), no batch", x.queue(0), NONE);
        x.batch(SYRUP);
        for (int number : new int[] {-2, 1, 40, MIN, MAX}) {
            due("queue(" + number + ")", x.queue(number), NONE);
        }
        due("how many", x.about(5), 0);
        due("queue(0)", x.queue(0), 1);
        due("queue(0) again", x.queue(0), NONE);
        due("queue(-2)", x.queue(-2), NONE);
        due("how many", x.about(5), 1);
    }

    @Says("A batch NONE: the QUEUE is empty: 0.")
    static void queueEmptied() {
        SugarKitchen x = new SugarKitchen();
        due("queue(NONE), empty", x.queue(NONE), 0);
        x.batch(NUT);
        x.batch(SYRUP);
        x.queue(0);
        x.queue(1);
        ordered(x, true, 0, 1, 0);
        due("queue(NONE)", x.queue(NONE), 0);
        due("how many", x.about(5), 0);
        ordered(x, true, 0);
        ordered(x, false, 0);
        due("queue(1)", x.queue(1), 1);
        due("queue(0)", x.queue(0), 2);
        ordered(x, false, 0, 1, 0);
    }

    @Says("A batch NONE: the QUEUE is empty: 0.")
    static void queueEmptiedForgetsMinutesAndNuts() {
        SugarKitchen x = waiting(NUT, SYRUP, COAT);
        for (int i = 0; i < 36; i++) {
            x.wash(i / 6, i % 6, 5);
        }
        ordered(x, false, 10, 0, 1, 2);
        ordered(x, true, 10, 1, 2, 0);
        x.queue(NONE);
        ordered(x, false, 0);
        ordered(x, true, 0);
        x.queue(1);
        x.queue(2);
        ordered(x, true, 5, 1, 2);
        x.queue(NONE);
        x.queue(2);
        x.queue(0);
        x.queue(1);
        ordered(x, true, 10, 2, 1, 0);
        ordered(x, false, 10, 2, 0, 1);
    }

    @Says("THE QUEUE: up to 10 batches, none twice.")
    static void queueOfRawAndCooked() {
        SugarKitchen x = new SugarKitchen();
        goodBatch(x, SYRUP, 10);
        rawBatch(x, SYRUP, 10);
        x.batch(SYRUP);
        due("a cooked one", x.queue(0), 1);
        due("a raw one", x.queue(1), 2);
        due("one without MASS", x.queue(2), 3);
    }

    // ---- order

    @Says({"its minutes (i NONE), or its i-th batch.",
        "NONE if there is none such (of an empty QUEUE the minutes are 0)."})
    static void orderOfNone() {
        SugarKitchen x = new SugarKitchen();
        ordered(x, false, 0);
        ordered(x, true, 0);
        x.batch(SYRUP);
        x.queue(0);
        for (int i : new int[] {-2, 1, 10, MIN, MAX}) {
            due("order(false, " + i + ")", x.order(false, i), NONE);
            due("order(true, " + i + ")", x.order(true, i), NONE);
        }
        ordered(x, false, 0, 0);
        ordered(x, true, 0, 0);
    }

    @Says("nuts last, if told: all NUTS behind all others")
    static void nutsLast() {
        SugarKitchen x = waiting(NUT, SYRUP, NUT, COAT, NUT);
        ordered(x, false, 0, 0, 1, 2, 3, 4);
        ordered(x, true, 0, 1, 3, 0, 2, 4);
        x.wash(SYRUP, NUT, 600);
        x.wash(COAT, NUT, 600);
        ordered(x, true, 600, 1, 3, 0, 2, 4);
        ordered(x, false, 0, 0, 2, 4, 1, 3);
        SugarKitchen all = waiting(NUT, NUT, NUT);
        ordered(all, true, 0, 0, 1, 2);
        SugarKitchen none = waiting(SYRUP, COAT, SYRUP);
        ordered(none, true, 0, 0, 1, 2);
        SugarKitchen one = waiting(NUT, SYRUP);
        one.wash(SYRUP, NUT, 600);
        ordered(one, true, 600, 1, 0);
        ordered(one, false, 0, 0, 1);
    }

    @Says("of orders with like sums the one that has at the first place where they part the batch that stands "
            + "earlier in the QUEUE.")
    static void likeSums() {
        SugarKitchen x = new SugarKitchen();
        int[] kinds = {FUDGE, SYRUP, FUDGE, SYRUP};
        for (int kind : kinds) {
            x.batch(kind);
        }
        for (int batch : new int[] {3, 0, 2, 1}) {
            x.queue(batch);
        }
        ordered(x, false, 0, 3, 0, 2, 1);
        x.wash(SYRUP, FUDGE, 5);
        x.wash(FUDGE, SYRUP, 5);
        ordered(x, false, 5, 3, 1, 0, 2);
        x.wash(SYRUP, FUDGE, 6);
        ordered(x, false, 5, 0, 2, 3, 1);
        x.wash(SYRUP, SYRUP, 1);
        ordered(x, false, 6, 0, 2, 3, 1);
        x.wash(FUDGE, FUDGE, 600);
        x.wash(SYRUP, SYRUP, 600);
        ordered(x, false, 16, 0, 3, 2, 1);
    }

    @Says("all of the QUEUE, one behind the other, with the least sum of washing between each two neighbours")
    static void orderOfTenAtTheMost() {
        SugarKitchen x = waiting(0, 1, 2, 3, 4, 5, 0, 1, 2, 3);
        for (int i = 0; i < 36; i++) {
            x.wash(i / 6, i % 6, 600);
        }
        ordered(x, false, 5400, 0, 1, 2, 3, 4, 5, 6, 7, 8, 9);
        ordered(x, true, 5400, 0, 1, 2, 3, 5, 6, 7, 8, 9, 4);
        for (int kind = 0; kind < 6; kind++) {
            x.wash(kind, kind, 599);
        }
        ordered(x, false, 5396, 0, 6, 1, 7, 2, 8, 3, 9, 4, 5);
        ordered(x, true, 5396, 0, 6, 1, 7, 2, 8, 3, 9, 5, 4);
    }

    @Says("with the least sum of washing between each two neighbours")
    static void orderFollowsEachChange() {
        SugarKitchen x = waiting(SYRUP, FUDGE);
        ordered(x, false, 0, 0, 1);
        ordered(x, true, 0, 0, 1);
        x.wash(SYRUP, FUDGE, 1);
        ordered(x, false, 0, 1, 0);
        ordered(x, true, 0, 1, 0);
        x.wash(FUDGE, SYRUP, 2);
        ordered(x, false, 1, 0, 1);
        ordered(x, true, 1, 0, 1);
        x.batch(FUDGE);
        x.queue(2);
        ordered(x, false, 1, 0, 1, 2);
        x.wash(FUDGE, FUDGE, 600);
        ordered(x, false, 3, 1, 0, 2);
        ordered(x, true, 3, 1, 0, 2);
    }

    // ---- recall

    @Says("What has some of a lot, rising: the i-th batch (what 0), piece (1), box (2). NONE if there is none such.")
    static void recallOfOthers() {
        SugarKitchen x = laidOut(100);
        x.pack(15, 100, 0);
        for (int what = 0; what <= 2; what++) {
            due("recall(0, " + what + ", 0)", x.recall(0, what, 0), 0);
            for (int number : new int[] {-1, 1, 32, 40, 63, 64, 128, MIN, MAX}) {
                due("recall(" + number + ", " + what + ", 0)", x.recall(number, what, 0), NONE);
            }
            for (int i : new int[] {-1, 1, MIN, MAX}) {
                due("recall(0, " + what + ", " + i + ")", x.recall(0, what, i), NONE);
            }
        }
        for (int what : new int[] {-1, 3, MIN, MAX}) {
            due("recall(0, " + what + ", 0)", x.recall(0, what, 0), NONE);
        }
        SugarKitchen none = new SugarKitchen();
        for (int what = 0; what <= 2; what++) {
            due("recall of no lot", none.recall(0, what, 0), NONE);
        }
        none.lot(5, 0);
        for (int what = 0; what <= 2; what++) {
            due("recall of a lot that nothing has", none.recall(0, what, 0), NONE);
        }
    }

    @Says("What has some of a lot, rising")
    static void recallOfAll() {
        SugarKitchen x = new SugarKitchen();
        x.lot(1000000, 0);
        for (int batch = 0; batch < 40; batch++) {
            x.batch(batch % 2 == 0 ? CENTRE : NUT);
        }
        for (int batch = 39; batch >= 0; batch--) {
            x.put(batch, 0, batch == 0 ? 9000 : 10);
        }
        for (int batch = 0; batch < 40; batch++) {
            due("batch " + batch, x.recall(0, 0, batch), batch);
        }
        due("batch 40", x.recall(0, 0, 40), NONE);
        x.cook(0, 1);
        x.vouch(0);
        for (int i = 0; i < 7; i++) {
            x.cut(0, 10, 99);
        }
        for (int piece = 0; piece < 600; piece += 37) {
            due("piece " + piece, x.recall(0, 1, piece), piece);
        }
        due("piece 599", x.recall(0, 1, 599), 599);
        due("piece 600", x.recall(0, 1, 600), NONE);
    }

    @Says("What has some of a lot, rising")
    static void recallByCoat() {
        SugarKitchen x = new SugarKitchen();
        goodBatch(x, CENTRE, 1000);
        goodBatch(x, COAT, 1000);
        x.cut(0, 100, 4);
        due("piece ahead of dipping", x.recall(1, 1, 0), NONE);
        x.dip(2, 1, 1);
        x.allow(2);
        due("the dipped piece", x.recall(1, 1, 0), 2);
        due("no other", x.recall(1, 1, 1), NONE);
        due("batch of the COAT's lot", x.recall(1, 0, 0), 1);
        due("no other batch", x.recall(1, 0, 1), NONE);
        for (int piece = 0; piece < 4; piece++) {
            x.place(piece, 0, piece);
        }
        x.pack(1, 100, 0);
        x.pack(4, 101, 0);
        due("the box of the dipped piece", x.recall(1, 2, 0), 1);
        due("no other box", x.recall(1, 2, 1), NONE);
        due("boxes of the CENTRE's lot", x.recall(0, 2, 0), 0);
        due("boxes of the CENTRE's lot", x.recall(0, 2, 1), 1);
        due("no other box", x.recall(0, 2, 2), NONE);
        due("pieces in boxes count too", x.recall(0, 1, 3), 3);
    }

    @Says("What has some of a lot, rising")
    static void recallOfARefusedPut() {
        SugarKitchen x = new SugarKitchen();
        x.lot(5, 0);
        x.lot(5, 0);
        x.batch(SYRUP);
        x.put(0, 0, 6);
        x.put(0, 0, 0);
        due("refused", x.recall(0, 0, 0), NONE);
        x.put(0, 1, 1);
        due("put", x.recall(1, 0, 0), 0);
        x.put(0, 1, 1);
        due("put twice counts once", x.recall(1, 0, 1), NONE);
    }

    // ---- about

    @Says("6 pieces that are FIT. NONE for others.")
    static void aboutOthers() {
        SugarKitchen x = laidOut(100, 100);
        for (int what : new int[] {-1, 7, MIN, MAX}) {
            due("about(" + what + ")", x.about(what), NONE);
        }
        int[] due = {1, 1, 2, 0, 0, 0, 2};
        for (int what = 0; what <= 6; what++) {
            due("about(" + what + ")", x.about(what), due[what]);
        }
    }

    @Says("0 lots, 1 batches, 2 pieces, 3 boxes, 4 rows of the TABLE, 5 batches in the QUEUE, 6 pieces that are FIT.")
    static void aboutWhatNeverFalls() {
        SugarKitchen x = laidOut(100, 100, 100);
        x.pack(15, 200, 0);
        x.queue(0);
        x.table(5, 5);
        int[] due = {1, 1, 3, 1, 1, 1, 1};
        for (int what = 0; what <= 6; what++) {
            due("about(" + what + ")", x.about(what), due[what]);
        }
        x.queue(NONE);
        x.take(2);
        int[] then = {1, 1, 3, 1, 1, 0, 0};
        for (int what = 0; what <= 6; what++) {
            due("about(" + what + ")", x.about(what), then[what]);
        }
    }
}
