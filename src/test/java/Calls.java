/** A kitchen whose calls are made by name, and counted; a boolean answers 1 or 0. */
final class Calls {
    static final String[] NAMES = {"lot", "batch", "put", "row", "tick", "stir", "table", "grain", "bounds", "cook",
        "vouch", "why", "batchOf", "temper", "heat", "cut", "dip", "place", "take", "allow", "pieceOf", "at", "pack",
        "would", "boxOf", "wash", "queue", "order", "recall", "about", "left"};
    private static final int[] ARGUMENTS = {2, 1, 3, 3, 3, 3, 2, 2, 3, 2, 1, 1, 2, 6, 2, 3, 3, 3, 1, 1, 2, 2, 3, 4, 2,
        3, 1, 2, 3, 1, 1};

    private final SugarKitchen x = new SugarKitchen();
    int made;

    static int argumentsOf(String name) {
        for (int i = 0; i < NAMES.length; i++) {
            if (NAMES[i].equals(name)) {
                return ARGUMENTS[i];
            }
        }
        throw new IllegalArgumentException(name);
    }

    int call(String name, int... a) {
        made++;
        switch (name) {
            case "lot": return x.lot(a[0], a[1]);
            case "batch": return x.batch(a[0]);
            case "put": return x.put(a[0], a[1], a[2]);
            case "row": return x.row(a[0], a[1], a[2]) ? 1 : 0;
            case "tick": return x.tick(a[0], a[1], a[2]) ? 1 : 0;
            case "stir": return x.stir(a[0], a[1], a[2] != 0) ? 1 : 0;
            case "table": return x.table(a[0], a[1]);
            case "grain": return x.grain(a[0], a[1]) ? 1 : 0;
            case "bounds": return x.bounds(a[0], a[1], a[2]) ? 1 : 0;
            case "cook": return x.cook(a[0], a[1]);
            case "vouch": return x.vouch(a[0]) ? 1 : 0;
            case "why": return x.why(a[0]);
            case "batchOf": return x.batchOf(a[0], a[1]);
            case "temper": return x.temper(a[0], a[1], a[2], a[3], a[4], a[5]) ? 1 : 0;
            case "heat": return x.heat(a[0], a[1]);
            default: return callOfPieces(name, a);
        }
    }

    private int callOfPieces(String name, int... a) {
        switch (name) {
            case "cut": return x.cut(a[0], a[1], a[2]);
            case "dip": return x.dip(a[0], a[1], a[2]);
            case "place": return x.place(a[0], a[1], a[2]) ? 1 : 0;
            case "take": return x.take(a[0]) ? 1 : 0;
            case "allow": return x.allow(a[0]) ? 1 : 0;
            case "pieceOf": return x.pieceOf(a[0], a[1]);
            case "at": return x.at(a[0], a[1]);
            case "pack": return x.pack(a[0], a[1], a[2]);
            case "would": return x.would(a[0], a[1], a[2], a[3]);
            case "boxOf": return x.boxOf(a[0], a[1]);
            case "wash": return x.wash(a[0], a[1], a[2]) ? 1 : 0;
            case "queue": return x.queue(a[0]);
            case "order": return x.order(a[0] != 0, a[1]);
            case "recall": return x.recall(a[0], a[1], a[2]);
            case "about": return x.about(a[0]);
            case "left": return x.left(a[0]);
            default: throw new IllegalArgumentException(name);
        }
    }

    private void read(int batch, float... degrees) {
        call("row", batch, 0, degrees.length);
        for (int i = 0; i < degrees.length; i++) {
            call("tick", batch, i, Float.floatToIntBits(degrees[i]));
        }
    }

    private void heat(int coat, int... degrees) {
        for (int degree : degrees) {
            call("heat", coat, degree);
        }
    }

    /**
     * A kitchen with something of everything.
     * Lots: 0 to 4; 2 is empty at first, 3 is used up. Batches: 0 CENTRE, 1 NUT, both GOOD; 2 COAT in TEMPER;
     * 3 COAT in PHASE 1 with 1; 4 COAT, raw; 5 SYRUP, raw, with rows of 3 and 4; 6 FUDGE, raw, no rows; 7 CLEAR, raw,
     * no MASS, rows without places; 8 CENTRE, not GRAINED; 9 NUT, DOUBTFUL; 10 SYRUP with a LOSS.
     * Pieces: 0 loose; 1 to 4 on TRAY 0 at 1 to 4: plain, in TEMPER, not, ALLOWED; 5 loose, dipped; 6 in box 0;
     * 7 in box 1; 8 and 9, of the NUT, on TRAY 5. The QUEUE: 6, 1, 0, 2.
     */
    static Calls busy() {
        Calls k = new Calls();
        int[][] lots = {{100000, 1}, {5000, 2}, {0, 4}, {300, 8}, {7, 255}};
        for (int[] lot : lots) {
            k.call("lot", lot);
        }
        for (int kind : new int[] {3, 4, 5, 5, 5, 0, 1, 2, 3, 4, 0}) {
            k.call("batch", kind);
        }
        int[][] puts = {{0, 0, 5000}, {1, 0, 5000}, {1, 1, 500}, {2, 1, 1000}, {3, 0, 100}, {4, 3, 300}, {5, 0, 1000},
            {6, 0, 1001}, {8, 0, 100}, {9, 0, 100}, {10, 0, 1000}, {10, 4, 3}};
        for (int[] put : puts) {
            k.call("put", put);
        }
        k.call("table", -40, 5);
        k.call("table", 600, 100);
        k.call("table", 900, 250);
        k.call("grain", 500, 800);
        k.call("temper", 460, 280, 300, 330, 290, 2);
        k.read(0, 90f, 70f);
        k.read(1, 50f, 50f);
        k.read(2, 20f);
        k.read(3, 20f);
        k.read(8, 20f);
        k.read(9, 20f);
        k.read(10, 60f, 50f);
        k.call("row", 0, 1, 2);
        k.call("stir", 0, 1, 1);
        k.call("row", 1, 1, 2);
        k.call("stir", 1, 1, 1);
        int[] ticks = {2, 2, 1, 1, 0, 0, 0, 0, 1, 2, 2};
        for (int batch = 0; batch < ticks.length; batch++) {
            k.call("cook", batch, ticks[batch]);
        }
        k.read(5, 65f, 52f, 40f);
        k.call("row", 5, 1, 4);
        k.call("stir", 5, 1, 1);
        k.call("row", 7, 0, 0);
        k.call("row", 7, 1, 0);
        k.busyPieces();
        return k;
    }

    private void busyPieces() {
        call("bounds", 3, 0, 260);
        call("bounds", 5, 0, 150);
        call("cut", 0, 100, 7);
        call("cut", 0, 130, 1);
        call("cut", 1, 90, 2);
        call("dip", 3, 3, 20);
        call("dip", 4, 3, 21);
        call("dip", 5, 3, 22);
        call("allow", 4);
        heat(2, 460, 460, 280, 280, 300, 300);
        heat(3, 460, 460, 280);
        call("dip", 2, 2, 15);
        call("place", 6, 1, 0);
        call("pack", 15, 100, 0);
        call("place", 7, 1, 0);
        call("pack", 15, 125, 10);
        for (int piece = 1; piece <= 4; piece++) {
            call("place", piece, 0, piece);
        }
        call("place", 8, 5, 0);
        call("place", 9, 5, 23);
        call("wash", 3, 4, 40);
        call("wash", 4, 3, 30);
        call("wash", 1, 3, 600);
        call("wash", 5, 5, 1);
        for (int batch : new int[] {6, 1, 0, 2}) {
            call("queue", batch);
        }
    }
}
