/** The edges of pieces and trays: of Terms III, promises 17 to 23. */
public final class PiecesEdgesTest extends Checks {
    public static void main(String[] args) {
        runAll(PiecesEdgesTest.class);
    }

    /** So many pieces of 100 of a CENTRE (batch 0), loose, and a COAT (batch 1) of 1000000. */
    private static SugarKitchen loose(int many) {
        SugarKitchen x = new SugarKitchen();
        goodBatch(x, CENTRE, 1000000);
        goodBatch(x, COAT, 1000000);
        if (many > 0) {
            x.cut(0, 100, many);
        }
        return x;
    }

    // ---- cut

    @Says("So many (1 .. 99) pieces")
    static void cutMany() {
        SugarKitchen x = loose(0);
        for (int many : new int[] {0, -1, 100, MIN, MAX}) {
            due("cut " + many, x.cut(0, 10, many), NONE);
        }
        due("pieces", x.about(2), 0);
        due("MASS", x.batchOf(0, 1), 1000000);
        due("cut 1", x.cut(0, 10, 1), 1);
        due("cut 99", x.cut(0, 10, 99), 99);
        due("pieces", x.about(2), 100);
        due("what was cut", x.batchOf(0, 11), 1000);
    }

    @Says("of a weight (10 .. 2000)")
    static void cutWeight() {
        SugarKitchen x = loose(0);
        for (int weight : new int[] {0, 9, -10, 2001, MIN, MAX}) {
            due("cut of " + weight, x.cut(0, weight, 1), NONE);
            due("cut 99 of " + weight, x.cut(0, weight, 99), NONE);
        }
        due("pieces", x.about(2), 0);
        due("cut of 10", x.cut(0, 10, 1), 1);
        due("cut of 2000", x.cut(0, 2000, 1), 1);
        due("its weight", x.pieceOf(0, 1), 10);
        due("its weight", x.pieceOf(1, 1), 2000);
        due("MASS", x.batchOf(0, 1), 1000000 - 2010);
    }

    @Says("are cut from a GOOD CENTRE or NUT")
    static void cutKind() {
        SugarKitchen x = new SugarKitchen();
        for (int kind = 0; kind < 6; kind++) {
            int batch = goodBatch(x, kind, 100);
            due("cut KIND " + kind, x.cut(batch, 10, 1), kind == CENTRE || kind == NUT ? 1 : NONE);
            due("MASS", x.batchOf(batch, 1), kind == CENTRE || kind == NUT ? 90 : 100);
        }
        due("pieces", x.about(2), 2);
    }

    @Says("are cut from a GOOD CENTRE or NUT")
    static void cutOneThatIsNotGood() {
        for (int kind = CENTRE; kind <= NUT; kind++) {
            SugarKitchen x = new SugarKitchen();
            x.grain(80, 80);
            int raw = rawBatch(x, kind, 100);
            due("cut a raw one", x.cut(raw, 10, 1), NONE);
            x.cook(raw, 1);
            due("cut a DOUBTFUL one", x.cut(raw, 10, 1), NONE);
            int plain = cookedBatch(x, kind, row(9f, 8f));
            due("cut one not GRAINED", x.cut(plain, 10, 1), NONE);
            int good = cookedBatch(x, kind, row(9f, 8f), 1);
            due("cut a GOOD one", x.cut(good, 10, 1), 1);
            x.bounds(kind, 1, 900);
            due("cut one whose LOSS is too low by now", x.cut(good, 10, 1), NONE);
            x.bounds(kind, 0, -1);
            due("cut one whose LOSS is too high by now", x.cut(good, 10, 1), NONE);
            x.bounds(kind, 0, 0);
            due("cut one that is GOOD again", x.cut(good, 10, 1), 1);
            x.vouch(plain);
            due("cut one vouched for", x.cut(plain, 10, 1), 1);
        }
    }

    @Says("as far as its MASS goes")
    static void cutAllOfTheMass() {
        int[][] cases = {{9, 10, 99, 0}, {10, 10, 99, 1}, {19, 10, 99, 1}, {20, 10, 99, 2}, {989, 10, 99, 98},
            {990, 10, 99, 99}, {1000, 10, 99, 99}, {1999, 2000, 1, 0}, {2000, 2000, 2, 1}, {100, 10, 5, 5}};
        for (int[] c : cases) {
            SugarKitchen x = new SugarKitchen();
            int batch = goodBatch(x, CENTRE, c[0]);
            due("cut " + c[2] + " of " + c[1] + " from " + c[0], x.cut(batch, c[1], c[2]), c[3]);
            due("MASS", x.batchOf(batch, 1), c[0] - c[1] * c[3]);
            due("what was cut", x.batchOf(batch, 11), c[1] * c[3]);
            due("pieces", x.about(2), c[3]);
        }
    }

    @Says("as far as its MASS goes")
    static void cutWhatCookingLeft() {
        SugarKitchen x = new SugarKitchen();
        x.table(0, 900);
        int batch = rawBatch(x, CENTRE, 1000);
        x.row(batch, 0, 1);
        x.cook(batch, 1);
        x.vouch(batch);
        due("cut from 100", x.cut(batch, 51, 2), 1);
        due("cut from 49", x.cut(batch, 50, 1), 0);
        due("cut from 49", x.cut(batch, 49, 1), 1);
        due("cut from nothing", x.cut(batch, 10, 1), 0);
        due("MASS", x.batchOf(batch, 1), 0);
        due("what was put", x.batchOf(batch, 2), 1000);
        due("LOST", x.batchOf(batch, 3), 900);
    }

    @Says({"PIECES 0 .. 599 of CENTRES and NUTS", "and there are numbers left: how many."})
    static void piecesAreSixHundred() {
        SugarKitchen x = loose(0);
        for (int i = 0; i < 6; i++) {
            due("cut 99", x.cut(0, 10, 99), 99);
        }
        due("cut 5", x.cut(0, 10, 5), 5);
        due("cut 99, one number left", x.cut(0, 20, 99), 1);
        due("MASS", x.batchOf(0, 1), 1000000 - 5990 - 20);
        due("cut, no number left", x.cut(0, 10, 1), 0);
        due("cut, no number left", x.cut(0, 2000, 99), 0);
        due("MASS", x.batchOf(0, 1), 1000000 - 5990 - 20);
        due("pieces", x.about(2), 600);
        due("weight of the last", x.pieceOf(599, 1), 20);
        due("batch of one beyond", x.pieceOf(600, 0), NONE);
        due("dip the last", x.dip(599, 1, 1), 0);
        due("dip one beyond", x.dip(600, 1, 1), NONE);
        yes("place the last", x.place(599, 5, 23));
        due("at(5, 23)", x.at(5, 23), 599);
        no("place one beyond", x.place(600, 5, 22));
        yes("allow the last", x.allow(599));
        yes("take the last", x.take(599));
        no("take one beyond", x.take(600));
        no("allow one beyond", x.allow(600));
        due("cut what is no weight", x.cut(0, 9, 1), NONE);
    }

    @Says("loose, as far as its MASS goes")
    static void cutPiecesAreLoose() {
        SugarKitchen x = loose(3);
        for (int piece = 0; piece < 3; piece++) {
            int[] due = {0, 100, NONE, NONE, 0, 0, NONE, 0, 0};
            for (int what = 0; what < due.length; what++) {
                due("pieceOf(" + piece + ", " + what + ")", x.pieceOf(piece, what), due[what]);
            }
        }
        due("FIT", x.about(6), 0);
    }

    @Says("how many. NONE for others.")
    static void cutOfNone() {
        SugarKitchen x = new SugarKitchen();
        due("cut(0, 10, 1), no batch", x.cut(0, 10, 1), NONE);
        goodBatch(x, CENTRE, 100);
        for (int number : new int[] {-1, 1, 40, MIN, MAX}) {
            due("cut(" + number + ", 10, 1)", x.cut(number, 10, 1), NONE);
        }
        due("pieces", x.about(2), 0);
    }

    // ---- dip

    @Says({"Dipped once at most, in TEMPER or not.", "A piece that is in no box, not dipped"})
    static void dipOfNone() {
        SugarKitchen x = loose(3);
        for (int number : new int[] {-1, 3, 600, MIN, MAX}) {
            due("dip(" + number + ", 1, 1)", x.dip(number, 1, 1), NONE);
        }
        due("what was dipped", x.batchOf(1, 12), 0);
        due("dip a loose one", x.dip(0, 1, 1), 0);
        x.place(1, 0, 0);
        due("dip one on a TRAY", x.dip(1, 1, 2), 0);
        due("dip one twice", x.dip(0, 1, 1), NONE);
        due("dip one on a TRAY twice", x.dip(1, 1, 1), NONE);
        due("its weight", x.pieceOf(1, 1), 102);
        x.place(2, 0, 1);
        due("pack", x.pack(1, 100, 0), 0);
        due("dip one in a box", x.dip(2, 1, 1), NONE);
        due("its weight", x.pieceOf(2, 1), 100);
        due("weight of the box", x.boxOf(0, 1), 100);
        due("what was dipped", x.batchOf(1, 12), 3);
    }

    @Says("with so much (1 .. 1000)")
    static void dipWeight() {
        SugarKitchen x = loose(2);
        for (int weight : new int[] {0, -1, 1001, MIN, MAX}) {
            due("dip with " + weight, x.dip(0, 1, weight), NONE);
        }
        due("its COAT", x.pieceOf(0, 2), NONE);
        due("dip with 1", x.dip(0, 1, 1), 0);
        due("dip with 1000", x.dip(1, 1, 1000), 0);
        due("its weight", x.pieceOf(0, 1), 101);
        due("its weight", x.pieceOf(1, 1), 1100);
        due("MASS", x.batchOf(1, 1), 1000000 - 1001);
    }

    @Says("of a GOOD COAT that has it")
    static void dipAllOfTheCoat() {
        SugarKitchen x = loose(5);
        int coat = goodBatch(x, COAT, 10);
        due("dip with 11 of 10", x.dip(0, coat, 11), NONE);
        due("dip with 10 of 10", x.dip(0, coat, 10), 0);
        due("dip with 1 of none", x.dip(1, coat, 1), NONE);
        due("MASS", x.batchOf(coat, 1), 0);
        int other = goodBatch(x, COAT, 10);
        due("dip with 9 of 10", x.dip(1, other, 9), 0);
        due("dip with 2 of 1", x.dip(2, other, 2), NONE);
        due("dip with 1 of 1", x.dip(2, other, 1), 0);
        due("what was dipped", x.batchOf(other, 12), 10);
    }

    @Says("of a GOOD COAT that has it")
    static void dipIntoOthers() {
        SugarKitchen x = loose(3);
        for (int number : new int[] {-1, 2, 40, MIN, MAX}) {
            due("dip(0, " + number + ", 1)", x.dip(0, number, 1), NONE);
        }
        for (int kind = 0; kind < 5; kind++) {
            int batch = goodBatch(x, kind, 100);
            due("dip into KIND " + kind, x.dip(0, batch, 1), NONE);
        }
        int coat = rawBatch(x, COAT, 100);
        due("dip into a raw one", x.dip(0, coat, 1), NONE);
        x.cook(coat, 1);
        due("dip into a DOUBTFUL one", x.dip(0, coat, 1), NONE);
        x.vouch(coat);
        due("dip into one vouched for", x.dip(0, coat, 1), 0);
        int other = cookedBatch(x, COAT, row(9f));
        x.bounds(COAT, 1, 900);
        due("dip into one whose LOSS is too low", x.dip(1, other, 1), NONE);
        x.bounds(COAT, 0, -1);
        due("dip into one whose LOSS is too high", x.dip(1, other, 1), NONE);
        x.bounds(COAT, 0, 0);
        due("dip into a GOOD one", x.dip(1, other, 1), 0);
    }

    @Says("1 in TEMPER, 0 not.")
    static void dipByPhase() {
        int[] wanted = {450, 450, 270, 270, 310, 310};
        for (int ticks = 0; ticks <= 6; ticks++) {
            SugarKitchen x = loose(1);
            for (int i = 0; i < ticks; i++) {
                x.heat(1, wanted[i]);
            }
            due("dip behind " + ticks + " ticks", x.dip(0, 1, 1), ticks == 6 ? 1 : 0);
            due("whether in TEMPER", x.pieceOf(0, 3), ticks == 6 ? 1 : 0);
            x.heat(1, 321);
            due("whether it was, the COAT spoiled", x.pieceOf(0, 3), ticks == 6 ? 1 : 0);
        }
    }

    // ---- place, take, at

    @Says("on a TRAY (0 .. 5, of 24 places: one piece each)")
    static void placeTray() {
        SugarKitchen x = loose(1);
        int wrapping = (int) ((1L << 32) / 24 + 1); // 24 times it is 8 beyond 2^32
        for (int tray : new int[] {-1, 6, MIN, MAX, wrapping, -wrapping}) {
            no("place(0, " + tray + ", 0)", x.place(0, tray, 0));
            no("place(0, " + tray + ", 23)", x.place(0, tray, 23));
            due("at(" + tray + ", 0)", x.at(tray, 0), NONE);
            due("where it is", x.pieceOf(0, 5), 0);
        }
        for (int tray = 0; tray < 6; tray++) {
            yes("place(0, " + tray + ", 0)", x.place(0, tray, 0));
            due("at(" + tray + ", 0)", x.at(tray, 0), 0);
            due("there", x.pieceOf(0, 6), 24 * tray);
        }
    }

    @Says("on a TRAY (0 .. 5, of 24 places: one piece each)")
    static void placePlace() {
        SugarKitchen x = loose(1);
        for (int place : new int[] {-1, 24, 25, 48, -24, MIN, MAX}) {
            for (int tray = 0; tray < 6; tray++) {
                no("place(0, " + tray + ", " + place + ")", x.place(0, tray, place));
                due("at(" + tray + ", " + place + ")", x.at(tray, place), NONE);
            }
        }
        due("where it is", x.pieceOf(0, 5), 0);
        for (int place = 0; place < 24; place++) {
            yes("place(0, 2, " + place + ")", x.place(0, 2, place));
            due("at(2, " + place + ")", x.at(2, place), 0);
            due("there", x.pieceOf(0, 6), 48 + place);
        }
    }

    @Says("goes to an empty place of a TRAY: true. False for others.")
    static void placeOnFullTrays() {
        SugarKitchen x = loose(99);
        x.cut(0, 100, 99);
        for (int i = 0; i < 144; i++) {
            yes("place " + i, x.place(i, i / 24, i % 24));
        }
        due("FIT", x.about(6), 144);
        for (int i = 0; i < 144; i++) {
            no("place where one is", x.place(144, i / 24, i % 24));
        }
        no("place where itself is", x.place(7, 0, 7));
        no("place where the next is", x.place(7, 0, 8));
        due("at(0, 7)", x.at(0, 7), 7);
        due("at(0, 8)", x.at(0, 8), 8);
        yes("take", x.take(143));
        yes("place where it was", x.place(144, 5, 23));
        due("at(5, 23)", x.at(5, 23), 144);
        no("place the taken one there", x.place(143, 5, 23));
    }

    @Says("A piece that is in no box goes to an empty place of a TRAY: true. False for others.")
    static void placeOfNone() {
        SugarKitchen x = loose(2);
        for (int number : new int[] {-1, 2, 600, MIN, MAX}) {
            no("place(" + number + ", 0, 0)", x.place(number, 0, 0));
        }
        due("at(0, 0)", x.at(0, 0), NONE);
        yes("place(0, 0, 0)", x.place(0, 0, 0));
        x.pack(15, 100, 0);
        due("in a box", x.pieceOf(0, 5), 2);
        no("place one in a box", x.place(0, 0, 1));
        no("place one in a box where it was", x.place(0, 0, 0));
        due("at(0, 0)", x.at(0, 0), NONE);
        yes("place another where it was", x.place(1, 0, 0));
    }

    @Says("one piece each")
    static void placeElsewhere() {
        SugarKitchen x = loose(2);
        x.place(0, 0, 0);
        yes("place it elsewhere", x.place(0, 5, 23));
        due("at(0, 0)", x.at(0, 0), NONE);
        due("at(5, 23)", x.at(5, 23), 0);
        due("FIT", x.about(6), 1);
        yes("another where it was", x.place(1, 0, 0));
        no("it where the other is", x.place(0, 0, 0));
        due("at(5, 23), refused", x.at(5, 23), 0);
    }

    @Says("A piece on a TRAY is loose: true. False for others.")
    static void takeOfOthers() {
        SugarKitchen x = loose(3);
        no("take a loose one", x.take(0));
        for (int number : new int[] {-1, 3, 600, MIN, MAX}) {
            no("take(" + number + ")", x.take(number));
        }
        x.place(0, 0, 0);
        x.place(1, 0, 1);
        yes("take", x.take(0));
        no("take again", x.take(0));
        due("where it is", x.pieceOf(0, 5), 0);
        due("there", x.pieceOf(0, 6), NONE);
        due("at(0, 0)", x.at(0, 0), NONE);
        due("at(0, 1)", x.at(0, 1), 1);
        x.pack(15, 100, 0);
        no("take one in a box", x.take(1));
        due("where it is", x.pieceOf(1, 5), 2);
    }

    @Says("The piece at a place of a TRAY. NONE if there is none.")
    static void atOfNone() {
        SugarKitchen x = loose(2);
        x.place(1, 0, 0);
        x.place(0, 5, 23);
        due("at(0, 0)", x.at(0, 0), 1);
        due("at(5, 23)", x.at(5, 23), 0);
        due("at(0, 1)", x.at(0, 1), NONE);
        // Places that would be those of pieces if they were only counted through.
        due("at(-1, 24)", x.at(-1, 24), NONE);
        due("at(1, -24)", x.at(1, -24), NONE);
        due("at(6, -1)", x.at(6, -1), NONE);
        due("at(4, 47)", x.at(4, 47), NONE);
        due("at(0, 143)", x.at(0, 143), NONE);
        due("at(MIN, 0)", x.at(MIN, 0), NONE);
        due("at(MAX, MAX)", x.at(MAX, MAX), NONE);
        due("at(6, 0)", x.at(6, 0), NONE);
        due("at(0, 24)", x.at(0, 24), NONE);
        due("at(1 << 29, 0)", x.at(1 << 29, 0), NONE);
    }

    // ---- allow, fit, sort

    @Says({"4 whether it is ALLOWED",
        "A hand allows a piece that was not dipped in TEMPER: true. False: no such piece, or it isn't one."})
    static void allowOfOthers() {
        SugarKitchen x = loose(3);
        for (int number : new int[] {-1, 3, 600, MIN, MAX}) {
            no("allow(" + number + ")", x.allow(number));
        }
        x.dip(0, 1, 1);
        heatInto(x, 1);
        x.dip(1, 1, 1);
        no("allow one in TEMPER", x.allow(1));
        no("allow one undipped", x.allow(2));
        due("ALLOWED", x.pieceOf(0, 4), 0);
        yes("allow one not in TEMPER", x.allow(0));
        due("ALLOWED", x.pieceOf(0, 4), 1);
        due("ALLOWED", x.pieceOf(1, 4), 0);
        due("ALLOWED", x.pieceOf(2, 4), 0);
        x.heat(1, 0);
        due("dip one that a hand didn't allow", x.dip(2, 1, 1), 0);
        due("ALLOWED", x.pieceOf(2, 4), 0);
    }

    @Says("FIT: on a TRAY, dipped in TEMPER or not dipped or ALLOWED by hand.")
    static void fitOrNot() {
        SugarKitchen x = loose(4);
        x.dip(1, 1, 1);
        x.dip(2, 1, 1);
        x.allow(2);
        heatInto(x, 1);
        x.dip(3, 1, 1);
        for (int piece = 0; piece < 4; piece++) {
            due("FIT, loose, " + piece, x.pieceOf(piece, 8), 0);
        }
        due("FIT", x.about(6), 0);
        int[] fit = {1, 0, 1, 1};
        for (int piece = 0; piece < 4; piece++) {
            x.place(piece, 0, piece);
            due("FIT, on a TRAY, " + piece, x.pieceOf(piece, 8), fit[piece]);
        }
        due("FIT", x.about(6), 3);
        due("CHOICE", x.would(15, 1, 0, 4), 3);
        x.pack(15, 302, 0);
        for (int piece = 0; piece < 4; piece++) {
            due("FIT, in a box, " + piece, x.pieceOf(piece, 8), 0);
            due("where, " + piece, x.pieceOf(piece, 5), 1 + fit[piece]);
        }
        due("FIT", x.about(6), 0);
        x.allow(1);
        due("FIT, allowed on its TRAY", x.pieceOf(1, 8), 1);
    }

    @Says("A piece's SORT: 0 of a CENTRE, 1 of a NUT, 2 more if it is dipped.")
    static void sorts() {
        SugarKitchen x = loose(3);
        int nut = goodBatch(x, NUT, 1000);
        x.cut(nut, 100, 3);
        due("SORT of a CENTRE", x.pieceOf(0, 7), 0);
        due("SORT of a NUT", x.pieceOf(3, 7), 1);
        x.dip(0, 1, 1);
        x.dip(3, 1, 1);
        heatInto(x, 1);
        x.dip(1, 1, 1);
        x.dip(4, 1, 1);
        int[] due = {2, 2, 0, 3, 3, 1};
        for (int piece = 0; piece < 6; piece++) {
            due("SORT of " + piece, x.pieceOf(piece, 7), due[piece]);
        }
    }

    @Says("8 whether it is FIT. NONE for others.")
    static void pieceOfOthers() {
        SugarKitchen x = loose(1);
        for (int what : new int[] {-1, 9, MIN, MAX}) {
            due("pieceOf(0, " + what + ")", x.pieceOf(0, what), NONE);
        }
        for (int what = 0; what <= 8; what++) {
            for (int number : new int[] {-1, 1, 600, MIN, MAX}) {
                due("pieceOf(" + number + ", " + what + ")", x.pieceOf(number, what), NONE);
            }
        }
    }

    @Says("2 its COAT (NONE), 3 whether that was in TEMPER (1, 0; NONE undipped)")
    static void pieceOfCoat() {
        SugarKitchen x = loose(3);
        x.dip(0, 1, 1);
        heatInto(x, 1);
        x.dip(1, 1, 1);
        due("COAT", x.pieceOf(0, 2), 1);
        due("in TEMPER", x.pieceOf(0, 3), 0);
        due("COAT", x.pieceOf(1, 2), 1);
        due("in TEMPER", x.pieceOf(1, 3), 1);
        due("COAT", x.pieceOf(2, 2), NONE);
        due("in TEMPER", x.pieceOf(2, 3), NONE);
        // A COAT that is batch 0 is not the same as none.
        SugarKitchen y = new SugarKitchen();
        int coat = goodBatch(y, COAT, 100);
        int centre = goodBatch(y, CENTRE, 100);
        y.cut(centre, 10, 1);
        due("COAT, none yet", y.pieceOf(0, 2), NONE);
        due("dip", y.dip(0, coat, 5), 0);
        due("COAT 0", y.pieceOf(0, 2), 0);
        due("SORT", y.pieceOf(0, 7), 2);
        due("dip again", y.dip(0, coat, 5), NONE);
    }

    @Says("5 where it is (0 loose, 1 on a TRAY, 2 in a box), 6 there: 24 * TRAY + place, or the box (NONE loose)")
    static void pieceOfWhere() {
        SugarKitchen x = loose(3);
        due("where, loose", x.pieceOf(0, 5), 0);
        due("there, loose", x.pieceOf(0, 6), NONE);
        x.place(0, 0, 0);
        due("where, at the first place", x.pieceOf(0, 5), 1);
        due("there, at the first place", x.pieceOf(0, 6), 0);
        x.place(0, 5, 23);
        due("there, at the last place", x.pieceOf(0, 6), 143);
        x.pack(15, 100, 0);
        due("where, in the first box", x.pieceOf(0, 5), 2);
        due("there, in the first box", x.pieceOf(0, 6), 0);
        x.place(1, 1, 1);
        x.pack(15, 100, 0);
        due("there, in the second box", x.pieceOf(1, 6), 1);
        due("where, never laid", x.pieceOf(2, 5), 0);
    }
}
