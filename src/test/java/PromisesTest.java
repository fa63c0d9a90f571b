/** One method a promise: ordinary inputs, the edges that the document names, and wrong inputs. */
public final class PromisesTest extends Checks {
    public static void main(String[] args) {
        topic("promise 1"); newObject();
        topic("promise 2"); lot();
        topic("promise 3"); batch();
        topic("promise 4"); put();
        topic("promise 5"); row();
        topic("promise 6"); tick();
        topic("promise 7"); stir();
        topic("promise 8"); table();
        topic("promise 9"); grain();
        topic("promise 10"); bounds();
        topic("promise 11"); cook();
        topic("promise 12"); vouch();
        topic("promise 13"); why();
        topic("promise 14"); batchOf();
        topic("promise 15"); temper();
        topic("promise 16"); heat();
        topic("promise 17"); cut();
        topic("promise 18"); dip();
        topic("promise 19"); place();
        topic("promise 20"); take();
        topic("promise 21"); allow();
        topic("promise 22"); pieceOf();
        topic("promise 23"); at();
        topic("promise 24"); pack();
        topic("promise 25"); would();
        topic("promise 26"); boxOf();
        topic("promise 27"); wash();
        topic("promise 28"); queue();
        topic("promise 29"); order();
        topic("promise 30"); recall();
        topic("promise 31"); about();
        topic("promise 32"); left();
        end("PromisesTest");
    }

    // ---- the promises

    private static void newObject() {
        SugarKitchen x = new SugarKitchen();
        for (int what = 0; what <= 6; what++) {
            due("about(" + what + ")", x.about(what), 0);
        }
        due("left(0)", x.left(0), NONE);
        due("batchOf(0, 0)", x.batchOf(0, 0), NONE);
        due("pieceOf(0, 0)", x.pieceOf(0, 0), NONE);
        due("boxOf(0, 0)", x.boxOf(0, 0), NONE);
        due("at(0, 0)", x.at(0, 0), NONE);
        due("order(false, NONE)", x.order(false, NONE), 0);
        due("order(false, 0)", x.order(false, 0), NONE);
        due("recall(0, 0, 0)", x.recall(0, 0, 0), NONE);
        due("would(15, 1, 0, 4)", x.would(15, 1, 0, 4), 0);
    }

    private static void lot() {
        SugarKitchen x = new SugarKitchen();
        due("lot(-1, 0)", x.lot(-1, 0), NONE);
        due("lot(1000001, 0)", x.lot(1000001, 0), NONE);
        due("lot(1, -1)", x.lot(1, -1), NONE);
        due("lot(1, 256)", x.lot(1, 256), NONE);
        due("lot(MIN, MAX)", x.lot(MIN, MAX), NONE);
        due("lot(0, 0)", x.lot(0, 0), 0);
        due("lot(1000000, 255)", x.lot(1000000, 255), 1);
        for (int i = 2; i < 40; i++) {
            due("lot " + i, x.lot(i, i), i);
        }
        due("lot 40", x.lot(1, 1), NONE);
        due("about(0)", x.about(0), 40);
    }

    private static void batch() {
        SugarKitchen x = new SugarKitchen();
        due("batch(-1)", x.batch(-1), NONE);
        due("batch(6)", x.batch(6), NONE);
        for (int i = 0; i < 40; i++) {
            due("batch " + i, x.batch(i % 6), i);
            due("its kind", x.batchOf(i, 0), i % 6);
        }
        due("batch 40", x.batch(0), NONE);
        due("batchOf(40, 0)", x.batchOf(40, 0), NONE);
        due("about(1)", x.about(1), 40);
    }

    private static void put() {
        SugarKitchen x = new SugarKitchen();
        x.lot(100, 0);
        x.lot(50, 0);
        x.lot(0, 0);
        x.batch(0);
        due("put(1, 0, 1)", x.put(1, 0, 1), NONE);
        due("put(-1, 0, 1)", x.put(-1, 0, 1), NONE);
        due("put(0, 3, 1)", x.put(0, 3, 1), NONE);
        due("put(0, -1, 1)", x.put(0, -1, 1), NONE);
        due("put(0, 0, 0)", x.put(0, 0, 0), NONE);
        due("put(0, 0, -1)", x.put(0, 0, -1), NONE);
        due("put(0, 0, 101)", x.put(0, 0, 101), NONE);
        due("put(0, 2, 1)", x.put(0, 2, 1), NONE);
        due("left(0)", x.left(0), 100);
        due("put(0, 0, 1)", x.put(0, 0, 1), 1);
        due("put(0, 1, 50)", x.put(0, 1, 50), 51);
        due("put(0, 0, 99)", x.put(0, 0, 99), 150);
        due("put(0, 0, 1)", x.put(0, 0, 1), NONE);
        x.lot(10, 0);
        x.cook(0, 1);
        due("put(0, 3, 1) of a cooked one", x.put(0, 3, 1), NONE);
        due("left(3)", x.left(3), 10);
    }

    private static void row() {
        SugarKitchen x = new SugarKitchen();
        rawBatch(x, 0, 100);
        no("row(1, 0, 1)", x.row(1, 0, 1));
        no("row(-1, 0, 1)", x.row(-1, 0, 1));
        no("row(0, 2, 1)", x.row(0, 2, 1));
        no("row(0, -1, 1)", x.row(0, -1, 1));
        no("row(0, 0, 61)", x.row(0, 0, 61));
        no("row(0, 0, -2)", x.row(0, 0, -2));
        no("tick on a missing row", x.tick(0, 0, 0));
        no("stir on a missing row", x.stir(0, 0, true));
        yes("row(0, 0, 60)", x.row(0, 0, 60));
        yes("tick(0, 59, 0)", x.tick(0, 59, 0));
        yes("row(0, 1, 60)", x.row(0, 1, 60));
        yes("stir(0, 59, true)", x.stir(0, 59, true));
        yes("row(0, 0, 0)", x.row(0, 0, 0));
        no("tick on an empty row", x.tick(0, 0, 0));
        yes("row(0, 0, NONE)", x.row(0, 0, NONE));
        no("tick on a row missing again", x.tick(0, 0, 0));
        no("row(0, 0, 61), changing nothing", x.row(0, 0, 61));
        yes("stir(0, 0, ..) is untouched by the other row", x.stir(0, 0, false));
        rowsBeginAnew();
    }

    private static void rowsBeginAnew() {
        SugarKitchen x = new SugarKitchen();
        int batch = rawBatch(x, 2, 100);
        readings(x, batch, 90f, 20f);
        stirrings(x, batch, 2, 1);
        x.grain(-100, 100);
        yes("row(batch, 0, 2)", x.row(batch, 0, 2));
        yes("row(batch, 1, 2)", x.row(batch, 1, 2));
        x.cook(batch, 2);
        due("TOP of zeros", x.batchOf(batch, 5), 0);
        due("GRAINED without stirring", x.batchOf(batch, 6), 0);
        no("row of a cooked one", x.row(batch, 0, 1));
        no("row of a cooked one", x.row(batch, 1, 1));
    }

    private static void tick() {
        SugarKitchen x = new SugarKitchen();
        rawBatch(x, 0, 100);
        x.row(0, 0, 2);
        no("tick(1, 0, 0)", x.tick(1, 0, 0));
        no("tick(-1, 0, 0)", x.tick(-1, 0, 0));
        no("tick(0, -1, 0)", x.tick(0, -1, 0));
        no("tick(0, 2, 0)", x.tick(0, 2, 0));
        yes("tick(0, 0, MAX), no number", x.tick(0, 0, MAX));
        yes("tick(0, 1, 1f)", x.tick(0, 1, Float.floatToIntBits(1f)));
        yes("tick(0, 1, 2f)", x.tick(0, 1, Float.floatToIntBits(2f)));
        x.cook(0, 2);
        no("tick of a cooked one", x.tick(0, 1, 0));
        due("TOP: the last told counts", x.batchOf(0, 5), 20);
        everyExponent();
    }

    /** Degrees of floats of each size against Java's own. */
    private static void everyExponent() {
        int[] fractions = {0, 1, 0x2ccccd, 0x400000, 0x4ccccc, 0x4ccccd, 0x7fffff};
        for (int sign = 0; sign < 2; sign++) {
            for (int exponent = 0; exponent < 256; exponent++) {
                for (int fraction : fractions) {
                    int bits = sign << 31 | exponent << 23 | fraction;
                    float value = Float.intBitsToFloat(bits);
                    int want = Float.isNaN(value) ? NO_TOP : (int) (10f * value);
                    due("TOP of bits " + bits, topOf(bits), want);
                }
            }
        }
        for (int tenths = -3000; tenths <= 3000; tenths++) {
            float value = tenths / 10f;
            due("TOP of " + value, topOf(Float.floatToIntBits(value)), (int) (10f * value));
        }
    }

    private static void stir() {
        SugarKitchen x = new SugarKitchen();
        int batch = rawBatch(x, 1, 100);
        readings(x, batch, 90f, 50f, 50f);
        x.row(batch, 1, 2);
        x.grain(500, 500);
        no("stir(1, 0, true)", x.stir(1, 0, true));
        no("stir(-1, 0, true)", x.stir(-1, 0, true));
        no("stir(0, -1, true)", x.stir(0, -1, true));
        no("stir(0, 2, true)", x.stir(0, 2, true));
        yes("stir(0, 1, true)", x.stir(0, 1, true));
        yes("stir(0, 1, false)", x.stir(0, 1, false));
        x.cook(batch, 3);
        due("GRAINED, not stirred", x.batchOf(batch, 6), 0);
        no("stir of a cooked one", x.stir(0, 1, true));
    }

    private static void table() {
        SugarKitchen x = new SugarKitchen();
        due("table(0, -1)", x.table(0, -1), NONE);
        due("table(0, 901)", x.table(0, 901), NONE);
        due("table(MIN, 0)", x.table(MIN, 0), 1);
        due("table(MIN, 0)", x.table(MIN, 0), NONE);
        due("table(-5, 900)", x.table(-5, 900), 2);
        due("table(-6, 1)", x.table(-6, 1), NONE);
        due("table(-5, 1)", x.table(-5, 1), NONE);
        due("about(4)", x.about(4), 2);
        for (int i = 3; i <= 16; i++) {
            due("table row " + i, x.table(i * 10, i), i);
        }
        due("table row 17", x.table(1000, 1), NONE);
        due("about(4)", x.about(4), 16);
        lossByTop();
    }

    private static void lossByTop() {
        float[] tops = {99f, 99.9f, 100f, 100.1f, 119.9f, 120f, 130f};
        int[] losses = {0, 0, 100, 100, 100, 50, 900};
        for (int i = 0; i < tops.length; i++) {
            SugarKitchen x = new SugarKitchen();
            x.table(1000, 100);
            x.table(1200, 50);
            x.table(1300, 900);
            int batch = rawBatch(x, 0, 999);
            readings(x, batch, 20f, tops[i], 30f);
            due("cook to " + tops[i], x.cook(batch, 3), 999 - 999 * losses[i] / 1000);
            due("LOSS", x.batchOf(batch, 4), losses[i]);
            due("LOST", x.batchOf(batch, 3), 999 * losses[i] / 1000);
            x.table(1400, 1);
            due("LOSS, the TABLE grown", x.batchOf(batch, 4), losses[i]);
        }
    }

    private static void grain() {
        int[][] cases = {{500, 500, 1}, {501, 600, 0}, {400, 499, 0}, {600, 400, 0}, {MIN, MAX, 1}};
        for (int[] c : cases) {
            SugarKitchen x = new SugarKitchen();
            int batch = rawBatch(x, 1, 100);
            readings(x, batch, 90f, 50f);
            stirrings(x, batch, 2, 1);
            yes("grain", x.grain(c[0], c[1]));
            x.cook(batch, 2);
            due("GRAINED within " + c[0] + " .. " + c[1], x.batchOf(batch, 6), c[2]);
            x.grain(MIN, MAX);
            due("GRAINED as it was cooked", x.batchOf(batch, 6), c[2]);
        }
        SugarKitchen x = new SugarKitchen();
        int batch = rawBatch(x, 1, 100);
        readings(x, batch, 90f, 0f, -0.1f);
        stirrings(x, batch, 3, 1, 2);
        x.cook(batch, 3);
        due("GRAINED by the GRAIN at first", x.batchOf(batch, 6), 0);
    }

    private static void bounds() {
        SugarKitchen x = new SugarKitchen();
        no("bounds(-1, 0, 0)", x.bounds(-1, 0, 0));
        no("bounds(6, 0, 0)", x.bounds(6, 0, 0));
        x.table(100, 300);
        int batch = rawBatch(x, 5, 100);
        readings(x, batch, 10f);
        x.cook(batch, 1);
        due("why, by the BOUNDS at first", x.why(batch), 0);
        yes("bounds(4, 301, 900)", x.bounds(4, 301, 900));
        due("why, other KIND's BOUNDS", x.why(batch), 0);
        yes("bounds(5, 300, 300)", x.bounds(5, 300, 300));
        due("why", x.why(batch), 0);
        yes("bounds(5, 301, 300)", x.bounds(5, 301, 300));
        due("why", x.why(batch), 3);
        yes("bounds(5, MIN, 299)", x.bounds(5, MIN, 299));
        due("why", x.why(batch), 4);
        yes("bounds(5, MAX, MIN)", x.bounds(5, MAX, MIN));
        due("why: too low comes first", x.why(batch), 3);
    }

    private static void cook() {
        SugarKitchen x = new SugarKitchen();
        int batch = rawBatch(x, 0, 100);
        x.batch(0);
        due("cook(-1, 1)", x.cook(-1, 1), NONE);
        due("cook(2, 1)", x.cook(2, 1), NONE);
        due("cook without MASS", x.cook(1, 1), NONE);
        due("cook over 0", x.cook(batch, 0), NONE);
        due("cook over 61", x.cook(batch, 61), NONE);
        due("why", x.why(batch), 1);
        due("cook over 60", x.cook(batch, 60), 100);
        due("cook again", x.cook(batch, 60), NONE);
        allTicks();
        greatMass();
        grainedTicks();
        doubtful();
        noNumbers();
    }

    private static void allTicks() {
        SugarKitchen x = new SugarKitchen();
        int batch = rawBatch(x, 0, 100);
        x.row(batch, 0, 60);
        x.tick(batch, 59, Float.floatToIntBits(7f));
        due("cook over 60 that are there", x.cook(batch, 60), 100);
        due("why", x.why(batch), 0);
        due("TOP at the last tick", x.batchOf(batch, 5), 70);
        int other = rawBatch(x, 0, 100);
        readings(x, other, 1f, 2f, 3f);
        x.cook(other, 2);
        due("TOP of the ticks that were cooked", x.batchOf(other, 5), 20);
        due("why, a longer row", x.why(other), 0);
    }

    private static void greatMass() {
        SugarKitchen x = new SugarKitchen();
        x.table(0, 900);
        x.batch(0);
        for (int i = 0; i < 40; i++) {
            x.lot(1000000, 0);
            x.put(0, i, 1000000);
        }
        x.row(0, 0, 1);
        due("cook 40000000", x.cook(0, 1), 4000000);
        due("LOST", x.batchOf(0, 3), 36000000);
    }

    private static void grainedTicks() {
        SugarKitchen x = new SugarKitchen();
        x.grain(500, 900);
        int batch = rawBatch(x, 1, 100);
        readings(x, batch, 60f, 90f, 90f, 40f, 60f);
        stirrings(x, batch, 5, 0, 1, 4);
        x.cook(batch, 5);
        due("first GRAINED, ahead of TOP doesn't count", x.batchOf(batch, 7), 4);
        int second = rawBatch(x, 1, 100);
        readings(x, second, 60f, 90f, 90f, 40f, 60f);
        stirrings(x, second, 5, 2, 4);
        x.cook(second, 5);
        due("GRAINED at TOP again, behind the first", x.batchOf(second, 7), 2);
        int third = rawBatch(x, 1, 100);
        readings(x, third, 90f, 60f);
        stirrings(x, third, 1, 0);
        x.cook(third, 2);
        due("GRAINED where no stirring place is", x.batchOf(third, 7), NONE);
        int fourth = rawBatch(x, 1, 100);
        readings(x, fourth, 90f, 60f, 60f);
        stirrings(x, fourth, 3, 2);
        x.cook(fourth, 2);
        due("GRAINED at a tick that wasn't cooked", x.batchOf(fourth, 6), 0);
        int fifth = rawBatch(x, 1, 100);
        readings(x, fifth, 90f, Float.NaN, 60f);
        stirrings(x, fifth, 3, 1, 2);
        x.cook(fifth, 3);
        due("GRAINED, not where no number was", x.batchOf(fifth, 7), 2);
    }

    private static void doubtful() {
        SugarKitchen x = new SugarKitchen();
        x.grain(0, 900);
        int batch = rawBatch(x, 1, 100);
        readings(x, batch, 90f, 60f);
        stirrings(x, batch, 3, 1, 2);
        x.cook(batch, 3);
        due("why", x.why(batch), 2);
        due("the tick that was not there", x.batchOf(batch, 7), 2);
        due("GRAINED", x.batchOf(batch, 6), 1);
        int missing = rawBatch(x, 0, 100);
        x.table(-10, 500);
        x.cook(missing, 1);
        due("why, a MISSING row", x.why(missing), 2);
        due("LOSS without a TOP", x.batchOf(missing, 4), 0);
        due("TOP", x.batchOf(missing, 5), NO_TOP);
        int empty = rawBatch(x, 0, 100);
        x.row(empty, 0, 0);
        x.cook(empty, 4);
        due("why, an empty row", x.why(empty), 2);
        due("the tick that was not there", x.batchOf(empty, 7), 0);
    }

    private static void noNumbers() {
        SugarKitchen x = new SugarKitchen();
        x.table(MIN, 500);
        x.grain(MIN, MAX);
        int batch = rawBatch(x, 2, 100);
        readings(x, batch, Float.NaN, Float.NaN);
        stirrings(x, batch, 2, 0, 1);
        due("cook by no numbers", x.cook(batch, 2), 100);
        due("why: not DOUBTFUL", x.why(batch), 0);
        due("TOP", x.batchOf(batch, 5), NO_TOP);
        int endless = rawBatch(x, 0, 100);
        readings(x, endless, Float.NEGATIVE_INFINITY);
        due("cook by a number without an end", x.cook(endless, 1), 50);
        due("TOP", x.batchOf(endless, 5), MIN);
    }

    private static void vouch() {
        SugarKitchen x = new SugarKitchen();
        int batch = rawBatch(x, 1, 100);
        no("vouch for a raw one", x.vouch(batch));
        no("vouch(-1)", x.vouch(-1));
        no("vouch(1)", x.vouch(1));
        due("vouched", x.batchOf(batch, 8), 0);
        x.cook(batch, 1);
        yes("vouch", x.vouch(batch));
        due("vouched", x.batchOf(batch, 8), 1);
        due("why", x.why(batch), 0);
        yes("vouch again", x.vouch(batch));
        x.bounds(1, 5, 4);
        due("why, whatever the BOUNDS", x.why(batch), 0);
    }

    private static void why() {
        SugarKitchen x = new SugarKitchen();
        due("why(0)", x.why(0), NONE);
        due("why(-1)", x.why(-1), NONE);
        x.grain(0, 900);
        x.table(800, 100);
        int[] grained = {0, 0, 6, 0, 0, 0};
        int[] plain = {0, 5, 0, 5, 5, 0};
        for (int kind = 0; kind < 6; kind++) {
            int one = rawBatch(x, kind, 100);
            due("why, raw", x.why(one), 1);
            readings(x, one, 90f, 60f);
            stirrings(x, one, 2, 1);
            x.cook(one, 2);
            due("why, GRAINED, kind " + kind, x.why(one), grained[kind]);
            int other = rawBatch(x, kind, 100);
            readings(x, other, 90f, 60f);
            x.cook(other, 2);
            due("why, not GRAINED, kind " + kind, x.why(other), plain[kind]);
            int short1 = rawBatch(x, kind, 100);
            readings(x, short1, 90f);
            x.cook(short1, 2);
            x.bounds(kind, 101, 900);
            due("why, LOSS too low", x.why(one), 3);
            due("why, LOSS too low", x.why(other), 3);
            due("why, DOUBTFUL first", x.why(short1), 2);
            x.bounds(kind, 0, 99);
            due("why, LOSS too high", x.why(one), 4);
            due("why, LOSS too high", x.why(other), 4);
        }
    }

    private static void batchOf() {
        SugarKitchen x = new SugarKitchen();
        due("batchOf(0, 0)", x.batchOf(0, 0), NONE);
        x.table(0, 100);
        int batch = rawBatch(x, 3, 1000);
        int[] raw = {3, 1000, 1000, 0, 0, NO_TOP, 0, NONE, 0, 0, 0, 0, 0};
        for (int what = 0; what <= 12; what++) {
            due("batchOf raw " + what, x.batchOf(batch, what), raw[what]);
        }
        due("batchOf(.., 13)", x.batchOf(batch, 13), NONE);
        due("batchOf(.., -1)", x.batchOf(batch, -1), NONE);
        due("batchOf(-1, 1)", x.batchOf(-1, 1), NONE);
        readings(x, batch, 10f, 5f);
        stirrings(x, batch, 2, 1);
        x.grain(50, 50);
        x.cook(batch, 2);
        x.cut(batch, 100, 3);
        int[] cooked = {3, 600, 1000, 100, 100, 100, 1, 1, 0, 0, 0, 300, 0};
        for (int what = 0; what <= 12; what++) {
            due("batchOf cooked " + what, x.batchOf(batch, what), cooked[what]);
        }
        int coat = goodBatch(x, 5, 500);
        x.heat(coat, 450);
        x.dip(0, coat, 30);
        x.dip(1, coat, 20);
        int[] dipped = {5, 450, 500, 0, 0, NO_TOP, 0, 0, 1, 0, 1, 0, 50};
        for (int what = 0; what <= 12; what++) {
            due("batchOf dipped " + what, x.batchOf(coat, what), dipped[what]);
        }
    }

    private static void temper() {
        SugarKitchen x = new SugarKitchen();
        int coat = goodBatch(x, 5, 500);
        heatInto(x, coat);
        due("PHASE by TEMPER at first", x.batchOf(coat, 9), 3);
        no("D2 not below D3", x.temper(50, 31, 31, 32, 29, 2));
        no("D3 above D4", x.temper(50, 27, 33, 32, 29, 2));
        no("D4 not below D1", x.temper(32, 27, 31, 32, 29, 2));
        no("D5 above D3", x.temper(50, 27, 31, 32, 32, 2));
        no("N 0", x.temper(50, 27, 31, 32, 29, 0));
        no("N 21", x.temper(50, 27, 31, 32, 29, 21));
        due("PHASE, nothing changed", x.batchOf(coat, 9), 3);
        due("heat by TEMPER at first", x.heat(coat, 290), 3);
        yes("edges", x.temper(33, 30, 31, 32, 31, 20));
        due("PHASE by another TEMPER", x.batchOf(coat, 9), 0);
        x.heat(coat, 33);
        due("its count", x.batchOf(coat, 10), 1);
        yes("D3 is D4", x.temper(MAX, MIN, 32, 32, MIN, 1));
        due("its count", x.batchOf(coat, 10), 0);
        due("heat to MAX", x.heat(coat, MAX), 1);
        due("heat to MIN", x.heat(coat, MIN), 2);
        due("heat to 32", x.heat(coat, 32), 3);
        due("heat to MIN, D5", x.heat(coat, MIN), 3);
        due("heat to 33", x.heat(coat, 33), 0);
    }

    private static void heat() {
        SugarKitchen x = new SugarKitchen();
        int coat = rawBatch(x, 5, 500);
        int centre = goodBatch(x, 3, 500);
        due("heat(-1, 0)", x.heat(-1, 0), NONE);
        due("heat(2, 0)", x.heat(2, 0), NONE);
        due("heat a raw one", x.heat(coat, 450), NONE);
        due("heat a CENTRE", x.heat(centre, 450), NONE);
        x.cook(coat, 1);
        int[][] ticks = { // degree, PHASE, count
            {449, 0, 0}, {450, 0, 1}, {449, 0, 0}, {450, 0, 1}, {451, 1, 0},
            {271, 1, 0}, {270, 1, 1}, {271, 1, 0}, {900, 1, 0}, {270, 1, 1}, {269, 2, 0},
            {309, 2, 0}, {310, 2, 1}, {309, 2, 0}, {310, 2, 1}, {320, 3, 0},
            {320, 3, 0}, {290, 3, 0}, {289, 0, 0}, {450, 0, 1}, {450, 1, 0}, {0, 1, 1}, {0, 2, 0},
            {321, 0, 0}, {450, 0, 1}, {450, 1, 0}, {0, 1, 1}, {0, 2, 0},
            {450, 0, 1}, {450, 1, 0}, {0, 1, 1}, {0, 2, 0}, {315, 2, 1}, {315, 3, 0}, {450, 0, 1},
            {450, 1, 0}, {0, 1, 1}, {0, 2, 0}, {315, 2, 1}, {315, 3, 0}, {321, 0, 0}};
        for (int i = 0; i < ticks.length; i++) {
            due("heat " + i + " to " + ticks[i][0], x.heat(coat, ticks[i][0]), ticks[i][1]);
            due("count behind heat " + i, x.batchOf(coat, 10), ticks[i][2]);
        }
        x.temper(450, 270, 310, 320, 290, 1);
        x.heat(coat, 450);
        x.heat(coat, 270);
        due("spoiled at D1 with N 1", x.heat(coat, 450), 1);
    }

    private static void cut() {
        SugarKitchen x = new SugarKitchen();
        int raw = rawBatch(x, 3, 500);
        due("cut a raw one", x.cut(raw, 10, 1), NONE);
        due("cut(-1, ..)", x.cut(-1, 10, 1), NONE);
        due("cut(1, ..)", x.cut(1, 10, 1), NONE);
        for (int kind = 0; kind < 6; kind++) {
            int batch = goodBatch(x, kind, 500);
            due("cut kind " + kind, x.cut(batch, 10, 1), kind == 3 || kind == 4 ? 1 : NONE);
        }
        int centre = goodBatch(x, 3, 5000);
        due("cut weight 9", x.cut(centre, 9, 1), NONE);
        due("cut weight 2001", x.cut(centre, 2001, 1), NONE);
        due("cut 0", x.cut(centre, 10, 0), NONE);
        due("cut 100", x.cut(centre, 10, 100), NONE);
        due("cut weight 2000", x.cut(centre, 2000, 99), 2);
        due("MASS", x.batchOf(centre, 1), 1000);
        due("cut weight 10", x.cut(centre, 10, 99), 99);
        due("MASS", x.batchOf(centre, 1), 10);
        due("cut more than there is", x.cut(centre, 11, 1), 0);
        due("cut the last", x.cut(centre, 10, 2), 1);
        due("cut of nothing", x.cut(centre, 10, 1), 0);
        due("about(2)", x.about(2), 104);
        int bad = rawBatch(x, 4, 100);
        readings(x, bad, 10f);
        x.cook(bad, 1);
        due("cut one that isn't GOOD", x.cut(bad, 10, 1), NONE);
        x.vouch(bad);
        due("cut one that is", x.cut(bad, 10, 1), 1);
        due("where it is", x.pieceOf(104, 5), 0);
        lastNumbers();
    }

    private static void lastNumbers() {
        SugarKitchen x = new SugarKitchen();
        int centre = goodBatch(x, 3, 1000000);
        for (int i = 0; i < 6; i++) {
            due("cut 99", x.cut(centre, 10, 99), 99);
        }
        due("cut the last numbers", x.cut(centre, 10, 99), 6);
        due("cut without numbers", x.cut(centre, 10, 1), 0);
        due("cut from it", x.batchOf(centre, 11), 6000);
        due("about(2)", x.about(2), 600);
        due("pieceOf(599, 1)", x.pieceOf(599, 1), 10);
        due("pieceOf(600, 1)", x.pieceOf(600, 1), NONE);
        yes("place(599, 5, 23)", x.place(599, 5, 23));
    }

    private static void dip() {
        SugarKitchen x = new SugarKitchen();
        int centre = goodBatch(x, 3, 1000);
        int coat = goodBatch(x, 5, 1500);
        x.cut(centre, 100, 5);
        due("dip(-1, ..)", x.dip(-1, coat, 1), NONE);
        due("dip(5, ..)", x.dip(5, coat, 1), NONE);
        due("dip into a CENTRE", x.dip(0, centre, 1), NONE);
        due("dip into none", x.dip(0, 2, 1), NONE);
        due("dip into none", x.dip(0, -1, 1), NONE);
        due("dip weight 0", x.dip(0, coat, 0), NONE);
        due("dip weight 1001", x.dip(0, coat, 1001), NONE);
        due("pieceOf(0, 2)", x.pieceOf(0, 2), NONE);
        due("dip weight 1000", x.dip(0, coat, 1000), 0);
        due("MASS", x.batchOf(coat, 1), 500);
        due("dip more than there is", x.dip(1, coat, 501), NONE);
        due("dip twice", x.dip(0, coat, 1), NONE);
        heatInto(x, coat);
        due("dip in TEMPER, on a tray", x.place(1, 0, 0) ? x.dip(1, coat, 1) : NONE, 1);
        due("dip the rest", x.dip(2, coat, 499), 1);
        due("dip into nothing left", x.dip(3, coat, 1), NONE);
        int bad = rawBatch(x, 5, 100);
        due("dip into a raw COAT", x.dip(3, bad, 1), NONE);
        x.cook(bad, 1);
        due("dip into a COAT that isn't GOOD", x.dip(3, bad, 1), NONE);
        x.pack(1 << 2, 101, 0);
        due("in a box", x.pieceOf(1, 5), 2);
        x.vouch(bad);
        x.place(4, 0, 0);
        x.pack(1, 100, 0);
        due("dip in a box", x.dip(4, bad, 1), NONE);
        due("dip into a COAT vouched for", x.dip(3, bad, 1), 0);
    }

    private static void place() {
        SugarKitchen x = laidOut(100);
        x.cut(0, 100, 3);
        no("place(-1, 0, 1)", x.place(-1, 0, 1));
        no("place(4, 0, 1)", x.place(4, 0, 1));
        no("place(1, -1, 1)", x.place(1, -1, 1));
        no("place(1, 6, 1)", x.place(1, 6, 1));
        no("place(1, 0, -1)", x.place(1, 0, -1));
        no("place(1, 0, 24)", x.place(1, 0, 24));
        no("place where one is", x.place(1, 0, 0));
        no("place where it is itself", x.place(0, 0, 0));
        yes("place(1, 5, 23)", x.place(1, 5, 23));
        yes("place elsewhere", x.place(0, 2, 3));
        due("at(0, 0)", x.at(0, 0), NONE);
        due("at(2, 3)", x.at(2, 3), 0);
        due("about(6)", x.about(6), 2);
        x.pack(15, 200, 0);
        no("place one in a box", x.place(0, 0, 0));
        yes("place where a boxed one was", x.place(2, 2, 3));
    }

    private static void take() {
        SugarKitchen x = laidOut(100, 200);
        x.cut(0, 100, 1);
        no("take(-1)", x.take(-1));
        no("take(3)", x.take(3));
        no("take a loose one", x.take(2));
        yes("take(0)", x.take(0));
        due("at(0, 0)", x.at(0, 0), NONE);
        due("pieceOf(0, 5)", x.pieceOf(0, 5), 0);
        due("pieceOf(0, 6)", x.pieceOf(0, 6), NONE);
        no("take(0) again", x.take(0));
        yes("place it again", x.place(0, 0, 0));
        x.pack(15, 200, 0);
        no("take one in a box", x.take(1));
        due("pieceOf(1, 5)", x.pieceOf(1, 5), 2);
    }

    private static void allow() {
        SugarKitchen x = laidOut(100, 100, 100);
        int coat = goodBatch(x, 5, 500);
        x.dip(0, coat, 10);
        heatInto(x, coat);
        x.dip(1, coat, 10);
        no("allow(-1)", x.allow(-1));
        no("allow(3)", x.allow(3));
        no("allow one in TEMPER", x.allow(1));
        no("allow an undipped one", x.allow(2));
        due("FIT", x.about(6), 2);
        yes("allow(0)", x.allow(0));
        yes("allow(0) again", x.allow(0));
        due("ALLOWED", x.pieceOf(0, 4), 1);
        due("ALLOWED", x.pieceOf(1, 4), 0);
        due("FIT", x.about(6), 3);
        x.pack(1 << 2, 220, 0);
        yes("allow one in a box", x.allow(0));
    }

    private static void pieceOf() {
        SugarKitchen x = laidOut(100, 200);
        int nut = goodBatch(x, 4, 500);
        int coat = goodBatch(x, 5, 500);
        x.cut(nut, 50, 2);
        x.dip(1, coat, 25);
        x.place(2, 3, 4);
        heatInto(x, coat);
        x.dip(3, coat, 10);
        int[][] due = {
            {0, 100, NONE, NONE, 0, 1, 0, 0, 1},
            {0, 225, 2, 0, 0, 1, 1, 2, 0},
            {1, 50, NONE, NONE, 0, 1, 76, 1, 1},
            {1, 60, 2, 1, 0, 0, NONE, 3, 0}};
        for (int piece = 0; piece < 4; piece++) {
            for (int what = 0; what <= 8; what++) {
                due("pieceOf(" + piece + ", " + what + ")", x.pieceOf(piece, what), due[piece][what]);
            }
        }
        due("pieceOf(0, 9)", x.pieceOf(0, 9), NONE);
        due("pieceOf(0, -1)", x.pieceOf(0, -1), NONE);
        due("pieceOf(4, 0)", x.pieceOf(4, 0), NONE);
        due("pieceOf(-1, 7)", x.pieceOf(-1, 7), NONE);
        x.pack(1 << 1, 50, 0);
        x.pack(1, 100, 0);
        due("a boxed one's place", x.pieceOf(0, 5), 2);
        due("its box", x.pieceOf(0, 6), 1);
        due("FIT in a box", x.pieceOf(0, 8), 0);
        due("its box", x.pieceOf(2, 6), 0);
    }

    private static void at() {
        SugarKitchen x = laidOut(100, 200);
        due("at(0, 1)", x.at(0, 1), 1);
        due("at(0, 2)", x.at(0, 2), NONE);
        due("at(1, 0)", x.at(1, 0), NONE);
        due("at(-1, 24)", x.at(-1, 24), NONE);
        due("at(6, 0)", x.at(6, 0), NONE);
        due("at(0, 24)", x.at(0, 24), NONE);
        due("at(1, -23)", x.at(1, -23), NONE);
        x.place(1, 1, 0);
        due("at(0, 1)", x.at(0, 1), NONE);
        due("at(1, 0)", x.at(1, 0), 1);
        due("at(MAX, MAX)", x.at(MAX, MAX), NONE);
    }

    private static void pack() {
        SugarKitchen x = laidOut(100, 300, 200, 120);
        due("pack(0, ..)", x.pack(0, 100, 0), NONE);
        due("pack(16, ..)", x.pack(16, 100, 0), NONE);
        due("pack weight 0", x.pack(1, 0, 500), NONE);
        due("pack weight 8001", x.pack(1, 8001, 0), NONE);
        due("pack over -1", x.pack(1, 100, -1), NONE);
        due("pack over 501", x.pack(1, 100, 501), NONE);
        due("pack another SORT", x.pack(14, 100, 0), NONE);
        due("pack what can't be", x.pack(15, 110, 9), NONE);
        due("about(3)", x.about(3), 0);
        due("pack the least over", x.pack(15, 110, 500), 0);
        due("its piece", x.boxOf(0, 100), 3);
        due("pack 300: those that lie first", x.pack(15, 300, 0), 1);
        due("its first piece", x.boxOf(1, 100), 0);
        due("its second piece", x.boxOf(1, 101), 2);
        due("pack more than there is", x.pack(15, 301, 500), NONE);
        due("pack 8000", x.pack(15, 8000, 500), NONE);
        due("pack weight 1", x.pack(15, 1, 500), 2);
        due("pack nothing", x.pack(15, 1, 500), NONE);
        byTrayThenPlace();
        firstForty();
        twoHundred();
        everySum();
    }

    /** Each sum of two weights must be found, and no other. */
    private static void everySum() {
        for (int first = 10; first < 200; first++) {
            for (int second : new int[] {10, 63, 64, 65, 126, 127, 128, 129}) {
                SugarKitchen x = laidOut(first, second);
                due("over " + first + " and " + second, x.would(15, first + second, 0, 0), 0);
                due("over " + first + " and " + second, x.would(15, first + second - 1, 500, 0), 1);
                due("more than " + first + " and " + second, x.pack(15, first + second + 1, 500), NONE);
            }
        }
        SugarKitchen x = laidOut(2000, 2000, 2000, 2000);
        due("over 8000", x.would(15, 7500, 500, 0), 500);
        due("over 8000", x.would(15, 7500, 499, 0), NONE);
        due("pack 8000", x.pack(15, 8000, 500), 0);
    }

    private static void byTrayThenPlace() {
        SugarKitchen x = laidOut(100, 100, 100);
        x.place(0, 5, 23);
        x.place(2, 0, 0);
        x.place(1, 3, 0);
        x.pack(15, 200, 0);
        due("the first of a tray", x.pieceOf(2, 5), 2);
        due("the next", x.pieceOf(1, 5), 2);
        due("the last", x.pieceOf(0, 5), 1);
        x = laidOut(10, 20, 30, 40, 50, 60);
        x.pack(15, 100, 0);
        int[] in = {1, 1, 1, 1, 0, 0};
        for (int i = 0; i < 6; i++) {
            due("piece " + i + " of 100", x.pieceOf(i, 5), 1 + in[i]);
        }
        x = laidOut(60, 10, 50, 40, 20, 30);
        x.pack(15, 100, 0);
        in = new int[] {1, 1, 0, 0, 0, 1};
        for (int i = 0; i < 6; i++) {
            due("piece " + i + " of 100", x.pieceOf(i, 5), 1 + in[i]);
        }
    }

    private static void firstForty() {
        int[] weights = new int[42];
        java.util.Arrays.fill(weights, 200);
        weights[40] = 150;
        SugarKitchen x = laidOut(weights);
        due("CHOICE", x.would(15, 150, 0, 4), 40);
        due("pack by the 41st", x.pack(15, 150, 0), NONE);
        due("pack 8000 of 40", x.pack(15, 8000, 0), 0);
        due("how many", x.boxOf(0, 0), 40);
        due("its last", x.boxOf(0, 139), 39);
        due("pack by the 41st", x.pack(15, 150, 0), 1);
        due("its only", x.boxOf(1, 100), 40);
    }

    private static void twoHundred() {
        SugarKitchen x = new SugarKitchen();
        int centre = goodBatch(x, 3, 1000000);
        x.cut(centre, 10, 99);
        x.cut(centre, 10, 99);
        x.cut(centre, 10, 99);
        for (int i = 0; i < 200; i++) {
            x.place(i, 0, 0);
            due("pack " + i, x.pack(1, 10, 0), i);
        }
        x.place(200, 0, 0);
        due("pack the 201st", x.pack(1, 10, 0), NONE);
        due("where it is", x.pieceOf(200, 5), 1);
        due("about(3)", x.about(3), 200);
        due("boxOf(199, 100)", x.boxOf(199, 100), 199);
    }

    private static void would() {
        SugarKitchen x = laidOut(100, 300, 200, 120);
        due("would(0, ..)", x.would(0, 100, 0, 0), NONE);
        due("would(16, ..)", x.would(16, 100, 0, 4), NONE);
        due("would weight 0", x.would(1, 0, 500, 4), NONE);
        due("would weight 8001", x.would(1, 8001, 0, 4), NONE);
        due("would over -1", x.would(1, 100, -1, 4), NONE);
        due("would over 501", x.would(1, 100, 501, 4), NONE);
        due("would what -1", x.would(1, 100, 0, -1), NONE);
        due("would what 5", x.would(1, 100, 0, 5), NONE);
        due("over", x.would(1, 310, 500, 0), 10);
        due("how many", x.would(1, 310, 500, 1), 2);
        due("over by none", x.would(1, 721, 500, 0), NONE);
        due("how many by none", x.would(1, 721, 500, 1), NONE);
        due("FULL by none", x.would(1, 721, 500, 2), 0);
        due("MOST by none", x.would(1, 721, 500, 3), 0);
        due("CHOICE", x.would(1, 8000, 0, 4), 4);
        due("CHOICE of other SORTS", x.would(14, 1, 0, 4), 0);
        due("about(3), nothing packed", x.about(3), 0);
        due("about(6), nothing packed", x.about(6), 4);
        fullAndMost();
        fullBeyondForty();
        mostOfFourteen();
    }

    private static void fullAndMost() {
        // The least over first takes 50 and 50, and leaves 70 and 70: over; parted otherwise: two.
        SugarKitchen x = laidOut(50, 70, 50, 70);
        due("FULL", x.would(15, 100, 30, 2), 1);
        due("MOST", x.would(15, 100, 30, 3), 2);
        due("over", x.would(15, 100, 30, 0), 0);
        x = laidOut(40, 60, 60, 40, 100, 99, 101);
        due("FULL", x.would(15, 100, 0, 2), 3);
        due("MOST", x.would(15, 100, 1, 3), 4);
        due("FULL, again the same", x.would(15, 100, 1, 2), 4);
    }

    private static void fullBeyondForty() {
        int[] weights = new int[60];
        java.util.Arrays.fill(weights, 100);
        SugarKitchen x = laidOut(weights);
        due("FULL beyond CHOICE", x.would(15, 100, 0, 2), 60);
        due("FULL beyond CHOICE", x.would(15, 2000, 0, 2), 3);
        due("MOST of the first 14", x.would(15, 100, 0, 3), 14);
        due("MOST of the first 14", x.would(15, 300, 0, 3), 4);
    }

    private static void mostOfFourteen() {
        int[] weights = new int[15];
        java.util.Arrays.fill(weights, 100);
        weights[14] = 50;
        SugarKitchen x = laidOut(weights);
        due("MOST, not by the 15th", x.would(15, 50, 0, 3), 0);
        x.take(0);
        due("MOST, by the 14th", x.would(15, 50, 0, 3), 1);
        due("MOST of one too light", x.would(15, 100, 500, 3), 13);
        due("MOST in pairs", x.would(15, 150, 0, 3), 1);
        due("MOST in pairs or so", x.would(15, 150, 50, 3), 7);
    }

    private static void boxOf() {
        SugarKitchen x = new SugarKitchen();
        int[] warnings = {1, 3, 6, 128, 64};
        for (int w : warnings) {
            x.lot(10000, w);
        }
        int coat = x.batch(5);
        int centre = x.batch(3);
        int nut = x.batch(4);
        x.put(coat, 3, 1000);
        x.put(centre, 0, 500);
        x.put(centre, 2, 500);
        x.put(nut, 1, 500);
        for (int batch = 0; batch < 3; batch++) {
            x.cook(batch, 1);
            x.vouch(batch);
        }
        x.cut(centre, 100, 2);
        x.cut(nut, 70, 2);
        x.dip(0, coat, 5);
        x.allow(0);
        for (int i = 0; i < 4; i++) {
            x.place(3 - i, 0, i);
        }
        due("boxOf(0, 0), no box", x.boxOf(0, 0), NONE);
        due("boxOf(-1, 0)", x.boxOf(-1, 0), NONE);
        due("pack", x.pack(15, 200, 500), 0);
        int[] due = {2, 205, 200, 1 | 6 | 128, 3};
        for (int what = 0; what < due.length; what++) {
            due("boxOf(0, " + what + ")", x.boxOf(0, what), due[what]);
        }
        due("its 0th piece", x.boxOf(0, 100), 0);
        due("its 1st piece", x.boxOf(0, 101), 1);
        due("its 2nd piece", x.boxOf(0, 102), NONE);
        due("its 0th lot", x.boxOf(0, 200), 0);
        due("its 1st lot", x.boxOf(0, 201), 2);
        due("its 2nd lot", x.boxOf(0, 202), 3);
        due("its 3rd lot", x.boxOf(0, 203), NONE);
        int[] others = {MIN, -1, 5, 99, 199, 299, MAX};
        for (int what : others) {
            due("boxOf(0, " + what + ")", x.boxOf(0, what), NONE);
        }
        due("boxOf(1, 0)", x.boxOf(1, 0), NONE);
        due("pack the nuts", x.pack(2, 139, 1), 1);
        due("its weight", x.boxOf(1, 1), 140);
        due("its WEIGHT", x.boxOf(1, 2), 139);
        due("its WARNINGS", x.boxOf(1, 3), 3);
        due("its 0th piece", x.boxOf(1, 100), 2);
    }

    private static void wash() {
        SugarKitchen x = new SugarKitchen();
        no("wash(-1, 0, 1)", x.wash(-1, 0, 1));
        no("wash(6, 0, 1)", x.wash(6, 0, 1));
        no("wash(0, -1, 1)", x.wash(0, -1, 1));
        no("wash(0, 6, 1)", x.wash(0, 6, 1));
        no("wash(0, 0, -1)", x.wash(0, 0, -1));
        no("wash(0, 0, 601)", x.wash(0, 0, 601));
        x.batch(5);
        x.batch(5);
        x.queue(0);
        x.queue(1);
        due("minutes at first", x.order(false, NONE), 0);
        yes("wash(5, 5, 600)", x.wash(5, 5, 600));
        due("minutes", x.order(false, NONE), 600);
        no("wash(5, 5, 601)", x.wash(5, 5, 601));
        due("minutes, nothing changed", x.order(true, NONE), 600);
        yes("wash(5, 5, 0)", x.wash(5, 5, 0));
        due("minutes", x.order(true, NONE), 0);
    }

    private static void queue() {
        SugarKitchen x = new SugarKitchen();
        due("queue(NONE), empty", x.queue(NONE), 0);
        due("queue(0), no batch", x.queue(0), NONE);
        due("queue(-2)", x.queue(-2), NONE);
        for (int i = 0; i < 12; i++) {
            x.batch(i % 6);
        }
        for (int i = 0; i < 10; i++) {
            due("queue " + i, x.queue(11 - i), i + 1);
            due("queue twice", x.queue(11 - i), NONE);
        }
        due("queue the 11th", x.queue(0), NONE);
        due("about(5)", x.about(5), 10);
        due("queue(12)", x.queue(12), NONE);
        due("queue(NONE)", x.queue(NONE), 0);
        due("about(5)", x.about(5), 0);
        due("queue(0)", x.queue(0), 1);
        due("order", x.order(false, 0), 0);
        due("order", x.order(false, 1), NONE);
    }

    private static void order() {
        SugarKitchen x = new SugarKitchen();
        int[] kinds = {4, 0, 4, 1, 0};
        for (int i = 0; i < kinds.length; i++) {
            x.batch(kinds[i]);
            x.queue(i);
        }
        orderIs(x, false, 0, 0, 1, 2, 3, 4);
        orderIs(x, true, 0, 1, 3, 4, 0, 2);
        due("order(false, 5)", x.order(false, 5), NONE);
        due("order(false, -2)", x.order(false, -2), NONE);
        due("order(true, MAX)", x.order(true, MAX), NONE);
        x.wash(0, 4, 10);
        orderIs(x, false, 0, 0, 1, 3, 2, 4);
        orderIs(x, true, 0, 1, 4, 3, 0, 2);
        x.wash(1, 4, 30);
        orderIs(x, true, 10, 1, 3, 4, 0, 2);
        x.wash(4, 4, 7);
        orderIs(x, true, 17, 1, 3, 4, 0, 2);
        orderIs(x, false, 7, 0, 2, 1, 3, 4);
        x.queue(NONE);
        due("order of none", x.order(true, NONE), 0);
        due("order of none", x.order(true, 0), NONE);
        x.queue(2);
        orderIs(x, true, 0, 2);
        tenInOrder();
    }

    private static void orderIs(SugarKitchen x, boolean nutsLast, int minutes, int... batches) {
        due("minutes, " + nutsLast, x.order(nutsLast, NONE), minutes);
        for (int i = 0; i < batches.length; i++) {
            due("order(" + nutsLast + ", " + i + ")", x.order(nutsLast, i), batches[i]);
        }
    }

    private static void tenInOrder() {
        SugarKitchen x = new SugarKitchen();
        for (int from = 0; from < 6; from++) {
            for (int to = 0; to < 6; to++) {
                x.wash(from, to, from == to ? 0 : to == (from + 1) % 6 ? 5 : 600);
            }
        }
        for (int i = 0; i < 10; i++) {
            x.batch(i * 5 % 6);
            x.queue(i);
        }
        // Kinds 0 5 4 3 2 1 0 5 4 3: each kind together, and round the ring from the best start.
        orderIs(x, false, 25, 0, 6, 5, 4, 3, 9, 2, 8, 1, 7);
        orderIs(x, true, 25, 1, 7, 0, 6, 5, 4, 3, 9, 2, 8);
    }

    private static void recall() {
        SugarKitchen x = new SugarKitchen();
        for (int i = 0; i < 40; i++) {
            x.lot(1000, 0);
        }
        int centre = x.batch(3);
        int nut = x.batch(4);
        int coat = x.batch(5);
        int spare = x.batch(0);
        x.put(centre, 0, 100);
        x.put(centre, 39, 100);
        x.put(nut, 0, 100);
        x.put(coat, 39, 100);
        x.put(spare, 32, 100);
        for (int batch = 0; batch < 4; batch++) {
            x.cook(batch, 1);
            x.vouch(batch);
        }
        x.cut(nut, 50, 2);
        x.cut(centre, 100, 2);
        x.dip(1, coat, 10);
        x.allow(1);
        for (int i = 0; i < 4; i++) {
            x.place(i, 0, i);
        }
        x.pack(2, 50, 0);
        x.pack(8, 60, 0);
        x.pack(1, 100, 0);
        recallIs(x, 0, 0, 0, 1);
        recallIs(x, 0, 1, 0, 1, 2, 3);
        recallIs(x, 0, 2, 0, 1, 2);
        recallIs(x, 39, 0, 0, 2);
        recallIs(x, 39, 1, 1, 2, 3);
        recallIs(x, 39, 2, 1, 2);
        recallIs(x, 32, 0, 3);
        recallIs(x, 32, 1);
        recallIs(x, 7, 0);
        due("recall(40, 0, 0)", x.recall(40, 0, 0), NONE);
        due("recall(-1, 0, 0)", x.recall(-1, 0, 0), NONE);
        due("recall(64, 0, 0)", x.recall(64, 0, 0), NONE);
        due("recall(0, 3, 0)", x.recall(0, 3, 0), NONE);
        due("recall(0, -1, 0)", x.recall(0, -1, 0), NONE);
        due("recall(0, 0, -1)", x.recall(0, 0, -1), NONE);
        due("recall(0, 0, MAX)", x.recall(0, 0, MAX), NONE);
    }

    private static void recallIs(SugarKitchen x, int lot, int what, int... numbers) {
        for (int i = 0; i < numbers.length; i++) {
            due("recall(" + lot + ", " + what + ", " + i + ")", x.recall(lot, what, i), numbers[i]);
        }
        due("recall beyond", x.recall(lot, what, numbers.length), NONE);
    }

    private static void about() {
        SugarKitchen x = laidOut(100, 200, 300);
        x.lot(1, 1);
        x.batch(0);
        x.batch(1);
        x.table(1, 1);
        x.table(2, 1);
        x.table(3, 1);
        x.table(4, 1);
        x.queue(1);
        x.pack(15, 100, 0);
        int[] due = {2, 3, 3, 1, 4, 1, 2};
        for (int what = 0; what < due.length; what++) {
            due("about(" + what + ")", x.about(what), due[what]);
        }
        due("about(-1)", x.about(-1), NONE);
        due("about(7)", x.about(7), NONE);
        int coat = goodBatch(x, 5, 100);
        x.dip(1, coat, 10);
        due("FIT, one dipped out of TEMPER", x.about(6), 1);
        x.take(2);
        due("FIT, one taken", x.about(6), 0);
    }

    private static void left() {
        SugarKitchen x = new SugarKitchen();
        x.lot(100, 0);
        x.lot(0, 0);
        x.batch(0);
        due("left(0)", x.left(0), 100);
        x.put(0, 0, 60);
        due("left(0)", x.left(0), 40);
        x.put(0, 0, 41);
        due("left(0)", x.left(0), 40);
        due("left(1)", x.left(1), 0);
        due("left(2)", x.left(2), NONE);
        due("left(-1)", x.left(-1), NONE);
    }
}
