import java.util.Arrays;

/** The edges of boxes: of Terms III, promises 24 to 26. */
public final class BoxesEdgesTest extends Checks {
    public static void main(String[] args) {
        runAll(BoxesEdgesTest.class);
    }

    /** The pieces of a box that is packed now, one behind the other. */
    private static void packed(SugarKitchen x, int sorts, int weight, int over, int... pieces) {
        String by = "(" + sorts + ", " + weight + ", " + over + ")";
        due("how many by " + by, x.would(sorts, weight, over, 1), pieces.length);
        int box = x.pack(sorts, weight, over);
        due("pieces by " + by, x.boxOf(box, 0), pieces.length);
        for (int i = 0; i < pieces.length; i++) {
            due("piece " + i + " by " + by, x.boxOf(box, 100 + i), pieces[i]);
        }
        due("piece beyond by " + by, x.boxOf(box, 100 + pieces.length), NONE);
    }

    /** A piece of each SORT k with weight 100 + k, at place k of TRAY 0. */
    private static SugarKitchen eachSort() {
        SugarKitchen x = new SugarKitchen();
        goodBatch(x, CENTRE, 1000);
        goodBatch(x, NUT, 1000);
        goodBatch(x, COAT, 1000);
        heatInto(x, 2);
        for (int sort = 0; sort < 4; sort++) {
            x.cut(sort % 2, sort < 2 ? 100 + sort : 99 + sort, 1);
            x.place(sort, 0, sort);
        }
        x.dip(2, 2, 1);
        x.dip(3, 2, 1);
        return x;
    }

    // ---- which numbers may be

    @Says({"SORTS (bit k for SORT k)", "A box is packed by SORTS (1 .. 15)"})
    static void packSorts() {
        for (int sorts : new int[] {0, 16, 17, 31, -1, MIN, MIN + 1, MAX}) {
            SugarKitchen x = eachSort();
            due("pack(" + sorts + ", ..)", x.pack(sorts, 100, 500), NONE);
            for (int what = 0; what <= 4; what++) {
                due("would(" + sorts + ", .., " + what + ")", x.would(sorts, 100, 500, what), NONE);
            }
            due("boxes", x.about(3), 0);
            due("FIT", x.about(6), 4);
        }
        for (int sorts = 1; sorts <= 15; sorts++) {
            SugarKitchen x = eachSort();
            due("CHOICE of " + sorts, x.would(sorts, 1, 0, 4), Integer.bitCount(sorts));
            int all = 0;
            for (int sort = 0; sort < 4; sort++) {
                boolean in = (sorts >> sort & 1) != 0;
                all += in ? 100 + sort : 0;
                SugarKitchen y = eachSort();
                due("pack SORT " + sort + " by " + sorts, y.pack(sorts, 100 + sort, 0), in ? 0 : NONE);
            }
            due("pack all of " + sorts, x.pack(sorts, all, 0), 0);
            due("how many", x.boxOf(0, 0), Integer.bitCount(sorts));
        }
    }

    @Says("WEIGHT (1 .. 8000)")
    static void packWeight() {
        SugarKitchen x = laidOut(2000, 2000, 2000, 2000, 10);
        for (int weight : new int[] {0, -1, 8001, MIN, MAX, MAX - 499}) {
            for (int over : new int[] {0, 500}) {
                due("pack by " + weight, x.pack(15, weight, over), NONE);
                for (int what = 0; what <= 4; what++) {
                    due("would by " + weight + ", " + what, x.would(15, weight, over, what), NONE);
                }
            }
        }
        due("boxes", x.about(3), 0);
        due("over by 1", x.would(15, 1, 500, 0), 9);
        due("CHOICE by 1", x.would(15, 1, 0, 4), 5);
        due("over by 8000", x.would(15, 8000, 0, 0), 0);
        packed(x, 15, 8000, 0, 0, 1, 2, 3);
        packed(x, 15, 1, 9, 4);
    }

    @Says("OVER (0 .. 500)")
    static void packOver() {
        SugarKitchen x = laidOut(600, 110);
        for (int over : new int[] {-1, 501, MIN, MAX}) {
            due("pack by over " + over, x.pack(15, 100, over), NONE);
            for (int what = 0; what <= 4; what++) {
                due("would by over " + over + ", " + what, x.would(15, 100, over, what), NONE);
            }
        }
        due("boxes", x.about(3), 0);
        due("over by 0", x.would(15, 110, 0, 0), 0);
        packed(x, 15, 110, 0, 1);
        due("over by 499", x.would(15, 100, 499, 0), NONE);
        due("over by 500", x.would(15, 100, 500, 0), 500);
        packed(x, 15, 100, 500, 0);
    }

    @Says("WEIGHT (1 .. 8000), OVER (0 .. 500)")
    static void packTheHeaviest() {
        SugarKitchen x = laidOut(2000, 2000, 2000, 1999, 500);
        due("least over 8000", x.would(15, 8000, 500, 0), 499);
        due("least over 8000 by 498", x.would(15, 8000, 498, 0), NONE);
        SugarKitchen y = laidOut(2000, 2000, 2000, 1999, 501);
        due("8500 of 8000 and 500", y.would(15, 8000, 500, 0), 500);
        due("8500 of 8000 and 499", y.would(15, 8000, 499, 0), NONE);
        packed(y, 15, 8000, 500, 0, 1, 2, 3, 4);
        due("its weight", y.boxOf(0, 1), 8500);
        SugarKitchen z = laidOut(2000, 2000, 2000, 2000, 501);
        z.dip(0, goodBatch(z, COAT, 10), 1);
        z.allow(0);
        due("8001 of 8000", z.would(15, 8000, 0, 0), NONE);
        due("8001 of 8000 and 1", z.would(15, 8000, 1, 0), 1);
    }

    // ---- which pieces go

    @Says("Some of them whose weights together are at least WEIGHT, and at most OVER more")
    static void sumWithin() {
        SugarKitchen x = laidOut(100, 50);
        due("150 by 150 and 0", x.would(15, 150, 0, 0), 0);
        due("150 by 151 and 500", x.would(15, 151, 500, 0), NONE);
        due("150 by 149 and 0", x.would(15, 149, 0, 0), NONE);
        due("150 by 149 and 1", x.would(15, 149, 1, 0), 1);
        due("150 by 101 and 48", x.would(15, 101, 48, 0), NONE);
        due("150 by 101 and 49", x.would(15, 101, 49, 0), 49);
        due("100 by 51 and 48", x.would(15, 51, 48, 0), NONE);
        due("100 by 51 and 49", x.would(15, 51, 49, 0), 49);
        due("pack by 151", x.pack(15, 151, 500), NONE);
        due("pack by 149 and 0", x.pack(15, 149, 0), NONE);
        packed(x, 15, 149, 1, 0, 1);
    }

    @Says("Some of them whose weights together are at least WEIGHT, and at most OVER more")
    static void eachSumAndNoOther() {
        int[] weights = {10, 11, 62, 63, 64, 65, 66, 127, 128, 129};
        for (int first : weights) {
            for (int second : weights) {
                SugarKitchen x = laidOut(first, second, 53);
                int[] sums = {first, second, 53, first + second, first + 53, second + 53, first + second + 53};
                for (int sum = 1; sum <= 320; sum++) {
                    int wanted = sum;
                    boolean is = Arrays.stream(sums).anyMatch(s -> s == wanted);
                    due(sum + " of " + first + ", " + second + ", 53", x.would(15, sum, 0, 0), is ? 0 : NONE);
                }
            }
        }
    }

    @Says("of all such with the least sum")
    static void leastSum() {
        packed(laidOut(130, 60, 60, 110), 15, 100, 500, 3);
        packed(laidOut(130, 60, 49, 110), 15, 100, 500, 1, 2);
        packed(laidOut(130, 60, 40, 110), 15, 100, 500, 1, 2);
        packed(laidOut(101, 60, 40, 110), 15, 100, 500, 1, 2);
        packed(laidOut(100, 60, 40, 110), 15, 100, 500, 0);
        packed(laidOut(101, 100), 15, 100, 500, 1);
        packed(laidOut(102, 101, 103), 15, 100, 500, 1);
    }

    @Says("of two ways that one which has the first piece (in CHOICE) that just one of them has.")
    static void thoseThatLieFirst() {
        packed(laidOut(100, 100), 15, 100, 0, 0);
        packed(laidOut(60, 40, 100), 15, 100, 0, 0, 1);
        packed(laidOut(100, 60, 40), 15, 100, 0, 0);
        packed(laidOut(60, 50, 50, 40), 15, 100, 0, 0, 3);
        packed(laidOut(50, 60, 40, 50), 15, 100, 0, 0, 3);
        packed(laidOut(30, 70, 30, 40, 70), 15, 100, 0, 0, 1);
        packed(laidOut(30, 30, 40, 70), 15, 100, 0, 0, 1, 2);
        packed(laidOut(99, 20, 30, 50, 20, 30), 15, 100, 0, 1, 2, 3);
        packed(laidOut(20, 20, 20, 20, 20, 20), 15, 100, 0, 0, 1, 2, 3, 4);
        packed(laidOut(10, 90, 80, 20), 15, 100, 0, 0, 1);
        packed(laidOut(80, 10, 20, 10), 15, 100, 0, 0, 1, 3);
        packed(laidOut(50, 100), 15, 100, 0, 1);
        packed(laidOut(50, 100, 50), 15, 100, 0, 0, 2);
        packed(laidOut(11, 10, 53), 15, 10, 0, 1);
        packed(laidOut(40, 30, 20, 80), 15, 100, 0, 2, 3);
    }

    @Says("CHOICE: FIT pieces of these SORTS, by TRAY, then place, 40 at most.")
    static void choiceByTrayThenPlace() {
        SugarKitchen x = laidOut(same(6, 100));
        int[][] spots = {{1, 0}, {0, 23}, {5, 23}, {0, 22}, {5, 0}, {1, 1}};
        for (int piece = 0; piece < 6; piece++) {
            x.take(piece);
        }
        for (int piece = 0; piece < 6; piece++) {
            x.place(piece, spots[piece][0], spots[piece][1]);
        }
        for (int piece : new int[] {3, 1, 0, 5, 4, 2}) {
            packed(x, 15, 100, 0, piece);
        }
        due("none is left", x.pack(15, 100, 0), NONE);
    }

    @Says("CHOICE: FIT pieces of these SORTS, by TRAY, then place, 40 at most.")
    static void choiceIsForty() {
        for (int many : new int[] {39, 40, 41}) {
            int[] weights = same(many, 200);
            weights[many - 1] = 150;
            SugarKitchen x = laidOut(weights);
            due("CHOICE of " + many, x.would(15, 150, 0, 4), Math.min(many, 40));
            due("by the last of " + many, x.would(15, 150, 0, 0), many <= 40 ? 0 : NONE);
            due("pieces by the last of " + many, x.would(15, 150, 0, 1), many <= 40 ? 1 : NONE);
            due("FULL by the last of " + many, x.would(15, 150, 0, 2), many <= 40 ? 1 : 0);
            due("pack by the last of " + many, x.pack(15, 150, 0), many <= 40 ? 0 : NONE);
        }
    }

    @Says("CHOICE: FIT pieces of these SORTS, by TRAY, then place, 40 at most.")
    static void choiceIsFortyOfTheseSorts() {
        int[] weights = same(42, 100);
        SugarKitchen x = laidOut(weights);
        int coat = goodBatch(x, COAT, 100);
        x.dip(0, coat, 7);
        x.dip(1, coat, 9);
        x.allow(1);
        due("CHOICE, one is not FIT, one of another SORT", x.would(1, 1, 0, 4), 40);
        due("CHOICE of all SORTS", x.would(15, 1, 0, 4), 40);
        due("CHOICE of dipped ones", x.would(4, 1, 0, 4), 1);
        x.allow(0);
        due("CHOICE of dipped ones", x.would(4, 1, 0, 4), 2);
        due("pack 40 of SORT 0", x.pack(1, 4000, 0), 0);
        due("the last of them", x.boxOf(0, 139), 41);
        due("the first of them", x.boxOf(0, 100), 2);
        due("CHOICE, none of SORT 0 left", x.would(1, 1, 0, 4), 0);
    }

    @Says("40 at most.")
    static void boxOfForty() {
        SugarKitchen x = laidOut(same(44, 200));
        due("8000 of forty", x.would(15, 8000, 0, 1), 40);
        due("pack", x.pack(15, 8000, 0), 0);
        due("pieces", x.boxOf(0, 0), 40);
        for (int i = 0; i < 40; i++) {
            due("piece " + i, x.boxOf(0, 100 + i), i);
        }
        due("piece 40", x.boxOf(0, 140), NONE);
        due("CHOICE", x.would(15, 1, 0, 4), 4);
        SugarKitchen y = laidOut(same(44, 199));
        due("8000 of 40 that weigh 7960", y.would(15, 8000, 500, 0), NONE);
        due("7960 of 40", y.would(15, 7960, 0, 1), 40);
    }

    // ---- pack refuses

    @Says({"BOXES 0 .. 199.", "NONE, changing nothing: other numbers, there are 200, or none can be."})
    static void boxesAreTwoHundred() {
        SugarKitchen x = new SugarKitchen();
        goodBatch(x, CENTRE, 1000000);
        for (int i = 0; i < 3; i++) {
            x.cut(0, 10, 99);
        }
        for (int i = 0; i < 200; i++) {
            x.place(i, 0, 0);
            due("pack " + i, x.pack(1, 10, 0), i);
        }
        yes("place another", x.place(200, 0, 0));
        due("pack box 200", x.pack(1, 10, 0), NONE);
        due("pack box 200", x.pack(15, 1, 500), NONE);
        due("boxes", x.about(3), 200);
        due("at(0, 0)", x.at(0, 0), 200);
        due("where it is", x.pieceOf(200, 5), 1);
        due("piece of the last box", x.boxOf(199, 100), 199);
        due("pieces of one beyond", x.boxOf(200, 0), NONE);
        due("its box", x.pieceOf(199, 6), 199);
        due("the last box with the lot", x.recall(0, 2, 199), 199);
        due("one beyond", x.recall(0, 2, 200), NONE);
    }

    @Says("NONE, changing nothing: other numbers, there are 200, or none can be.")
    static void packOfNothing() {
        SugarKitchen x = new SugarKitchen();
        due("pack, nothing at all", x.pack(15, 1, 500), NONE);
        due("over", x.would(15, 1, 500, 0), NONE);
        due("pieces", x.would(15, 1, 500, 1), NONE);
        due("FULL", x.would(15, 1, 500, 2), 0);
        due("MOST", x.would(15, 1, 500, 3), 0);
        due("CHOICE", x.would(15, 1, 500, 4), 0);
        SugarKitchen y = laidOut(100);
        y.take(0);
        due("pack, a loose one alone", y.pack(15, 1, 500), NONE);
        int coat = goodBatch(y, COAT, 100);
        y.dip(0, coat, 1);
        y.place(0, 0, 0);
        due("pack, one not FIT alone", y.pack(15, 1, 500), NONE);
        due("CHOICE", y.would(15, 1, 500, 4), 0);
        due("boxes", y.about(3), 0);
        y.allow(0);
        due("pack, it is allowed", y.pack(15, 1, 500), 0);
        due("pack, it is in a box", y.pack(15, 1, 500), NONE);
        due("boxes", y.about(3), 1);
    }

    @Says("NONE, changing nothing: other numbers, there are 200, or none can be.")
    static void packOfTooLittle() {
        SugarKitchen x = laidOut(100, 200);
        due("pack all and one more", x.pack(15, 301, 500), NONE);
        due("pack between", x.pack(15, 201, 98), NONE);
        due("pack below", x.pack(15, 1, 98), NONE);
        due("pack 8000", x.pack(15, 8000, 500), NONE);
        due("boxes", x.about(3), 0);
        due("at(0, 0)", x.at(0, 0), 0);
        due("at(0, 1)", x.at(0, 1), 1);
        due("pack all", x.pack(15, 300, 0), 0);
    }

    // ---- FULL and MOST

    @Says("FULL: how many boxes can be packed so one behind the other, until none can.")
    static void fullIsAsPackGoes() {
        int[][] rows = {{}, {100}, {99}, {50, 70, 50, 70}, {40, 60, 60, 40, 100, 99, 101},
            {10, 20, 30, 40, 50, 60, 70, 80, 90}, {33, 33, 34, 67, 66, 99, 1000}, {70, 100, 31},
            {70, 99, 31, 101, 30}, same(45, 25), same(50, 100)};
        for (int[] weights : rows) {
            for (int over : new int[] {0, 1, 2, 30, 500}) {
                SugarKitchen x = laidOut(weights);
                int full = x.would(15, 100, over, 2);
                for (int i = 0; i < full; i++) {
                    due("pack " + i, x.pack(15, 100, over), i);
                    due("FULL behind it", x.would(15, 100, over, 2), full - 1 - i);
                }
                due("pack beyond FULL", x.pack(15, 100, over), NONE);
            }
        }
    }

    @Says("FULL: how many boxes can be packed so one behind the other, until none can.")
    static void fullOfSome() {
        due("nothing", new SugarKitchen().would(15, 1, 500, 2), 0);
        due("one", laidOut(100).would(15, 100, 0, 2), 1);
        due("one too light", laidOut(99).would(15, 100, 500, 2), 0);
        due("one too heavy", laidOut(151).would(15, 100, 50, 2), 0);
        due("the first one goes into the second box", laidOut(70, 100, 31).would(15, 100, 1, 2), 2);
        due("the first one is left", laidOut(70, 100, 31).would(15, 100, 0, 2), 1);
        due("the last one is left", laidOut(100, 40, 60, 70).would(15, 100, 0, 2), 2);
    }

    @Says("FULL: how many boxes can be packed so one behind the other, until none can.")
    static void fullIsNotMost() {
        SugarKitchen x = laidOut(50, 70, 50, 70);
        due("FULL: 50 and 50, then none", x.would(15, 100, 30, 2), 1);
        due("MOST: 50 and 70, twice", x.would(15, 100, 30, 3), 2);
        due("FULL by 40 over", x.would(15, 100, 40, 2), 2);
        due("boxes, none is packed", x.about(3), 0);
        due("FIT, none is packed", x.about(6), 4);
    }

    @Says("FULL: how many boxes can be packed so one behind the other, until none can.")
    static void fullOfAllPlaces() {
        SugarKitchen x = new SugarKitchen();
        goodBatch(x, CENTRE, 1000000);
        x.cut(0, 10, 99);
        x.cut(0, 10, 45);
        for (int i = 0; i < 144; i++) {
            x.place(i, i / 24, i % 24);
        }
        due("FULL of one each", x.would(15, 10, 0, 2), 144);
        due("FULL of two each", x.would(15, 20, 0, 2), 72);
        due("FULL of forty each", x.would(15, 400, 0, 2), 3);
        due("FULL of 41 each", x.would(15, 410, 0, 2), 0);
        due("MOST of one each", x.would(15, 10, 0, 3), 14);
        due("MOST of fourteen", x.would(15, 140, 0, 3), 1);
        due("MOST of fifteen", x.would(15, 150, 0, 3), 0);
        due("CHOICE", x.would(15, 10, 0, 4), 40);
    }

    @Says("MOST: of the first 14 of CHOICE")
    static void mostIsOfFourteen() {
        for (int many : new int[] {13, 14, 15}) {
            int[] weights = same(many, 100);
            weights[many - 1] = 50;
            SugarKitchen x = laidOut(weights);
            due("MOST by the last of " + many, x.would(15, 50, 0, 3), many <= 14 ? 1 : 0);
            due("FULL by the last of " + many, x.would(15, 50, 0, 2), 1);
            due("MOST of " + many, x.would(15, 50, 50, 3), Math.min(many, 14));
        }
    }

    @Says("the most boxes into which (some of) them can be parted, each within WEIGHT and OVER.")
    static void mostOfSome() {
        due("one too heavy", laidOut(200, 100).would(15, 100, 0, 3), 1);
        due("one too light", laidOut(99, 100).would(15, 100, 0, 3), 1);
        due("one too light, with another", laidOut(99, 10).would(15, 100, 9, 3), 1);
        due("with another, too heavy by one", laidOut(99, 10).would(15, 100, 8, 3), 0);
        due("exactly OVER", laidOut(150).would(15, 100, 50, 3), 1);
        due("one beyond OVER", laidOut(151).would(15, 100, 50, 3), 0);
        due("exactly WEIGHT", laidOut(100).would(15, 100, 0, 3), 1);
        due("one below WEIGHT", laidOut(99).would(15, 100, 500, 3), 0);
        due("some are left", laidOut(60, 60, 60).would(15, 120, 0, 3), 1);
        due("three of two and three", laidOut(50, 50, 30, 30, 40, 90, 10).would(15, 100, 0, 3), 3);
        due("all fourteen in one", laidOut(same(14, 30)).would(15, 420, 0, 3), 1);
        due("more than all", laidOut(same(14, 30)).would(15, 421, 500, 3), 0);
        due("seven pairs", laidOut(10, 20, 30, 40, 50, 60, 70, 130, 120, 110, 100, 90, 80, 70)
                .would(15, 140, 0, 3), 7);
        due("heavy ones", laidOut(same(14, 2000)).would(15, 8000, 0, 3), 3);
    }

    // ---- would and boxOf

    @Says({"4 how many are to choose from.", "NONE for other numbers; of 0, 1 also if none can be."})
    static void wouldOfOthers() {
        SugarKitchen x = laidOut(100, 200);
        for (int what : new int[] {-1, 5, MIN, MAX}) {
            due("would what " + what, x.would(15, 100, 0, what), NONE);
        }
        int[] can = {0, 1, 1, 1, 2};
        int[] none = {NONE, NONE, 0, 0, 2};
        for (int what = 0; what <= 4; what++) {
            due("would what " + what, x.would(15, 100, 0, what), can[what]);
            due("would what " + what + ", none can be", x.would(15, 301, 0, what), none[what]);
        }
    }

    @Says("By these SORTS, WEIGHT, OVER, without packing")
    static void wouldPacksNothing() {
        SugarKitchen x = laidOut(100, 200, 300);
        for (int round = 0; round < 3; round++) {
            due("over", x.would(15, 290, 20, 0), 10);
            due("pieces", x.would(15, 290, 20, 1), 2);
            due("FULL", x.would(15, 290, 20, 2), 2);
            due("MOST", x.would(15, 290, 20, 3), 2);
            due("CHOICE", x.would(15, 290, 20, 4), 3);
        }
        due("boxes", x.about(3), 0);
        for (int piece = 0; piece < 3; piece++) {
            due("at(0, " + piece + ")", x.at(0, piece), piece);
        }
        packed(x, 15, 290, 20, 0, 1);
    }

    @Says("200 + i: its i-th lot (both rising). NONE for others.")
    static void boxOfOthers() {
        SugarKitchen x = laidOut(100, 200);
        due("boxOf(0, 0), no box", x.boxOf(0, 0), NONE);
        x.pack(15, 300, 0);
        for (int number : new int[] {-1, 1, 200, MIN, MAX}) {
            for (int what : new int[] {0, 1, 2, 3, 4, 100, 200}) {
                due("boxOf(" + number + ", " + what + ")", x.boxOf(number, what), NONE);
            }
        }
        for (int what : new int[] {-1, 5, 99, 102, 199, 201, 299, 300, MIN, MIN + 100, MIN + 200, MAX, MAX - 1}) {
            due("boxOf(0, " + what + ")", x.boxOf(0, what), NONE);
        }
        due("boxOf(0, 100)", x.boxOf(0, 100), 0);
        due("boxOf(0, 101)", x.boxOf(0, 101), 1);
        due("boxOf(0, 200)", x.boxOf(0, 200), 0);
    }

    @Says("100 + i: its i-th piece, 200 + i: its i-th lot (both rising).")
    static void boxRises() {
        SugarKitchen x = laidOut(same(5, 100));
        for (int piece = 0; piece < 5; piece++) {
            x.take(piece);
        }
        for (int piece = 0; piece < 5; piece++) {
            x.place(piece, 5 - piece, 0);
        }
        packed(x, 15, 500, 0, 0, 1, 2, 3, 4);
    }

    @Says("3 all WARNINGS of the lots in it together, 4 how many lots")
    static void boxOfAllLots() {
        SugarKitchen x = new SugarKitchen();
        int centre = x.batch(CENTRE);
        int coat = x.batch(COAT);
        for (int lot = 0; lot < 40; lot++) {
            x.lot(100, 1 << lot % 8);
            x.put(lot < 20 ? coat : centre, lot, 100);
        }
        x.put(x.batch(SYRUP), 0, 1);
        x.cook(centre, 1);
        x.cook(coat, 1);
        x.vouch(centre);
        x.vouch(coat);
        x.cut(centre, 10, 1);
        x.dip(0, coat, 5);
        x.allow(0);
        x.place(0, 0, 0);
        due("pack", x.pack(15, 15, 0), 0);
        due("how many lots", x.boxOf(0, 4), 40);
        due("WARNINGS", x.boxOf(0, 3), 255);
        for (int lot = 0; lot < 40; lot++) {
            due("lot " + lot, x.boxOf(0, 200 + lot), lot);
            due("box with lot " + lot, x.recall(lot, 2, 0), 0);
            due("piece with lot " + lot, x.recall(lot, 1, 0), 0);
        }
        due("lot 40", x.boxOf(0, 240), NONE);
    }

    @Says("3 all WARNINGS of the lots in it together, 4 how many lots")
    static void boxOfLotsInTwoPieces() {
        SugarKitchen x = new SugarKitchen();
        int[] warnings = {0, 3, 6, 200};
        for (int lot = 0; lot < 4; lot++) {
            x.lot(1000, warnings[lot]);
        }
        int[][] in = {{1, 2}, {2}, {3}};
        for (int batch = 0; batch < 3; batch++) {
            x.batch(batch == 2 ? COAT : CENTRE);
            for (int lot : in[batch]) {
                x.put(batch, lot, 100);
            }
            x.cook(batch, 1);
            x.vouch(batch);
        }
        x.cut(0, 50, 1);
        x.cut(1, 60, 1);
        x.place(0, 0, 0);
        x.place(1, 0, 1);
        x.pack(15, 110, 0);
        int[] due = {2, 110, 110, 7, 2};
        for (int what = 0; what < due.length; what++) {
            due("boxOf(0, " + what + ")", x.boxOf(0, what), due[what]);
        }
        due("its first lot", x.boxOf(0, 200), 1);
        due("its second lot", x.boxOf(0, 201), 2);
        due("a lot that is in both counts once", x.boxOf(0, 202), NONE);
    }

    @Says("1 its weight, 2 the WEIGHT it was packed by")
    static void boxWeights() {
        SugarKitchen x = laidOut(100, 501);
        x.pack(15, 99, 1);
        x.pack(15, 1, 500);
        due("its weight", x.boxOf(0, 1), 100);
        due("the WEIGHT", x.boxOf(0, 2), 99);
        due("its weight", x.boxOf(1, 1), 501);
        due("the WEIGHT", x.boxOf(1, 2), 1);
        due("pieces", x.boxOf(1, 0), 1);
    }

    /** A sum that is reached by many ways at once: the first pieces, and the same by packing. */
    @Says("of these those that lie first")
    static void firstOfManyWays() {
        int[] weights = new int[40];
        for (int i = 0; i < 40; i++) {
            weights[i] = 10 + i % 7;
        }
        SugarKitchen x = laidOut(weights);
        int total = Arrays.stream(weights, 0, 10).sum();
        due("pack the sum of the first ten", x.pack(15, total, 0), 0);
        int[] first = firstWay(weights, total);
        due("how many", x.boxOf(0, 0), first.length);
        for (int i = 0; i < first.length; i++) {
            due("piece " + i, x.boxOf(0, 100 + i), first[i]);
        }
    }

    /** Takes each piece in turn if the sum can still be made from those behind it. */
    private static int[] firstWay(int[] weights, int sum) {
        boolean[][] can = new boolean[weights.length + 1][sum + 1];
        can[weights.length][0] = true;
        for (int i = weights.length - 1; i >= 0; i--) {
            for (int s = 0; s <= sum; s++) {
                can[i][s] = can[i + 1][s] || s >= weights[i] && can[i + 1][s - weights[i]];
            }
        }
        int rest = sum;
        int[] way = new int[0];
        for (int i = 0; i < weights.length; i++) {
            if (rest >= weights[i] && can[i + 1][rest - weights[i]]) {
                rest -= weights[i];
                way = Arrays.copyOf(way, way.length + 1);
                way[way.length - 1] = i;
            }
        }
        return way;
    }
}
