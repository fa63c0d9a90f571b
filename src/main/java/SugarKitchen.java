import java.util.Arrays;

/**
 * A confectioner's kitchen: lots go into batches, batches are cooked by what a thermometer told,
 * coats are brought into temper, pieces are cut, dipped, laid on trays and packed into boxes, and
 * batches are put in order for one kettle. Any lot can be followed to what has some of it.
 */
public final class SugarKitchen {
    public static final int NONE = -1;

    private static final int MOST_LOTS = 40;
    private static final int MOST_BATCHES = 40;
    private static final int MOST_PIECES = 600;
    private static final int MOST_BOXES = 200;
    private static final int MOST_TICKS = 60;
    private static final int MOST_AMOUNT = 1000000;
    private static final int MOST_WARNINGS = 255;
    private static final int MOST_LOSS = 900;

    private static final int KINDS = 6;
    private static final int FUDGE = 1;
    private static final int CLEAR = 2;
    private static final int CENTRE = 3;
    private static final int NUT = 4;
    private static final int COAT = 5;

    private static final int IN_TEMPER = 3;
    private static final int NO_TOP = NONE - 1000000;

    private static final int TRAYS = 6;
    private static final int TRAY_PLACES = 24;
    private static final int SPOTS = TRAYS * TRAY_PLACES;

    private final Lot[] lots;
    private int lotCount;
    private final Batch[] batches;
    private int batchCount;
    private final Piece[] pieces;
    private int pieceCount;
    private final Box[] boxes;
    private int boxCount;
    private final int[] pieceAtSpot;
    private final LossTable losses;
    private final int[] lowBounds;
    private final int[] highBounds;
    private int grainLow;
    private int grainHigh;
    private final Tempering tempering;
    private final Kettle kettle;
    private final Packer packer;

    public SugarKitchen() {
        lots = new Lot[MOST_LOTS];
        batches = new Batch[MOST_BATCHES];
        pieces = new Piece[MOST_PIECES];
        boxes = new Box[MOST_BOXES];
        pieceAtSpot = new int[SPOTS];
        Arrays.fill(pieceAtSpot, NONE);
        losses = new LossTable();
        lowBounds = new int[KINDS];
        highBounds = new int[KINDS];
        Arrays.fill(highBounds, MOST_LOSS);
        grainLow = 0;
        grainHigh = -1;
        tempering = new Tempering();
        kettle = new Kettle();
        packer = new Packer();
    }

    // ---- lots, batches, cooking

    public int lot(int amount, int warnings) {
        if (!within(amount, 0, MOST_AMOUNT) || !within(warnings, 0, MOST_WARNINGS)) {
            return NONE;
        }
        if (lotCount >= MOST_LOTS) {
            return NONE;
        }
        lots[lotCount] = new Lot(amount, warnings);
        lotCount++;
        return lotCount - 1;
    }

    public int batch(int kind) {
        if (!isKind(kind) || batchCount >= MOST_BATCHES) {
            return NONE;
        }
        batches[batchCount] = new Batch(kind);
        batchCount++;
        return batchCount - 1;
    }

    public int put(int batch, int lot, int amount) {
        Batch into = findUncooked(batch);
        Lot from = findLot(lot);
        if (into == null || from == null || !within(amount, 1, from.rest)) {
            return NONE;
        }
        from.rest -= amount;
        into.received += amount;
        into.lots |= 1L << lot;
        return into.mass();
    }

    public boolean row(int batch, int which, int length) {
        Batch found = findUncooked(batch);
        if (found == null || !within(which, 0, 1) || !within(length, NONE, MOST_TICKS)) {
            return false;
        }
        if (which == 0) {
            found.log.newThermometerRow(length);
        } else {
            found.log.newStirringRow(length);
        }
        return true;
    }

    public boolean tick(int batch, int place, int bits) {
        Batch found = findUncooked(batch);
        if (found == null || !within(place, 0, found.log.thermometerLength - 1)) {
            return false;
        }
        found.log.readings[place] = bits;
        return true;
    }

    public boolean stir(int batch, int place, boolean yes) {
        Batch found = findUncooked(batch);
        if (found == null || !within(place, 0, found.log.stirringLength - 1)) {
            return false;
        }
        found.log.stirrings[place] = yes;
        return true;
    }

    public int table(int degree, int loss) {
        if (!within(loss, 0, MOST_LOSS) || !losses.takes(degree)) {
            return NONE;
        }
        losses.append(degree, loss);
        return losses.size;
    }

    public boolean grain(int low, int high) {
        grainLow = low;
        grainHigh = high;
        return true;
    }

    public boolean bounds(int kind, int low, int high) {
        if (!isKind(kind)) {
            return false;
        }
        lowBounds[kind] = low;
        highBounds[kind] = high;
        return true;
    }

    public int cook(int batch, int ticks) {
        Batch found = findUncooked(batch);
        if (found == null || !within(ticks, 1, MOST_TICKS) || found.mass() == 0) {
            return NONE;
        }
        found.cookOver(ticks, losses, grainLow, grainHigh);
        return found.mass();
    }

    public boolean vouch(int batch) {
        Batch found = findBatch(batch);
        if (found == null || !found.cooked) {
            return false;
        }
        found.vouched = true;
        return true;
    }

    public int why(int batch) {
        Batch found = findBatch(batch);
        return found == null ? NONE : faultOf(found);
    }

    public int batchOf(int batch, int what) {
        Batch found = findBatch(batch);
        return found == null ? NONE : found.tell(what);
    }

    // ---- temper

    public boolean temper(int d1, int d2, int d3, int d4, int d5, int n) {
        if (!tempering.become(d1, d2, d3, d4, d5, n)) {
            return false;
        }
        for (int number = 0; number < batchCount; number++) {
            batches[number].beginPhase(0);
        }
        return true;
    }

    public int heat(int batch, int degree) {
        Batch found = findBatch(batch);
        if (found == null || found.kind != COAT || !found.cooked) {
            return NONE;
        }
        tempering.warm(found, degree);
        return found.phase;
    }

    // ---- pieces and trays

    public int cut(int batch, int weight, int many) {
        Batch found = findBatch(batch);
        if (found == null || !isCutKind(found.kind) || faultOf(found) != 0) {
            return NONE;
        }
        if (!within(weight, 10, 2000) || !within(many, 1, 99)) {
            return NONE;
        }
        int done = Math.min(many, Math.min(found.mass() / weight, MOST_PIECES - pieceCount));
        for (int i = 0; i < done; i++) {
            pieces[pieceCount] = new Piece(batch, weight);
            pieceCount++;
        }
        found.cutAway += done * weight;
        return done;
    }

    public int dip(int piece, int coat, int weight) {
        Piece found = findUnboxed(piece);
        Batch bath = findBatch(coat);
        if (found == null || found.coat != NONE || bath == null || bath.kind != COAT) {
            return NONE;
        }
        if (faultOf(bath) != 0 || !within(weight, 1, 1000) || weight > bath.mass()) {
            return NONE;
        }
        bath.dippedAway += weight;
        found.weight += weight;
        found.coat = coat;
        found.tempered = bath.phase == IN_TEMPER;
        return oneIf(found.tempered);
    }

    public boolean place(int piece, int tray, int place) {
        Piece found = findUnboxed(piece);
        if (found == null || !isSpot(tray, place)) {
            return false;
        }
        int spot = tray * TRAY_PLACES + place;
        if (pieceAtSpot[spot] != NONE) {
            return false;
        }
        lift(found);
        found.spot = spot;
        pieceAtSpot[spot] = piece;
        return true;
    }

    public boolean take(int piece) {
        Piece found = findPiece(piece);
        if (found == null || found.spot == NONE) {
            return false;
        }
        lift(found);
        return true;
    }

    public boolean allow(int piece) {
        Piece found = findPiece(piece);
        if (found == null || found.coat == NONE || found.tempered) {
            return false;
        }
        found.allowed = true;
        return true;
    }

    public int pieceOf(int piece, int what) {
        Piece found = findPiece(piece);
        if (found == null) {
            return NONE;
        }
        return what == 7 ? sortOf(found) : found.tell(what);
    }

    public int at(int tray, int place) {
        return isSpot(tray, place) ? pieceAtSpot[tray * TRAY_PLACES + place] : NONE;
    }

    // ---- boxes

    public int pack(int sorts, int weight, int over) {
        if (!mayPackBy(sorts, weight, over) || boxCount >= MOST_BOXES) {
            return NONE;
        }
        layOut(sorts);
        if (packer.choose(weight, over) == NONE) {
            return NONE;
        }
        Box box = new Box(weight);
        boxes[boxCount] = box;
        for (int i = 0; i < packer.choiceSize(); i++) {
            if (packer.chosen[i]) {
                moveIntoBox(packer.numbers[i], box);
            }
        }
        boxCount++;
        return boxCount - 1;
    }

    public int would(int sorts, int weight, int over, int what) {
        if (!mayPackBy(sorts, weight, over) || !within(what, 0, 4)) {
            return NONE;
        }
        layOut(sorts);
        switch (what) {
            case 0:
                int sum = packer.choose(weight, over);
                return sum == NONE ? NONE : sum - weight;
            case 1:
                return packer.choose(weight, over) == NONE ? NONE : packer.chosenCount();
            case 2:
                return packer.boxesInTurn(weight, over);
            case 3:
                return packer.boxesParted(weight, over);
            default:
                return packer.choiceSize();
        }
    }

    public int boxOf(int box, int what) {
        if (!within(box, 0, boxCount - 1)) {
            return NONE;
        }
        Box found = boxes[box];
        if (what >= 200) {
            return lotInBox(found, what - 200);
        }
        if (what >= 100) {
            return pieceInBox(box, what - 100);
        }
        switch (what) {
            case 0: return found.size;
            case 1: return found.weight;
            case 2: return found.packedBy;
            case 3: return warningsOf(found);
            case 4: return Long.bitCount(found.lots);
            default: return NONE;
        }
    }

    // ---- the queue

    public boolean wash(int from, int to, int minutes) {
        if (!isKind(from) || !isKind(to) || !within(minutes, 0, 600)) {
            return false;
        }
        kettle.setWashing(from, to, minutes);
        return true;
    }

    public int queue(int batch) {
        if (batch == NONE) {
            kettle.clear();
            return 0;
        }
        Batch found = findBatch(batch);
        if (found == null || !kettle.takes(batch)) {
            return NONE;
        }
        kettle.append(batch, found.kind);
        return kettle.size;
    }

    public int order(boolean nutsLast, int i) {
        return i == NONE ? kettle.leastMinutes(nutsLast) : kettle.batchInOrder(nutsLast, i);
    }

    // ---- what has some of a lot, and counts

    public int recall(int lot, int what, int i) {
        if (findLot(lot) == null || !within(what, 0, 2) || i < 0) {
            return NONE;
        }
        int many = what == 0 ? batchCount : what == 1 ? pieceCount : boxCount;
        int ahead = 0;
        for (int number = 0; number < many; number++) {
            if (hasLot(lotsIn(what, number), lot)) {
                if (ahead == i) {
                    return number;
                }
                ahead++;
            }
        }
        return NONE;
    }

    public int about(int what) {
        switch (what) {
            case 0: return lotCount;
            case 1: return batchCount;
            case 2: return pieceCount;
            case 3: return boxCount;
            case 4: return losses.size;
            case 5: return kettle.size;
            case 6: return fitCount();
            default: return NONE;
        }
    }

    public int left(int lot) {
        Lot found = findLot(lot);
        return found == null ? NONE : found.rest;
    }

    // ---- looking things up

    private static boolean within(int number, int low, int high) {
        return low <= number && number <= high;
    }

    private static int oneIf(boolean yes) {
        return yes ? 1 : 0;
    }

    private static boolean hasLot(long lots, int lot) {
        return (lots & (1L << lot)) != 0L;
    }

    private static boolean isKind(int kind) {
        return within(kind, 0, KINDS - 1);
    }

    private static boolean isCutKind(int kind) {
        return kind == CENTRE || kind == NUT;
    }

    private static boolean mustGrain(int kind) {
        return kind == FUDGE || isCutKind(kind);
    }

    private static boolean isSpot(int tray, int place) {
        return within(tray, 0, TRAYS - 1) && within(place, 0, TRAY_PLACES - 1);
    }

    private static boolean mayPackBy(int sorts, int weight, int over) {
        return within(sorts, 1, 15) && within(weight, 1, Packer.MOST_WEIGHT)
                && within(over, 0, Packer.MOST_OVER);
    }

    private Lot findLot(int number) {
        return within(number, 0, lotCount - 1) ? lots[number] : null;
    }

    private Batch findBatch(int number) {
        return within(number, 0, batchCount - 1) ? batches[number] : null;
    }

    private Batch findUncooked(int number) {
        Batch found = findBatch(number);
        return found == null || found.cooked ? null : found;
    }

    private Piece findPiece(int number) {
        return within(number, 0, pieceCount - 1) ? pieces[number] : null;
    }

    private Piece findUnboxed(int number) {
        Piece found = findPiece(number);
        return found == null || found.box != NONE ? null : found;
    }

    // ---- helpers of the calls

    /** Why a batch isn't GOOD, by the BOUNDS of this moment; 0 if it is. */
    private int faultOf(Batch batch) {
        if (!batch.cooked) {
            return 1;
        }
        if (batch.vouched) {
            return 0;
        }
        if (batch.missingTick != NONE) {
            return 2;
        }
        if (batch.loss < lowBounds[batch.kind]) {
            return 3;
        }
        if (batch.loss > highBounds[batch.kind]) {
            return 4;
        }
        if (mustGrain(batch.kind) && !batch.isGrained()) {
            return 5;
        }
        return batch.kind == CLEAR && batch.isGrained() ? 6 : 0;
    }

    private int sortOf(Piece piece) {
        Batch from = findBatch(piece.batch);
        boolean nut = from != null && from.kind == NUT;
        return oneIf(nut) + (piece.coat == NONE ? 0 : 2);
    }

    private void lift(Piece piece) {
        if (piece.spot != NONE) {
            pieceAtSpot[piece.spot] = NONE;
            piece.spot = NONE;
        }
    }

    private int fitCount() {
        int count = 0;
        for (int spot = 0; spot < SPOTS; spot++) {
            Piece piece = findPiece(pieceAtSpot[spot]);
            if (piece != null && piece.isFit()) {
                count++;
            }
        }
        return count;
    }

    /** Tells the packer all FIT pieces of some SORTS, by TRAY, then place. */
    private void layOut(int sorts) {
        packer.clear();
        for (int spot = 0; spot < SPOTS; spot++) {
            Piece piece = findPiece(pieceAtSpot[spot]);
            if (piece != null && piece.isFit() && (sorts & (1 << sortOf(piece))) != 0) {
                packer.append(pieceAtSpot[spot], piece.weight);
            }
        }
    }

    private void moveIntoBox(int number, Box box) {
        Piece piece = findPiece(number);
        if (piece == null) {
            return;
        }
        lift(piece);
        piece.box = boxCount;
        box.size++;
        box.weight += piece.weight;
        box.lots |= lotsInPiece(piece);
    }

    private long lotsInPiece(Piece piece) {
        return lotsInBatch(piece.batch) | lotsInBatch(piece.coat);
    }

    private long lotsInBatch(int number) {
        Batch found = findBatch(number);
        return found == null ? 0L : found.lots;
    }

    /** The lots in a batch (what 0), a piece (1) or a box (2) that is there. */
    private long lotsIn(int what, int number) {
        switch (what) {
            case 0: return batches[number].lots;
            case 1: return lotsInPiece(pieces[number]);
            default: return boxes[number].lots;
        }
    }

    private int warningsOf(Box box) {
        int warnings = 0;
        for (int lot = 0; lot < lotCount; lot++) {
            if (hasLot(box.lots, lot)) {
                warnings |= lots[lot].warnings;
            }
        }
        return warnings;
    }

    private int lotInBox(Box box, int i) {
        int ahead = 0;
        for (int lot = 0; lot < lotCount; lot++) {
            if (hasLot(box.lots, lot)) {
                if (ahead == i) {
                    return lot;
                }
                ahead++;
            }
        }
        return NONE;
    }

    private int pieceInBox(int box, int i) {
        int ahead = 0;
        for (int number = 0; number < pieceCount; number++) {
            if (pieces[number].box == box) {
                if (ahead == i) {
                    return number;
                }
                ahead++;
            }
        }
        return NONE;
    }

    // ---- the things in the kitchen

    private static final class Lot {
        int rest;
        final int warnings;

        Lot(int amount, int warnings) {
            this.rest = amount;
            this.warnings = warnings;
        }
    }

    /** A batch's two rows. A length of NONE: the row is MISSING. */
    private static final class Log {
        private static final int FRACTION = 0x7fffff;
        private static final int HIDDEN_ONE = 0x800000;
        private static final int NO_NUMBER_EXPONENT = 255;
        private static final int WHOLE_EXPONENT = 150;
        private static final int SMALL_EXPONENT = 123;
        private static final int LARGE_EXPONENT = 158;

        // Bits, not floats: so a reading that is no number is never touched by arithmetic.
        final int[] readings = new int[MOST_TICKS];
        final boolean[] stirrings = new boolean[MOST_TICKS];
        int thermometerLength = NONE;
        int stirringLength = NONE;

        void newThermometerRow(int length) {
            Arrays.fill(readings, 0);
            thermometerLength = length;
        }

        void newStirringRow(int length) {
            for (int place = 0; place < MOST_TICKS; place++) {
                stirrings[place] = false;
            }
            stirringLength = length;
        }

        static boolean isNumber(int bits) {
            return exponentOf(bits) != NO_NUMBER_EXPONENT || (bits & FRACTION) == 0;
        }

        static int exponentOf(int bits) {
            return (bits >>> 23) & 255;
        }

        /** Ten times the float with these bits (of a number), cut to a whole. */
        static int degreeOf(int bits) {
            int exponent = exponentOf(bits);
            if (exponent < SMALL_EXPONENT) {
                return 0; // below a sixteenth: ten times that is below one
            }
            // From two to the 31st on the cast ends at the same int, so larger ones need no scale.
            int shift = Math.min(exponent, LARGE_EXPONENT) - WHOLE_EXPONENT;
            float whole = (float) ((bits & FRACTION) | HIDDEN_ONE);
            float size = shift < 0 ? whole / (float) (1 << -shift) : whole * (float) (1 << shift);
            return (int) (bits < 0 ? -10f * size : 10f * size);
        }

        /** The first of so many ticks at which the greatest DEGREE was read, or NONE. */
        int firstAtTop(int ticks) {
            int first = NONE;
            int top = 0;
            for (int tick = 0; tick < ticks; tick++) {
                if (isNumber(readings[tick])) {
                    int degree = degreeOf(readings[tick]);
                    if (first == NONE || degree > top) {
                        first = tick;
                        top = degree;
                    }
                }
            }
            return first;
        }

        /** The first tick of some at which it was stirred within two degrees, or NONE. */
        int firstGrained(int from, int ticks, int low, int high) {
            for (int tick = from; tick < ticks; tick++) {
                if (tick < stirringLength && stirrings[tick] && isNumber(readings[tick])
                        && within(degreeOf(readings[tick]), low, high)) {
                    return tick;
                }
            }
            return NONE;
        }
    }

    private static final class Batch {
        final int kind;
        final Log log;
        long lots;
        int received;
        int cutAway;
        int dippedAway;
        boolean cooked;
        boolean vouched;
        int top;
        int loss;
        int lost;
        int missingTick;
        int grainTick;
        int phase;
        int count;

        Batch(int kind) {
            this.kind = kind;
            log = new Log();
            top = NO_TOP;
            missingTick = NONE;
            grainTick = NONE;
        }

        int mass() {
            return received - lost - cutAway - dippedAway;
        }

        boolean isGrained() {
            return grainTick != NONE;
        }

        void beginPhase(int next) {
            phase = next;
            count = 0;
        }

        void cookOver(int ticks, LossTable losses, int grainLow, int grainHigh) {
            int there = Math.min(ticks, Math.max(log.thermometerLength, 0));
            if (there < ticks) {
                missingTick = there;
            }
            int first = log.firstAtTop(there);
            if (first != NONE) {
                top = Log.degreeOf(log.readings[first]);
                loss = losses.lossAt(top);
                lost = (int) ((long) received * loss / 1000L);
                grainTick = log.firstGrained(first + 1, there, grainLow, grainHigh);
            }
            cooked = true;
        }

        int tell(int what) {
            switch (what) {
                case 0: return kind;
                case 1: return mass();
                case 2: return received;
                case 3: return lost;
                case 4: return loss;
                case 5: return top;
                case 6: return oneIf(isGrained());
                case 7: return missingTick != NONE ? missingTick : grainTick;
                case 8: return oneIf(vouched);
                case 9: return phase;
                case 10: return count;
                case 11: return cutAway;
                case 12: return dippedAway;
                default: return NONE;
            }
        }
    }

    /** LOSSES by degrees that rise. */
    private static final class LossTable {
        private static final int MOST_ROWS = 16;

        final int[] degrees = new int[MOST_ROWS];
        final int[] lossesFrom = new int[MOST_ROWS];
        int size;

        boolean takes(int degree) {
            return size < MOST_ROWS && (size == 0 || degree > degrees[size - 1]);
        }

        void append(int degree, int loss) {
            if (size < MOST_ROWS) {
                degrees[size] = degree;
                lossesFrom[size] = loss;
                size++;
            }
        }

        int lossAt(int top) {
            int loss = 0;
            for (int i = 0; i < size && degrees[i] <= top; i++) {
                loss = lossesFrom[i];
            }
            return loss;
        }
    }

    /** The degrees and ticks by which a COAT comes into TEMPER and stays there. */
    private static final class Tempering {
        int melted = 450;
        int cooled = 270;
        int warmed = 310;
        int spoiled = 320;
        int stiff = 290;
        int ticks = 2;

        boolean become(int d1, int d2, int d3, int d4, int d5, int n) {
            if (d2 >= d3 || d3 > d4 || d4 >= d1 || d5 > d3 || !within(n, 1, 20)) {
                return false;
            }
            melted = d1;
            cooled = d2;
            warmed = d3;
            spoiled = d4;
            stiff = d5;
            ticks = n;
            return true;
        }

        void warm(Batch coat, int degree) {
            if (isSpoiledBy(coat.phase, degree)) {
                coat.beginPhase(0);
            }
            if (coat.phase == IN_TEMPER) {
                return;
            }
            coat.count = isWanted(coat.phase, degree) ? coat.count + 1 : 0;
            if (coat.count >= ticks) {
                coat.beginPhase(coat.phase + 1);
            }
        }

        private boolean isSpoiledBy(int phase, int degree) {
            return phase >= 2 && degree > spoiled || phase == IN_TEMPER && degree < stiff;
        }

        private boolean isWanted(int phase, int degree) {
            switch (phase) {
                case 0: return degree >= melted;
                case 1: return degree <= cooled;
                default: return degree >= warmed;
            }
        }
    }

    private static final class Piece {
        final int batch;
        int weight;
        int coat;
        boolean tempered;
        boolean allowed;
        int spot;
        int box;

        Piece(int batch, int weight) {
            this.batch = batch;
            this.weight = weight;
            coat = NONE;
            spot = NONE;
            box = NONE;
        }

        boolean isFit() {
            return spot != NONE && (coat == NONE || tempered || allowed);
        }

        int tell(int what) {
            switch (what) {
                case 0: return batch;
                case 1: return weight;
                case 2: return coat;
                case 3: return coat == NONE ? NONE : oneIf(tempered);
                case 4: return oneIf(allowed);
                case 5: return spot != NONE ? 1 : box != NONE ? 2 : 0;
                case 6: return spot != NONE ? spot : box;
                case 8: return oneIf(isFit());
                default: return NONE;
            }
        }
    }

    /** A box; which pieces are in it, the pieces themselves know. */
    private static final class Box {
        final int packedBy;
        int size;
        int weight;
        long lots;

        Box(int packedBy) {
            this.packedBy = packedBy;
        }
    }

    /** Chooses among pieces that were laid out, in their order, those that go into one box. */
    private static final class Packer {
        static final int MOST_WEIGHT = 8000;
        static final int MOST_OVER = 500;
        private static final int MOST_CHOICE = 40;
        private static final int MOST_PARTED = 14;

        final int[] numbers = new int[SPOTS];
        final boolean[] chosen = new boolean[MOST_CHOICE];
        private final int[] weights = new int[SPOTS];
        private int size;
        private final Parting parting = new Parting();
        // Row i, of so many words: bit s says whether some of the CHOICE from i on weigh s together.
        private long[] reach = new long[0];
        private int words;

        void clear() {
            size = 0;
        }

        void append(int number, int weight) {
            if (size < SPOTS) {
                numbers[size] = number;
                weights[size] = weight;
                size++;
            }
        }

        int choiceSize() {
            return Math.min(size, MOST_CHOICE);
        }

        int chosenCount() {
            int count = 0;
            for (int i = 0; i < choiceSize(); i++) {
                count += oneIf(chosen[i]);
            }
            return count;
        }

        /** Marks what goes into a box as chosen: what it weighs, or NONE if there is no way. */
        int choose(int weight, int over) {
            makeRoom(weight + over);
            fillReach();
            for (int sum = weight; sum <= weight + over; sum++) {
                if (reaches(0, sum)) {
                    mark(sum);
                    return sum;
                }
            }
            return NONE;
        }

        private void makeRoom(int greatest) {
            words = greatest / 64 + 1;
            int need = (choiceSize() + 1) * words;
            if (reach.length < need) {
                reach = new long[Math.max(need, 2 * reach.length)];
            }
        }

        private void fillReach() {
            int last = choiceSize();
            reach[last * words] = 1L;
            for (int word = 1; word < words; word++) {
                reach[last * words + word] = 0L;
            }
            for (int i = last - 1; i >= 0; i--) {
                fillRow(i);
            }
        }

        /** With or without piece i: the row behind it, and the same shifted by its weight. */
        private void fillRow(int i) {
            int row = i * words;
            int behind = row + words;
            int wordShift = weights[i] / 64;
            int bitShift = weights[i] % 64;
            for (int word = 0; word < words; word++) {
                long bits = reach[behind + word];
                int source = word - wordShift;
                if (source >= 0) {
                    bits |= reach[behind + source] << bitShift;
                }
                if (source >= 1 && bitShift > 0) {
                    bits |= reach[behind + source - 1] >>> (64 - bitShift);
                }
                reach[row + word] = bits;
            }
        }

        private boolean reaches(int i, int sum) {
            return sum >= 0 && (reach[i * words + sum / 64] >>> (sum % 64) & 1L) != 0L;
        }

        /** Of all ways to a sum the one that takes each earlier piece if it can. */
        private void mark(int sum) {
            int rest = sum;
            for (int i = 0; i < choiceSize(); i++) {
                chosen[i] = reaches(i + 1, rest - weights[i]);
                if (chosen[i]) {
                    rest -= weights[i];
                }
            }
        }

        private void dropChosen() {
            int choice = choiceSize();
            int kept = 0;
            for (int i = 0; i < size; i++) {
                if (i >= choice || !chosen[i]) {
                    numbers[kept] = numbers[i];
                    weights[kept] = weights[i];
                    kept++;
                }
            }
            size = kept;
        }

        /** FULL: how many boxes one behind the other; each takes a piece at least. */
        int boxesInTurn(int weight, int over) {
            int boxes = 0;
            while (boxes < SPOTS && choose(weight, over) != NONE) {
                dropChosen();
                boxes++;
            }
            return boxes;
        }

        /** MOST, of the first few of CHOICE. */
        int boxesParted(int weight, int over) {
            return parting.mostBoxes(weights, Math.min(size, MOST_PARTED), weight, weight + over);
        }
    }

    /** Parts a few pieces into as many boxes as can be; a set of pieces is the int of its bits. */
    private static final class Parting {
        private int least;
        private int greatest;
        private int[] sums = new int[1];
        // For a set: the fewest boxes that were sought in vain, 0 if none were.
        private int[] vain = new int[1];

        int mostBoxes(int[] weights, int many, int least, int greatest) {
            this.least = least;
            this.greatest = greatest;
            begin(weights, many);
            for (int boxes = many; boxes > 0; boxes--) {
                if (canFill((1 << many) - 1, boxes, many)) {
                    return boxes;
                }
            }
            return 0;
        }

        private void begin(int[] weights, int many) {
            int sets = 1 << many;
            if (sums.length < sets) {
                sums = new int[sets];
                vain = new int[sets];
            }
            for (int i = 0; i < many; i++) {
                int piece = 1 << i;
                for (int others = 0; others < piece; others++) {
                    sums[piece | others] = sums[others] + weights[i];
                    vain[piece | others] = 0;
                }
            }
        }

        /** Whether so many boxes can be filled from a set within the first few pieces. */
        private boolean canFill(int set, int boxes, int few) {
            if (boxes == 0) {
                return true;
            }
            boolean wasVain = vain[set] != 0 && vain[set] <= boxes;
            if (few <= 0 || wasVain || sums[set] < boxes * least) {
                return false;
            }
            int last = 1 << (few - 1);
            int others = set & ~last;
            boolean can = set != others && canFillWith(last, others, boxes, few - 1)
                    || canFill(others, boxes, few - 1);
            if (!can) {
                vain[set] = boxes;
            }
            return can;
        }

        /** Whether the piece can fill one of the boxes with some others, and the rest the others. */
        private boolean canFillWith(int piece, int others, int boxes, int few) {
            int rest = others;
            for (int looks = 0; looks <= others; looks++) {
                int box = sums[piece | others] - sums[rest];
                int next = rest;
                if (box >= least) {
                    if (box <= greatest && canFill(rest, boxes - 1, few)) {
                        return true;
                    }
                    next = withoutLower(rest, others ^ rest);
                }
                if (next == 0) {
                    return false;
                }
                rest = (next - 1) & others;
            }
            return false;
        }

        /**
         * The rest without all pieces below the lowest one boxed: a box that is heavy enough gets
         * no better by more pieces, so the sets between need no look.
         */
        private static int withoutLower(int rest, int boxed) {
            int lowest = boxed & -boxed;
            return rest & -lowest;
        }
    }

    /** The QUEUE for the one kettle, and the washing between its batches. */
    private static final class Kettle {
        private static final int MOST_WAITING = 10;
        // The kettle before the first batch: a kind of its own, from which no washing is due.
        private static final int UNUSED = KINDS;
        private static final int WIDTH = KINDS + 1;
        private static final int NEVER = 1000000;

        int size;
        private final int[] waiting = new int[MOST_WAITING];
        private final int[] kinds = new int[MOST_WAITING];
        private int nuts;
        private final int[] washing = new int[WIDTH * KINDS];
        // Both orders are kept until washing or waiting change: 0 is for any order, 1 for nuts last.
        private final boolean[] solved = new boolean[2];
        private final int[] minutes = new int[2];
        private final int[] ordered = new int[2 * MOST_WAITING];
        // At rest * WIDTH + kind: the least washing for a set of batches, bit by bit, behind a kind.
        private int[] least = new int[0];

        void setWashing(int from, int to, int minutes) {
            washing[from * KINDS + to] = minutes;
            forgetOrders();
        }

        private void forgetOrders() {
            solved[0] = false;
            solved[1] = false;
        }

        void clear() {
            size = 0;
            nuts = 0;
            forgetOrders();
        }

        boolean takes(int batch) {
            for (int i = 0; i < size; i++) {
                if (waiting[i] == batch) {
                    return false;
                }
            }
            return size < MOST_WAITING;
        }

        void append(int batch, int kind) {
            if (size < MOST_WAITING) {
                waiting[size] = batch;
                kinds[size] = kind;
                nuts |= oneIf(kind == NUT) << size;
                size++;
                forgetOrders();
            }
        }

        int leastMinutes(boolean nutsLast) {
            solve(nutsLast);
            return minutes[oneIf(nutsLast)];
        }

        int batchInOrder(boolean nutsLast, int place) {
            if (!within(place, 0, size - 1)) {
                return NONE;
            }
            solve(nutsLast);
            return ordered[oneIf(nutsLast) * MOST_WAITING + place];
        }

        private void solve(boolean nutsLast) {
            int which = oneIf(nutsLast);
            if (solved[which]) {
                return;
            }
            int sets = 1 << size;
            if (least.length < sets * WIDTH) {
                least = new int[sets * WIDTH];
            }
            for (int rest = 1; rest < sets; rest++) {
                fillLeast(rest, mayBeNext(rest, nutsLast));
            }
            minutes[which] = least[(sets - 1) * WIDTH + UNUSED];
            follow(sets - 1, nutsLast);
            solved[which] = true;
        }

        private int mayBeNext(int rest, boolean nutsLast) {
            int others = rest & ~nuts;
            return nutsLast && others != 0 ? others : rest;
        }

        private void fillLeast(int rest, int next) {
            for (int before = 0; before < WIDTH; before++) {
                int sum = NEVER;
                for (int i = 0; i < size; i++) {
                    if ((next >> i & 1) != 0) {
                        sum = Math.min(sum, sumThrough(rest, before, i));
                    }
                }
                least[rest * WIDTH + before] = sum;
            }
        }

        /** The least washing behind a kind if the i-th waiting batch, of the rest, comes next. */
        private int sumThrough(int rest, int before, int i) {
            return washing[before * KINDS + kinds[i]] + least[(rest ^ 1 << i) * WIDTH + kinds[i]];
        }

        /** At each place the batch that waits first among those that keep the sum the least. */
        private void follow(int all, boolean nutsLast) {
            int rest = all;
            int before = UNUSED;
            for (int place = 0; place < size; place++) {
                int i = firstBest(rest, before, mayBeNext(rest, nutsLast));
                ordered[oneIf(nutsLast) * MOST_WAITING + place] = waiting[i];
                rest ^= 1 << i;
                before = kinds[i];
            }
        }

        private int firstBest(int rest, int before, int next) {
            for (int i = 0; i < size; i++) {
                if ((next >> i & 1) != 0
                        && sumThrough(rest, before, i) == least[rest * WIDTH + before]) {
                    return i;
                }
            }
            return 0;
        }
    }
}
