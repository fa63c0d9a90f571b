import java.lang.annotation.Retention;
import java.lang.annotation.RetentionPolicy;
import java.lang.reflect.InvocationTargetException;
import java.lang.reflect.Method;
import java.util.Arrays;
import java.util.Comparator;

/** What the tests share: counting of wrong answers, and kitchens to begin with. */
abstract class Checks {
    static final int NONE = SugarKitchen.NONE;
    static final int NO_TOP = NONE - 1000000;
    static final int MIN = Integer.MIN_VALUE;
    static final int MAX = Integer.MAX_VALUE;

    static final int SYRUP = 0;
    static final int FUDGE = 1;
    static final int CLEAR = 2;
    static final int CENTRE = 3;
    static final int NUT = 4;
    static final int COAT = 5;

    private static String topic = "";
    private static int asked;
    private static int wrong;

    /** The document's words that a test is for. */
    @Retention(RetentionPolicy.RUNTIME)
    @interface Says {
        String[] value();
    }

    static void topic(String next) {
        topic = next;
    }

    static void due(String call, int got, int want) {
        asked++;
        if (got != want) {
            wrong++;
            System.out.println(topic + ": " + call + " answered " + got + ", due is " + want);
        }
    }

    static void yes(String call, boolean got) {
        due(call, got ? 1 : 0, 1);
    }

    static void no(String call, boolean got) {
        due(call, got ? 1 : 0, 0);
    }

    /** Runs each test that says what it is for; one that asks nothing, or throws, is wrong. */
    static void runAll(Class<?> tests) {
        Method[] methods = tests.getDeclaredMethods();
        Arrays.sort(methods, Comparator.comparing(Method::getName));
        for (Method method : methods) {
            if (method.isAnnotationPresent(Says.class)) {
                runOne(method);
            }
        }
        end(tests.getSimpleName());
    }

    private static void runOne(Method method) {
        topic = method.getName() + " (" + String.join(" / ", method.getAnnotation(Says.class).value()) + ")";
        int before = asked;
        try {
            method.setAccessible(true);
            method.invoke(null);
        } catch (InvocationTargetException thrown) {
            wrong++;
            System.out.println(topic + ": threw");
            thrown.getCause().printStackTrace(System.out);
        } catch (IllegalAccessException never) {
            wrong++;
            System.out.println(topic + ": can't be run");
        }
        if (asked == before) {
            wrong++;
            System.out.println(topic + ": asks nothing");
        }
    }

    static void end(String name) {
        System.out.println(name + ": " + asked + " answers looked at, " + wrong + " not as due");
        if (wrong != 0) {
            System.exit(1);
        }
    }

    // ---- kitchens to begin with

    /** A batch of so much from a lot of its own, not cooked. */
    static int rawBatch(SugarKitchen x, int kind, int mass) {
        int lot = x.lot(mass, 0);
        int batch = x.batch(kind);
        x.put(batch, lot, mass);
        return batch;
    }

    /** A batch of so much from a lot of its own, cooked without a loss and vouched for. */
    static int goodBatch(SugarKitchen x, int kind, int mass) {
        int batch = rawBatch(x, kind, mass);
        x.cook(batch, 1);
        x.vouch(batch);
        return batch;
    }

    /** A batch cooked over all of these readings, stirred at some ticks. */
    static int cookedBatch(SugarKitchen x, int kind, float[] row, int... stirred) {
        int batch = rawBatch(x, kind, 1000);
        readings(x, batch, row);
        stirrings(x, batch, row.length, stirred);
        x.cook(batch, row.length);
        return batch;
    }

    static float[] row(float... degrees) {
        return degrees;
    }

    static void readings(SugarKitchen x, int batch, float... row) {
        x.row(batch, 0, row.length);
        for (int i = 0; i < row.length; i++) {
            x.tick(batch, i, Float.floatToRawIntBits(row[i]));
        }
    }

    static void stirrings(SugarKitchen x, int batch, int length, int... places) {
        x.row(batch, 1, length);
        for (int place : places) {
            x.stir(batch, place, true);
        }
    }

    /** The TOP of a batch whose only reading has these bits. */
    static int topOf(int bits) {
        SugarKitchen x = new SugarKitchen();
        int batch = rawBatch(x, SYRUP, 10);
        x.row(batch, 0, 1);
        x.tick(batch, 0, bits);
        x.cook(batch, 1);
        return x.batchOf(batch, 5);
    }

    /** By the TEMPER at first: a COAT of PHASE 0 is in TEMPER behind this. */
    static void heatInto(SugarKitchen x, int coat) {
        for (int degree : new int[] {450, 450, 270, 270, 310, 310}) {
            x.heat(coat, degree);
        }
    }

    /** Pieces of a CENTRE (batch 0) with these weights, on trays 0, 1, .. from place 0 on. */
    static SugarKitchen laidOut(int... weights) {
        SugarKitchen x = new SugarKitchen();
        int centre = goodBatch(x, CENTRE, 1000000);
        for (int i = 0; i < weights.length; i++) {
            x.cut(centre, weights[i], 1);
            x.place(i, i / 24, i % 24);
        }
        return x;
    }

    static int[] same(int many, int weight) {
        int[] weights = new int[many];
        Arrays.fill(weights, weight);
        return weights;
    }
}
