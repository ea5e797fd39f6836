import java.util.IdentityHashMap;
import java.util.Map;
import java.util.function.Consumer;
import java.util.function.Supplier;

/**
 * Halls in which much is going on, and twins of them: a call that is refused is made on one of two halls that were
 * made alike, and whatever can be drawn out of both by later calls has to be the same.
 */
class Twins extends Suite {
    static final int LOWEST = Integer.MIN_VALUE;
    static final int GREATEST = Integer.MAX_VALUE;

    /** By field: the least and the greatest value, and the one at first, as the document tells them. */
    static final int[] LEAST_VALUE = {0, 0, 0, 0, 0, 0, 0, 0, 0, 0, 1};
    static final int[] GREATEST_VALUE = {5, 9, 2, 2, 1, 5, 99, 9, 2, 1, 5};
    static final int[] FIRST_VALUE = {0, 0, 1, 0, 0, 0, 0, 4, 0, 0, 1};

    // ---- what stands in a rich hall, by number

    static final int NODE_READY = 0;
    static final int DEPLOY_STAYING = 1;
    static final int SET_STAYING = 2;
    static final int POD_RUNNING = 3;
    static final int ROUTE_STAYING = 5;
    static final int JOB_STAYING = 6;
    static final int POD_DONE = 7;
    static final int POD_FAILED = 8;
    static final int NODE_SILENT = 9;
    /** The GONE ones of all kinds, the kind added. */
    static final int GONE_ONES = 10;
    static final int SET_FOREGROUND = 16;
    static final int SET_ORPHAN = 17;
    static final int SET_BACKGROUND = 18;
    static final int POD_WAITING = 19;
    static final int JOB_PUT_OFF = 20;
    static final int RICH_OBJECTS = 22;

    static final Supplier<ReconcilerHall> RICH = Twins::rich;
    /** As RICH, with 400 events. */
    static final Supplier<ReconcilerHall> FULL = Twins::full;
    /** As RICH, with 60 objects. */
    static final Supplier<ReconcilerHall> SIXTY = Twins::sixty;
    /** As RICH, at the tick 10000. */
    static final Supplier<ReconcilerHall> LATE = Twins::late;

    private static final Map<Supplier<ReconcilerHall>, String> DRAWN = new IdentityHashMap<>();

    private static ReconcilerHall rich() {
        ReconcilerHall hall = new ReconcilerHall();
        make(hall, NODE, ROOM, 9);
        make(hall, DEPLOY, WANTED, 2, SLACK, 1);
        hall.turn(6);
        hall.make(1, ROUTE);
        make(hall, JOB, AT_ONCE, 2);
        hall.finish(runningPod(hall, 0), true);
        hall.finish(runningPod(hall, 0), false);
        let(hall, ROUTER);
        hall.make(0, NODE);
        hall.tick(10);
        hall.beat(NODE_READY);
        hall.tick(11);
        for (int kind = 0; kind < 6; kind++) {
            hall.make(0, kind);
            hall.delete(GONE_ONES + kind, BACKGROUND);
        }
        hall.delete(hall.make(0, SET), FOREGROUND);
        hall.delete(hall.make(0, SET), ORPHAN);
        hall.hold(hall.make(0, SET), true);
        hall.delete(SET_BACKGROUND, BACKGROUND);
        make(hall, POD, TEMPLATE, 2);
        put(hall, NODE_READY, ROOM, 4);
        let(hall, SCHEDULER);
        putOffTheJob(hall);
        hall.rule(SET, WANTED, 5, 5, TEMPLATE, 4);
        hall.check(DEPLOY, LOAD, 80);
        hall.quota(40);
        hall.wish(DEPLOY_STAYING, 3);
        hall.wish(GONE_ONES + DEPLOY, 2);
        hall.watch(0, 7);
        hall.next(1);
        hall.watch(2, hall.version());
        hall.compact(4);
        hall.see(SCHEDULER, 400);
        hall.see(REPLICATOR, 20);
        hall.see(COLLECTOR, 35);
        return hall;
    }

    /** A JOB whose POD the JOBBER has made, but has not seen yet when the key comes again. */
    private static void putOffTheJob(ReconcilerHall hall) {
        make(hall, JOB, TEMPLATE, 5);
        hall.see(JOBBER, 400);
        while (hall.queued(JOBBER, 0) != NONE) {
            hall.work(JOBBER);
        }
        put(hall, JOB_PUT_OFF, WANTED, 1);
        put(hall, JOB_PUT_OFF, WANTED, 2);
        hall.see(JOBBER, 1);
        hall.work(JOBBER);
        hall.see(JOBBER, 1);
    }

    private static ReconcilerHall full() {
        ReconcilerHall hall = rich();
        fillLog(hall, NODE_READY, 400);
        return hall;
    }

    private static ReconcilerHall sixty() {
        ReconcilerHall hall = rich();
        while (hall.objects() < 60) {
            hall.make(0, SET);
        }
        return hall;
    }

    private static ReconcilerHall late() {
        ReconcilerHall hall = rich();
        for (int tick = 21; tick + 100 <= 10000; tick += 100) {
            hall.beat(NODE_READY);
            hall.tick(100);
        }
        hall.tick(79);
        return hall;
    }

    // ---- twins

    /** The call throws exactly this exception, and nothing at all is another one behind it, then or later. */
    static void untouched(Supplier<ReconcilerHall> maker, Class<? extends RuntimeException> want, Consumer<ReconcilerHall> call) {
        ReconcilerHall hall = maker.get();
        refused(hall, want, () -> call.accept(hall));
        due(DRAWN.computeIfAbsent(maker, one -> drawOut(one.get())), drawOut(hall));
    }

    /** All that can be found out of a hall, by calls that change it as well. */
    static String drawOut(ReconcilerHall hall) {
        StringBuilder text = new StringBuilder(picture(hall));
        text.append("\ncompacted ").append(hall.compact(0));
        for (int reader = 0; reader < 4; reader++) {
            drawReader(hall, reader, text);
        }
        for (int object = 0; object < hall.objects(); object++) {
            if (hall.kindOf(object) == DEPLOY) {
                text.append("\nwish ").append(hall.wish(object, NONE));
            }
        }
        drawTime(hall, text);
        drawAdmission(hall, text);
        for (int object = 0; object < hall.objects(); object++) {
            int number = object;
            text.append(' ').append(told(() -> hall.hold(number, true)));
        }
        return text.append(picture(hall)).toString();
    }

    private static void drawReader(ReconcilerHall hall, int reader, StringBuilder text) {
        String answer = "";
        text.append("\nreader");
        for (int times = 0; times <= 400 && !answer.equals("-1") && !answer.startsWith("c"); times++) {
            answer = told(() -> hall.next(reader));
            text.append(' ').append(answer);
        }
    }

    /** Which keys wait, and how long, and which NODEs fall silent, and when. */
    private static void drawTime(ReconcilerHall hall, StringBuilder text) {
        for (int step = 0; step < 24; step++) {
            text.append("\nworks");
            for (int controller = 0; controller < 8; controller++) {
                for (int key = 0; key < 3; key++) {
                    text.append(' ').append(hall.work(controller));
                }
            }
            text.append(" tick ").append(told(() -> hall.tick(1))).append(" version ").append(hall.version());
        }
        text.append(hall.turn(2)).append(picture(hall));
    }

    private static void drawAdmission(ReconcilerHall hall, StringBuilder text) {
        for (int object = 0; object < hall.objects(); object++) {
            for (int field = 0; field < 11; field++) {
                if (has(hall.kindOf(object), field)) {
                    drawField(hall, object, field, text);
                }
            }
        }
        text.append("\nquota ").append(hall.quota(0));
        for (int times = 0; times < 9; times++) {
            text.append(' ').append(told(() -> hall.rule(POD, TEMPLATE, 0, 0, TEMPLATE, 0)));
            text.append(' ').append(told(() -> hall.check(POD, TEMPLATE, 9)));
        }
        text.append(' ').append(hall.clear());
    }

    /** What becomes of an object when a field gets its least and its greatest value, and then what it was. */
    private static void drawField(ReconcilerHall hall, int object, int field, StringBuilder text) {
        for (int value : new int[] {LEAST_VALUE[field], GREATEST_VALUE[field], hall.field(object, field)}) {
            text.append(' ').append(told(() -> hall.apply(0, object, field, value, NONE, true)));
            text.append('/').append(hall.field(object, field));
        }
    }

    private static String told(Supplier<Object> call) {
        try {
            return "" + call.get();
        } catch (RuntimeException thrown) {
            return "" + thrown.getClass();
        }
    }

    // ---- numbers

    /** The numbers next to a range, and the lowest and the greatest int. */
    static int[] outside(int least, int greatest) {
        return new int[] {LOWEST, least - 1, greatest + 1, GREATEST};
    }

    /** Each number of objects that is none in a rich hall. */
    static int[] noObjects() {
        return new int[] {LOWEST, -2, -1, RICH_OBJECTS, RICH_OBJECTS + 1, 60, GREATEST};
    }

    /** Each number of fields that is none, or none of this kind. */
    static int[] noFieldsOf(int kind) {
        return java.util.stream.IntStream.of(LOWEST, -2, -1, 0, 1, 2, 3, 4, 5, 6, 7, 8, 9, 10, 11, 12, 31, 32, 64, GREATEST)
            .filter(field -> !has(kind, field)).toArray();
    }
}
