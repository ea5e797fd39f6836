import java.lang.reflect.InvocationTargetException;
import java.lang.reflect.Method;
import java.lang.reflect.Modifier;
import java.util.Arrays;
import java.util.Comparator;
import java.util.Objects;

/**
 * What the test classes have in common: the constants as the document tells them, and the run of a class, which are
 * its static methods whose names begin with "promise".
 */
class Suite {
    static final int NONE = -1;
    static final int DEPLOY = 0, SET = 1, POD = 2, JOB = 3, NODE = 4, ROUTE = 5;
    static final int WANTED = 0, TEMPLATE = 1, SURGE = 2, SLACK = 3, PAUSED = 4, MOST = 5, LOAD = 6, ROOM = 7, ZONE = 8, BARRED = 9;
    static final int AT_ONCE = 10;
    static final int STAYING = 0, FOREGROUND = 1, BACKGROUND = 2, ORPHAN = 3, GONE = 4;
    static final int WAITING = 0, RUNNING = 1, DONE = 2, FAILED = 3;
    static final int DEPLOYER = 0, REPLICATOR = 1, JOBBER = 2, SCHEDULER = 3, RUNNER = 4, COLLECTOR = 5, ROUTER = 6, SCALER = 7;
    static final int IDLE = 0, LEFT = 1, PUT_OFF = 2, BROKEN = 3;

    static final Class<IllegalArgumentException> ARGUMENT = IllegalArgumentException.class;
    static final Class<IllegalStateException> STATE = IllegalStateException.class;
    static final Class<IndexOutOfBoundsException> INDEX = IndexOutOfBoundsException.class;

    // ---- short ways to what many tests need

    /** Applies a field by the manager 0, forced. */
    static void put(ReconcilerHall hall, int object, int field, int value) {
        hall.apply(0, object, field, value, NONE, true);
    }

    /** An object of the manager 0 with some fields: one number for the field, the next one for its value. */
    static int make(ReconcilerHall hall, int kind, int... fields) {
        int object = hall.make(0, kind);
        for (int at = 0; at + 1 < fields.length; at += 2) {
            put(hall, object, fields[at], fields[at + 1]);
        }
        return object;
    }

    /** Lets some controllers see all events and work until their queues are at an end. */
    static void let(ReconcilerHall hall, int... controllers) {
        for (int controller : controllers) {
            hall.see(controller, 400);
            for (int times = 0; times < 100 && hall.work(controller) == LEFT; times++) {
                hall.see(controller, 400);
            }
        }
    }

    /** A POD that is RUNNING on a NODE. */
    static int runningPod(ReconcilerHall hall, int template) {
        int pod = make(hall, POD, TEMPLATE, template);
        let(hall, SCHEDULER, RUNNER);
        due(RUNNING, hall.phaseOf(pod));
        return pod;
    }

    /** Brings the log to a version by holding an object and letting it go, and tells whether it is held then. */
    static boolean fillLog(ReconcilerHall hall, int object, int version) {
        boolean isHeld = false;
        while (hall.version() < version) {
            isHeld = !isHeld;
            hall.hold(object, isHeld);
        }
        return isHeld;
    }

    // ---- the run of a class

    static void run(Class<?> tests) {
        int passed = 0;
        int failed = 0;
        Method[] methods = tests.getDeclaredMethods();
        Arrays.sort(methods, Comparator.comparing(Method::getName));
        for (Method test : methods) {
            if (!Modifier.isStatic(test.getModifiers()) || !test.getName().startsWith("promise")) {
                continue;
            }
            Throwable fault = faultOf(test);
            if (fault == null) {
                passed++;
            } else {
                failed++;
                System.out.println("FAILED " + tests.getName() + "." + test.getName() + ": " + fault);
                for (StackTraceElement at : fault.getStackTrace()) {
                    if (at.getClassName().startsWith(tests.getName())) {
                        System.out.println("    at " + at);
                    }
                }
            }
        }
        System.out.println(tests.getName() + ": " + passed + " passed, " + failed + " failed");
        System.exit(failed == 0 && passed > 0 ? 0 : 1);
    }

    private static Throwable faultOf(Method test) {
        try {
            test.setAccessible(true);
            test.invoke(null);
            return null;
        } catch (InvocationTargetException thrown) {
            return thrown.getCause();
        } catch (IllegalAccessException refused) {
            return refused;
        }
    }

    static void due(Object want, Object got) {
        if (!Objects.equals(want, got)) {
            throw new AssertionError("due is " + want + ", the answer is " + got);
        }
    }

    /** The call throws exactly this exception, not one of a class below it. */
    static void fails(Class<? extends RuntimeException> want, Runnable call) {
        Class<?> got = null;
        try {
            call.run();
        } catch (RuntimeException thrown) {
            got = thrown.getClass();
        }
        due(want, got);
    }

    /** The call throws exactly this exception, and nothing that can be read is another one behind it. */
    static void refused(ReconcilerHall hall, Class<? extends RuntimeException> want, Runnable call) {
        String before = picture(hall);
        fails(want, call);
        due(before, picture(hall));
    }

    /** All that can be read of a hall without changing it. */
    static String picture(ReconcilerHall hall) {
        StringBuilder text = new StringBuilder();
        text.append(hall.objects()).append(' ').append(hall.version()).append(' ').append(hall.isSettled());
        for (int version = 1; version <= hall.version(); version++) {
            text.append(' ').append(hall.objectOf(version));
        }
        for (int object = 0; object < hall.objects(); object++) {
            text.append('\n').append(object).append(": ").append(pictureOf(hall, object));
        }
        for (int controller = 0; controller < 8; controller++) {
            text.append('\n').append(controller).append(" seen ").append(hall.seen(controller)).append(" queue");
            for (int place = 0; hall.queued(controller, place) != ReconcilerHall.NONE; place++) {
                text.append(' ').append(hall.queued(controller, place));
            }
            for (int object = 0; object < hall.objects(); object++) {
                text.append(' ').append(hall.failures(controller, object)).append('/');
                for (int field = 0; field < 11; field++) {
                    if (has(hall.kindOf(object), field)) {
                        text.append(hall.believed(controller, object, field)).append(',');
                    }
                }
            }
        }
        return text.toString();
    }

    private static String pictureOf(ReconcilerHall hall, int object) {
        StringBuilder text = new StringBuilder();
        int kind = hall.kindOf(object);
        text.append(kind).append(' ').append(hall.versionOf(object)).append(' ').append(hall.goingOf(object));
        text.append(' ').append(hall.ownerOf(object));
        for (int field = 0; field < 11; field++) {
            if (has(kind, field)) {
                text.append(' ').append(hall.field(object, field)).append('@').append(hall.managerOf(object, field));
            }
        }
        if (kind == ReconcilerHall.POD) {
            text.append(' ').append(hall.phaseOf(object)).append(" on ").append(hall.placeOf(object));
        }
        if (kind == ReconcilerHall.NODE) {
            text.append(' ').append(hall.isReady(object));
        }
        if (kind == ReconcilerHall.DEPLOY) {
            text.append(' ').append(hall.budget(object)).append(' ').append(hall.running(object, false));
            text.append(' ').append(hall.running(object, true));
        }
        for (int pod = 0; kind == ReconcilerHall.ROUTE && pod < hall.objects(); pod++) {
            text.append(hall.isBehind(object, pod) ? " " + pod : "");
        }
        return text.toString();
    }

    /** Which fields a kind has, as the document tells it. */
    static boolean has(int kind, int field) {
        int[][] fields = {{0, 1, 2, 3, 4, 5, 6}, {0, 1}, {1}, {0, 1, 10}, {7, 8, 9}, {1}};
        return kind >= 0 && kind < 6 && Arrays.stream(fields[kind]).anyMatch(one -> one == field);
    }
}
