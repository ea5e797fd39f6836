/** Promises 20 to 23: watch, next, list, compact. */
public final class ReadersTest extends Suite {
    public static void main(String[] args) {
        run(ReadersTest.class);
    }

    private static ReconcilerHall hallOfEvents() {
        ReconcilerHall hall = new ReconcilerHall();
        hall.make(0, NODE);
        hall.make(0, SET);
        put(hall, 0, ROOM, 3);
        hall.delete(1, BACKGROUND);
        return hall;
    }

    static void promise20_beginsBehindAVersion() {
        ReconcilerHall hall = hallOfEvents();
        due(4, hall.watch(0, 0));
        due(2, hall.watch(1, 2));
        due(0, hall.watch(3, 4));
        due(0, hall.next(0));
        due(0, hall.next(1));
        due(1, hall.next(1));
        due(NONE, hall.next(1));
        due(NONE, hall.next(3));
        due(1, hall.watch(1, 3));
        due(1, hall.next(1));
    }

    static void promise20_wrongArguments() {
        ReconcilerHall hall = hallOfEvents();
        hall.compact(2);
        refused(hall, ARGUMENT, () -> hall.watch(-1, 0));
        refused(hall, ARGUMENT, () -> hall.watch(4, 3));
        refused(hall, ARGUMENT, () -> hall.watch(0, -1));
        refused(hall, ARGUMENT, () -> hall.watch(0, 5));
        refused(hall, STATE, () -> hall.watch(0, 0));
        refused(hall, STATE, () -> hall.watch(0, 1));
        due(2, hall.watch(0, 2));
    }

    /** A call that is refused leaves the reader where it is. */
    static void promise20_refusedCallsMoveNothing() {
        ReconcilerHall hall = hallOfEvents();
        hall.watch(2, 3);
        hall.compact(2);
        fails(STATE, () -> hall.watch(2, 1));
        fails(ARGUMENT, () -> hall.watch(2, 5));
        due(1, hall.next(2));
    }

    static void promise21_tellsTheObjectsOneByOne() {
        ReconcilerHall hall = new ReconcilerHall();
        due(NONE, hall.next(0));
        hall.make(0, NODE);
        hall.make(0, SET);
        put(hall, 0, ROOM, 3);
        int[] objects = {0, 1, 0, NONE, NONE};
        for (int reader = 0; reader < 4; reader++) {
            for (int object : objects) {
                due(object, hall.next(reader));
            }
        }
        hall.make(0, POD);
        due(2, hall.next(3));
        due(NONE, hall.next(3));
        due(2, hall.next(0));
    }

    static void promise21_compactedEvents() {
        ReconcilerHall hall = hallOfEvents();
        due(0, hall.next(0));
        hall.watch(1, 1);
        hall.watch(2, 2);
        hall.compact(2);
        fails(STATE, () -> hall.next(0));
        fails(STATE, () -> hall.next(1));
        fails(STATE, () -> hall.next(3));
        due(0, hall.next(2));
        due(4, hall.compact(4));
        fails(STATE, () -> hall.next(2));
        hall.watch(2, 4);
        due(NONE, hall.next(2));
        fails(ARGUMENT, () -> hall.next(-1));
        fails(ARGUMENT, () -> hall.next(4));
    }

    static void promise22_goesToTheLatestVersion() {
        ReconcilerHall hall = hallOfEvents();
        hall.compact(3);
        fails(STATE, () -> hall.next(0));
        due(1, hall.list(0));
        due(NONE, hall.next(0));
        hall.make(0, ROUTE);
        due(2, hall.next(0));
        due(2, hall.list(1));
        due(NONE, hall.next(1));
        hall.delete(0, FOREGROUND);
        due(2, hall.list(1));
        fails(ARGUMENT, () -> hall.list(-1));
        fails(ARGUMENT, () -> hall.list(4));
        due(0, new ReconcilerHall().list(3));
    }

    static void promise23_neverGoesBack() {
        ReconcilerHall hall = hallOfEvents();
        due(0, hall.compact(0));
        due(3, hall.compact(3));
        due(3, hall.compact(1));
        due(3, hall.compact(0));
        refused(hall, ARGUMENT, () -> hall.compact(-1));
        refused(hall, ARGUMENT, () -> hall.compact(5));
        due(4, hall.compact(4));
        due(1, hall.objectOf(4));
        due(4, hall.version());
        hall.make(0, POD);
        due(5, hall.version());
        due(5, hall.compact(5));
    }

    /** Compacting makes no room in the log. */
    static void promise23_theLogStaysFull() {
        ReconcilerHall hall = hallOfEvents();
        fillLog(hall, 0, 400);
        due(400, hall.compact(400));
        refused(hall, STATE, () -> hall.make(0, NODE));
    }
}
