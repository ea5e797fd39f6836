/** Promises 24 to 27: tick, beat, wish, hub. */
public final class TicksTest extends Suite {
    public static void main(String[] args) {
        run(TicksTest.class);
    }

    static void promise24_ticksPassUpTo10000() {
        ReconcilerHall hall = new ReconcilerHall();
        due(1, hall.tick(1));
        for (int tick = 101; tick < 10000; tick += 100) {
            due(tick, hall.tick(100));
        }
        refused(hall, STATE, () -> hall.tick(100));
        due(10000, hall.tick(99));
        refused(hall, STATE, () -> hall.tick(1));
        refused(hall, ARGUMENT, () -> hall.tick(0));
        refused(hall, ARGUMENT, () -> hall.tick(101));
        refused(hall, ARGUMENT, () -> hall.tick(-1));
    }

    static void promise24_silentNodesAreNotReadyByRisingNumbers() {
        ReconcilerHall hall = new ReconcilerHall();
        hall.make(0, NODE);
        hall.tick(1);
        hall.make(0, POD);
        hall.make(0, NODE);
        hall.make(0, NODE);
        hall.tick(19);
        due(true, hall.isReady(0));
        due(4, hall.version());
        hall.tick(1);
        due(false, hall.isReady(0));
        due(5, hall.versionOf(0));
        due(true, hall.isReady(2));
        hall.tick(3);
        due(6, hall.versionOf(2));
        due(7, hall.versionOf(3));
        hall.tick(100);
        due(7, hall.version());
    }

    static void promise24_goneNodesAreLeftAlone() {
        ReconcilerHall hall = new ReconcilerHall();
        hall.make(0, NODE);
        hall.make(0, NODE);
        hall.delete(0, BACKGROUND);
        hall.delete(1, FOREGROUND);
        hall.tick(30);
        due(5, hall.version());
        due(true, hall.isReady(0));
        due(false, hall.isReady(1));
    }

    static void promise24_fullLogLeavesNodesReady() {
        ReconcilerHall hall = new ReconcilerHall();
        hall.make(0, NODE);
        hall.make(0, NODE);
        fillLog(hall, 0, 399);
        due(30, hall.tick(30));
        due(400, hall.version());
        due(false, hall.isReady(0));
        due(true, hall.isReady(1));
    }

    static void promise25_beatsKeepAndMakeReady() {
        ReconcilerHall hall = new ReconcilerHall();
        hall.make(0, NODE);
        hall.tick(20);
        due(true, hall.beat(0));
        due(1, hall.version());
        hall.tick(20);
        due(true, hall.isReady(0));
        hall.tick(1);
        due(false, hall.isReady(0));
        due(2, hall.version());
        due(false, hall.beat(0));
        due(true, hall.isReady(0));
        due(3, hall.versionOf(0));
        hall.tick(20);
        due(true, hall.beat(0));
        hall.delete(0, ORPHAN);
        due(true, hall.beat(0));
    }

    static void promise25_wrongArguments() {
        ReconcilerHall hall = new ReconcilerHall();
        hall.make(0, NODE);
        hall.make(0, POD);
        hall.make(0, NODE);
        refused(hall, INDEX, () -> hall.beat(3));
        refused(hall, INDEX, () -> hall.beat(-1));
        refused(hall, ARGUMENT, () -> hall.beat(1));
        hall.delete(2, BACKGROUND);
        refused(hall, STATE, () -> hall.beat(2));
        hall.tick(21);
        fillLog(hall, 1, 400);
        due(false, hall.isReady(0));
        refused(hall, STATE, () -> hall.beat(0));
    }

    static void promise25_fullLogTakesBeatsOfReadyNodes() {
        ReconcilerHall hall = new ReconcilerHall();
        hall.make(0, NODE);
        fillLog(hall, 0, 400);
        due(true, hall.beat(0));
        hall.tick(40);
        due(true, hall.beat(0));
    }

    static void promise26_tellsTheWishBefore() {
        ReconcilerHall hall = new ReconcilerHall();
        hall.make(0, DEPLOY);
        hall.make(0, SET);
        hall.make(0, DEPLOY);
        due(NONE, hall.wish(0, 9));
        due(9, hall.wish(0, NONE));
        due(NONE, hall.wish(0, 0));
        due(0, hall.wish(0, 4));
        due(NONE, hall.wish(2, 4));
        refused(hall, INDEX, () -> hall.wish(3, 0));
        refused(hall, INDEX, () -> hall.wish(-1, 11));
        refused(hall, ARGUMENT, () -> hall.wish(1, 0));
        refused(hall, ARGUMENT, () -> hall.wish(0, 10));
        refused(hall, ARGUMENT, () -> hall.wish(0, -2));
        due(4, hall.wish(0, 4));
        due(3, hall.version());
        hall.delete(0, BACKGROUND);
        due(4, hall.wish(0, 5));
    }

    static void promise27_syncsIfItIsNotAway() {
        ReconcilerHall hall = new ReconcilerHall();
        for (int number = 0; number < 4; number++) {
            hall.make(0, DEPLOY);
        }
        hall.wish(3, 5);
        hall.wish(1, 0);
        hall.wish(0, 7);
        due(4, hall.version());
        due(0, hall.hub(true));
        due(4, hall.version());
        due(3, hall.hub(false));
        due(0, hall.objectOf(5));
        due(1, hall.objectOf(6));
        due(3, hall.objectOf(7));
        due(7, hall.field(0, TEMPLATE));
        due(5, hall.managerOf(0, TEMPLATE));
        due(5, hall.managerOf(1, TEMPLATE));
        due(0, hall.managerOf(2, TEMPLATE));
        due(0, hall.hub(false));
    }

    static void promise27_refusedAndGoneOnesAreLeftOut() {
        ReconcilerHall hall = new ReconcilerHall();
        for (int number = 0; number < 4; number++) {
            hall.make(0, DEPLOY);
            hall.wish(number, 2 + number);
        }
        hall.delete(1, BACKGROUND);
        hall.delete(0, FOREGROUND);
        hall.check(DEPLOY, TEMPLATE, 4);
        due(2, hall.hub(false));
        due(2, hall.field(0, TEMPLATE));
        due(0, hall.field(1, TEMPLATE));
        due(4, hall.field(2, TEMPLATE));
        due(0, hall.field(3, TEMPLATE));
        hall.wish(2, NONE);
        put(hall, 2, TEMPLATE, 1);
        due(0, hall.hub(false));
        hall.clear();
        fillLog(hall, 2, 400);
        due(0, hall.hub(false));
        due(0, hall.field(3, TEMPLATE));
    }
}
