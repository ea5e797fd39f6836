/** Promises 8 to 11: rule, check, clear, quota, and what admission does to writes. */
public final class AdmissionTest extends Suite {
    public static void main(String[] args) {
        run(AdmissionTest.class);
    }

    static void promise08_countsUpToEight() {
        ReconcilerHall hall = new ReconcilerHall();
        for (int count = 1; count <= 8; count++) {
            due(count, hall.rule(NODE, ROOM, count, count, ZONE, 1));
        }
        refused(hall, STATE, () -> hall.rule(NODE, ROOM, 0, 0, ZONE, 1));
        refused(hall, ARGUMENT, () -> hall.rule(NODE, ROOM, 1, 0, ZONE, 1));
        due(8, hall.clear());
        due(1, hall.rule(NODE, ROOM, 0, 0, ZONE, 1));
    }

    static void promise08_wrongArguments() {
        ReconcilerHall hall = new ReconcilerHall();
        refused(hall, ARGUMENT, () -> hall.rule(-1, TEMPLATE, 0, 0, TEMPLATE, 0));
        refused(hall, ARGUMENT, () -> hall.rule(6, TEMPLATE, 0, 0, TEMPLATE, 0));
        refused(hall, ARGUMENT, () -> hall.rule(POD, WANTED, 0, 0, TEMPLATE, 0));
        refused(hall, ARGUMENT, () -> hall.rule(POD, TEMPLATE, 0, 0, WANTED, 0));
        refused(hall, ARGUMENT, () -> hall.rule(POD, -1, 0, 0, TEMPLATE, 0));
        refused(hall, ARGUMENT, () -> hall.rule(POD, TEMPLATE, 0, 0, 11, 0));
        refused(hall, ARGUMENT, () -> hall.rule(POD, TEMPLATE, 3, 2, TEMPLATE, 0));
        refused(hall, ARGUMENT, () -> hall.rule(POD, TEMPLATE, 0, 0, TEMPLATE, 10));
        refused(hall, ARGUMENT, () -> hall.rule(POD, TEMPLATE, 0, 0, TEMPLATE, -1));
        refused(hall, ARGUMENT, () -> hall.rule(JOB, TEMPLATE, 0, 0, AT_ONCE, 0));
        due(1, hall.rule(POD, TEMPLATE, Integer.MIN_VALUE, Integer.MAX_VALUE, TEMPLATE, 9));
        due(0, hall.make(0, POD));
        due(9, hall.field(0, TEMPLATE));
    }

    static void promise08_changesFieldsOfItsKindWhoseManagersStay() {
        ReconcilerHall hall = new ReconcilerHall();
        int set = hall.make(0, SET);
        int job = hall.make(0, JOB);
        hall.rule(SET, WANTED, 2, 3, TEMPLATE, 7);
        due(3, hall.apply(1, set, WANTED, 1, NONE, true));
        due(0, hall.field(set, TEMPLATE));
        due(4, hall.apply(1, set, WANTED, 2, NONE, true));
        due(7, hall.field(set, TEMPLATE));
        due(0, hall.managerOf(set, TEMPLATE));
        due(1, hall.managerOf(set, WANTED));
        put(hall, set, TEMPLATE, 0);
        due(7, hall.field(set, TEMPLATE));
        put(hall, set, WANTED, 4);
        put(hall, set, TEMPLATE, 0);
        due(0, hall.field(set, TEMPLATE));
        put(hall, set, WANTED, 3);
        due(7, hall.field(set, TEMPLATE));
        put(hall, job, WANTED, 3);
        due(0, hall.field(job, TEMPLATE));
    }

    static void promise08_noEventIfRulesTakeTheChangeBack() {
        ReconcilerHall hall = new ReconcilerHall();
        int node = hall.make(0, NODE);
        hall.rule(NODE, ROOM, 5, 9, ROOM, 4);
        due(1, hall.apply(0, node, ROOM, 8, NONE, false));
        due(1, hall.version());
        due(2, hall.apply(1, node, ROOM, 8, NONE, true));
        due(4, hall.field(node, ROOM));
        due(1, hall.managerOf(node, ROOM));
    }

    /** Within a turn each rule sees what the ones of lesser numbers have changed. */
    static void promise08_byRisingNumbersUntilNothingIsAnotherOne() {
        ReconcilerHall hall = new ReconcilerHall();
        int node = hall.make(0, NODE);
        hall.rule(NODE, ROOM, 1, 1, ROOM, 2);
        hall.rule(NODE, ROOM, 2, 2, ROOM, 1);
        put(hall, node, ROOM, 1);
        due(1, hall.field(node, ROOM));
        put(hall, node, ROOM, 2);
        due(1, hall.field(node, ROOM));
    }

    /** Rules in falling order need one turn each: five may change something, the sixth one doesn't. */
    static void promise08_fiveTurnsAreEnough() {
        ReconcilerHall hall = new ReconcilerHall();
        int node = hall.make(0, NODE);
        for (int room = 4; room >= 0; room--) {
            hall.rule(NODE, ROOM, room, room, ROOM, room == 4 ? 9 : room + 1);
        }
        due(2, hall.apply(0, node, ROOM, 0, NONE, false));
        due(9, hall.field(node, ROOM));
    }

    static void promise08_sixTurnsAreTooMany() {
        ReconcilerHall hall = new ReconcilerHall();
        int node = hall.make(0, NODE);
        put(hall, node, ROOM, 9);
        for (int room = 5; room >= 0; room--) {
            hall.rule(NODE, ROOM, room, room, ROOM, room == 5 ? 9 : room + 1);
        }
        refused(hall, STATE, () -> hall.apply(0, node, ROOM, 0, NONE, false));
        due(3, hall.apply(1, node, ROOM, 1, NONE, true));
        due(9, hall.field(node, ROOM));
    }

    static void promise08_rulesWithoutAnEnd() {
        ReconcilerHall hall = new ReconcilerHall();
        int node = make(hall, NODE, ZONE, 2);
        hall.rule(NODE, ZONE, 1, 1, ZONE, 2);
        hall.rule(NODE, ZONE, 0, 0, ZONE, 1);
        hall.rule(NODE, ZONE, 2, 2, ZONE, 0);
        refused(hall, STATE, () -> hall.apply(0, node, ROOM, 2, NONE, false));
        refused(hall, STATE, () -> hall.make(0, NODE));
        due(2, hall.version());
    }

    /** All fields are compared from turn to turn, WANTED among them. */
    static void promise08_rulesOfWantedGoOn() {
        ReconcilerHall hall = new ReconcilerHall();
        int set = hall.make(0, SET);
        hall.rule(SET, WANTED, 3, 3, WANTED, 5);
        hall.rule(SET, WANTED, 2, 2, WANTED, 3);
        hall.rule(SET, WANTED, 1, 1, WANTED, 2);
        put(hall, set, WANTED, 1);
        due(5, hall.field(set, WANTED));
    }

    static void promise09_countsUpToEight() {
        ReconcilerHall hall = new ReconcilerHall();
        for (int count = 1; count <= 8; count++) {
            due(count, hall.check(POD, TEMPLATE, 5));
        }
        refused(hall, STATE, () -> hall.check(POD, TEMPLATE, 5));
        refused(hall, ARGUMENT, () -> hall.check(POD, WANTED, 5));
        due(1, hall.rule(POD, TEMPLATE, 0, 0, TEMPLATE, 1));
        due(9, hall.clear());
        due(1, hall.check(POD, TEMPLATE, 5));
    }

    static void promise09_wrongArguments() {
        ReconcilerHall hall = new ReconcilerHall();
        refused(hall, ARGUMENT, () -> hall.check(-1, TEMPLATE, 0));
        refused(hall, ARGUMENT, () -> hall.check(6, TEMPLATE, 0));
        refused(hall, ARGUMENT, () -> hall.check(NODE, TEMPLATE, 0));
        refused(hall, ARGUMENT, () -> hall.check(NODE, -1, 0));
        refused(hall, ARGUMENT, () -> hall.check(NODE, 11, 0));
        due(1, hall.check(NODE, ROOM, Integer.MIN_VALUE));
        refused(hall, STATE, () -> hall.make(0, NODE));
        due(2, hall.check(ROUTE, TEMPLATE, Integer.MAX_VALUE));
        due(0, hall.make(0, ROUTE));
    }

    /** A value may be as great as the check tells, and what counts is the value behind the rules. */
    static void promise09_refusesWhatIsAbove() {
        ReconcilerHall hall = new ReconcilerHall();
        int pod = hall.make(0, POD);
        int set = hall.make(0, SET);
        hall.check(POD, TEMPLATE, 4);
        put(hall, pod, TEMPLATE, 4);
        refused(hall, STATE, () -> put(hall, pod, TEMPLATE, 5));
        put(hall, set, TEMPLATE, 9);
        hall.rule(POD, TEMPLATE, 8, 9, TEMPLATE, 3);
        put(hall, pod, TEMPLATE, 9);
        due(3, hall.field(pod, TEMPLATE));
        hall.rule(POD, TEMPLATE, 1, 1, TEMPLATE, 6);
        refused(hall, STATE, () -> put(hall, pod, TEMPLATE, 1));
    }

    /** Other writes than making and applying don't go through admission. */
    static void promise09_otherWritesAreNotChecked() {
        ReconcilerHall hall = new ReconcilerHall();
        hall.make(0, NODE);
        int pod = runningPod(hall, 3);
        hall.check(POD, TEMPLATE, 0);
        hall.check(NODE, ROOM, 0);
        due(false, hall.hold(pod, true));
        due(hall.version() + 1, hall.finish(pod, true));
        hall.tick(21);
        due(false, hall.beat(0));
        due(BACKGROUND, hall.delete(pod, BACKGROUND));
    }

    static void promise10_takesAllAway() {
        ReconcilerHall hall = new ReconcilerHall();
        due(0, hall.clear());
        hall.rule(POD, TEMPLATE, 0, 9, TEMPLATE, 2);
        hall.rule(POD, TEMPLATE, 0, 9, TEMPLATE, 2);
        hall.check(POD, TEMPLATE, 1);
        refused(hall, STATE, () -> hall.make(0, POD));
        hall.quota(1);
        due(3, hall.clear());
        due(0, hall.make(0, POD));
        due(0, hall.field(0, TEMPLATE));
        due(1, hall.quota(2));
        due(0, hall.clear());
    }

    static void promise11_returnsTheQuotaBefore() {
        ReconcilerHall hall = new ReconcilerHall();
        due(30, hall.quota(0));
        refused(hall, STATE, () -> hall.make(0, POD));
        due(0, hall.make(0, NODE));
        due(0, hall.quota(60));
        due(1, hall.make(0, POD));
        refused(hall, ARGUMENT, () -> hall.quota(-1));
        refused(hall, ARGUMENT, () -> hall.quota(61));
        due(60, hall.quota(1));
        refused(hall, STATE, () -> hall.make(0, POD));
        put(hall, 1, TEMPLATE, 5);
        due(5, hall.field(1, TEMPLATE));
    }

    /** PODs that controllers make count, too. */
    static void promise11_controllersAreRefused() {
        ReconcilerHall hall = new ReconcilerHall();
        int set = make(hall, SET, WANTED, 3);
        hall.quota(1);
        let(hall, REPLICATOR);
        due(2, hall.objects());
        due(1, hall.failures(REPLICATOR, set));
    }
}
