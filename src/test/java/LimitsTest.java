/**
 * What there can be, by promise: 512 calls, 60 objects, 400 events, the quota of PODs, 8 rules and 8 checks; the last
 * one of each is taken, and the next one is refused and changes nothing.
 */
public final class LimitsTest extends Twins {
    public static void main(String[] args) {
        run(LimitsTest.class);
    }

    /** A hall with one object of a kind, and a NODE 1 by which the log comes to a version. */
    private static ReconcilerHall filled(int kind, int version) {
        ReconcilerHall hall = new ReconcilerHall();
        hall.make(0, kind);
        hall.make(0, NODE);
        fillLog(hall, 1, version);
        return hall;
    }

    // ---- an object is used for at most 512 calls

    static void promise01_the512thCallIsAnsweredAsTheFirst() {
        ReconcilerHall hall = new ReconcilerHall();
        for (int call = 1; call <= 60; call++) {
            due(call - 1, hall.make(0, SET));
        }
        for (int call = 61; call <= 400; call++) {
            due(call, hall.apply(0, call % 60, WANTED, 1 + (call - 60) / 60 % 2, NONE, false));
        }
        for (int event = 1; event <= 100; event++) {
            due(event <= 60 ? event - 1 : event % 60, hall.next(2));
        }
        due(60, hall.see(REPLICATOR, 400));
        for (int call = 502; call <= 511; call++) {
            due(BROKEN, hall.work(REPLICATOR));
        }
        due(10, hall.queued(REPLICATOR, 0));
    }

    // ---- there can be 60 objects, gone ones counted

    static void promise02_the60thObjectIsTakenAndTheNextOneRefused() {
        for (int kind = 0; kind < 6; kind++) {
            ReconcilerHall hall = new ReconcilerHall();
            hall.quota(60);
            for (int number = 0; number < 59; number++) {
                hall.make(0, NODE);
            }
            due(59, hall.make(1, kind));
            due(60, hall.objects());
            due(kind, hall.kindOf(59));
            int number = kind;
            refused(hall, STATE, () -> hall.make(1, number));
        }
        for (int kind = 0; kind < 6; kind++) {
            int number = kind;
            untouched(SIXTY, STATE, hall -> hall.make(0, number));
        }
    }

    static void promise02_goneObjectsAreCounted() {
        ReconcilerHall hall = new ReconcilerHall();
        for (int number = 0; number < 60; number++) {
            hall.make(0, SET);
            due(GONE, hall.delete(number, BACKGROUND));
        }
        due(60, hall.objects());
        due(0, hall.list(0));
        refused(hall, STATE, () -> hall.make(0, SET));
    }

    /** A DEPLOY 0, a SET 1 that wants one, a JOB 2 that wants one, and others. */
    private static ReconcilerHall hallOfMakers(int objects) {
        ReconcilerHall hall = new ReconcilerHall();
        hall.make(0, DEPLOY);
        make(hall, SET, WANTED, 1);
        make(hall, JOB, WANTED, 1);
        while (hall.objects() < objects) {
            hall.make(0, ROUTE);
        }
        return hall;
    }

    static void promise13_controllersMakeThe60thObjectAndNoOther() {
        for (int controller = DEPLOYER; controller <= JOBBER; controller++) {
            ReconcilerHall hall = hallOfMakers(59);
            hall.see(controller, 400);
            due(LEFT, hall.work(controller));
            due(60, hall.objects());
            due(controller, hall.ownerOf(59));
            ReconcilerHall other = hallOfMakers(60);
            other.see(controller, 400);
            int version = other.version();
            due(BROKEN, other.work(controller));
            due(1, other.failures(controller, controller));
            due(controller, other.queued(controller, 0));
            due(60, other.objects());
            due(version, other.version());
        }
    }

    // ---- there can be 400 events; a write beyond is refused

    static void promise02_event400IsTakenAndTheNextOneRefused() {
        for (int kind = 0; kind < 6; kind++) {
            int number = kind;
            ReconcilerHall hall = filled(SET, 399);
            due(2, hall.make(0, kind));
            due(400, hall.versionOf(2));
            refused(hall, STATE, () -> hall.make(0, number));
            untouched(FULL, STATE, one -> one.make(0, number));
        }
    }

    static void promise03_event400IsTakenAndTheNextOneRefused() {
        ReconcilerHall hall = filled(SET, 399);
        due(400, hall.apply(0, 0, WANTED, 1, NONE, false));
        refused(hall, STATE, () -> hall.apply(0, 0, WANTED, 2, NONE, false));
        due(400, hall.apply(0, 0, WANTED, 1, 400, false));
        untouched(FULL, STATE, one -> one.apply(0, SET_STAYING, WANTED, 1, NONE, true));
        untouched(FULL, STATE, one -> one.apply(0, POD_WAITING, TEMPLATE, 1, NONE, false));
    }

    /** Behind a full log a field that stays what it is may be applied, but not taken over. */
    static void promise03_samenessIsTakenBehindAFullLog() {
        ReconcilerHall hall = FULL.get();
        due(hall.versionOf(JOB_STAYING), hall.apply(0, JOB_STAYING, AT_ONCE, 2, NONE, false));
        due(400, hall.version());
        untouched(FULL, STATE, one -> one.apply(1, JOB_STAYING, AT_ONCE, 2, NONE, true));
    }

    static void promise04_event400IsTakenAndTheNextOneRefused() {
        ReconcilerHall hall = filled(DEPLOY, 399);
        due(400, hall.applyBudget(0, 0, 11, false));
        refused(hall, STATE, () -> hall.applyBudget(0, 0, 12, false));
        refused(hall, STATE, () -> hall.applyBudget(1, 0, 11, true));
        due(400, hall.applyBudget(0, 0, 11, false));
        untouched(FULL, STATE, one -> one.applyBudget(0, DEPLOY_STAYING, 10, false));
        untouched(FULL, STATE, one -> one.applyBudget(1, DEPLOY_STAYING, 11, true));
    }

    static void promise05_event400IsTakenAndTheNextOneRefused() {
        for (int manner = FOREGROUND; manner <= ORPHAN; manner++) {
            int number = manner;
            ReconcilerHall hall = filled(SET, 399);
            due(manner == BACKGROUND ? GONE : manner, hall.delete(0, manner));
            due(400, hall.versionOf(0));
            refused(hall, STATE, () -> hall.delete(1, number));
            untouched(FULL, STATE, one -> one.delete(SET_STAYING, number));
            untouched(FULL, STATE, one -> one.delete(POD_RUNNING, number));
        }
    }

    static void promise06_event400IsTakenAndTheNextOneRefused() {
        ReconcilerHall hall = filled(SET, 399);
        due(false, hall.hold(0, true));
        due(400, hall.versionOf(0));
        refused(hall, STATE, () -> hall.hold(0, false));
        due(true, hall.hold(0, true));
        due(400, hall.version());
        untouched(FULL, STATE, one -> one.hold(SET_STAYING, true));
        untouched(FULL, STATE, one -> one.hold(SET_BACKGROUND, false));
        ReconcilerHall full = FULL.get();
        due(false, full.hold(SET_STAYING, false));
        due(true, full.hold(SET_BACKGROUND, true));
    }

    static void promise07_event400IsTakenAndTheNextOneRefused() {
        ReconcilerHall hall = RICH.get();
        fillLog(hall, NODE_READY, 399);
        due(400, hall.finish(POD_RUNNING, false));
        refused(hall, STATE, () -> hall.finish(POD_RUNNING + 1, false));
        untouched(FULL, STATE, one -> one.finish(POD_RUNNING, true));
        untouched(FULL, STATE, one -> one.finish(POD_RUNNING, false));
    }

    static void promise12_aControllerSeesAll400Events() {
        ReconcilerHall hall = filled(SET, 400);
        due(1, hall.see(REPLICATOR, 400));
        due(400, hall.seen(REPLICATOR));
        due(0, hall.see(REPLICATOR, 400));
        due(400, hall.seen(REPLICATOR));
    }

    /** A hall in which a controller has one key, for which it is to write something; the log comes to a version. */
    private static ReconcilerHall hallOfOneWrite(int controller, int version) {
        ReconcilerHall hall = new ReconcilerHall();
        make(hall, NODE, ROOM, 9);
        switch (controller) {
            case DEPLOYER -> hall.make(0, DEPLOY);
            case REPLICATOR -> make(hall, SET, WANTED, 1);
            case JOBBER -> make(hall, JOB, WANTED, 1);
            case SCHEDULER -> hall.make(0, POD);
            case RUNNER -> {
                hall.make(0, POD);
                let(hall, SCHEDULER);
            }
            case COLLECTOR -> {
                let(hall, COLLECTOR);
                hall.delete(hall.make(0, SET), FOREGROUND);
            }
            case ROUTER -> {
                hall.make(0, ROUTE);
                runningPod(hall, 0);
            }
            default -> make(hall, DEPLOY, MOST, 1);
        }
        int other = hall.make(0, ROUTE);
        if (controller == ROUTER) {
            hall.delete(other, BACKGROUND);
            other = NODE_READY;
        }
        hall.see(controller, 400);
        fillLog(hall, other, version);
        return hall;
    }

    /** Its key is 1; the COLLECTOR and the ROUTER have another key behind that. */
    private static void worksFor1(ReconcilerHall hall, int controller) {
        due(1, hall.queued(controller, 0));
    }

    static void promise13_controllersWriteEvent400() {
        for (int controller = DEPLOYER; controller <= SCALER; controller++) {
            ReconcilerHall hall = hallOfOneWrite(controller, 399);
            worksFor1(hall, controller);
            due(LEFT, hall.work(controller));
            due(400, hall.version());
            due(0, hall.failures(controller, 1));
        }
    }

    static void promise13_controllersFailBehindAFullLog() {
        for (int controller = DEPLOYER; controller <= SCALER; controller++) {
            ReconcilerHall hall = hallOfOneWrite(controller, 400);
            worksFor1(hall, controller);
            int objects = hall.objects();
            due(BROKEN, hall.work(controller));
            due(1, hall.failures(controller, 1));
            due(400, hall.version());
            due(objects, hall.objects());
            hall.tick(1);
            while (hall.queued(controller, 0) != 1) {
                due(LEFT, hall.work(controller));
            }
            due(BROKEN, hall.work(controller));
            due(2, hall.failures(controller, 1));
        }
    }

    /** What is to be what it is already is no write, so that a full log does not matter. */
    static void promise13_controllersWithoutAWriteDoNotFailBehindAFullLog() {
        for (int controller = DEPLOYER; controller <= SCALER; controller++) {
            ReconcilerHall hall = hallOfOneWrite(controller, 250);
            due(LEFT, hall.work(controller));
            let(hall, controller);
            hall.hold(controller == COLLECTOR ? 0 : 1, true);
            fillLog(hall, 0, 400);
            hall.see(controller, 400);
            while (hall.queued(controller, 0) != NONE) {
                due(LEFT, hall.work(controller));
            }
            due(400, hall.version());
        }
    }

    static void promise24_event400IsWrittenAndTheNextOneLeftOut() {
        ReconcilerHall hall = new ReconcilerHall();
        hall.make(0, SET);
        for (int number = 1; number <= 3; number++) {
            hall.make(0, NODE);
        }
        fillLog(hall, 0, 398);
        due(20, hall.tick(20));
        due(398, hall.version());
        due(21, hall.tick(1));
        due(399, hall.versionOf(1));
        due(400, hall.versionOf(2));
        due(false, hall.isReady(2));
        due(true, hall.isReady(3));
        due(121, hall.tick(100));
        due(true, hall.isReady(3));
    }

    static void promise25_event400IsTakenAndTheNextOneRefused() {
        ReconcilerHall hall = new ReconcilerHall();
        hall.make(0, NODE);
        hall.make(0, NODE);
        hall.tick(21);
        fillLog(hall, 0, 399);
        due(false, hall.beat(0));
        due(400, hall.versionOf(0));
        refused(hall, STATE, () -> hall.beat(1));
        due(true, hall.beat(0));
        due(false, hall.isReady(1));
        untouched(FULL, STATE, one -> one.beat(NODE_SILENT));
        due(true, FULL.get().beat(NODE_READY));
    }

    static void promise27_event400IsTakenAndTheNextOneLeftOut() {
        ReconcilerHall hall = new ReconcilerHall();
        for (int number = 0; number < 3; number++) {
            hall.make(0, DEPLOY);
            hall.wish(number, 4);
        }
        fillLog(hall, 2, 399);
        due(1, hall.hub(false));
        due(4, hall.field(0, TEMPLATE));
        due(0, hall.field(1, TEMPLATE));
        due(0, hall.hub(false));
        due(0, hall.managerOf(1, TEMPLATE));
        due(400, hall.version());
        due(0, FULL.get().hub(false));
    }

    static void promise42_event400IsThere() {
        ReconcilerHall hall = filled(SET, 399);
        hall.hold(0, true);
        due(0, hall.objectOf(400));
        due(1, hall.objectOf(399));
        hall.compact(400);
        due(0, hall.objectOf(400));
        due(0, hall.objectOf(1));
        refused(hall, INDEX, () -> hall.objectOf(401));
    }

    // ---- the quota of PODs: 30 at first, 0 to 60

    static void promise02_the30thPodIsTakenAndTheNextOneRefused() {
        ReconcilerHall hall = new ReconcilerHall();
        for (int number = 0; number < 29; number++) {
            hall.make(0, POD);
        }
        due(29, hall.make(0, POD));
        refused(hall, STATE, () -> hall.make(0, POD));
        due(30, hall.make(0, JOB));
        due(30, hall.quota(31));
        due(31, hall.make(0, POD));
        refused(hall, STATE, () -> hall.make(0, POD));
    }

    static void promise02_podsThatAreGoneAreNotCounted() {
        ReconcilerHall hall = new ReconcilerHall();
        hall.quota(2);
        hall.make(0, POD);
        hall.make(0, POD);
        hall.hold(0, true);
        hall.delete(0, FOREGROUND);
        refused(hall, STATE, () -> hall.make(0, POD));
        hall.delete(1, BACKGROUND);
        due(GONE, hall.goingOf(1));
        due(2, hall.make(0, POD));
        refused(hall, STATE, () -> hall.make(0, POD));
    }

    static void promise11_theLeastAndTheGreatestQuota() {
        ReconcilerHall hall = new ReconcilerHall();
        hall.quota(0);
        refused(hall, STATE, () -> hall.make(0, POD));
        hall.quota(60);
        for (int number = 0; number < 60; number++) {
            due(number, hall.make(0, POD));
        }
        hall.quota(1);
        hall.delete(59, BACKGROUND);
        refused(hall, STATE, () -> hall.make(0, POD));
    }

    /** A quota below what there is takes no POD away, and lets none come, until enough of them are GONE. */
    static void promise11_aQuotaBelowWhatThereIs() {
        ReconcilerHall hall = new ReconcilerHall();
        for (int number = 0; number < 4; number++) {
            hall.make(0, POD);
        }
        due(30, hall.quota(3));
        due(4, hall.list(0));
        refused(hall, STATE, () -> hall.make(0, POD));
        hall.delete(0, BACKGROUND);
        refused(hall, STATE, () -> hall.make(0, POD));
        hall.delete(1, BACKGROUND);
        due(4, hall.make(0, POD));
    }

    /** Fields of PODs are applied whatever the quota is. */
    static void promise11_fieldsAreAppliedBeyondTheQuota() {
        ReconcilerHall hall = new ReconcilerHall();
        hall.make(0, POD);
        hall.quota(0);
        due(2, hall.apply(0, 0, TEMPLATE, 3, NONE, false));
        due(3, hall.field(0, TEMPLATE));
    }

    static void promise13_controllersMakePodsUpToTheQuota() {
        for (int controller = REPLICATOR; controller <= JOBBER; controller++) {
            ReconcilerHall hall = hallOfMakers(3);
            hall.make(0, POD);
            hall.see(controller, 400);
            hall.quota(1);
            due(BROKEN, hall.work(controller));
            due(1, hall.failures(controller, controller));
            due(4, hall.objects());
            hall.quota(2);
            hall.tick(1);
            due(LEFT, hall.work(controller));
            due(5, hall.objects());
            due(0, hall.failures(controller, controller));
        }
    }

    /** SETs that the DEPLOYER makes are no PODs. */
    static void promise13_theQuotaIsForPodsAlone() {
        ReconcilerHall hall = hallOfMakers(3);
        hall.quota(0);
        hall.see(DEPLOYER, 400);
        due(LEFT, hall.work(DEPLOYER));
        due(SET, hall.kindOf(3));
    }

    // ---- there can be 8 rules and 8 checks

    static void promise08_the8thRuleIsTakenAndTheNextOneRefused() {
        ReconcilerHall hall = new ReconcilerHall();
        for (int count = 1; count <= 8; count++) {
            due(count, hall.rule(NODE, ROOM, count - 1, count - 1, ZONE, count == 8 ? 2 : 0));
        }
        refused(hall, STATE, () -> hall.rule(NODE, ROOM, 4, 4, ZONE, 1));
        hall.make(0, NODE);
        due(0, hall.field(0, ZONE));
        put(hall, 0, ROOM, 7);
        due(2, hall.field(0, ZONE));
        due(8, hall.clear());
    }

    static void promise09_the8thCheckIsTakenAndTheNextOneRefused() {
        ReconcilerHall hall = new ReconcilerHall();
        for (int count = 1; count <= 8; count++) {
            due(count, hall.check(NODE, ROOM, count == 8 ? 5 : 9));
        }
        refused(hall, STATE, () -> hall.check(NODE, ROOM, 3));
        hall.make(0, NODE);
        put(hall, 0, ROOM, 5);
        refused(hall, STATE, () -> put(hall, 0, ROOM, 6));
        due(8, hall.clear());
    }

    /** Rules and checks are counted apart: 8 of both may be there at once. */
    static void promise10_clearTakesEightRulesAndEightChecksAway() {
        ReconcilerHall hall = new ReconcilerHall();
        due(0, hall.clear());
        for (int count = 1; count <= 8; count++) {
            due(count, hall.rule(POD, TEMPLATE, 0, 9, TEMPLATE, 1));
            due(count, hall.check(POD, TEMPLATE, 0));
        }
        refused(hall, STATE, () -> hall.make(0, POD));
        due(16, hall.clear());
        due(0, hall.clear());
        due(0, hall.make(0, POD));
        due(0, hall.field(0, TEMPLATE));
        due(1, hall.check(POD, TEMPLATE, 0));
        due(1, hall.clear());
        due(1, hall.rule(POD, TEMPLATE, 0, 9, TEMPLATE, 1));
        due(1, hall.clear());
    }

    // ---- ticks

    static void promise24_moreThan20TicksWithoutABeat() {
        ReconcilerHall hall = new ReconcilerHall();
        hall.tick(7);
        hall.make(0, NODE);
        hall.tick(20);
        due(true, hall.isReady(0));
        due(1, hall.version());
        hall.tick(1);
        due(false, hall.isReady(0));
        due(2, hall.version());
        hall.tick(100);
        due(2, hall.version());
    }

    /** Ticks that pass at once are ticks one by one: it falls silent at the same tick. */
    static void promise24_manyTicksAtOnce() {
        for (int ticks = 1; ticks <= 100; ticks++) {
            ReconcilerHall hall = new ReconcilerHall();
            hall.make(0, NODE);
            due(ticks, hall.tick(ticks));
            due(ticks <= 20, hall.isReady(0));
        }
    }

    static void promise24_theNodeThatWasSilentFirstIsWrittenFirst() {
        ReconcilerHall hall = new ReconcilerHall();
        hall.make(0, NODE);
        hall.make(0, NODE);
        hall.make(0, NODE);
        hall.tick(5);
        hall.beat(0);
        hall.tick(100);
        due(1, hall.objectOf(4));
        due(2, hall.objectOf(5));
        due(0, hall.objectOf(6));
        due(6, hall.version());
    }

    static void promise25_twentyTicksBehindABeat() {
        ReconcilerHall hall = new ReconcilerHall();
        hall.make(0, NODE);
        hall.tick(20);
        due(true, hall.beat(0));
        hall.tick(20);
        due(true, hall.isReady(0));
        hall.tick(1);
        due(false, hall.isReady(0));
        hall.tick(30);
        due(false, hall.beat(0));
        due(true, hall.isReady(0));
        hall.tick(20);
        due(true, hall.isReady(0));
        hall.tick(1);
        due(false, hall.isReady(0));
    }

    /** A beat that is refused is none: the NODE falls silent as if there had been no call. */
    static void promise25_refusedBeatsAreNone() {
        ReconcilerHall hall = new ReconcilerHall();
        hall.make(0, NODE);
        hall.make(0, POD);
        hall.tick(10);
        fails(INDEX, () -> hall.beat(2));
        fails(ARGUMENT, () -> hall.beat(1));
        hall.tick(10);
        due(true, hall.isReady(0));
        hall.tick(1);
        due(false, hall.isReady(0));
    }

    /** A NODE that is GOING has to beat as any other; what was written of it otherwise is no beat. */
    static void promise25_onlyBeatsAreBeats() {
        ReconcilerHall hall = new ReconcilerHall();
        hall.make(0, NODE);
        hall.make(0, NODE);
        hall.tick(15);
        hall.delete(0, FOREGROUND);
        put(hall, 1, ROOM, 5);
        hall.hold(1, true);
        hall.tick(6);
        due(false, hall.isReady(0));
        due(false, hall.isReady(1));
        due(false, hall.beat(0));
        due(true, hall.isReady(0));
    }
}
