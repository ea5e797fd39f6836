/** Promises 12 to 19: see, work, turn, seen, queued, failures, believed, isSettled; what each controller does is in WorkTest. */
public final class ControllersTest extends Suite {
    public static void main(String[] args) {
        run(ControllersTest.class);
    }

    /** The queue of a controller is just this. */
    private static void queue(ReconcilerHall hall, int controller, int... keys) {
        for (int place = 0; place < keys.length; place++) {
            due(keys[place], hall.queued(controller, place));
        }
        due(NONE, hall.queued(controller, keys.length));
    }

    // ---- see

    static void promise12_seesAtMostSoMany() {
        ReconcilerHall hall = new ReconcilerHall();
        for (int number = 0; number < 5; number++) {
            hall.make(0, DEPLOY);
        }
        due(2, hall.see(DEPLOYER, 2));
        due(2, hall.seen(DEPLOYER));
        queue(hall, DEPLOYER, 0, 1);
        due(1, hall.see(DEPLOYER, 1));
        due(2, hall.see(DEPLOYER, 400));
        due(0, hall.see(DEPLOYER, 400));
        due(5, hall.seen(DEPLOYER));
        due(0, hall.seen(SCALER));
        queue(hall, SCALER);
    }

    static void promise12_wrongArguments() {
        ReconcilerHall hall = new ReconcilerHall();
        hall.make(0, DEPLOY);
        refused(hall, ARGUMENT, () -> hall.see(-1, 1));
        refused(hall, ARGUMENT, () -> hall.see(8, 1));
        refused(hall, ARGUMENT, () -> hall.see(0, 0));
        refused(hall, ARGUMENT, () -> hall.see(0, -1));
        refused(hall, ARGUMENT, () -> hall.see(0, 401));
        due(1, hall.see(0, 1));
    }

    static void promise12_keysAreInTheQueueOnce() {
        ReconcilerHall hall = new ReconcilerHall();
        hall.make(0, SET);
        hall.make(0, SET);
        put(hall, 0, WANTED, 1);
        due(2, hall.see(REPLICATOR, 400));
        queue(hall, REPLICATOR, 0, 1);
        put(hall, 0, TEMPLATE, 1);
        due(0, hall.see(REPLICATOR, 400));
        queue(hall, REPLICATOR, 0, 1);
    }

    /** A PAUSED DEPLOY 0 with a SET 1 and its POD 2, and a JOB 3 with its POD 4. */
    private static ReconcilerHall hallOfOwners() {
        ReconcilerHall hall = new ReconcilerHall();
        hall.make(0, DEPLOY);
        let(hall, DEPLOYER);
        put(hall, 0, PAUSED, 1);
        put(hall, 1, WANTED, 1);
        let(hall, REPLICATOR);
        make(hall, JOB, WANTED, 1);
        let(hall, JOBBER);
        due(0, hall.ownerOf(1));
        due(1, hall.ownerOf(2));
        due(3, hall.ownerOf(4));
        return hall;
    }

    /** Lets one controller see all, and forgets the keys that come of that. */
    private static void drain(ReconcilerHall hall, int controller) {
        hall.see(controller, 400);
        for (int times = 0; times < 60 && hall.queued(controller, 0) != NONE; times++) {
            hall.work(controller);
            hall.see(controller, 400);
        }
        queue(hall, controller);
    }

    private static void keys(ReconcilerHall hall, int controller, int... keys) {
        hall.see(controller, 400);
        queue(hall, controller, keys);
    }

    static void promise12_keysOfTheDeployer() {
        ReconcilerHall hall = hallOfOwners();
        drain(hall, DEPLOYER);
        hall.hold(1, true);
        keys(hall, DEPLOYER, 0);
        drain(hall, DEPLOYER);
        hall.hold(2, true);
        keys(hall, DEPLOYER, 0);
        drain(hall, DEPLOYER);
        hall.hold(4, true);
        hall.make(0, POD);
        hall.make(0, SET);
        hall.make(0, NODE);
        keys(hall, DEPLOYER);
        hall.make(0, DEPLOY);
        hall.hold(0, true);
        keys(hall, DEPLOYER, 8, 0);
    }

    static void promise12_keysOfReplicatorAndJobber() {
        ReconcilerHall hall = hallOfOwners();
        drain(hall, REPLICATOR);
        drain(hall, JOBBER);
        hall.hold(2, true);
        keys(hall, REPLICATOR, 1);
        keys(hall, JOBBER);
        hall.hold(4, true);
        keys(hall, REPLICATOR, 1);
        keys(hall, JOBBER, 3);
    }

    /** A NODE brings the PODs that are to be placed as the controller has seen them, though they have a place by now. */
    static void promise12_keysOfTheScheduler() {
        ReconcilerHall hall = new ReconcilerHall();
        for (int number = 0; number < 4; number++) {
            hall.make(0, POD);
        }
        hall.delete(1, FOREGROUND);
        int node = make(hall, NODE, ROOM, 9);
        hall.make(0, SET);
        due(4, hall.see(SCHEDULER, 400));
        queue(hall, SCHEDULER, 0, 1, 2, 3);
        hall.hold(node, true);
        for (int key = 0; key < 4; key++) {
            due(LEFT, hall.work(SCHEDULER));
        }
        due(node, hall.placeOf(0));
        due(NONE, hall.placeOf(1));
        due(3, hall.see(SCHEDULER, 1));
        queue(hall, SCHEDULER, 0, 2, 3);
        drain(hall, SCHEDULER);
        hall.hold(node, false);
        hall.delete(0, FOREGROUND);
        keys(hall, SCHEDULER, 0);
    }

    static void promise12_keysOfTheRunner() {
        ReconcilerHall hall = new ReconcilerHall();
        int node = make(hall, NODE, ROOM, 9);
        int other = make(hall, NODE, ROOM, 1);
        int first = runningPod(hall, 0);
        int second = runningPod(hall, 0);
        hall.make(0, POD);
        drain(hall, RUNNER);
        hall.hold(node, true);
        keys(hall, RUNNER, first, second);
        drain(hall, RUNNER);
        hall.hold(other, true);
        keys(hall, RUNNER);
        hall.hold(second, true);
        keys(hall, RUNNER, second);
    }

    static void promise12_keysOfTheCollector() {
        ReconcilerHall hall = hallOfOwners();
        drain(hall, COLLECTOR);
        hall.hold(1, true);
        keys(hall, COLLECTOR, 1, 0, 2);
        drain(hall, COLLECTOR);
        hall.hold(3, true);
        keys(hall, COLLECTOR, 3, 4);
    }

    static void promise12_keysOfTheCollectorByRisingNumbers() {
        ReconcilerHall hall = new ReconcilerHall();
        int set = make(hall, SET, WANTED, 3);
        let(hall, REPLICATOR);
        drain(hall, COLLECTOR);
        hall.hold(set, true);
        keys(hall, COLLECTOR, set, 1, 2, 3);
    }

    static void promise12_keysOfTheRouter() {
        ReconcilerHall hall = new ReconcilerHall();
        hall.make(0, ROUTE);
        hall.make(0, ROUTE);
        hall.make(0, ROUTE);
        hall.make(0, SET);
        drain(hall, ROUTER);
        hall.delete(0, FOREGROUND);
        hall.delete(1, BACKGROUND);
        drain(hall, ROUTER);
        hall.make(0, POD);
        keys(hall, ROUTER, 0, 2);
        put(hall, 3, WANTED, 1);
        hall.hold(2, true);
        due(0, hall.see(ROUTER, 400));
    }

    static void promise12_keysOfTheScaler() {
        ReconcilerHall hall = hallOfOwners();
        drain(hall, SCALER);
        for (int object = 1; object < 5; object++) {
            hall.hold(object, true);
        }
        keys(hall, SCALER);
        hall.hold(0, true);
        keys(hall, SCALER, 0);
    }

    static void promise12_goneOnesTellOfTheOwnerAhead() {
        ReconcilerHall hall = hallOfOwners();
        drain(hall, DEPLOYER);
        drain(hall, REPLICATOR);
        drain(hall, COLLECTOR);
        drain(hall, JOBBER);
        hall.delete(2, BACKGROUND);
        due(NONE, hall.ownerOf(2));
        hall.see(DEPLOYER, 400);
        queue(hall, DEPLOYER, 0);
        hall.see(REPLICATOR, 400);
        queue(hall, REPLICATOR, 1);
        hall.see(COLLECTOR, 400);
        queue(hall, COLLECTOR, 2, 1);
        hall.delete(4, BACKGROUND);
        hall.see(JOBBER, 400);
        queue(hall, JOBBER, 3);
    }

    static void promise12_disownedOnesTellOfTheOwnerAhead() {
        ReconcilerHall hall = hallOfOwners();
        drain(hall, COLLECTOR);
        hall.delete(3, ORPHAN);
        drain(hall, JOBBER);
        hall.see(COLLECTOR, 400);
        due(LEFT, hall.work(COLLECTOR));
        due(NONE, hall.ownerOf(4));
        hall.see(JOBBER, 400);
        queue(hall, JOBBER, 3);
        drain(hall, JOBBER);
        hall.hold(4, true);
        due(0, hall.see(JOBBER, 400));
    }

    static void promise12_listsBehindCompactedEvents() {
        ReconcilerHall hall = new ReconcilerHall();
        for (int kind = 0; kind < 6; kind++) {
            hall.make(0, kind);
            hall.make(0, kind);
        }
        hall.delete(0, BACKGROUND);
        hall.compact(1);
        int[][] keys = {{1}, {2, 3}, {6, 7}, {4, 5}, {4, 5}, {1, 2, 3, 4, 5, 6, 7, 8, 9, 10, 11}, {10, 11}, {1}};
        for (int controller = 0; controller < 8; controller++) {
            due(keys[controller].length, hall.see(controller, 1));
            queue(hall, controller, keys[controller]);
            due(13, hall.seen(controller));
            due(0, hall.believed(controller, 0, WANTED));
        }
    }

    /** Only events that were not seen matter, and keys in the queue stay where they are. */
    static void promise12_listsOnlyIfItMissedSomething() {
        ReconcilerHall hall = new ReconcilerHall();
        hall.make(0, SET);
        hall.make(0, SET);
        hall.make(0, SET);
        hall.see(REPLICATOR, 2);
        hall.work(REPLICATOR);
        queue(hall, REPLICATOR, 1);
        hall.compact(2);
        due(1, hall.see(REPLICATOR, 1));
        queue(hall, REPLICATOR, 1, 2);
        hall.make(0, SET);
        hall.make(0, SET);
        hall.compact(4);
        due(3, hall.see(REPLICATOR, 1));
        queue(hall, REPLICATOR, 1, 2, 0, 3, 4);
        due(5, hall.seen(REPLICATOR));
    }

    // ---- work

    static void promise13_idleAndLeft() {
        ReconcilerHall hall = new ReconcilerHall();
        hall.make(0, SET);
        due(IDLE, hall.work(REPLICATOR));
        hall.see(REPLICATOR, 1);
        due(LEFT, hall.work(REPLICATOR));
        due(IDLE, hall.work(REPLICATOR));
        due(1, hall.version());
        refused(hall, ARGUMENT, () -> hall.work(-1));
        refused(hall, ARGUMENT, () -> hall.work(8));
    }

    static void promise13_waitsForWhatItHasWritten() {
        ReconcilerHall hall = new ReconcilerHall();
        hall.make(0, SET);
        hall.make(0, SET);
        put(hall, 0, WANTED, 2);
        hall.see(REPLICATOR, 400);
        due(LEFT, hall.work(REPLICATOR));
        put(hall, 0, TEMPLATE, 2);
        put(hall, 0, TEMPLATE, 3);
        due(LEFT, hall.work(REPLICATOR));
        due(4, hall.versionOf(2));
        hall.make(0, SET);
        hall.see(REPLICATOR, 1);
        due(4, hall.seen(REPLICATOR));
        queue(hall, REPLICATOR, 0);
        due(LEFT, hall.work(REPLICATOR));
        due(8, hall.version());
        due(1, hall.see(REPLICATOR, 1));
        due(PUT_OFF, hall.work(REPLICATOR));
        due(PUT_OFF, hall.work(REPLICATOR));
        hall.see(REPLICATOR, 2);
        queue(hall, REPLICATOR, 0, 3);
        due(PUT_OFF, hall.work(REPLICATOR));
        queue(hall, REPLICATOR, 3, 0);
        due(LEFT, hall.work(REPLICATOR));
        due(8, hall.version());
        due(0, hall.failures(REPLICATOR, 0));
        hall.see(REPLICATOR, 1);
        due(LEFT, hall.work(REPLICATOR));
        due(8, hall.version());
    }

    /** Only the writes for this key matter, not those for other keys. */
    static void promise13_otherKeysDoNotWait() {
        ReconcilerHall hall = new ReconcilerHall();
        make(hall, SET, WANTED, 1);
        make(hall, SET, WANTED, 1);
        hall.see(REPLICATOR, 400);
        due(LEFT, hall.work(REPLICATOR));
        due(LEFT, hall.work(REPLICATOR));
        due(4, hall.objects());
    }

    /** Without a write there is nothing to wait for, though the controller has not seen all. */
    static void promise13_waitsForNothingElse() {
        ReconcilerHall hall = new ReconcilerHall();
        for (int number = 0; number < 3; number++) {
            hall.make(0, SET);
        }
        hall.hold(0, true);
        hall.hold(0, false);
        hall.see(REPLICATOR, 3);
        for (int key = 0; key < 3; key++) {
            due(LEFT, hall.work(REPLICATOR));
        }
        hall.see(REPLICATOR, 1);
        due(LEFT, hall.work(REPLICATOR));
    }

    /** The key whose time has come may be the last one of a full queue. */
    static void promise13_theLastOfSixtyKeys() {
        ReconcilerHall hall = new ReconcilerHall();
        hall.quota(60);
        for (int pod = 0; pod < 59; pod++) {
            hall.make(0, POD);
        }
        hall.see(SCHEDULER, 400);
        for (int pod = 0; pod < 59; pod++) {
            due(BROKEN, hall.work(SCHEDULER));
        }
        hall.make(0, POD);
        due(1, hall.see(SCHEDULER, 400));
        due(BROKEN, hall.work(SCHEDULER));
        due(IDLE, hall.work(SCHEDULER));
        due(59, hall.queued(SCHEDULER, 59));
        due(NONE, hall.queued(SCHEDULER, 60));
        due(0, hall.queued(SCHEDULER, 0));
    }

    static void promise13_failuresWaitLongerAndLonger() {
        ReconcilerHall hall = new ReconcilerHall();
        hall.make(0, POD);
        hall.see(SCHEDULER, 1);
        int[] delays = {1, 2, 4, 8, 16, 16, 16};
        for (int time = 0; time < delays.length; time++) {
            due(BROKEN, hall.work(SCHEDULER));
            due(time + 1, hall.failures(SCHEDULER, 0));
            due(IDLE, hall.work(SCHEDULER));
            queue(hall, SCHEDULER, 0);
            if (delays[time] > 1) {
                hall.tick(delays[time] - 1);
                due(IDLE, hall.work(SCHEDULER));
            }
            hall.tick(1);
        }
        hall.make(0, NODE);
        hall.see(SCHEDULER, 1);
        due(LEFT, hall.work(SCHEDULER));
        due(0, hall.failures(SCHEDULER, 0));
        due(1, hall.placeOf(0));
    }

    /** The first key whose time has come is taken, though others stand ahead of it. */
    static void promise13_keysAheadMayHaveToWait() {
        ReconcilerHall hall = new ReconcilerHall();
        make(hall, POD, TEMPLATE, 2);
        hall.make(0, POD);
        make(hall, NODE, ROOM, 2);
        hall.see(SCHEDULER, 2);
        due(BROKEN, hall.work(SCHEDULER));
        hall.see(SCHEDULER, 400);
        queue(hall, SCHEDULER, 0, 1);
        due(LEFT, hall.work(SCHEDULER));
        due(2, hall.placeOf(1));
        queue(hall, SCHEDULER, 0);
    }

    static void promise13_otherVersionsBreakIt() {
        ReconcilerHall hall = new ReconcilerHall();
        hall.make(0, NODE);
        hall.make(0, POD);
        hall.see(SCHEDULER, 400);
        hall.hold(1, true);
        due(BROKEN, hall.work(SCHEDULER));
        due(NONE, hall.placeOf(1));
        due(1, hall.failures(SCHEDULER, 1));
        hall.see(SCHEDULER, 400);
        hall.tick(1);
        hall.hold(0, true);
        due(LEFT, hall.work(SCHEDULER));
        due(0, hall.placeOf(1));
        due(0, hall.failures(SCHEDULER, 1));
    }

    static void promise13_admissionBreaksIt() {
        ReconcilerHall hall = new ReconcilerHall();
        make(hall, DEPLOY, TEMPLATE, 3);
        hall.check(SET, TEMPLATE, 2);
        hall.see(DEPLOYER, 400);
        due(BROKEN, hall.work(DEPLOYER));
        due(1, hall.objects());
        hall.clear();
        hall.tick(1);
        due(LEFT, hall.work(DEPLOYER));
        due(2, hall.objects());
    }

    static void promise13_rulesChangeWhatControllersMake() {
        ReconcilerHall hall = new ReconcilerHall();
        make(hall, SET, WANTED, 1);
        hall.rule(POD, TEMPLATE, 0, 0, TEMPLATE, 5);
        let(hall, REPLICATOR);
        due(5, hall.field(1, TEMPLATE));
        due(4, hall.managerOf(1, TEMPLATE));
    }

    /** A write by which nothing becomes another one is none, but it does not break it. */
    static void promise13_writesThatAreNone() {
        ReconcilerHall hall = new ReconcilerHall();
        int deploy = make(hall, DEPLOY, MOST, 5, LOAD, 30);
        hall.apply(0, deploy, WANTED, 1, NONE, true);
        hall.see(SCALER, 400);
        due(LEFT, hall.work(SCALER));
        due(3, hall.field(deploy, WANTED));
        hall.rule(DEPLOY, WANTED, 0, 5, WANTED, 3);
        put(hall, deploy, LOAD, 50);
        int version = hall.version();
        hall.see(SCALER, 400);
        due(LEFT, hall.work(SCALER));
        due(version, hall.version());
        due(0, hall.failures(SCALER, deploy));
    }

    static void promise13_fullLogAndSixtyObjectsBreakIt() {
        ReconcilerHall hall = new ReconcilerHall();
        make(hall, SET, WANTED, 1);
        for (int number = 1; number < 60; number++) {
            hall.make(0, NODE);
        }
        hall.see(REPLICATOR, 400);
        due(BROKEN, hall.work(REPLICATOR));
        hall = new ReconcilerHall();
        make(hall, SET, WANTED, 1);
        fillLog(hall, 0, 400);
        hall.see(REPLICATOR, 400);
        due(BROKEN, hall.work(REPLICATOR));
        due(1, hall.objects());
        ReconcilerHall other = new ReconcilerHall();
        other.make(0, SET);
        fillLog(other, 0, 400);
        other.see(REPLICATOR, 400);
        due(LEFT, other.work(REPLICATOR));
    }

    // ---- turn

    static void promise14_controllersByRisingNumbers() {
        ReconcilerHall hall = new ReconcilerHall();
        hall.make(0, NODE);
        make(hall, DEPLOY, WANTED, 1);
        due(1, hall.turn(1));
        due(4, hall.turn(1));
        due(RUNNING, hall.phaseOf(3));
        due(0, hall.turn(1));
        due(true, hall.isSettled());
    }

    static void promise14_timesAddUp() {
        ReconcilerHall hall = new ReconcilerHall();
        hall.make(0, NODE);
        make(hall, DEPLOY, WANTED, 2);
        due(8, hall.turn(10));
        due(11, hall.version());
        due(true, hall.isSettled());
        due(0, hall.turn(1));
        refused(hall, ARGUMENT, () -> hall.turn(0));
        refused(hall, ARGUMENT, () -> hall.turn(11));
        refused(hall, ARGUMENT, () -> hall.turn(-1));
    }

    /** Each key of the queue has its turn, even if some are put off or fail; and no more than that. */
    static void promise14_worksAsOftenAsThereAreKeys() {
        ReconcilerHall hall = new ReconcilerHall();
        make(hall, SET, WANTED, 5);
        make(hall, SET, WANTED, 5);
        due(2, hall.turn(1));
        due(2, hall.turn(1));
        due(6, hall.objects());
        for (int pod = 2; pod < 6; pod++) {
            due(true, hall.failures(SCHEDULER, pod) > 0);
        }
    }

    static void promise14_seesAllBehindCompactedEvents() {
        ReconcilerHall hall = new ReconcilerHall();
        hall.make(0, NODE);
        make(hall, DEPLOY, WANTED, 1);
        hall.compact(3);
        due(1, hall.turn(1));
        hall.compact(4);
        due(4, hall.turn(10));
        due(true, hall.isSettled());
    }

    // ---- what can be read of controllers

    static void promise15_seen() {
        ReconcilerHall hall = new ReconcilerHall();
        hall.make(0, NODE);
        hall.make(0, NODE);
        hall.see(ROUTER, 1);
        due(1, hall.seen(ROUTER));
        due(0, hall.seen(COLLECTOR));
        hall.compact(2);
        hall.see(COLLECTOR, 1);
        due(2, hall.seen(COLLECTOR));
        refused(hall, ARGUMENT, () -> hall.seen(-1));
        refused(hall, ARGUMENT, () -> hall.seen(8));
    }

    static void promise16_queued() {
        ReconcilerHall hall = new ReconcilerHall();
        hall.make(0, NODE);
        hall.make(0, ROUTE);
        hall.see(COLLECTOR, 2);
        due(0, hall.queued(COLLECTOR, 0));
        due(1, hall.queued(COLLECTOR, 1));
        due(NONE, hall.queued(COLLECTOR, 2));
        due(NONE, hall.queued(COLLECTOR, Integer.MAX_VALUE));
        refused(hall, INDEX, () -> hall.queued(COLLECTOR, -1));
        refused(hall, INDEX, () -> hall.queued(COLLECTOR, Integer.MIN_VALUE));
        refused(hall, ARGUMENT, () -> hall.queued(8, -1));
        refused(hall, ARGUMENT, () -> hall.queued(-1, 0));
    }

    static void promise17_failures() {
        ReconcilerHall hall = new ReconcilerHall();
        hall.make(0, POD);
        hall.make(0, POD);
        hall.see(SCHEDULER, 1);
        hall.work(SCHEDULER);
        due(1, hall.failures(SCHEDULER, 0));
        due(0, hall.failures(SCHEDULER, 1));
        due(0, hall.failures(RUNNER, 0));
        refused(hall, ARGUMENT, () -> hall.failures(8, 9));
        refused(hall, ARGUMENT, () -> hall.failures(-1, 0));
        refused(hall, INDEX, () -> hall.failures(SCHEDULER, 2));
        refused(hall, INDEX, () -> hall.failures(SCHEDULER, -1));
    }

    static void promise18_believed() {
        ReconcilerHall hall = new ReconcilerHall();
        hall.make(0, NODE);
        put(hall, 0, ROOM, 7);
        hall.delete(0, BACKGROUND);
        due(NONE, hall.believed(RUNNER, 0, ROOM));
        hall.see(RUNNER, 1);
        due(4, hall.believed(RUNNER, 0, ROOM));
        due(NONE, hall.believed(SCHEDULER, 0, ROOM));
        hall.see(RUNNER, 1);
        due(7, hall.believed(RUNNER, 0, ROOM));
        hall.see(RUNNER, 1);
        due(7, hall.believed(RUNNER, 0, ROOM));
        hall.compact(3);
        hall.see(SCHEDULER, 1);
        due(7, hall.believed(SCHEDULER, 0, ROOM));
        refused(hall, ARGUMENT, () -> hall.believed(8, 5, ROOM));
        refused(hall, ARGUMENT, () -> hall.believed(-1, 0, ROOM));
        refused(hall, ARGUMENT, () -> hall.believed(RUNNER, 0, WANTED));
        refused(hall, ARGUMENT, () -> hall.believed(RUNNER, 0, 11));
        refused(hall, INDEX, () -> hall.believed(RUNNER, 1, ROOM));
        refused(hall, INDEX, () -> hall.believed(RUNNER, -1, ROOM));
    }

    static void promise19_isSettled() {
        ReconcilerHall hall = new ReconcilerHall();
        due(true, hall.isSettled());
        hall.make(0, NODE);
        due(false, hall.isSettled());
        for (int controller = 0; controller < 8; controller++) {
            due(false, hall.isSettled());
            hall.see(controller, 1);
        }
        due(false, hall.isSettled());
        due(LEFT, hall.work(COLLECTOR));
        due(true, hall.isSettled());
        hall.hold(0, true);
        due(false, hall.isSettled());
    }

    /** The queue of each controller counts. */
    static void promise19_oneKeyIsEnough() {
        for (int last = 0; last < 8; last++) {
            ReconcilerHall hall = new ReconcilerHall();
            int[] kinds = {DEPLOY, SET, JOB, POD, POD, NODE, ROUTE, DEPLOY};
            hall.make(0, kinds[last]);
            put(hall, 0, kinds[last] == NODE ? ROOM : TEMPLATE, 1);
            if (kinds[last] == DEPLOY) {
                put(hall, 0, PAUSED, 1);
            }
            hall.delete(0, BACKGROUND);
            for (int controller = 0; controller < 8; controller++) {
                hall.see(controller, 400);
                if (controller != last) {
                    hall.work(controller);
                }
            }
            due(false, hall.isSettled());
            due(LEFT, hall.work(last));
            due(true, hall.isSettled());
        }
    }
}
