/** Controllers at their edges, by promise: queues, what is seen, what was compacted, failures and times. */
public final class ControllerEdgesTest extends Twins {
    public static void main(String[] args) {
        run(ControllerEdgesTest.class);
    }

    private static void queue(ReconcilerHall hall, int controller, int... keys) {
        for (int place = 0; place < keys.length; place++) {
            due(keys[place], hall.queued(controller, place));
        }
        due(NONE, hall.queued(controller, keys.length));
    }

    private static void work(ReconcilerHall hall, int controller, int... outcomes) {
        for (int outcome : outcomes) {
            due(outcome, hall.work(controller));
        }
    }

    // ---- keys, each at most once

    /** Events of the same object, one by one and all at once. */
    static void promise12_aKeyIsInTheQueueOnce() {
        int[] kinds = {DEPLOY, SET, JOB, POD, POD, NODE, ROUTE, DEPLOY};
        for (int controller = 0; controller < 8; controller++) {
            ReconcilerHall hall = new ReconcilerHall();
            hall.make(0, kinds[controller]);
            fillLog(hall, 0, 20);
            due(1, hall.see(controller, 5));
            due(0, hall.see(controller, 5));
            due(0, hall.see(controller, 400));
            queue(hall, controller, 0);
            hall.hold(0, false);
            hall.see(controller, 400);
            hall.compact(hall.version());
            hall.hold(0, true);
            hall.compact(hall.version());
            due(0, hall.see(controller, 1));
            queue(hall, controller, 0);
        }
    }

    /** A key that has failed, or was put off, is in the queue already. */
    static void promise12_aKeyThatStaysIsInTheQueueOnce() {
        ReconcilerHall hall = new ReconcilerHall();
        hall.make(0, POD);
        hall.make(0, POD);
        hall.see(SCHEDULER, 1);
        work(hall, SCHEDULER, BROKEN);
        hall.hold(0, true);
        due(1, hall.see(SCHEDULER, 400));
        queue(hall, SCHEDULER, 0, 1);
        ReconcilerHall rich = RICH.get();
        queue(rich, JOBBER, JOB_PUT_OFF);
        work(rich, JOBBER, PUT_OFF, PUT_OFF);
        queue(rich, JOBBER, JOB_PUT_OFF);
        due(0, rich.see(JOBBER, 400));
        queue(rich, JOBBER, JOB_PUT_OFF);
    }

    /** When it has left the queue, a key comes again. */
    static void promise12_aKeyThatHasLeftComesAgain() {
        ReconcilerHall hall = new ReconcilerHall();
        hall.make(0, SET);
        hall.make(0, SET);
        due(2, hall.see(REPLICATOR, 400));
        work(hall, REPLICATOR, LEFT);
        hall.hold(0, true);
        due(1, hall.see(REPLICATOR, 400));
        queue(hall, REPLICATOR, 1, 0);
        work(hall, REPLICATOR, LEFT, LEFT, IDLE);
    }

    // ---- if events that a controller has not seen were compacted, it lists

    /** Events that it has seen may be compacted; if one behind that is compacted, it lists. */
    static void promise12_listsIfOneEventMoreIsCompacted() {
        for (int controller = 0; controller < 8; controller++) {
            for (int compacted = 2; compacted <= 5; compacted++) {
                ReconcilerHall hall = new ReconcilerHall();
                for (int number = 0; number < 5; number++) {
                    hall.make(0, ROUTE);
                }
                hall.see(controller, 3);
                while (hall.queued(controller, 0) != NONE) {
                    hall.work(controller);
                }
                hall.compact(compacted);
                int all = controller == COLLECTOR || controller == ROUTER ? 5 : 0;
                int next = controller == COLLECTOR || controller == ROUTER ? 1 : 0;
                due(compacted > 3 ? all : next, hall.see(controller, 1));
                due(compacted > 3 ? 5 : 4, hall.seen(controller));
            }
        }
    }

    /** If it lists, it does not matter how many events it may see at most. */
    static void promise12_listsWhateverItMaySee() {
        for (int many : new int[] {1, 2, 399, 400}) {
            ReconcilerHall hall = new ReconcilerHall();
            for (int number = 0; number < 6; number++) {
                hall.make(0, SET);
            }
            hall.compact(1);
            due(6, hall.see(REPLICATOR, many));
            due(6, hall.seen(REPLICATOR));
            queue(hall, REPLICATOR, 0, 1, 2, 3, 4, 5);
        }
    }

    /** Though it does not matter how many they are, there have to be 1 to 400. */
    static void promise12_noOtherNumbersIfItLists() {
        ReconcilerHall hall = new ReconcilerHall();
        hall.make(0, SET);
        hall.compact(1);
        for (int many : new int[] {LOWEST, -1, 0, 401, GREATEST}) {
            refused(hall, ARGUMENT, () -> hall.see(REPLICATOR, many));
        }
        due(1, hall.see(REPLICATOR, 400));
    }

    /** It lists the objects that are not GONE then, though it has not seen when they became so. */
    static void promise12_listsWhatIsNotGone() {
        ReconcilerHall hall = new ReconcilerHall();
        for (int number = 0; number < 4; number++) {
            hall.make(0, SET);
        }
        hall.delete(1, BACKGROUND);
        hall.delete(2, FOREGROUND);
        hall.compact(1);
        due(3, hall.see(COLLECTOR, 1));
        queue(hall, COLLECTOR, 0, 2, 3);
        due(3, hall.see(REPLICATOR, 1));
        queue(hall, REPLICATOR, 0, 2, 3);
    }

    /** A key that is in the queue stays there, GONE or not. */
    static void promise12_listingTakesNoKeyAway() {
        ReconcilerHall hall = new ReconcilerHall();
        hall.make(0, SET);
        hall.make(0, SET);
        hall.see(REPLICATOR, 400);
        hall.delete(0, BACKGROUND);
        hall.make(0, SET);
        hall.compact(4);
        due(1, hall.see(REPLICATOR, 1));
        queue(hall, REPLICATOR, 0, 1, 2);
        work(hall, REPLICATOR, LEFT, LEFT, LEFT, IDLE);
    }

    /** What it has written counts as seen, if it has listed behind that. */
    static void promise13_listingSeesWhatItHasWritten() {
        ReconcilerHall hall = RICH.get();
        work(hall, JOBBER, PUT_OFF);
        hall.compact(hall.version());
        due(1, hall.see(JOBBER, 1));
        queue(hall, JOBBER, JOB_PUT_OFF, JOB_STAYING);
        work(hall, JOBBER, LEFT, LEFT, IDLE);
    }

    // ---- the latest write that was made for a key is not seen yet

    /** Up to the event ahead of its write it is put off, and with its write it works. */
    static void promise13_oneEventIsEnoughToWaitFor() {
        ReconcilerHall hall = new ReconcilerHall();
        hall.make(0, SET);
        put(hall, 0, WANTED, 1);
        put(hall, 0, WANTED, 2);
        hall.see(REPLICATOR, 2);
        work(hall, REPLICATOR, LEFT);
        due(4, hall.versionOf(1));
        hall.see(REPLICATOR, 1);
        due(3, hall.seen(REPLICATOR));
        work(hall, REPLICATOR, PUT_OFF, PUT_OFF);
        due(4, hall.version());
        hall.see(REPLICATOR, 1);
        due(4, hall.seen(REPLICATOR));
        work(hall, REPLICATOR, LEFT);
        due(3, hall.objects());
        due(0, hall.ownerOf(2));
    }

    /** A controller of which the key 1 has come again, by an event behind which its own write for it stands. */
    private static ReconcilerHall cameAgain(int controller) {
        ReconcilerHall hall = new ReconcilerHall();
        make(hall, NODE, ROOM, 9);
        int[] kinds = {DEPLOY, SET, JOB, POD, POD, SET, ROUTE};
        make(hall, kinds[controller], TEMPLATE, 1);
        int other = 1;
        if (controller == REPLICATOR || controller == JOBBER) {
            put(hall, 1, WANTED, 2);
        } else if (controller == SCHEDULER) {
            other = 0;
        } else if (controller == RUNNER) {
            other = 0;
            let(hall, SCHEDULER);
        } else if (controller == COLLECTOR) {
            put(hall, 1, WANTED, 1);
            let(hall, REPLICATOR, COLLECTOR);
            hall.delete(1, FOREGROUND);
        } else if (controller == ROUTER) {
            other = runningPod(hall, 1);
        }
        hall.see(controller, 400);
        while (hall.queued(controller, 0) != 1) {
            due(LEFT, hall.work(controller));
        }
        hall.hold(other, true);
        int version = hall.version();
        due(LEFT, hall.work(controller));
        due(version + 1, hall.version());
        while (hall.queued(controller, 0) != NONE) {
            due(LEFT, hall.work(controller));
        }
        due(true, hall.see(controller, 1) > 0);
        due(version, hall.seen(controller));
        return hall;
    }

    /** For each controller but the SCALER, whose key comes by the very object that it writes. */
    static void promise13_eachControllerWaitsForItsWrite() {
        for (int controller = DEPLOYER; controller <= ROUTER; controller++) {
            ReconcilerHall hall = cameAgain(controller);
            int version = hall.version();
            int times = 0;
            for (int place = 0; hall.queued(controller, place) != NONE; place++) {
                times = hall.queued(controller, place) == 1 ? place + 1 : times;
            }
            due(true, times > 0);
            for (int time = 1; time < times; time++) {
                due(LEFT, hall.work(controller));
            }
            due(PUT_OFF, hall.work(controller));
            due(version, hall.version());
            due(0, hall.failures(controller, 1));
            hall.see(controller, 1);
            due(version, hall.seen(controller));
            while (hall.queued(controller, 0) != NONE) {
                due(LEFT, hall.work(controller));
            }
        }
    }

    /** Of several writes for a key the latest one counts. */
    static void promise13_theLatestOfSeveralWritesCounts() {
        ReconcilerHall hall = new ReconcilerHall();
        make(hall, NODE, ROOM, 2);
        int first = runningPod(hall, 0);
        int second = runningPod(hall, 0);
        int pod = make(hall, POD, TEMPLATE, 4);
        hall.see(SCHEDULER, 400);
        queue(hall, SCHEDULER, second, pod);
        work(hall, SCHEDULER, LEFT, BROKEN);
        due(BACKGROUND, hall.goingOf(first));
        due(BACKGROUND, hall.goingOf(second));
        int latest = hall.version();
        hall.tick(1);
        work(hall, SCHEDULER, PUT_OFF);
        hall.see(SCHEDULER, 1);
        due(latest - 1, hall.seen(SCHEDULER));
        queue(hall, SCHEDULER, pod, second);
        work(hall, SCHEDULER, PUT_OFF);
        due(1, hall.failures(SCHEDULER, pod));
        hall.see(SCHEDULER, 1);
        due(latest, hall.seen(SCHEDULER));
        queue(hall, SCHEDULER, second, pod, first);
        work(hall, SCHEDULER, LEFT, BROKEN);
        due(2, hall.failures(SCHEDULER, pod));
        due(latest, hall.version());
    }

    /** A key that is put off does not fail by that, and its failures stay. */
    static void promise13_puttingOffIsNoFailure() {
        ReconcilerHall hall = RICH.get();
        work(hall, JOBBER, PUT_OFF, PUT_OFF, PUT_OFF);
        due(0, hall.failures(JOBBER, JOB_PUT_OFF));
        due(54, hall.version());
    }

    // ---- a write is refused if the object has another version by now than the controller has seen

    static void promise13_theDeployerWritesNoSetOfAnotherVersion() {
        ReconcilerHall hall = new ReconcilerHall();
        make(hall, DEPLOY, WANTED, 2);
        let(hall, DEPLOYER);
        put(hall, 1, WANTED, 4);
        hall.see(DEPLOYER, 400);
        hall.hold(1, true);
        work(hall, DEPLOYER, BROKEN);
        due(4, hall.field(1, WANTED));
        due(1, hall.failures(DEPLOYER, 0));
        hall.tick(1);
        hall.see(DEPLOYER, 400);
        work(hall, DEPLOYER, LEFT);
        due(2, hall.field(1, WANTED));
    }

    /** Only what is written counts: the DEPLOY, the SET or the JOB itself may have another version. */
    static void promise13_keysThatAreNotWrittenMayHaveAnotherVersion() {
        int[] kinds = {DEPLOY, SET, JOB};
        for (int controller = DEPLOYER; controller <= JOBBER; controller++) {
            ReconcilerHall hall = new ReconcilerHall();
            make(hall, kinds[controller], WANTED, 1);
            hall.see(controller, 400);
            put(hall, 0, TEMPLATE, 7);
            hall.delete(0, FOREGROUND);
            work(hall, controller, LEFT);
            due(2, hall.objects());
            due(0, hall.field(1, TEMPLATE));
        }
    }

    static void promise13_theReplicatorDeletesNoPodOfAnotherVersion() {
        ReconcilerHall hall = new ReconcilerHall();
        make(hall, SET, WANTED, 1);
        let(hall, REPLICATOR);
        put(hall, 0, WANTED, 0);
        hall.see(REPLICATOR, 400);
        put(hall, 1, TEMPLATE, 1);
        work(hall, REPLICATOR, BROKEN);
        due(STAYING, hall.goingOf(1));
        hall.tick(1);
        hall.see(REPLICATOR, 400);
        work(hall, REPLICATOR, LEFT);
        due(GONE, hall.goingOf(1));
    }

    static void promise13_theSchedulerPlacesNoPodOfAnotherVersion() {
        ReconcilerHall hall = new ReconcilerHall();
        hall.make(0, NODE);
        hall.make(0, POD);
        hall.see(SCHEDULER, 400);
        put(hall, 1, TEMPLATE, 1);
        work(hall, SCHEDULER, BROKEN);
        due(NONE, hall.placeOf(1));
        hall.tick(1);
        hall.see(SCHEDULER, 400);
        work(hall, SCHEDULER, LEFT);
        due(0, hall.placeOf(1));
    }

    static void promise13_theRunnerRunsNoPodOfAnotherVersion() {
        ReconcilerHall hall = new ReconcilerHall();
        hall.make(0, NODE);
        hall.make(0, POD);
        let(hall, SCHEDULER);
        hall.see(RUNNER, 400);
        hall.hold(1, true);
        work(hall, RUNNER, BROKEN);
        due(WAITING, hall.phaseOf(1));
        hall.tick(1);
        hall.see(RUNNER, 400);
        work(hall, RUNNER, LEFT);
        due(RUNNING, hall.phaseOf(1));
        hall.delete(1, FOREGROUND);
        hall.see(RUNNER, 400);
        hall.hold(1, false);
        work(hall, RUNNER, BROKEN);
        due(0, hall.placeOf(1));
        due(FOREGROUND, hall.goingOf(1));
    }

    static void promise13_theCollectorClearsNoObjectOfAnotherVersion() {
        ReconcilerHall hall = new ReconcilerHall();
        hall.make(0, SET);
        hall.delete(0, FOREGROUND);
        hall.see(COLLECTOR, 400);
        put(hall, 0, WANTED, 1);
        work(hall, COLLECTOR, BROKEN);
        due(FOREGROUND, hall.goingOf(0));
        due(1, hall.failures(COLLECTOR, 0));
        hall.tick(1);
        hall.see(COLLECTOR, 400);
        work(hall, COLLECTOR, LEFT);
        due(GONE, hall.goingOf(0));
    }

    static void promise13_theRouterWritesNoRouteOfAnotherVersion() {
        ReconcilerHall hall = new ReconcilerHall();
        hall.make(0, ROUTE);
        hall.make(0, NODE);
        int pod = runningPod(hall, 0);
        hall.see(ROUTER, 400);
        hall.hold(0, true);
        work(hall, ROUTER, BROKEN);
        due(false, hall.isBehind(0, pod));
        hall.tick(1);
        hall.see(ROUTER, 400);
        work(hall, ROUTER, LEFT);
        due(true, hall.isBehind(0, pod));
    }

    static void promise13_theScalerWritesNoDeployOfAnotherVersion() {
        ReconcilerHall hall = new ReconcilerHall();
        make(hall, DEPLOY, MOST, 4);
        hall.see(SCALER, 400);
        put(hall, 0, LOAD, 35);
        work(hall, SCALER, BROKEN);
        due(0, hall.field(0, WANTED));
        hall.tick(1);
        hall.see(SCALER, 400);
        work(hall, SCALER, LEFT);
        due(4, hall.field(0, WANTED));
    }

    /** Where nothing is to be written, another version by now does not matter. */
    static void promise13_anotherVersionDoesNotMatterWithoutAWrite() {
        int[] kinds = {DEPLOY, SET, JOB, POD, POD, SET, ROUTE, DEPLOY};
        for (int controller = 0; controller < 8; controller++) {
            ReconcilerHall hall = new ReconcilerHall();
            hall.make(0, NODE);
            hall.make(0, kinds[controller]);
            hall.turn(3);
            due(true, hall.isSettled());
            hall.hold(1, true);
            due(1, hall.see(controller, 1));
            hall.hold(1, false);
            int version = hall.version();
            work(hall, controller, LEFT, IDLE);
            due(version, hall.version());
        }
    }

    // ---- 1, 2, 4, 8, and then always 16 ticks later, as often as it has failed one time behind the other

    /** Fails so often with the POD 0 as there are delays, and looks that each of them is just so long. */
    private static void failing(ReconcilerHall hall, int... delays) {
        for (int time = 0; time < delays.length; time++) {
            work(hall, SCHEDULER, BROKEN, IDLE);
            due(time + 1, hall.failures(SCHEDULER, 0));
            for (int tick = 1; tick < delays[time]; tick++) {
                hall.tick(1);
                work(hall, SCHEDULER, IDLE);
            }
            hall.tick(1);
        }
    }

    static void promise13_delays() {
        ReconcilerHall hall = new ReconcilerHall();
        hall.make(0, POD);
        hall.see(SCHEDULER, 400);
        failing(hall, 1, 2, 4, 8, 16, 16, 16, 16, 16, 16);
        due(10, hall.failures(SCHEDULER, 0));
    }

    /** When it has not failed once, it begins with 1 tick again. */
    static void promise13_delaysBeginAgain() {
        ReconcilerHall hall = new ReconcilerHall();
        hall.make(0, POD);
        hall.see(SCHEDULER, 400);
        failing(hall, 1, 2, 4, 8, 16);
        int node = hall.make(0, NODE);
        hall.see(SCHEDULER, 400);
        work(hall, SCHEDULER, LEFT);
        due(node, hall.placeOf(0));
        due(0, hall.failures(SCHEDULER, 0));
        hall.hold(0, true);
        hall.delete(0, BACKGROUND);
        let(hall, RUNNER);
        due(NONE, hall.placeOf(0));
        ReconcilerHall other = new ReconcilerHall();
        make(other, SET, WANTED, 3);
        other.quota(0);
        other.see(REPLICATOR, 400);
        work(other, REPLICATOR, BROKEN);
        other.tick(1);
        work(other, REPLICATOR, BROKEN);
        due(2, other.failures(REPLICATOR, 0));
        other.quota(1);
        other.tick(2);
        work(other, REPLICATOR, LEFT);
        due(0, other.failures(REPLICATOR, 0));
        other.see(REPLICATOR, 400);
        work(other, REPLICATOR, BROKEN, IDLE);
        due(1, other.failures(REPLICATOR, 0));
        other.tick(1);
        work(other, REPLICATOR, BROKEN, IDLE);
        other.tick(1);
        work(other, REPLICATOR, IDLE);
        other.tick(1);
        work(other, REPLICATOR, BROKEN);
        due(3, other.failures(REPLICATOR, 0));
    }

    /** Each key has its own failures, and each controller as well. */
    static void promise17_eachKeyHasItsOwnFailures() {
        ReconcilerHall hall = new ReconcilerHall();
        hall.make(0, POD);
        hall.see(SCHEDULER, 400);
        failing(hall, 1, 2, 4);
        hall.make(0, POD);
        hall.see(SCHEDULER, 400);
        work(hall, SCHEDULER, BROKEN, BROKEN, IDLE);
        due(4, hall.failures(SCHEDULER, 0));
        due(1, hall.failures(SCHEDULER, 1));
        queue(hall, SCHEDULER, 0, 1);
        hall.tick(1);
        work(hall, SCHEDULER, BROKEN, IDLE);
        queue(hall, SCHEDULER, 0, 1);
        due(2, hall.failures(SCHEDULER, 1));
        due(0, hall.failures(RUNNER, 0));
    }

    /** A key whose time has not come keeps its place in the queue, and new events do not make its time come. */
    static void promise13_eventsDoNotMakeTheTimeCome() {
        ReconcilerHall hall = new ReconcilerHall();
        hall.make(0, POD);
        hall.see(SCHEDULER, 400);
        failing(hall, 1, 2);
        work(hall, SCHEDULER, BROKEN);
        hall.make(0, NODE);
        hall.hold(0, true);
        due(0, hall.see(SCHEDULER, 400));
        work(hall, SCHEDULER, IDLE);
        hall.tick(3);
        work(hall, SCHEDULER, IDLE);
        hall.tick(1);
        work(hall, SCHEDULER, LEFT);
        due(1, hall.placeOf(0));
    }

    /** A key that has failed goes to the end of the queue. */
    static void promise13_failedKeysGoToTheEnd() {
        ReconcilerHall hall = new ReconcilerHall();
        for (int pod = 0; pod < 3; pod++) {
            hall.make(0, POD);
        }
        hall.see(SCHEDULER, 400);
        work(hall, SCHEDULER, BROKEN);
        queue(hall, SCHEDULER, 1, 2, 0);
        work(hall, SCHEDULER, BROKEN);
        queue(hall, SCHEDULER, 2, 0, 1);
        hall.tick(1);
        work(hall, SCHEDULER, BROKEN);
        queue(hall, SCHEDULER, 0, 1, 2);
        work(hall, SCHEDULER, BROKEN, BROKEN, IDLE);
        queue(hall, SCHEDULER, 2, 0, 1);
    }

    // ---- turn

    /** It works as often as there are keys when it has seen all, though keys stay that failed or were put off. */
    static void promise14_worksOncePerKey() {
        ReconcilerHall hall = new ReconcilerHall();
        for (int pod = 0; pod < 5; pod++) {
            hall.make(0, POD);
        }
        due(0, hall.turn(1));
        for (int pod = 0; pod < 5; pod++) {
            due(1, hall.failures(SCHEDULER, pod));
        }
        due(0, hall.turn(10));
        for (int pod = 0; pod < 5; pod++) {
            due(1, hall.failures(SCHEDULER, pod));
        }
    }

    /** With a full log there are no events more. */
    static void promise14_countsEvents() {
        due(0, FULL.get().turn(10));
        due(0, new ReconcilerHall().turn(10));
        ReconcilerHall hall = RICH.get();
        int version = hall.version();
        int more = hall.turn(3);
        due(version + more, hall.version());
    }

    // ---- SCALER: a tenth of LOAD, rounded up, at least 1 and at most MOST; 10 ticks

    static void promise13_scalerForEachLoadAndMost() {
        for (int most = 1; most <= 5; most++) {
            for (int load = 0; load <= 99; load++) {
                ReconcilerHall hall = new ReconcilerHall();
                make(hall, DEPLOY, LOAD, load, MOST, most);
                let(hall, SCALER);
                int tenth = load / 10 + (load % 10 > 0 ? 1 : 0);
                due(tenth < 1 ? 1 : Math.min(tenth, most), hall.field(0, WANTED));
            }
        }
    }

    static void promise13_scalerNeedsMostAbove0() {
        ReconcilerHall hall = new ReconcilerHall();
        make(hall, DEPLOY, LOAD, 99, WANTED, 3);
        hall.see(SCALER, 400);
        work(hall, SCALER, LEFT);
        due(3, hall.field(0, WANTED));
        put(hall, 0, MOST, 1);
        hall.see(SCALER, 400);
        work(hall, SCALER, LEFT);
        due(1, hall.field(0, WANTED));
    }

    /** It wrote at the tick 3; up to the tick 12 fewer are put off until the tick 13, and from then on they are not. */
    static void promise13_scalerAtEachTickBehindItsWrite() {
        for (int later = 0; later <= 12; later++) {
            ReconcilerHall hall = new ReconcilerHall();
            make(hall, DEPLOY, LOAD, 50, MOST, 5);
            hall.tick(3);
            let(hall, SCALER);
            due(5, hall.field(0, WANTED));
            if (later > 0) {
                hall.tick(later);
            }
            put(hall, 0, LOAD, 20);
            hall.see(SCALER, 400);
            work(hall, SCALER, later < 10 ? PUT_OFF : LEFT, IDLE);
            for (int tick = later + 1; tick <= 10; tick++) {
                due(5, hall.field(0, WANTED));
                hall.tick(1);
                work(hall, SCALER, tick < 10 ? IDLE : LEFT);
            }
            due(2, hall.field(0, WANTED));
        }
    }

    /** More is wanted at once, and that is a write from which the ticks are counted anew. */
    static void promise13_scalerCountsFromItsLatestWrite() {
        ReconcilerHall hall = new ReconcilerHall();
        make(hall, DEPLOY, LOAD, 10, MOST, 5);
        let(hall, SCALER);
        hall.tick(9);
        put(hall, 0, LOAD, 40);
        let(hall, SCALER);
        due(4, hall.field(0, WANTED));
        hall.tick(1);
        put(hall, 0, LOAD, 10);
        hall.see(SCALER, 400);
        work(hall, SCALER, PUT_OFF);
        hall.tick(8);
        work(hall, SCALER, IDLE);
        hall.tick(1);
        work(hall, SCALER, LEFT);
        due(1, hall.field(0, WANTED));
    }

    /** While it waits, its failures stay; and what it wants when the time comes is what it has seen then. */
    static void promise13_scalerWantsWhatItHasSeenThen() {
        ReconcilerHall hall = new ReconcilerHall();
        make(hall, DEPLOY, LOAD, 50, MOST, 5);
        let(hall, SCALER);
        put(hall, 0, LOAD, 10);
        hall.see(SCALER, 400);
        work(hall, SCALER, PUT_OFF);
        hall.tick(4);
        put(hall, 0, LOAD, 30);
        due(0, hall.see(SCALER, 400));
        work(hall, SCALER, IDLE);
        hall.tick(6);
        work(hall, SCALER, LEFT);
        due(3, hall.field(0, WANTED));
    }

    // ---- DEPLOYER

    /** A DEPLOY 1 with an old SET 2 that wants some of which some are RUNNING, and a new SET that wants some. */
    private static ReconcilerHall rollout(int running, int old, int fresh) {
        ReconcilerHall hall = new ReconcilerHall();
        make(hall, NODE, ROOM, 9);
        make(hall, DEPLOY, WANTED, running);
        hall.turn(7);
        due(running, hall.running(1, false));
        put(hall, 1, TEMPLATE, 3);
        let(hall, DEPLOYER);
        int set = hall.objects() - 1;
        due(SET, hall.kindOf(set));
        put(hall, set, WANTED, fresh);
        put(hall, 2, WANTED, old);
        return hall;
    }

    private static void step(ReconcilerHall hall, int old, int fresh) {
        int set = 2;
        for (int object = 3; object < hall.objects(); object++) {
            set = hall.kindOf(object) == SET ? object : set;
        }
        hall.see(DEPLOYER, 400);
        work(hall, DEPLOYER, LEFT);
        due(old, hall.field(2, WANTED));
        due(fresh, hall.field(set, WANTED));
    }

    /** A DEPLOY that wants as many as it, with what it may have more and less, and both SETs; then what both want. */
    private static void rolls(int wanted, int budget, int running, int old, int fresh, int oldThen, int freshThen) {
        ReconcilerHall hall = rollout(running, old, fresh);
        put(hall, 1, WANTED, wanted);
        hall.applyBudget(0, 1, budget, true);
        step(hall, oldThen, freshThen);
    }

    static void promise13_deployerWantsAsManyMoreAsItCanByBoth() {
        rolls(3, 10, 3, 3, 0, 3, 1);
        rolls(3, 20, 3, 3, 0, 3, 2);
        rolls(3, 10, 3, 2, 0, 2, 2);
        rolls(5, 10, 3, 0, 0, 0, 5);
        rolls(5, 20, 2, 2, 4, 2, 5);
        rolls(5, 10, 2, 2, 3, 2, 4);
        rolls(0, 10, 2, 2, 0, 0, 0);
    }

    /** All SETs together may want as many as WANTED and SURGE; then none more are wanted. */
    static void promise13_deployerSurgeIsUsedUp() {
        rolls(3, 1, 3, 3, 0, 2, 0);
        rolls(3, 11, 3, 3, 1, 2, 1);
        rolls(3, 21, 3, 3, 2, 2, 2);
        rolls(3, 20, 3, 3, 1, 3, 2);
    }

    static void promise13_deployerWantsNoMoreOfTheNewOneThanItself() {
        rolls(2, 10, 2, 2, 4, 2, 2);
        rolls(0, 10, 2, 2, 1, 2, 0);
        rolls(5, 10, 2, 0, 5, 0, 5);
    }

    /** If of the old one more are wanted than RUNNING, these are given up, whatever SLACK is. */
    static void promise13_deployerGivesUpWhatIsNotRunning() {
        rolls(3, 10, 2, 3, 3, 2, 3);
        rolls(3, 10, 2, 5, 3, 2, 3);
        rolls(3, 12, 1, 4, 3, 1, 3);
    }

    /** More have to be RUNNING than WANTED less SLACK: as many are nothing, and one more is one. */
    static void promise13_deployerSlack() {
        rolls(3, 10, 3, 3, 3, 3, 3);
        rolls(2, 10, 3, 3, 2, 2, 2);
        rolls(3, 11, 3, 3, 3, 2, 3);
        rolls(3, 12, 3, 3, 3, 1, 3);
        rolls(1, 12, 3, 3, 1, 0, 1);
        rolls(1, 12, 3, 1, 1, 0, 1);
        rolls(2, 2, 3, 2, 2, 0, 2);
    }

    // ---- REPLICATOR and JOBBER

    /** Fewer by one, as many, and more by one. */
    static void promise13_replicatorAtEachNumberOfPods() {
        for (int pods = 0; pods <= 3; pods++) {
            for (int wanted = 0; wanted <= 3; wanted++) {
                ReconcilerHall hall = new ReconcilerHall();
                make(hall, SET, WANTED, pods);
                let(hall, REPLICATOR);
                due(pods + 1, hall.objects());
                put(hall, 0, WANTED, wanted);
                int version = hall.version();
                hall.see(REPLICATOR, 400);
                hall.work(REPLICATOR);
                due(version + (pods == wanted ? 0 : 1), hall.version());
                due(pods + 1 + (pods < wanted ? 1 : 0), hall.objects());
                due(pods + 1 + Integer.compare(wanted, pods), hall.list(0));
            }
        }
    }

    /** DONE, WAITING and RUNNING ones are fewer than it wants; WAITING and RUNNING ones fewer than AT_ONCE. */
    static void promise13_jobberAtEachNumberOfPods() {
        for (int done = 0; done <= 2; done++) {
            for (int waiting = 0; waiting <= 3; waiting++) {
                for (int wanted = 0; wanted <= 5; wanted++) {
                    for (int atOnce = 1; atOnce <= 4; atOnce++) {
                        ReconcilerHall hall = jobWith(done, waiting);
                        put(hall, 1, AT_ONCE, atOnce);
                        put(hall, 1, WANTED, wanted);
                        int objects = hall.objects();
                        hall.see(JOBBER, 400);
                        work(hall, JOBBER, LEFT);
                        boolean isMissing = done + waiting < wanted && waiting < atOnce;
                        due(objects + (isMissing ? 1 : 0), hall.objects());
                    }
                }
            }
        }
    }

    /** A JOB 1 that has PODs that are DONE, one that is FAILED, one that is GOING, and some that are WAITING. */
    private static ReconcilerHall jobWith(int done, int waiting) {
        ReconcilerHall hall = new ReconcilerHall();
        make(hall, NODE, ROOM, 9);
        make(hall, JOB, AT_ONCE, 5);
        for (int number = 0; number < done + 1; number++) {
            put(hall, 1, WANTED, number + 1);
            let(hall, JOBBER, SCHEDULER, RUNNER);
            hall.finish(hall.objects() - 1, number < done);
        }
        put(hall, 1, WANTED, done + 1);
        let(hall, JOBBER);
        hall.hold(hall.objects() - 1, true);
        hall.delete(hall.objects() - 1, BACKGROUND);
        put(hall, 1, WANTED, done + waiting);
        let(hall, JOBBER);
        return hall;
    }

    // ---- SCHEDULER and RUNNER

    /** The need is 1 more than TEMPLATE modulo 3; ROOM has to be at least that. */
    static void promise13_schedulerAtEachRoom() {
        for (int template = 0; template <= 9; template++) {
            for (int room = 0; room <= 9; room++) {
                ReconcilerHall hall = new ReconcilerHall();
                make(hall, NODE, ROOM, room);
                make(hall, POD, TEMPLATE, template);
                hall.see(SCHEDULER, 400);
                boolean isTaken = room >= template % 3 + 1;
                work(hall, SCHEDULER, isTaken ? LEFT : BROKEN);
                due(isTaken ? 0 : NONE, hall.placeOf(1));
            }
        }
    }

    static void promise13_runnerAtEachRoom() {
        for (int template = 0; template <= 9; template++) {
            for (int room = 0; room <= 9; room++) {
                ReconcilerHall hall = new ReconcilerHall();
                make(hall, NODE, ROOM, 9);
                runningPod(hall, 2);
                make(hall, POD, TEMPLATE, template);
                let(hall, SCHEDULER);
                due(0, hall.placeOf(2));
                put(hall, 0, ROOM, room);
                let(hall, RUNNER);
                due(room >= 3 + template % 3 + 1 ? RUNNING : FAILED, hall.phaseOf(2));
                due(RUNNING, hall.phaseOf(1));
            }
        }
    }

    /** The rank is TEMPLATE divided by 4, rounded down: only what has a lesser one is taken. */
    static void promise13_schedulerAtEachRank() {
        for (int weak = 0; weak <= 9; weak++) {
            for (int strong = 0; strong <= 9; strong++) {
                ReconcilerHall hall = new ReconcilerHall();
                make(hall, NODE, ROOM, 3);
                int victim = runningPod(hall, weak);
                put(hall, 0, ROOM, Math.max(weak % 3, strong % 3) + 1);
                int pod = make(hall, POD, TEMPLATE, strong);
                let(hall, SCHEDULER);
                due(strong / 4 > weak / 4 ? BACKGROUND : STAYING, hall.goingOf(victim));
                due(1, hall.failures(SCHEDULER, pod));
                due(NONE, hall.placeOf(pod));
            }
        }
    }

    /** No more are taken than are needed; and none, if all of a lesser rank would not be enough. */
    static void promise13_schedulerTakesJustEnough() {
        for (int room = 3; room <= 9; room++) {
            ReconcilerHall hall = new ReconcilerHall();
            make(hall, NODE, ROOM, 9);
            for (int pod = 1; pod <= 3; pod++) {
                due(pod, runningPod(hall, 0));
            }
            due(4, runningPod(hall, 8));
            put(hall, 0, ROOM, room);
            make(hall, POD, TEMPLATE, 5);
            let(hall, SCHEDULER);
            int missing = 9 - room;
            int taken = missing > 3 ? 0 : missing;
            for (int pod = 1; pod <= 4; pod++) {
                due(pod <= 3 && pod > 3 - taken ? BACKGROUND : STAYING, hall.goingOf(pod));
            }
            due(room == 9 ? 0 : NONE, hall.placeOf(5));
            due(room == 9 ? 0 : 1, hall.failures(SCHEDULER, 5));
        }
    }

    /** The fewest PODs of the same owner count more than the most room, wherever the NODEs stand. */
    static void promise13_schedulerLooksAtZonesAheadOfRoom() {
        ReconcilerHall hall = new ReconcilerHall();
        make(hall, NODE, ROOM, 2, ZONE, 0);
        make(hall, NODE, ROOM, 9, ZONE, 1);
        due(1, hall.placeOf(runningPod(hall, 0)));
        int pod = hall.make(0, POD);
        let(hall, SCHEDULER);
        due(0, hall.placeOf(pod));
        int other = hall.make(0, POD);
        let(hall, SCHEDULER);
        due(1, hall.placeOf(other));
    }

    /** On a NODE that can't take any POD none are taken, though it would have room by that. */
    static void promise13_schedulerSparesPodsOnNodesThatAreNotOpen() {
        for (int reason = 0; reason < 3; reason++) {
            ReconcilerHall hall = new ReconcilerHall();
            make(hall, NODE, ROOM, 1);
            int victim = runningPod(hall, 0);
            int pod = make(hall, POD, TEMPLATE, 6);
            if (reason == 0) {
                put(hall, 0, BARRED, 1);
            } else if (reason == 1) {
                hall.tick(21);
            } else {
                hall.delete(0, FOREGROUND);
            }
            let(hall, SCHEDULER);
            due(STAYING, hall.goingOf(victim));
            due(1, hall.failures(SCHEDULER, pod));
        }
    }

    /** The POD with the greatest number may be taken for one of a lesser number. */
    static void promise13_schedulerTakesPodsOfGreaterNumbers() {
        ReconcilerHall hall = new ReconcilerHall();
        int pod = make(hall, POD, TEMPLATE, 8);
        make(hall, NODE, ROOM, 3);
        put(hall, 1, ROOM, 1);
        int victim = hall.make(0, POD);
        hall.see(SCHEDULER, 400);
        work(hall, SCHEDULER, BROKEN, LEFT);
        due(1, hall.placeOf(victim));
        put(hall, 1, ROOM, 3);
        hall.tick(1);
        hall.see(SCHEDULER, 400);
        work(hall, SCHEDULER, BROKEN);
        due(BACKGROUND, hall.goingOf(victim));
        due(2, hall.failures(SCHEDULER, pod));
    }

    /** A NODE on which not enough PODs could be taken is none for which that comes about. */
    static void promise13_schedulerPassesOverNodesWithoutEnoughOfLesserRank() {
        for (int strong = 0; strong < 2; strong++) {
            ReconcilerHall hall = new ReconcilerHall();
            make(hall, NODE, ROOM, strong == 0 ? 1 : 2);
            int first = runningPod(hall, strong == 0 ? 6 : 1);
            make(hall, NODE, ROOM, strong == 0 ? 2 : 1);
            int second = runningPod(hall, strong == 0 ? 1 : 6);
            due(0, hall.placeOf(first));
            due(2, hall.placeOf(second));
            int pod = make(hall, POD, TEMPLATE, 7);
            let(hall, SCHEDULER);
            due(strong == 0 ? STAYING : BACKGROUND, hall.goingOf(first));
            due(strong == 0 ? BACKGROUND : STAYING, hall.goingOf(second));
            due(1, hall.failures(SCHEDULER, pod));
        }
    }

    // ---- which keys come: the lowest object, and nothing by events of other kinds

    /** PODs that wait come by events of NODEs alone, though the controller has not seen their place yet. */
    static void promise12_schedulerKeysComeByNodesAlone() {
        for (int kind = 0; kind < 6; kind++) {
            ReconcilerHall hall = new ReconcilerHall();
            hall.make(0, POD);
            hall.make(0, NODE);
            hall.make(0, kind);
            hall.see(SCHEDULER, 2);
            work(hall, SCHEDULER, LEFT, IDLE);
            hall.see(SCHEDULER, 1);
            if (kind == NODE) {
                queue(hall, SCHEDULER, 0);
            } else if (kind == POD) {
                queue(hall, SCHEDULER, 2);
            } else {
                queue(hall, SCHEDULER);
            }
        }
    }

    static void promise12_theLowestPodComesByItsNode() {
        ReconcilerHall hall = new ReconcilerHall();
        hall.make(0, POD);
        hall.make(0, NODE);
        let(hall, SCHEDULER, RUNNER, RUNNER);
        work(hall, RUNNER, IDLE);
        hall.hold(1, true);
        hall.see(RUNNER, 400);
        queue(hall, RUNNER, 0);
    }

    // ---- DEPLOYER without another SET

    /** With no other one that wants some nothing is done, though more are RUNNING than WANTED less SLACK. */
    static void promise13_deployerWithoutAnotherOne() {
        ReconcilerHall hall = new ReconcilerHall();
        make(hall, NODE, ROOM, 9);
        make(hall, DEPLOY, WANTED, 3, SLACK, 2);
        hall.turn(7);
        due(3, hall.running(1, true));
        hall.hold(1, true);
        int version = hall.version();
        hall.see(DEPLOYER, 400);
        work(hall, DEPLOYER, LEFT, IDLE);
        due(version, hall.version());
        put(hall, 1, WANTED, 0);
        hall.see(DEPLOYER, 400);
        work(hall, DEPLOYER, LEFT);
        due(0, hall.field(2, WANTED));
        hall.see(DEPLOYER, 400);
        work(hall, DEPLOYER, LEFT, IDLE);
        due(version + 2, hall.version());
        due(3, hall.running(1, true));
    }

    // ---- COLLECTOR

    /** What others own, or nobody, is left alone by all manners of deleting. */
    static void promise13_collectorTakesWhatItOwnsAlone() {
        for (int manner = FOREGROUND; manner <= ORPHAN; manner++) {
            ReconcilerHall hall = new ReconcilerHall();
            make(hall, SET, WANTED, 1);
            make(hall, SET, WANTED, 1);
            let(hall, REPLICATOR);
            hall.make(0, NODE);
            let(hall, COLLECTOR);
            due(0, hall.ownerOf(2));
            due(1, hall.ownerOf(3));
            hall.delete(0, manner);
            let(hall, COLLECTOR);
            due(GONE, hall.goingOf(0));
            due(STAYING, hall.goingOf(1));
            due(manner == ORPHAN ? STAYING : GONE, hall.goingOf(2));
            due(NONE, hall.ownerOf(2));
            due(STAYING, hall.goingOf(3));
            due(1, hall.ownerOf(3));
            due(STAYING, hall.goingOf(4));
        }
    }

    /** An owner that owns none is GONE at once, in each manner; not if it is held, and then it does not fail. */
    static void promise13_collectorOfOwnersOfNone() {
        for (int manner = FOREGROUND; manner <= ORPHAN; manner++) {
            ReconcilerHall hall = new ReconcilerHall();
            hall.make(0, SET);
            hall.hold(0, true);
            due(manner, hall.delete(0, manner));
            hall.see(COLLECTOR, 400);
            int version = hall.version();
            work(hall, COLLECTOR, LEFT, IDLE);
            due(version, hall.version());
            due(0, hall.failures(COLLECTOR, 0));
            hall.hold(0, false);
            due(manner, hall.goingOf(0));
            hall.see(COLLECTOR, 400);
            work(hall, COLLECTOR, LEFT, IDLE);
            due(GONE, hall.goingOf(0));
            due(version + 2, hall.version());
        }
    }

    /** An owner whose objects are all GOING already writes nothing, and waits until it owns none. */
    static void promise13_collectorWaitsForWhatIsGoing() {
        ReconcilerHall hall = new ReconcilerHall();
        make(hall, SET, WANTED, 1);
        let(hall, REPLICATOR);
        hall.hold(1, true);
        hall.delete(1, BACKGROUND);
        hall.delete(0, FOREGROUND);
        hall.see(COLLECTOR, 400);
        int version = hall.version();
        work(hall, COLLECTOR, LEFT, LEFT, IDLE);
        due(version, hall.version());
        hall.hold(1, false);
        let(hall, COLLECTOR);
        due(GONE, hall.goingOf(1));
        due(GONE, hall.goingOf(0));
    }

    // ---- ROUTER

    /** Of 60 objects each POD may be behind a ROUTE, and no other number is for that. */
    static void promise40_eachNumberForItself() {
        for (int number = 2; number < 60; number++) {
            ReconcilerHall hall = new ReconcilerHall();
            hall.make(0, ROUTE);
            hall.make(0, NODE);
            for (int object = 2; object < 60; object++) {
                hall.make(0, object == number ? POD : SET);
            }
            let(hall, SCHEDULER, RUNNER, ROUTER);
            for (int object = 0; object < 60; object++) {
                due(object == number, hall.isBehind(0, object));
            }
        }
    }

    /** The PODs have its TEMPLATE, are STAYING and RUNNING. */
    static void promise13_routerAtEachTemplate() {
        for (int template = 0; template <= 9; template++) {
            ReconcilerHall hall = new ReconcilerHall();
            make(hall, ROUTE, TEMPLATE, template);
            for (int pod = 0; pod <= 9; pod++) {
                make(hall, NODE, ROOM, 3);
                runningPod(hall, pod);
            }
            let(hall, ROUTER);
            for (int pod = 0; pod <= 9; pod++) {
                due(pod == template, hall.isBehind(0, 2 + 2 * pod));
            }
            hall.delete(2 + 2 * template, ORPHAN);
            let(hall, ROUTER);
            due(false, hall.isBehind(0, 2 + 2 * template));
        }
    }

    /** Without a SET with its TEMPLATE a DEPLOY has none RUNNING of the latest, whatever PODs without an owner do. */
    static void promise41_withoutASetOfItsTemplate() {
        ReconcilerHall hall = new ReconcilerHall();
        hall.make(0, DEPLOY);
        hall.make(0, NODE);
        runningPod(hall, 0);
        due(0, hall.running(0, true));
        due(0, hall.running(0, false));
    }

    // ---- what is GONE has no owner, whoever made it so

    static void promise36_whatIsGoneHasNoOwner() {
        for (int manner = 0; manner < 4; manner++) {
            ReconcilerHall hall = new ReconcilerHall();
            hall.make(0, NODE);
            make(hall, SET, WANTED, 1);
            let(hall, REPLICATOR);
            due(1, hall.ownerOf(2));
            if (manner == 0) {
                due(GONE, hall.delete(2, BACKGROUND));
            } else if (manner == 1) {
                put(hall, 1, WANTED, 0);
                let(hall, REPLICATOR);
            } else if (manner == 2) {
                let(hall, SCHEDULER, RUNNER);
                due(BACKGROUND, hall.delete(2, BACKGROUND));
                due(1, hall.ownerOf(2));
                let(hall, RUNNER);
            } else {
                due(FOREGROUND, hall.delete(2, FOREGROUND));
                due(1, hall.ownerOf(2));
                let(hall, COLLECTOR);
            }
            due(GONE, hall.goingOf(2));
            due(NONE, hall.ownerOf(2));
            due(POD, hall.kindOf(2));
            due(3, hall.objects());
            due(2, hall.list(0));
        }
    }
}
