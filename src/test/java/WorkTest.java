/** Promise 13 once more: the one thing that each controller does for a key. */
public final class WorkTest extends Suite {
    public static void main(String[] args) {
        run(WorkTest.class);
    }

    /** Lets a controller see all events and work for each key that is in its queue then. */
    private static void round(ReconcilerHall hall, int... controllers) {
        for (int controller : controllers) {
            hall.see(controller, 400);
            int keys = 0;
            while (hall.queued(controller, keys) != NONE) {
                keys++;
            }
            for (int key = 0; key < keys; key++) {
                hall.work(controller);
            }
        }
    }

    // ---- DEPLOYER

    static void promise13_deployerMakesASet() {
        ReconcilerHall hall = new ReconcilerHall();
        int deploy = make(hall, DEPLOY, WANTED, 3, TEMPLATE, 6);
        round(hall, DEPLOYER);
        due(2, hall.objects());
        due(SET, hall.kindOf(1));
        due(deploy, hall.ownerOf(1));
        due(6, hall.field(1, TEMPLATE));
        due(0, hall.field(1, WANTED));
        due(4, hall.managerOf(1, WANTED));
        due(4, hall.managerOf(1, TEMPLATE));
        due(4, hall.version());
        round(hall, DEPLOYER);
        due(3, hall.field(1, WANTED));
    }

    static void promise13_deployerLeavesPausedAndGoingOnes() {
        ReconcilerHall hall = new ReconcilerHall();
        make(hall, DEPLOY, WANTED, 3, PAUSED, 1);
        hall.make(0, DEPLOY);
        hall.delete(1, FOREGROUND);
        hall.make(0, DEPLOY);
        hall.delete(2, BACKGROUND);
        round(hall, DEPLOYER);
        due(3, hall.objects());
        due(true, hall.queued(DEPLOYER, 0) == NONE);
        put(hall, 0, PAUSED, 0);
        round(hall, DEPLOYER);
        due(4, hall.objects());
    }

    /** SETs that are not owned by it, or not STAYING, are none of its own. */
    static void promise13_deployerTakesItsOwnSetsAlone() {
        ReconcilerHall hall = new ReconcilerHall();
        hall.make(0, SET);
        int deploy = hall.make(0, DEPLOY);
        round(hall, DEPLOYER);
        due(3, hall.objects());
        hall.delete(2, FOREGROUND);
        round(hall, DEPLOYER);
        due(4, hall.objects());
        due(deploy, hall.ownerOf(3));
    }

    static void promise13_deployerTakesTheLowestWithItsTemplate() {
        ReconcilerHall hall = new ReconcilerHall();
        int deploy = hall.make(0, DEPLOY);
        round(hall, DEPLOYER);
        put(hall, deploy, TEMPLATE, 1);
        round(hall, DEPLOYER);
        put(hall, 1, TEMPLATE, 1);
        put(hall, deploy, WANTED, 2);
        round(hall, DEPLOYER);
        due(2, hall.field(1, WANTED));
        due(0, hall.field(2, WANTED));
        put(hall, 2, WANTED, 1);
        round(hall, DEPLOYER);
        due(0, hall.field(2, WANTED));
    }

    static void promise13_deployerLowersTheNewSetFirst() {
        ReconcilerHall hall = new ReconcilerHall();
        int deploy = make(hall, DEPLOY, WANTED, 4);
        round(hall, DEPLOYER);
        round(hall, DEPLOYER);
        due(4, hall.field(1, WANTED));
        put(hall, deploy, WANTED, 1);
        round(hall, DEPLOYER);
        due(1, hall.field(1, WANTED));
        due(4, hall.managerOf(1, WANTED));
        put(hall, deploy, WANTED, 0);
        round(hall, DEPLOYER);
        due(0, hall.field(1, WANTED));
    }

    /** An old SET with 3 RUNNING PODs, and a DEPLOY that now has another TEMPLATE, with a new SET that wants none. */
    private static ReconcilerHall hallInRollout(int surge, int slack) {
        ReconcilerHall hall = new ReconcilerHall();
        make(hall, NODE, ROOM, 9);
        make(hall, DEPLOY, WANTED, 3);
        hall.turn(6);
        due(3, hall.running(1, false));
        hall.applyBudget(0, 1, 10 * surge + slack, true);
        put(hall, 1, TEMPLATE, 3);
        round(hall, DEPLOYER);
        due(6, hall.objects() - 1);
        due(0, hall.field(6, WANTED));
        return hall;
    }

    static void promise13_deployerSurges() {
        ReconcilerHall hall = hallInRollout(2, 0);
        round(hall, DEPLOYER);
        due(2, hall.field(6, WANTED));
        due(3, hall.field(2, WANTED));
        round(hall, DEPLOYER);
        due(2, hall.field(6, WANTED));
        due(3, hall.field(2, WANTED));
        round(hall, REPLICATOR);
        round(hall, REPLICATOR);
        round(hall, SCHEDULER, RUNNER, DEPLOYER);
        due(5, hall.running(1, false));
        due(1, hall.field(2, WANTED));
        round(hall, DEPLOYER);
        due(3, hall.field(6, WANTED));
    }

    /** One RUNNING too many is enough for an old SET to want one fewer. */
    static void promise13_deployerMovesOneByOne() {
        ReconcilerHall hall = hallInRollout(1, 0);
        round(hall, DEPLOYER, REPLICATOR, SCHEDULER, RUNNER);
        due(1, hall.field(6, WANTED));
        due(4, hall.running(1, false));
        round(hall, DEPLOYER);
        due(2, hall.field(2, WANTED));
    }

    /** With as many as it should want, and room by SURGE, the new SET does not keep the old ones from shrinking. */
    static void promise13_deployerShrinksBehindAFullNewSet() {
        ReconcilerHall hall = hallInRollout(2, 0);
        put(hall, 2, WANTED, 1);
        round(hall, DEPLOYER);
        due(3, hall.field(6, WANTED));
        for (int times = 0; times < 4; times++) {
            round(hall, REPLICATOR, SCHEDULER, RUNNER);
        }
        due(4, hall.running(1, false));
        round(hall, DEPLOYER);
        due(0, hall.field(2, WANTED));
    }

    /** Old SETs that want none are passed over. */
    static void promise13_deployerTakesTheLowestThatWantsSome() {
        ReconcilerHall hall = hallInRollout(1, 0);
        put(hall, 1, TEMPLATE, 6);
        round(hall, DEPLOYER);
        due(8, hall.objects());
        put(hall, 6, WANTED, 2);
        put(hall, 2, WANTED, 0);
        put(hall, 7, WANTED, 3);
        round(hall, DEPLOYER);
        due(0, hall.field(6, WANTED));
        due(3, hall.field(7, WANTED));
    }

    static void promise13_deployerUsesSlack() {
        ReconcilerHall hall = hallInRollout(0, 2);
        round(hall, DEPLOYER);
        due(0, hall.field(6, WANTED));
        due(1, hall.field(2, WANTED));
        round(hall, DEPLOYER);
        due(2, hall.field(6, WANTED));
        due(1, hall.field(2, WANTED));
    }

    static void promise13_deployerTakesNoMoreThanTheOtherOneWants() {
        ReconcilerHall hall = hallInRollout(0, 2);
        put(hall, 1, WANTED, 0);
        put(hall, 2, WANTED, 2);
        round(hall, DEPLOYER);
        due(0, hall.field(2, WANTED));
    }

    /** What is wanted of an old SET and is not RUNNING is given up first, whatever runs elsewhere. */
    static void promise13_deployerGivesUpWhatDoesNotRun() {
        ReconcilerHall hall = hallInRollout(1, 0);
        put(hall, 1, SURGE, 1);
        round(hall, DEPLOYER);
        due(1, hall.field(6, WANTED));
        put(hall, 2, WANTED, 5);
        round(hall, DEPLOYER);
        due(3, hall.field(2, WANTED));
        round(hall, DEPLOYER);
        due(3, hall.field(2, WANTED));
        due(3, hall.running(1, false));
        hall.finish(3, false);
        round(hall, DEPLOYER);
        due(2, hall.field(2, WANTED));
    }

    static void promise13_deployerCountsStayingPodsAlone() {
        ReconcilerHall hall = hallInRollout(1, 0);
        round(hall, DEPLOYER);
        hall.delete(4, BACKGROUND);
        due(RUNNING, hall.phaseOf(4));
        round(hall, DEPLOYER);
        due(2, hall.field(2, WANTED));
    }

    /** A value that the SET has already is not written, though its manager is another one. */
    static void promise13_deployerWritesNothingThatIsSo() {
        ReconcilerHall hall = new ReconcilerHall();
        make(hall, DEPLOY, WANTED, 1);
        round(hall, DEPLOYER);
        put(hall, 1, WANTED, 1);
        int version = hall.version();
        round(hall, DEPLOYER);
        due(version, hall.version());
        due(0, hall.managerOf(1, WANTED));
    }

    // ---- REPLICATOR

    static void promise13_replicatorMakesOnePodAtATime() {
        ReconcilerHall hall = new ReconcilerHall();
        make(hall, SET, WANTED, 2, TEMPLATE, 7);
        round(hall, REPLICATOR);
        due(2, hall.objects());
        due(POD, hall.kindOf(1));
        due(0, hall.ownerOf(1));
        due(7, hall.field(1, TEMPLATE));
        due(4, hall.managerOf(1, TEMPLATE));
        round(hall, REPLICATOR);
        round(hall, REPLICATOR);
        due(3, hall.objects());
        hall.delete(0, FOREGROUND);
        hall.delete(1, BACKGROUND);
        round(hall, REPLICATOR);
        due(3, hall.objects());
    }

    static void promise13_replicatorDeletesEndedPodsFirst() {
        ReconcilerHall hall = new ReconcilerHall();
        make(hall, NODE, ROOM, 9);
        make(hall, SET, WANTED, 3);
        hall.turn(4);
        due(RUNNING, hall.phaseOf(4));
        hall.finish(4, true);
        hall.finish(3, false);
        put(hall, 1, WANTED, 5);
        round(hall, REPLICATOR);
        due(BACKGROUND, hall.goingOf(3));
        due(STAYING, hall.goingOf(4));
        round(hall, REPLICATOR);
        due(BACKGROUND, hall.goingOf(4));
        due(5, hall.objects());
        round(hall, REPLICATOR);
        due(6, hall.objects());
    }

    /** Without a place ahead of WAITING ones, these ahead of RUNNING ones, and the greatest number of them. */
    static void promise13_replicatorChoosesWhichIsTooMany() {
        ReconcilerHall hall = new ReconcilerHall();
        make(hall, NODE, ROOM, 9);
        make(hall, SET, WANTED, 2);
        hall.turn(3);
        put(hall, 1, WANTED, 4);
        round(hall, REPLICATOR);
        round(hall, REPLICATOR);
        round(hall, SCHEDULER);
        put(hall, 1, WANTED, 5);
        round(hall, REPLICATOR);
        due(NONE, hall.placeOf(6));
        due(0, hall.placeOf(5));
        due(RUNNING, hall.phaseOf(3));
        put(hall, 1, WANTED, 0);
        int[] order = {6, 5, 4, 3, 2};
        for (int pod : order) {
            due(STAYING, hall.goingOf(pod));
            round(hall, REPLICATOR);
            due(pod == 6 ? GONE : BACKGROUND, hall.goingOf(pod));
        }
    }

    static void promise13_replicatorPrefersWaitingPods() {
        ReconcilerHall hall = new ReconcilerHall();
        make(hall, NODE, ROOM, 9);
        make(hall, SET, WANTED, 3);
        round(hall, REPLICATOR);
        round(hall, REPLICATOR);
        round(hall, REPLICATOR, SCHEDULER);
        hall.see(RUNNER, 400);
        hall.hold(2, true);
        hall.hold(3, true);
        due(BROKEN, hall.work(RUNNER));
        due(BROKEN, hall.work(RUNNER));
        due(LEFT, hall.work(RUNNER));
        due(RUNNING, hall.phaseOf(4));
        put(hall, 1, WANTED, 1);
        round(hall, REPLICATOR);
        due(BACKGROUND, hall.goingOf(3));
        round(hall, REPLICATOR);
        due(BACKGROUND, hall.goingOf(2));
        due(STAYING, hall.goingOf(4));
    }

    static void promise13_replicatorPrefersPodsWithoutAPlace() {
        ReconcilerHall hall = new ReconcilerHall();
        make(hall, SET, WANTED, 3);
        for (int times = 0; times < 3; times++) {
            round(hall, REPLICATOR);
        }
        hall.make(0, NODE);
        hall.see(SCHEDULER, 400);
        hall.hold(1, true);
        hall.hold(2, true);
        due(BROKEN, hall.work(SCHEDULER));
        due(BROKEN, hall.work(SCHEDULER));
        due(LEFT, hall.work(SCHEDULER));
        hall.hold(1, false);
        hall.hold(2, false);
        due(4, hall.placeOf(3));
        put(hall, 0, WANTED, 2);
        round(hall, REPLICATOR);
        due(GONE, hall.goingOf(2));
        put(hall, 0, WANTED, 1);
        round(hall, REPLICATOR);
        due(GONE, hall.goingOf(1));
        due(STAYING, hall.goingOf(3));
    }

    // ---- JOBBER

    static void promise13_jobberKeepsSoManyAtOnce() {
        ReconcilerHall hall = new ReconcilerHall();
        make(hall, NODE, ROOM, 9);
        make(hall, JOB, WANTED, 3, AT_ONCE, 2, TEMPLATE, 2);
        for (int times = 0; times < 4; times++) {
            round(hall, JOBBER);
        }
        due(4, hall.objects());
        due(1, hall.ownerOf(2));
        due(2, hall.field(3, TEMPLATE));
        due(4, hall.managerOf(3, TEMPLATE));
        round(hall, SCHEDULER, RUNNER, JOBBER);
        due(4, hall.objects());
        hall.finish(2, true);
        round(hall, JOBBER);
        due(5, hall.objects());
        round(hall, JOBBER, SCHEDULER, RUNNER);
        hall.finish(3, false);
        round(hall, JOBBER);
        due(6, hall.objects());
        round(hall, SCHEDULER, RUNNER);
        hall.finish(4, true);
        round(hall, JOBBER);
        due(6, hall.objects());
        due(STAYING, hall.goingOf(3));
    }

    static void promise13_jobberLeavesGoingOnes() {
        ReconcilerHall hall = new ReconcilerHall();
        make(hall, JOB, WANTED, 1);
        hall.delete(0, FOREGROUND);
        make(hall, JOB, WANTED, 1);
        round(hall, JOBBER);
        due(3, hall.objects());
        due(1, hall.ownerOf(2));
        hall.delete(2, FOREGROUND);
        round(hall, JOBBER);
        due(4, hall.objects());
    }

    // ---- SCHEDULER

    static void promise13_schedulerNeedsRoom() {
        ReconcilerHall hall = new ReconcilerHall();
        make(hall, NODE, ROOM, 2);
        make(hall, NODE, ROOM, 3);
        int[] needs = {1, 2, 3, 1, 2, 3, 1, 2, 3, 1};
        for (int template = 0; template < 10; template++) {
            int pod = make(hall, POD, TEMPLATE, template);
            round(hall, SCHEDULER);
            due(1, hall.placeOf(pod));
            hall.delete(pod, BACKGROUND);
            round(hall, RUNNER);
            due(GONE, hall.goingOf(pod));
        }
        put(hall, 1, ROOM, 2);
        for (int template = 0; template < 10; template++) {
            int pod = make(hall, POD, TEMPLATE, template);
            round(hall, SCHEDULER);
            due(needs[template] == 3 ? NONE : 0, hall.placeOf(pod));
            hall.delete(pod, BACKGROUND);
            round(hall, RUNNER);
        }
    }

    static void promise13_schedulerLeavesNodesThatCannotTakeIt() {
        ReconcilerHall hall = new ReconcilerHall();
        hall.make(0, NODE);
        hall.tick(21);
        make(hall, NODE, BARRED, 1);
        hall.make(0, NODE);
        hall.delete(2, FOREGROUND);
        hall.make(0, NODE);
        hall.delete(3, BACKGROUND);
        make(hall, NODE, ROOM, 0);
        int pod = hall.make(0, POD);
        round(hall, SCHEDULER);
        due(1, hall.failures(SCHEDULER, pod));
        put(hall, 1, BARRED, 0);
        hall.tick(1);
        round(hall, SCHEDULER);
        due(1, hall.placeOf(pod));
    }

    /** Of PODs at a place only those that are WAITING or RUNNING need room, be they GOING. */
    static void promise13_schedulerCountsWhatIsUsed() {
        ReconcilerHall hall = new ReconcilerHall();
        make(hall, NODE, ROOM, 2);
        int first = runningPod(hall, 0);
        int second = runningPod(hall, 0);
        int third = hall.make(0, POD);
        round(hall, SCHEDULER);
        due(NONE, hall.placeOf(third));
        hall.delete(first, BACKGROUND);
        hall.tick(1);
        round(hall, SCHEDULER);
        due(NONE, hall.placeOf(third));
        hall.finish(second, true);
        hall.tick(2);
        round(hall, SCHEDULER);
        due(0, hall.placeOf(third));
        int fourth = hall.make(0, POD);
        round(hall, SCHEDULER);
        due(NONE, hall.placeOf(fourth));
        hall.finish(first, false);
        hall.tick(1);
        round(hall, SCHEDULER);
        due(0, hall.placeOf(fourth));
    }

    static void promise13_schedulerSpreadsOverZones() {
        ReconcilerHall hall = new ReconcilerHall();
        make(hall, NODE, ROOM, 9, ZONE, 0);
        make(hall, NODE, ROOM, 8, ZONE, 0);
        make(hall, NODE, ROOM, 3, ZONE, 1);
        make(hall, NODE, ROOM, 2, ZONE, 2);
        make(hall, SET, WANTED, 4);
        int[] places = {0, 2, 3, 0};
        for (int pod = 0; pod < 4; pod++) {
            round(hall, REPLICATOR, SCHEDULER);
            due(places[pod], hall.placeOf(5 + pod));
        }
        int alone = hall.make(0, POD);
        round(hall, SCHEDULER);
        due(1, hall.placeOf(alone));
        int other = hall.make(1, POD);
        round(hall, SCHEDULER);
        due(2, hall.placeOf(other));
    }

    /** PODs on a NODE that is GONE don't count; PODs that came to their end do. */
    static void promise13_schedulerCountsMatesOnNodesThatAreThere() {
        ReconcilerHall hall = new ReconcilerHall();
        make(hall, NODE, ROOM, 9, ZONE, 1);
        runningPod(hall, 0);
        make(hall, NODE, ROOM, 5, ZONE, 1);
        hall.make(0, NODE);
        int pod = hall.make(0, POD);
        hall.delete(0, BACKGROUND);
        round(hall, SCHEDULER);
        due(2, hall.placeOf(pod));
        hall = new ReconcilerHall();
        make(hall, NODE, ROOM, 9, ZONE, 1);
        int ended = runningPod(hall, 0);
        hall.finish(ended, true);
        hall.delete(ended, FOREGROUND);
        hall.make(0, NODE);
        pod = hall.make(0, POD);
        round(hall, SCHEDULER);
        due(2, hall.placeOf(pod));
    }

    static void promise13_schedulerTakesTheMostRoomThenTheLowest() {
        ReconcilerHall hall = new ReconcilerHall();
        make(hall, NODE, ROOM, 4);
        make(hall, NODE, ROOM, 5);
        make(hall, NODE, ROOM, 5);
        int[] places = {1, 2, 0, 1, 2};
        for (int place : places) {
            int pod = hall.make(0, POD);
            round(hall, SCHEDULER);
            due(place, hall.placeOf(pod));
        }
    }

    /** By rising ranks, of the same rank by falling numbers, until it could be taken. */
    static void promise13_schedulerPreempts() {
        ReconcilerHall hall = new ReconcilerHall();
        make(hall, NODE, ROOM, 6);
        int middle = runningPod(hall, 4);
        int low = runningPod(hall, 0);
        int lower = runningPod(hall, 1);
        int high = runningPod(hall, 9);
        round(hall, SCHEDULER);
        int pod = make(hall, POD, TEMPLATE, 8);
        int version = hall.version();
        hall.see(SCHEDULER, 400);
        due(BROKEN, hall.work(SCHEDULER));
        due(version + 2, hall.version());
        due(lower, hall.objectOf(version + 1));
        due(low, hall.objectOf(version + 2));
        due(BACKGROUND, hall.goingOf(low));
        due(STAYING, hall.goingOf(middle));
        due(STAYING, hall.goingOf(high));
        due(1, hall.failures(SCHEDULER, pod));
        hall.tick(1);
        due(PUT_OFF, hall.work(SCHEDULER));
        round(hall, RUNNER, SCHEDULER);
        due(0, hall.placeOf(pod));
    }

    static void promise13_schedulerTakesTheFewestPods() {
        ReconcilerHall hall = new ReconcilerHall();
        make(hall, NODE, ROOM, 2);
        int one = runningPod(hall, 0);
        int two = runningPod(hall, 0);
        make(hall, NODE, ROOM, 2);
        int three = runningPod(hall, 1);
        make(hall, NODE, ROOM, 2);
        int four = runningPod(hall, 1);
        make(hall, POD, TEMPLATE, 4);
        round(hall, SCHEDULER);
        due(STAYING, hall.goingOf(one));
        due(STAYING, hall.goingOf(two));
        due(BACKGROUND, hall.goingOf(three));
        due(STAYING, hall.goingOf(four));
    }

    /** PODs that are WAITING at their place are taken as well, and room that is left counts. */
    static void promise13_schedulerTakesWaitingPods() {
        ReconcilerHall hall = new ReconcilerHall();
        int first = hall.make(0, POD);
        make(hall, NODE, ROOM, 3);
        round(hall, SCHEDULER);
        int second = hall.make(0, POD);
        round(hall, SCHEDULER);
        due(1, hall.placeOf(second));
        due(WAITING, hall.phaseOf(second));
        make(hall, POD, TEMPLATE, 4);
        round(hall, SCHEDULER);
        due(BACKGROUND, hall.goingOf(second));
        due(STAYING, hall.goingOf(first));
        int third = make(hall, POD, TEMPLATE, 8);
        round(hall, SCHEDULER);
        due(STAYING, hall.goingOf(first));
        due(1, hall.failures(SCHEDULER, third));
    }

    static void promise13_schedulerSparesEqualRanksAndEndedPods() {
        ReconcilerHall hall = new ReconcilerHall();
        make(hall, NODE, ROOM, 3);
        int ended = runningPod(hall, 1);
        hall.finish(ended, true);
        int equal = runningPod(hall, 7);
        int going = runningPod(hall, 0);
        hall.delete(going, FOREGROUND);
        int pod = make(hall, POD, TEMPLATE, 4);
        int version = hall.version();
        round(hall, SCHEDULER);
        due(version, hall.version());
        due(1, hall.failures(SCHEDULER, pod));
        due(STAYING, hall.goingOf(equal));
    }

    /** The first write that is refused ends it; what was deleted ahead of that stays deleted. */
    static void promise13_schedulerFailsOnTheWay() {
        ReconcilerHall hall = new ReconcilerHall();
        make(hall, NODE, ROOM, 3);
        int low = runningPod(hall, 0);
        int middle = runningPod(hall, 0);
        int last = runningPod(hall, 0);
        round(hall, SCHEDULER);
        make(hall, POD, TEMPLATE, 8);
        hall.see(SCHEDULER, 400);
        hall.hold(middle, true);
        due(BROKEN, hall.work(SCHEDULER));
        due(BACKGROUND, hall.goingOf(last));
        due(STAYING, hall.goingOf(middle));
        due(STAYING, hall.goingOf(low));
    }

    // ---- RUNNER

    static void promise13_runnerRunsPods() {
        ReconcilerHall hall = new ReconcilerHall();
        hall.make(0, NODE);
        int pod = hall.make(0, POD);
        round(hall, RUNNER);
        due(WAITING, hall.phaseOf(pod));
        round(hall, SCHEDULER);
        round(hall, RUNNER);
        due(RUNNING, hall.phaseOf(pod));
        int version = hall.version();
        round(hall, RUNNER);
        due(version, hall.version());
    }

    /** The SCHEDULER places both, as it has not seen the first place when it chooses the second one. */
    static void promise13_runnerFailsWhatDoesNotFit() {
        ReconcilerHall hall = new ReconcilerHall();
        make(hall, NODE, ROOM, 3);
        int first = make(hall, POD, TEMPLATE, 1);
        int second = make(hall, POD, TEMPLATE, 1);
        round(hall, SCHEDULER);
        due(0, hall.placeOf(second));
        hall.see(RUNNER, 400);
        due(LEFT, hall.work(RUNNER));
        due(RUNNING, hall.phaseOf(first));
        hall.see(RUNNER, 400);
        due(LEFT, hall.work(RUNNER));
        due(FAILED, hall.phaseOf(second));
        due(STAYING, hall.goingOf(second));
    }

    static void promise13_runnerFailsPodsOfLostNodes() {
        for (int manner = 0; manner < 4; manner++) {
            ReconcilerHall hall = new ReconcilerHall();
            make(hall, NODE, ROOM, 9);
            int running = runningPod(hall, 0);
            int done = runningPod(hall, 0);
            hall.finish(done, true);
            int waiting = hall.make(0, POD);
            round(hall, SCHEDULER);
            if (manner == 0) {
                put(hall, 0, BARRED, 1);
            } else if (manner == 1) {
                hall.tick(21);
            } else {
                hall.delete(0, manner == 2 ? BACKGROUND : FOREGROUND);
            }
            round(hall, RUNNER);
            due(manner == 3 ? RUNNING : FAILED, hall.phaseOf(running));
            due(manner == 3 ? RUNNING : FAILED, hall.phaseOf(waiting));
            due(DONE, hall.phaseOf(done));
            due(0, hall.placeOf(running));
        }
    }

    static void promise13_runnerClearsThePlaceOfGoingOnes() {
        for (int manner = 1; manner <= 3; manner++) {
            ReconcilerHall hall = new ReconcilerHall();
            make(hall, NODE, ROOM, 9);
            int pod = runningPod(hall, 0);
            int held = runningPod(hall, 0);
            hall.hold(held, true);
            hall.delete(pod, manner);
            hall.delete(held, manner);
            int version = hall.version();
            round(hall, RUNNER);
            due(version + 2, hall.version());
            due(NONE, hall.placeOf(pod));
            due(GONE, hall.goingOf(pod));
            due(NONE, hall.placeOf(held));
            due(manner, hall.goingOf(held));
            hall.hold(held, false);
            round(hall, RUNNER);
            due(manner, hall.goingOf(held));
            round(hall, COLLECTOR);
            due(GONE, hall.goingOf(held));
        }
    }

    /** The POD with the number 0 is one as any other. */
    static void promise13_theLowestPodCounts() {
        ReconcilerHall hall = new ReconcilerHall();
        hall.make(0, POD);
        make(hall, NODE, ROOM, 4);
        round(hall, SCHEDULER, RUNNER);
        due(RUNNING, hall.phaseOf(0));
        int node = make(hall, NODE, ROOM, 1, ZONE, 1);
        int pod = hall.make(0, POD);
        round(hall, SCHEDULER);
        due(node, hall.placeOf(pod));
        int second = make(hall, POD, TEMPLATE, 1);
        round(hall, SCHEDULER);
        due(1, hall.placeOf(second));
        put(hall, 1, ROOM, 2);
        round(hall, RUNNER);
        due(FAILED, hall.phaseOf(second));
        put(hall, node, BARRED, 1);
        round(hall, RUNNER);
        make(hall, POD, TEMPLATE, 4);
        round(hall, SCHEDULER);
        due(BACKGROUND, hall.goingOf(0));
        hall.finish(0, true);
        round(hall, RUNNER);
        due(GONE, hall.goingOf(0));
    }

    static void promise13_runnerLooksAfterTheLowestPod() {
        ReconcilerHall hall = new ReconcilerHall();
        hall.make(0, POD);
        hall.make(0, NODE);
        round(hall, SCHEDULER, RUNNER);
        put(hall, 1, BARRED, 1);
        round(hall, RUNNER);
        due(FAILED, hall.phaseOf(0));
    }

    // ---- COLLECTOR

    /** A SET 0 that owns the PODs 1 to 3. */
    private static ReconcilerHall hallOfThree() {
        ReconcilerHall hall = new ReconcilerHall();
        make(hall, SET, WANTED, 3);
        for (int times = 0; times < 3; times++) {
            round(hall, REPLICATOR);
        }
        round(hall, COLLECTOR);
        due(4, hall.objects());
        return hall;
    }

    static void promise13_collectorForeground() {
        ReconcilerHall hall = hallOfThree();
        hall.delete(0, FOREGROUND);
        hall.hold(2, true);
        hall.delete(3, ORPHAN);
        int version = hall.version();
        hall.see(COLLECTOR, 400);
        due(LEFT, hall.work(COLLECTOR));
        due(version + 2, hall.version());
        due(1, hall.objectOf(version + 1));
        due(2, hall.objectOf(version + 2));
        due(FOREGROUND, hall.goingOf(1));
        due(ORPHAN, hall.goingOf(3));
        round(hall, COLLECTOR);
        round(hall, COLLECTOR);
        due(GONE, hall.goingOf(1));
        due(FOREGROUND, hall.goingOf(2));
        due(GONE, hall.goingOf(3));
        due(FOREGROUND, hall.goingOf(0));
        hall.hold(2, false);
        round(hall, COLLECTOR);
        round(hall, COLLECTOR);
        due(GONE, hall.goingOf(2));
        due(GONE, hall.goingOf(0));
    }

    static void promise13_collectorOrphan() {
        ReconcilerHall hall = hallOfThree();
        hall.delete(0, ORPHAN);
        int version = hall.version();
        hall.see(COLLECTOR, 400);
        due(LEFT, hall.work(COLLECTOR));
        due(version + 3, hall.version());
        for (int pod = 1; pod <= 3; pod++) {
            due(NONE, hall.ownerOf(pod));
            due(STAYING, hall.goingOf(pod));
            due(pod, hall.objectOf(version + pod));
        }
        due(ORPHAN, hall.goingOf(0));
        round(hall, COLLECTOR);
        due(GONE, hall.goingOf(0));
        round(hall, COLLECTOR);
        due(STAYING, hall.goingOf(1));
    }

    static void promise13_collectorBackground() {
        ReconcilerHall hall = hallOfThree();
        hall.hold(0, true);
        hall.delete(0, BACKGROUND);
        round(hall, COLLECTOR);
        due(BACKGROUND, hall.goingOf(0));
        due(STAYING, hall.goingOf(1));
        hall.hold(0, false);
        hall.hold(3, true);
        round(hall, COLLECTOR);
        due(GONE, hall.goingOf(0));
        due(0, hall.ownerOf(1));
        round(hall, COLLECTOR);
        due(GONE, hall.goingOf(1));
        due(GONE, hall.goingOf(2));
        due(BACKGROUND, hall.goingOf(3));
        due(0, hall.ownerOf(3));
    }

    static void promise13_collectorLeavesGoneOnes() {
        ReconcilerHall hall = new ReconcilerHall();
        hall.make(0, NODE);
        hall.delete(0, BACKGROUND);
        hall.see(COLLECTOR, 400);
        due(LEFT, hall.work(COLLECTOR));
        due(2, hall.version());
    }

    static void promise13_collectorLeavesPodsWithAPlace() {
        ReconcilerHall hall = new ReconcilerHall();
        hall.make(0, NODE);
        int pod = runningPod(hall, 0);
        hall.delete(pod, FOREGROUND);
        round(hall, COLLECTOR);
        due(FOREGROUND, hall.goingOf(pod));
        due(0, hall.failures(COLLECTOR, pod));
    }

    /** The first write that is refused ends it; what was written ahead of that stays. */
    static void promise13_collectorFailsOnTheWay() {
        for (int manner = FOREGROUND; manner <= ORPHAN; manner += 2) {
            ReconcilerHall hall = hallOfThree();
            hall.delete(0, manner);
            hall.see(COLLECTOR, 400);
            hall.hold(2, true);
            due(BROKEN, hall.work(COLLECTOR));
            due(1, hall.failures(COLLECTOR, 0));
            due(manner == FOREGROUND ? FOREGROUND : STAYING, hall.goingOf(1));
            due(manner == FOREGROUND ? 0 : NONE, hall.ownerOf(1));
            due(STAYING, hall.goingOf(3));
            due(0, hall.ownerOf(2));
            due(0, hall.ownerOf(3));
        }
    }

    // ---- ROUTER

    static void promise13_routerKeepsRunningPodsOfItsTemplate() {
        ReconcilerHall hall = new ReconcilerHall();
        make(hall, NODE, ROOM, 9);
        int route = make(hall, ROUTE, TEMPLATE, 3);
        int pod = runningPod(hall, 3);
        int other = runningPod(hall, 0);
        int waiting = make(hall, POD, TEMPLATE, 3);
        round(hall, ROUTER);
        due(true, hall.isBehind(route, pod));
        due(false, hall.isBehind(route, other));
        due(false, hall.isBehind(route, waiting));
        due(hall.version(), hall.versionOf(route));
        int version = hall.version();
        round(hall, ROUTER);
        due(version, hall.version());
        hall.delete(pod, BACKGROUND);
        due(true, hall.isBehind(route, pod));
        round(hall, ROUTER);
        due(false, hall.isBehind(route, pod));
        put(hall, route, TEMPLATE, 0);
        round(hall, ROUTER);
        due(true, hall.isBehind(route, other));
        hall.finish(other, true);
        round(hall, ROUTER);
        due(false, hall.isBehind(route, other));
        due(0, hall.managerOf(route, TEMPLATE));
    }

    static void promise13_routerKeepsPodsOfGreatNumbers() {
        ReconcilerHall hall = new ReconcilerHall();
        int route = hall.make(0, ROUTE);
        hall.make(0, NODE);
        while (hall.objects() < 40) {
            hall.make(0, SET);
        }
        int pod = runningPod(hall, 0);
        round(hall, ROUTER);
        due(true, hall.isBehind(route, pod));
        due(false, hall.isBehind(hall.make(0, ROUTE), pod));
    }

    static void promise13_routerLeavesGoingRoutes() {
        ReconcilerHall hall = new ReconcilerHall();
        hall.make(0, NODE);
        int route = hall.make(0, ROUTE);
        runningPod(hall, 0);
        hall.delete(route, FOREGROUND);
        round(hall, ROUTER);
        due(false, hall.isBehind(route, 2));
    }

    // ---- SCALER

    static void promise13_scalerWantsATenthRoundedUp() {
        int[][] cases = {{0, 5, 1}, {1, 5, 1}, {10, 5, 1}, {11, 5, 2}, {41, 5, 5}, {99, 5, 5}, {99, 2, 2}, {30, 1, 1}};
        for (int[] one : cases) {
            ReconcilerHall hall = new ReconcilerHall();
            int deploy = make(hall, DEPLOY, LOAD, one[0], MOST, one[1]);
            round(hall, SCALER);
            due(one[2], hall.field(deploy, WANTED));
            due(4, hall.managerOf(deploy, WANTED));
            hall = new ReconcilerHall();
            deploy = make(hall, DEPLOY, LOAD, one[0], MOST, one[1], WANTED, 5);
            round(hall, SCALER);
            due(one[2], hall.field(deploy, WANTED));
        }
    }

    static void promise13_scalerLeavesSomeAlone() {
        ReconcilerHall hall = new ReconcilerHall();
        make(hall, DEPLOY, LOAD, 50);
        make(hall, DEPLOY, LOAD, 50, MOST, 3, WANTED, 3);
        make(hall, DEPLOY, LOAD, 50, MOST, 3);
        hall.delete(2, FOREGROUND);
        make(hall, DEPLOY, LOAD, 50, MOST, 3, PAUSED, 1);
        int version = hall.version();
        round(hall, SCALER);
        due(version + 1, hall.version());
        due(0, hall.field(0, WANTED));
        due(0, hall.managerOf(1, WANTED));
        due(0, hall.field(2, WANTED));
        due(3, hall.field(3, WANTED));
    }

    /** More is wanted at once; fewer only when its latest write is 10 ticks ago. */
    static void promise13_scalerWaitsBeforeItWantsFewer() {
        ReconcilerHall hall = new ReconcilerHall();
        int deploy = make(hall, DEPLOY, LOAD, 10, MOST, 5);
        hall.tick(3);
        round(hall, SCALER);
        due(1, hall.field(deploy, WANTED));
        put(hall, deploy, LOAD, 30);
        hall.tick(2);
        round(hall, SCALER);
        due(3, hall.field(deploy, WANTED));
        put(hall, deploy, LOAD, 20);
        hall.see(SCALER, 400);
        due(PUT_OFF, hall.work(SCALER));
        due(deploy, hall.queued(SCALER, 0));
        due(0, hall.failures(SCALER, deploy));
        due(IDLE, hall.work(SCALER));
        hall.tick(9);
        due(IDLE, hall.work(SCALER));
        hall.tick(1);
        due(LEFT, hall.work(SCALER));
        due(2, hall.field(deploy, WANTED));
    }

    /** Working without a write is no write, and wanting what it should puts nothing off. */
    static void promise13_scalerCountsItsWritesAlone() {
        ReconcilerHall hall = new ReconcilerHall();
        int deploy = make(hall, DEPLOY, LOAD, 20, WANTED, 2, MOST, 5);
        hall.tick(1);
        round(hall, SCALER);
        put(hall, deploy, LOAD, 10);
        round(hall, SCALER);
        due(1, hall.field(deploy, WANTED));
        hall.see(SCALER, 400);
        due(LEFT, hall.work(SCALER));
        put(hall, deploy, WANTED, 2);
        hall.see(SCALER, 400);
        due(PUT_OFF, hall.work(SCALER));
    }

    /** Writes of others don't count, and its failures stay while it waits. */
    static void promise13_scalerKeepsItsFailures() {
        ReconcilerHall hall = new ReconcilerHall();
        int deploy = make(hall, DEPLOY, LOAD, 20, MOST, 5);
        hall.tick(1);
        round(hall, SCALER);
        due(2, hall.field(deploy, WANTED));
        put(hall, deploy, LOAD, 40);
        hall.see(SCALER, 400);
        hall.hold(deploy, true);
        due(BROKEN, hall.work(SCALER));
        put(hall, deploy, LOAD, 10);
        hall.tick(1);
        hall.see(SCALER, 400);
        due(PUT_OFF, hall.work(SCALER));
        due(1, hall.failures(SCALER, deploy));
        hall.tick(8);
        put(hall, deploy, TEMPLATE, 1);
        hall.see(SCALER, 400);
        due(IDLE, hall.work(SCALER));
        hall.tick(1);
        due(LEFT, hall.work(SCALER));
        due(1, hall.field(deploy, WANTED));
        due(0, hall.failures(SCALER, deploy));
    }

    // ---- all together

    /** Whatever was seen in whatever order, the world becomes what the objects tell. */
    static void promise13_theWorldBecomesWhatTheObjectsTell() {
        for (int first = 0; first < 8; first++) {
            ReconcilerHall hall = new ReconcilerHall();
            make(hall, NODE, ROOM, 9);
            make(hall, NODE, ROOM, 9, ZONE, 1);
            int deploy = make(hall, DEPLOY, WANTED, 3);
            int route = hall.make(0, ROUTE);
            for (int times = 0; times < 400 && !(times > 20 && hall.isSettled()); times++) {
                int controller = (first + 3 * times) % 8;
                hall.see(controller, 1 + times % 3);
                hall.work(controller);
            }
            due(true, hall.isSettled());
            due(3, hall.running(deploy, true));
            due(7, hall.objects() - 1);
            for (int pod = 5; pod <= 7; pod++) {
                due(true, hall.isBehind(route, pod));
            }
        }
    }
}
