import java.util.function.Consumer;
import java.util.function.Predicate;
import java.util.function.Supplier;

/**
 * Promises 12 and 13: all that a controller reads is as it was behind the version up to which it has seen the log.
 * Each hall here has a controller that has seen all events; then something is changed that it has not seen.
 */
public final class BeliefTest extends Suite {
    public static void main(String[] args) {
        run(BeliefTest.class);
    }

    /** What a controller does for its first key, and what is so behind that. */
    private static final class Deed {
        final Supplier<ReconcilerHall> seen;
        final int controller;
        final int outcome;
        final Predicate<ReconcilerHall> isDone;

        Deed(Supplier<ReconcilerHall> seen, int controller, int outcome, Predicate<ReconcilerHall> isDone) {
            this.seen = seen;
            this.controller = controller;
            this.outcome = outcome;
            this.isDone = isDone;
            keptBut(hall -> { });
        }

        /** It does the same if this has changed and it has not seen it. */
        Deed keptBut(Consumer<ReconcilerHall> change) {
            ReconcilerHall hall = seen.get();
            change.accept(hall);
            due(outcome, hall.work(controller));
            due(true, isDone.test(hall));
            return this;
        }

        /** It does the same if this has changed, but something else if it has seen that. */
        Deed unlessSeen(Consumer<ReconcilerHall> change) {
            keptBut(change);
            ReconcilerHall hall = seen.get();
            change.accept(hall);
            hall.see(controller, 400);
            due(false, hall.work(controller) == outcome && isDone.test(hall));
            return this;
        }

        /** What it was to write has another version by that: it fails, and writes nothing else. */
        Deed failsBy(Consumer<ReconcilerHall> change) {
            ReconcilerHall hall = seen.get();
            change.accept(hall);
            int version = hall.version();
            due(BROKEN, hall.work(controller));
            due(version, hall.version());
            return this;
        }
    }

    /** Makes a call that is expected to change something. */
    private static void changes(ReconcilerHall hall, Runnable call) {
        int version = hall.version();
        call.run();
        due(true, hall.version() > version);
    }

    private static Consumer<ReconcilerHall> putting(int object, int field, int value) {
        return hall -> changes(hall, () -> put(hall, object, field, value));
    }

    private static Consumer<ReconcilerHall> deleting(int object, int manner) {
        return hall -> changes(hall, () -> hall.delete(object, manner));
    }

    private static Consumer<ReconcilerHall> finishing(int... pods) {
        return hall -> {
            for (int pod : pods) {
                hall.finish(pod, true);
            }
        };
    }

    private static Consumer<ReconcilerHall> letting(int... controllers) {
        return hall -> changes(hall, () -> let(hall, controllers));
    }

    // ---- DEPLOYER

    private static ReconcilerHall deployAlone() {
        ReconcilerHall hall = new ReconcilerHall();
        make(hall, DEPLOY, TEMPLATE, 2, WANTED, 3);
        hall.see(DEPLOYER, 400);
        return hall;
    }

    static void promise13_deployerMakesASetOfWhatItHasSeen() {
        new Deed(BeliefTest::deployAlone, DEPLOYER, LEFT, hall -> hall.objects() == 2 && hall.field(1, TEMPLATE) == 2)
            .unlessSeen(putting(0, TEMPLATE, 3))
            .unlessSeen(putting(0, PAUSED, 1))
            .unlessSeen(deleting(0, FOREGROUND))
            .unlessSeen(deleting(0, BACKGROUND));
    }

    /** A DEPLOY 0 that wants some, with a SET 1 of its TEMPLATE that wants some. */
    private static ReconcilerHall deployWithSet(int wanted, int wantedOfSet) {
        ReconcilerHall hall = deployAlone();
        let(hall, DEPLOYER);
        due(3, hall.field(1, WANTED));
        put(hall, 1, WANTED, wantedOfSet);
        put(hall, 0, WANTED, wanted);
        hall.see(DEPLOYER, 400);
        return hall;
    }

    static void promise13_deployerWantsOfTheNewSetWhatItHasSeen() {
        for (int before : new int[] {0, 1, 5}) {
            new Deed(() -> deployWithSet(3, before), DEPLOYER, LEFT, hall -> hall.field(1, WANTED) == 3)
                .unlessSeen(putting(0, WANTED, 2))
                .unlessSeen(putting(0, TEMPLATE, 4))
                .unlessSeen(putting(0, PAUSED, 1))
                .unlessSeen(deleting(0, FOREGROUND))
                .failsBy(putting(1, WANTED, 3))
                .failsBy(putting(1, WANTED, 2))
                .failsBy(putting(1, TEMPLATE, 5))
                .failsBy(deleting(1, FOREGROUND));
        }
    }

    static void promise13_deployerWritesNothingThatItHasSeenToBeSo() {
        new Deed(() -> deployWithSet(3, 3), DEPLOYER, LEFT, hall -> hall.objects() == 2 && hall.managerOf(1, WANTED) == 0)
            .unlessSeen(putting(0, WANTED, 4))
            .unlessSeen(putting(0, WANTED, 2))
            .unlessSeen(putting(0, TEMPLATE, 4))
            .unlessSeen(putting(1, WANTED, 1))
            .unlessSeen(putting(1, TEMPLATE, 5))
            .unlessSeen(deleting(1, FOREGROUND));
    }

    /** The old SET 2 has the RUNNING PODs 3 to 5 and wants some, the new SET 6 wants some of the DEPLOY 1, which wants 3. */
    private static ReconcilerHall rollout(int budget, int wantedOfOld, int wantedOfNew) {
        ReconcilerHall hall = new ReconcilerHall();
        make(hall, NODE, ROOM, 9);
        make(hall, DEPLOY, WANTED, 3);
        hall.turn(8);
        due(3, hall.running(1, true));
        due(true, hall.isSettled());
        hall.applyBudget(0, 1, budget, true);
        put(hall, 1, TEMPLATE, 3);
        hall.see(DEPLOYER, 400);
        due(LEFT, hall.work(DEPLOYER));
        due(7, hall.objects());
        put(hall, 2, WANTED, wantedOfOld);
        put(hall, 6, WANTED, wantedOfNew);
        put(hall, 1, LOAD, 1);
        hall.see(DEPLOYER, 400);
        return hall;
    }

    static void promise13_deployerSurgesByWhatItHasSeen() {
        new Deed(() -> rollout(10, 3, 0), DEPLOYER, LEFT, hall -> hall.field(6, WANTED) == 1)
            .unlessSeen(putting(1, SURGE, 2))
            .unlessSeen(putting(1, WANTED, 4))
            .unlessSeen(putting(1, TEMPLATE, 0))
            .unlessSeen(putting(2, WANTED, 2))
            .unlessSeen(putting(2, TEMPLATE, 3))
            .unlessSeen(deleting(2, FOREGROUND))
            .unlessSeen(deleting(2, BACKGROUND));
    }

    static void promise13_deployerShrinksByWhatItHasSeen() {
        new Deed(() -> rollout(1, 3, 0), DEPLOYER, LEFT, hall -> hall.field(2, WANTED) == 2)
            .unlessSeen(putting(1, WANTED, 2))
            .unlessSeen(putting(1, SLACK, 2))
            .unlessSeen(putting(1, SURGE, 1))
            .unlessSeen(putting(6, WANTED, 5))
            .unlessSeen(deleting(6, FOREGROUND))
            .unlessSeen(finishing(3, 4))
            .unlessSeen(hall -> {
                hall.delete(3, FOREGROUND);
                hall.delete(5, FOREGROUND);
            })
            .unlessSeen(hall -> {
                put(hall, 6, WANTED, 1);
                let(hall, REPLICATOR, SCHEDULER, RUNNER);
                due(4, hall.running(1, false));
            })
            .failsBy(putting(2, WANTED, 2))
            .failsBy(deleting(2, FOREGROUND));
    }

    static void promise13_deployerGivesUpWhatItHasNotSeenRunning() {
        new Deed(() -> rollout(10, 5, 0), DEPLOYER, LEFT, hall -> hall.field(2, WANTED) == 3)
            .unlessSeen(finishing(4))
            .unlessSeen(deleting(3, FOREGROUND));
    }

    /** Nothing is to be done by what it has seen, so other versions do not matter. */
    static void promise13_deployerLeavesWhatItHasSeenToBeRight() {
        new Deed(() -> rollout(10, 3, 1), DEPLOYER, LEFT, hall -> hall.managerOf(2, WANTED) == 0 && hall.managerOf(6, WANTED) == 0)
            .unlessSeen(finishing(3))
            .unlessSeen(deleting(4, FOREGROUND))
            .unlessSeen(putting(1, WANTED, 2))
            .unlessSeen(putting(1, SLACK, 1))
            .unlessSeen(putting(1, SURGE, 2))
            .unlessSeen(putting(2, WANTED, 2))
            .unlessSeen(putting(2, WANTED, 4))
            .unlessSeen(putting(6, WANTED, 0))
            .unlessSeen(putting(6, WANTED, 4));
    }

    /** Of three SETs the old one with the lowest number wants none, as far as it has seen. */
    private static ReconcilerHall threeSets() {
        ReconcilerHall hall = rollout(10, 0, 2);
        put(hall, 1, TEMPLATE, 6);
        hall.see(DEPLOYER, 400);
        due(LEFT, hall.work(DEPLOYER));
        due(8, hall.objects());
        put(hall, 7, WANTED, 3);
        hall.see(DEPLOYER, 400);
        return hall;
    }

    static void promise13_deployerTakesTheLowestThatItHasSeenWantingSome() {
        new Deed(BeliefTest::threeSets, DEPLOYER, LEFT, hall -> hall.field(6, WANTED) == 0)
            .unlessSeen(putting(2, WANTED, 1))
            .failsBy(putting(6, WANTED, 0));
    }

    // ---- REPLICATOR

    /** A SET 1 that wants 3, with the RUNNING PODs 2 to 4 on the NODE 0; and something that comes behind that. */
    private static ReconcilerHall threePods(Consumer<ReconcilerHall> then) {
        ReconcilerHall hall = new ReconcilerHall();
        make(hall, NODE, ROOM, 9);
        make(hall, SET, WANTED, 3);
        hall.turn(8);
        due(RUNNING, hall.phaseOf(4));
        due(true, hall.isSettled());
        then.accept(hall);
        hall.see(REPLICATOR, 400);
        due(1, hall.queued(REPLICATOR, 0));
        return hall;
    }

    static void promise13_replicatorDeletesWhatItHasSeenEnded() {
        new Deed(() -> threePods(finishing(3)), REPLICATOR, LEFT, hall -> hall.goingOf(3) == BACKGROUND && hall.objects() == 5)
            .unlessSeen(finishing(2))
            .unlessSeen(hall -> hall.finish(2, false))
            .unlessSeen(deleting(1, FOREGROUND))
            .failsBy(deleting(3, FOREGROUND));
    }

    static void promise13_replicatorMakesWhatItHasSeenMissing() {
        new Deed(() -> threePods(putting(1, WANTED, 4)), REPLICATOR, LEFT, hall -> hall.objects() == 6 && hall.field(5, TEMPLATE) == 0)
            .unlessSeen(putting(1, WANTED, 3))
            .unlessSeen(putting(1, WANTED, 2))
            .unlessSeen(putting(1, TEMPLATE, 5))
            .unlessSeen(finishing(2))
            .unlessSeen(deleting(1, FOREGROUND));
    }

    static void promise13_replicatorDeletesWhatItHasSeenTooMany() {
        new Deed(() -> threePods(putting(1, WANTED, 2)), REPLICATOR, LEFT, hall -> hall.goingOf(4) == BACKGROUND)
            .unlessSeen(putting(1, WANTED, 3))
            .unlessSeen(putting(1, WANTED, 4))
            .unlessSeen(finishing(2))
            .unlessSeen(deleting(2, FOREGROUND))
            .unlessSeen(deleting(1, FOREGROUND))
            .failsBy(deleting(4, FOREGROUND))
            .failsBy(finishing(4));
    }

    static void promise13_replicatorLeavesWhatItHasSeenToBeRight() {
        new Deed(() -> threePods(putting(1, TEMPLATE, 4)), REPLICATOR, LEFT,
            hall -> hall.objects() == 5 && hall.goingOf(4) != BACKGROUND && hall.goingOf(2) != BACKGROUND)
            .unlessSeen(putting(1, WANTED, 4))
            .unlessSeen(putting(1, WANTED, 2))
            .unlessSeen(finishing(2))
            .unlessSeen(deleting(3, FOREGROUND));
    }

    /** A SET 0 with the PODs 1 and 2, of which one is too many; the POD 1 needs more than the NODE 3 has at first. */
    private static ReconcilerHall twoPods(boolean arePlaced) {
        ReconcilerHall hall = new ReconcilerHall();
        make(hall, SET, WANTED, 2);
        let(hall, REPLICATOR);
        put(hall, 1, TEMPLATE, 2);
        let(hall, RUNNER);
        make(hall, NODE, ROOM, 1);
        if (arePlaced) {
            placeTheSecond(hall);
            put(hall, 3, ROOM, 4);
            hall.tick(1);
            hall.see(SCHEDULER, 400);
            due(LEFT, hall.work(SCHEDULER));
            due(3, hall.placeOf(1));
        }
        put(hall, 0, WANTED, 1);
        hall.see(REPLICATOR, 400);
        return hall;
    }

    private static void placeTheSecond(ReconcilerHall hall) {
        hall.see(SCHEDULER, 400);
        due(BROKEN, hall.work(SCHEDULER));
        due(LEFT, hall.work(SCHEDULER));
        due(3, hall.placeOf(2));
    }

    private static void runTheSecond(ReconcilerHall hall) {
        hall.see(RUNNER, 400);
        while (hall.phaseOf(2) == WAITING) {
            due(LEFT, hall.work(RUNNER));
        }
        due(WAITING, hall.phaseOf(1));
    }

    static void promise13_replicatorChoosesByPlacesAndPhasesThatItHasSeen() {
        new Deed(() -> twoPods(false), REPLICATOR, LEFT, hall -> hall.goingOf(2) == GONE && hall.goingOf(1) == STAYING)
            .failsBy(BeliefTest::placeTheSecond);
        new Deed(() -> twoPods(true), REPLICATOR, LEFT, hall -> hall.goingOf(2) == BACKGROUND && hall.goingOf(1) == STAYING)
            .failsBy(BeliefTest::runTheSecond);
    }

    // ---- JOBBER

    /** A JOB 1 that wants 3, 2 at once, with the RUNNING PODs 2 and 3; and something that comes behind that. */
    private static ReconcilerHall job(Consumer<ReconcilerHall> then) {
        ReconcilerHall hall = new ReconcilerHall();
        make(hall, NODE, ROOM, 9);
        make(hall, JOB, WANTED, 3, AT_ONCE, 2);
        hall.turn(8);
        due(RUNNING, hall.phaseOf(3));
        due(true, hall.isSettled());
        then.accept(hall);
        hall.see(JOBBER, 400);
        due(1, hall.queued(JOBBER, 0));
        return hall;
    }

    static void promise13_jobberMakesWhatItHasSeenMissing() {
        new Deed(() -> job(putting(1, AT_ONCE, 4)), JOBBER, LEFT, hall -> hall.objects() == 5 && hall.field(4, TEMPLATE) == 0)
            .unlessSeen(putting(1, WANTED, 2))
            .unlessSeen(putting(1, AT_ONCE, 2))
            .unlessSeen(putting(1, TEMPLATE, 7))
            .unlessSeen(deleting(1, FOREGROUND));
    }

    static void promise13_jobberLeavesWhatItHasSeenToBeRight() {
        new Deed(() -> job(putting(1, TEMPLATE, 7)), JOBBER, LEFT, hall -> hall.objects() == 4)
            .unlessSeen(putting(1, AT_ONCE, 3))
            .unlessSeen(finishing(2))
            .unlessSeen(hall -> hall.finish(2, false))
            .unlessSeen(deleting(3, FOREGROUND));
        new Deed(() -> job(putting(1, WANTED, 2)), JOBBER, LEFT, hall -> hall.objects() == 4)
            .unlessSeen(putting(1, WANTED, 5).andThen(putting(1, AT_ONCE, 3)));
    }

    // ---- SCHEDULER

    /** Lets the SCHEDULER see all events, and leave the keys ahead of this one. */
    private static ReconcilerHall comeTo(ReconcilerHall hall, int key) {
        hall.see(SCHEDULER, 400);
        while (hall.queued(SCHEDULER, 0) != key) {
            due(LEFT, hall.work(SCHEDULER));
        }
        return hall;
    }

    /** The POD 4 is to get a place; the NODE 0 has the most room in the zone in which the POD 3 has none. */
    private static ReconcilerHall zones() {
        ReconcilerHall hall = new ReconcilerHall();
        make(hall, NODE, ROOM, 6);
        make(hall, NODE, ROOM, 5);
        make(hall, NODE, ROOM, 9, ZONE, 1);
        due(3, runningPod(hall, 0));
        due(2, hall.placeOf(3));
        make(hall, POD, TEMPLATE, 1);
        return comeTo(hall, 4);
    }

    static void promise13_schedulerPlacesByNodesThatItHasSeen() {
        new Deed(BeliefTest::zones, SCHEDULER, LEFT, hall -> hall.placeOf(4) == 0)
            .unlessSeen(putting(0, BARRED, 1))
            .unlessSeen(putting(0, ROOM, 1))
            .unlessSeen(putting(0, ROOM, 4))
            .unlessSeen(putting(1, ROOM, 7))
            .unlessSeen(putting(0, ZONE, 1))
            .unlessSeen(putting(2, ZONE, 0))
            .unlessSeen(deleting(0, FOREGROUND))
            .unlessSeen(deleting(0, BACKGROUND))
            .unlessSeen(hall -> {
                hall.tick(15);
                hall.beat(1);
                hall.beat(2);
                hall.tick(6);
                due(false, hall.isReady(0));
            })
            .unlessSeen(hall -> make(hall, NODE, ROOM, 9, ZONE, 2))
            .failsBy(putting(4, TEMPLATE, 2))
            .failsBy(deleting(4, FOREGROUND));
    }

    static void promise13_schedulerCountsMatesThatItHasSeen() {
        new Deed(BeliefTest::zones, SCHEDULER, LEFT, hall -> hall.placeOf(4) == 0)
            .unlessSeen(hall -> {
                hall.delete(3, BACKGROUND);
                let(hall, RUNNER);
                due(GONE, hall.goingOf(3));
            });
        new Deed(() -> zonesOfTwo(false), SCHEDULER, LEFT, hall -> hall.placeOf(5) == 1)
            .unlessSeen(deleting(2, BACKGROUND));
        new Deed(() -> zonesOfTwo(true), SCHEDULER, LEFT, hall -> hall.placeOf(5) == 0);
    }

    /** The POD 3 runs on the NODE 2, with the NODE 0 in one zone; the NODE 1 has less room than that, but a zone for itself. */
    private static ReconcilerHall zonesOfTwo(boolean isGone) {
        ReconcilerHall hall = new ReconcilerHall();
        make(hall, NODE, ROOM, 6);
        make(hall, NODE, ROOM, 5, ZONE, 1);
        make(hall, NODE, ROOM, 9);
        due(2, hall.placeOf(runningPod(hall, 0)));
        put(hall, 2, BARRED, 1);
        let(hall, SCHEDULER, RUNNER);
        if (isGone) {
            hall.delete(2, BACKGROUND);
        }
        hall.make(0, ROUTE);
        hall.make(0, POD);
        return comeTo(hall, 5);
    }

    /** The PODs 3 and 4 are of the SET 2; the POD 4 does not get its place beside the POD 3. */
    private static ReconcilerHall mates() {
        ReconcilerHall hall = new ReconcilerHall();
        make(hall, NODE, ROOM, 5);
        make(hall, NODE, ROOM, 3, ZONE, 1);
        make(hall, SET, WANTED, 1);
        hall.turn(6);
        due(0, hall.placeOf(3));
        put(hall, 2, WANTED, 2);
        hall.see(REPLICATOR, 400);
        hall.delete(2, ORPHAN);
        hall.see(COLLECTOR, 400);
        due(LEFT, hall.work(REPLICATOR));
        due(2, hall.ownerOf(4));
        return comeTo(hall, 4);
    }

    /** The COLLECTOR takes the owner of the POD 3 away; it has not seen the POD 4. */
    static void promise13_schedulerKnowsOwnersThatItHasSeen() {
        new Deed(BeliefTest::mates, SCHEDULER, LEFT, hall -> hall.placeOf(4) == 1)
            .unlessSeen(hall -> {
                for (int times = 0; times < 9; times++) {
                    hall.work(COLLECTOR);
                }
                due(NONE, hall.ownerOf(3));
                due(2, hall.ownerOf(4));
            });
    }

    /** The POD 2 takes room of the NODE 0, so the NODE 1 has more. */
    private static ReconcilerHall used() {
        ReconcilerHall hall = new ReconcilerHall();
        make(hall, NODE, ROOM, 6);
        make(hall, NODE, ROOM, 5);
        due(0, hall.placeOf(runningPod(hall, 1)));
        hall.make(0, POD);
        return comeTo(hall, 3);
    }

    static void promise13_schedulerCountsUsedRoomThatItHasSeen() {
        new Deed(BeliefTest::used, SCHEDULER, LEFT, hall -> hall.placeOf(3) == 1)
            .unlessSeen(finishing(2))
            .unlessSeen(putting(2, TEMPLATE, 0))
            .unlessSeen(hall -> {
                hall.delete(2, BACKGROUND);
                let(hall, RUNNER);
            });
    }

    /** The NODE 0 is full of the PODs 3 and 5, the NODE 1 of the PODs 2, 4 and 6; the POD 7 has a greater rank. */
    private static ReconcilerHall full() {
        ReconcilerHall hall = new ReconcilerHall();
        make(hall, NODE, ROOM, 2);
        make(hall, NODE, ROOM, 3);
        for (int pod = 2; pod <= 6; pod++) {
            due(pod, runningPod(hall, 0));
            due(pod % 2 == 0 ? 1 : 0, hall.placeOf(pod));
        }
        make(hall, POD, TEMPLATE, 4);
        return comeTo(hall, 7);
    }

    private static boolean areStaying(ReconcilerHall hall, int... pods) {
        boolean areAll = true;
        for (int pod : pods) {
            areAll = areAll && hall.goingOf(pod) == STAYING;
        }
        return areAll;
    }

    static void promise13_schedulerPreemptsByWhatItHasSeen() {
        new Deed(BeliefTest::full, SCHEDULER, BROKEN,
            hall -> hall.goingOf(5) == BACKGROUND && hall.goingOf(3) == BACKGROUND && areStaying(hall, 2, 4, 6))
            .unlessSeen(putting(0, BARRED, 1))
            .unlessSeen(putting(0, ROOM, 0))
            .unlessSeen(deleting(0, FOREGROUND))
            .unlessSeen(hall -> {
                hall.tick(15);
                hall.beat(1);
                hall.tick(6);
            })
            .unlessSeen(putting(1, ROOM, 4))
            .unlessSeen(putting(1, ROOM, 5))
            .unlessSeen(finishing(2))
            .unlessSeen(hall -> make(hall, NODE, ROOM, 2))
            .unlessSeen(putting(7, TEMPLATE, 5))
            .unlessSeen(putting(7, TEMPLATE, 1))
            .unlessSeen(deleting(7, BACKGROUND))
            .keptBut(putting(6, TEMPLATE, 1));
        new Deed(BeliefTest::full, SCHEDULER, BROKEN, hall -> hall.goingOf(5) == BACKGROUND && areStaying(hall, 2, 4, 6))
            .unlessSeen(putting(3, TEMPLATE, 4));
    }

    /** The first POD that is to be deleted has another version: no other one is chosen. */
    static void promise13_schedulerFailsByWhatItHasNotSeen() {
        new Deed(BeliefTest::full, SCHEDULER, BROKEN, hall -> hall.failures(SCHEDULER, 7) == 1)
            .failsBy(finishing(5))
            .failsBy(deleting(5, FOREGROUND))
            .failsBy(deleting(5, BACKGROUND))
            .failsBy(deleting(5, BACKGROUND).andThen(letting(RUNNER)))
            .failsBy(putting(5, TEMPLATE, 4));
    }

    /** The need that it has seen would be met: the POD that has another need by now costs no other one its place. */
    static void promise13_schedulerKnowsTheNeedThatItHasSeen() {
        ReconcilerHall hall = new ReconcilerHall();
        make(hall, NODE, ROOM, 3);
        int low = runningPod(hall, 0);
        int pod = make(hall, POD, TEMPLATE, 4);
        comeTo(hall, pod);
        put(hall, pod, TEMPLATE, 8);
        due(BROKEN, hall.work(SCHEDULER));
        due(STAYING, hall.goingOf(low));
        due(NONE, hall.placeOf(pod));
        hall.see(SCHEDULER, 400);
        hall.tick(1);
        due(BROKEN, hall.work(SCHEDULER));
        due(BACKGROUND, hall.goingOf(low));
    }

    /** A POD that waits for a place, as far as it has seen, but has ended its waiting by now. */
    static void promise13_schedulerLeavesWhatItHasSeenAtItsPlace() {
        ReconcilerHall hall = new ReconcilerHall();
        make(hall, NODE, ROOM, 9);
        int pod = runningPod(hall, 0);
        hall.hold(pod, true);
        hall.see(SCHEDULER, 400);
        hall.delete(pod, FOREGROUND);
        let(hall, RUNNER);
        due(NONE, hall.placeOf(pod));
        due(LEFT, hall.work(SCHEDULER));
    }

    // ---- RUNNER

    /** The POD 1 is RUNNING on the NODE 0, the POD 2 WAITING; and something that comes behind that. */
    private static ReconcilerHall waiting(Consumer<ReconcilerHall> then) {
        ReconcilerHall hall = new ReconcilerHall();
        hall.make(0, NODE);
        due(1, runningPod(hall, 0));
        make(hall, POD, TEMPLATE, 1);
        let(hall, SCHEDULER);
        due(0, hall.placeOf(2));
        then.accept(hall);
        hall.see(RUNNER, 400);
        due(2, hall.queued(RUNNER, 0));
        return hall;
    }

    private static void beLate(ReconcilerHall hall) {
        hall.tick(21);
        due(false, hall.isReady(0));
    }

    static void promise13_runnerRunsByWhatItHasSeen() {
        new Deed(() -> waiting(hall -> { }), RUNNER, LEFT, hall -> hall.phaseOf(2) == RUNNING)
            .unlessSeen(putting(0, BARRED, 1))
            .unlessSeen(putting(0, ROOM, 2))
            .unlessSeen(putting(1, TEMPLATE, 2))
            .unlessSeen(deleting(0, BACKGROUND))
            .unlessSeen(BeliefTest::beLate)
            .failsBy(putting(2, TEMPLATE, 2))
            .failsBy(deleting(2, BACKGROUND));
    }

    static void promise13_runnerFailsWhatItHasSeenNotToFit() {
        new Deed(() -> waiting(putting(0, ROOM, 2)), RUNNER, LEFT, hall -> hall.phaseOf(2) == FAILED)
            .unlessSeen(putting(0, ROOM, 3))
            .unlessSeen(finishing(1))
            .failsBy(putting(2, TEMPLATE, 0));
    }

    static void promise13_runnerFailsWhatItHasSeenLost() {
        new Deed(() -> waiting(putting(0, BARRED, 1)), RUNNER, LEFT, hall -> hall.phaseOf(2) == FAILED)
            .unlessSeen(putting(0, BARRED, 0));
        new Deed(() -> waiting(BeliefTest::beLate), RUNNER, LEFT, hall -> hall.phaseOf(2) == FAILED)
            .unlessSeen(hall -> hall.beat(0));
    }

    /** A POD that it has seen GOING counts, as it has not seen that it is GONE, though it has made it so itself. */
    static void promise13_runnerCountsPodsThatItHasNotSeenGone() {
        ReconcilerHall hall = new ReconcilerHall();
        hall.make(0, NODE);
        due(1, runningPod(hall, 0));
        hall.delete(1, FOREGROUND);
        make(hall, POD, TEMPLATE, 1);
        let(hall, SCHEDULER);
        put(hall, 0, ROOM, 2);
        hall.see(RUNNER, 400);
        due(1, hall.queued(RUNNER, 0));
        due(LEFT, hall.work(RUNNER));
        due(GONE, hall.goingOf(1));
        due(2, hall.queued(RUNNER, 0));
        due(LEFT, hall.work(RUNNER));
        due(FAILED, hall.phaseOf(2));
    }

    /** A POD that is GOING, and still has its place, needs its room. */
    static void promise13_runnerCountsGoingPods() {
        for (int room = 2; room <= 3; room++) {
            int left = room;
            ReconcilerHall hall = waiting(deleting(1, FOREGROUND).andThen(one -> put(one, 0, ROOM, left)));
            due(LEFT, hall.work(RUNNER));
            due(room == 2 ? FAILED : RUNNING, hall.phaseOf(2));
            due(0, hall.placeOf(1));
        }
    }

    /** The POD 1 is RUNNING, and its key comes by something that does not matter. */
    private static ReconcilerHall runningOne() {
        ReconcilerHall hall = new ReconcilerHall();
        hall.make(0, NODE);
        due(1, runningPod(hall, 0));
        hall.hold(1, true);
        hall.see(RUNNER, 400);
        due(1, hall.queued(RUNNER, 0));
        return hall;
    }

    static void promise13_runnerLeavesWhatItHasSeenToBeRight() {
        new Deed(BeliefTest::runningOne, RUNNER, LEFT, hall -> hall.phaseOf(1) == RUNNING && hall.placeOf(1) == 0)
            .unlessSeen(putting(0, BARRED, 1))
            .unlessSeen(deleting(1, FOREGROUND))
            .unlessSeen(deleting(0, BACKGROUND))
            .unlessSeen(BeliefTest::beLate);
        Supplier<ReconcilerHall> withoutPlace = () -> {
            ReconcilerHall hall = new ReconcilerHall();
            hall.make(0, NODE);
            hall.make(0, POD);
            hall.see(RUNNER, 400);
            return hall;
        };
        new Deed(withoutPlace, RUNNER, LEFT, hall -> hall.phaseOf(1) == WAITING).unlessSeen(letting(SCHEDULER));
    }

    static void promise13_runnerFailsByEndsThatItHasNotSeen() {
        Supplier<ReconcilerHall> lost = () -> {
            ReconcilerHall hall = runningOne();
            put(hall, 0, BARRED, 1);
            hall.see(RUNNER, 400);
            return hall;
        };
        new Deed(lost, RUNNER, LEFT, hall -> hall.phaseOf(1) == FAILED).failsBy(finishing(1));
    }

    // ---- COLLECTOR

    /** A SET 0 that wants 2, with the POD 1, while the REPLICATOR is about to make the POD 2; and something behind that. */
    private static ReconcilerHall family(Consumer<ReconcilerHall> then) {
        ReconcilerHall hall = new ReconcilerHall();
        make(hall, SET, WANTED, 1);
        let(hall, REPLICATOR, COLLECTOR);
        put(hall, 0, WANTED, 2);
        hall.see(REPLICATOR, 400);
        hall.see(COLLECTOR, 400);
        due(LEFT, hall.work(COLLECTOR));
        due(LEFT, hall.work(COLLECTOR));
        due(NONE, hall.queued(COLLECTOR, 0));
        then.accept(hall);
        hall.see(COLLECTOR, 400);
        return hall;
    }

    private static void makeTheSecond(ReconcilerHall hall) {
        due(LEFT, hall.work(REPLICATOR));
        due(0, hall.ownerOf(2));
    }

    static void promise13_collectorTakesWhatItHasSeenOwned() {
        Predicate<ReconcilerHall> isNotSecond = hall -> hall.objects() < 3 || hall.goingOf(2) == STAYING && hall.ownerOf(2) == 0;
        new Deed(() -> family(deleting(0, FOREGROUND)), COLLECTOR, LEFT, hall -> hall.goingOf(1) == FOREGROUND && isNotSecond.test(hall))
            .unlessSeen(BeliefTest::makeTheSecond)
            .failsBy(hall -> hall.hold(1, true))
            .failsBy(deleting(1, BACKGROUND))
            .failsBy(deleting(1, ORPHAN));
        new Deed(() -> family(deleting(0, ORPHAN)), COLLECTOR, LEFT, hall -> hall.ownerOf(1) == NONE && isNotSecond.test(hall))
            .unlessSeen(BeliefTest::makeTheSecond)
            .failsBy(hall -> hall.hold(1, true))
            .failsBy(deleting(1, BACKGROUND));
    }

    /** Nothing is owned, as far as it has seen. */
    static void promise13_collectorDoesNotWaitForWhatItHasNotSeen() {
        for (int manner : new int[] {FOREGROUND, ORPHAN}) {
            Supplier<ReconcilerHall> alone = () -> {
                ReconcilerHall hall = new ReconcilerHall();
                make(hall, SET, WANTED, 1);
                hall.see(REPLICATOR, 400);
                hall.delete(0, manner);
                hall.see(COLLECTOR, 400);
                return hall;
            };
            new Deed(alone, COLLECTOR, LEFT, hall -> hall.goingOf(0) == GONE)
                .unlessSeen(hall -> hall.work(REPLICATOR))
                .failsBy(hall -> hall.hold(0, true));
        }
    }

    /** The POD 3 is GOING at its place, with the SET 2 that is to be GONE behind it. */
    private static ReconcilerHall goingAtItsPlace() {
        ReconcilerHall hall = new ReconcilerHall();
        hall.make(0, NODE);
        hall.make(0, ROUTE);
        make(hall, SET, WANTED, 1);
        hall.turn(6);
        due(RUNNING, hall.phaseOf(3));
        hall.delete(2, FOREGROUND);
        hall.delete(3, BACKGROUND);
        hall.see(COLLECTOR, 400);
        due(2, hall.queued(COLLECTOR, 0));
        return hall;
    }

    static void promise13_collectorWaitsForWhatItHasNotSeenGone() {
        new Deed(BeliefTest::goingAtItsPlace, COLLECTOR, LEFT, hall -> hall.goingOf(2) == FOREGROUND)
            .unlessSeen(letting(RUNNER));
    }

    static void promise13_collectorLeavesWhatItHasSeenToBeRight() {
        new Deed(() -> family(hall -> hall.hold(1, true)), COLLECTOR, LEFT, hall -> hall.goingOf(1) == STAYING)
            .unlessSeen(deleting(0, BACKGROUND));
        Supplier<ReconcilerHall> held = () -> family(hall -> {
            hall.hold(0, true);
            hall.delete(0, BACKGROUND);
        });
        new Deed(held, COLLECTOR, LEFT, hall -> hall.goingOf(0) == BACKGROUND).unlessSeen(hall -> hall.hold(0, false));
    }

    static void promise13_collectorDeletesByTheOwnerThatItHasSeen() {
        Supplier<ReconcilerHall> left = () -> {
            ReconcilerHall hall = family(deleting(0, BACKGROUND));
            due(LEFT, hall.work(COLLECTOR));
            due(1, hall.queued(COLLECTOR, 0));
            return hall;
        };
        new Deed(left, COLLECTOR, LEFT, hall -> hall.goingOf(1) == GONE)
            .failsBy(deleting(1, BACKGROUND))
            .failsBy(deleting(1, FOREGROUND));
    }

    // ---- ROUTER

    /** A ROUTE 1, and the POD 2 that is RUNNING; and something that comes behind that. */
    private static ReconcilerHall route(Consumer<ReconcilerHall> then) {
        ReconcilerHall hall = new ReconcilerHall();
        make(hall, NODE, ROOM, 9);
        hall.make(0, ROUTE);
        due(2, runningPod(hall, 0));
        then.accept(hall);
        hall.see(ROUTER, 400);
        due(1, hall.queued(ROUTER, 0));
        return hall;
    }

    static void promise13_routerKeepsWhatItHasSeenRunning() {
        new Deed(() -> route(hall -> { }), ROUTER, LEFT, hall -> hall.isBehind(1, 2) && !(hall.objects() > 3 && hall.isBehind(1, 3)))
            .unlessSeen(finishing(2))
            .unlessSeen(deleting(2, FOREGROUND))
            .unlessSeen(putting(2, TEMPLATE, 3))
            .unlessSeen(hall -> runningPod(hall, 0))
            .failsBy(putting(1, TEMPLATE, 3))
            .failsBy(deleting(1, FOREGROUND));
        new Deed(() -> route(hall -> hall.make(0, POD)), ROUTER, LEFT, hall -> hall.isBehind(1, 2) && !hall.isBehind(1, 3))
            .unlessSeen(letting(SCHEDULER, RUNNER));
    }

    static void promise13_routerLeavesWhatItHasSeenToBeRight() {
        Supplier<ReconcilerHall> right = () -> route(hall -> {
            let(hall, ROUTER);
            hall.hold(1, true);
        });
        new Deed(right, ROUTER, LEFT, hall -> hall.isBehind(1, 2))
            .unlessSeen(putting(1, TEMPLATE, 3))
            .unlessSeen(putting(2, TEMPLATE, 3))
            .unlessSeen(finishing(2));
    }

    // ---- SCALER

    /** A DEPLOY 0 with a LOAD for 4 that wants as many by now; and something that comes behind that. */
    private static ReconcilerHall scaled(Consumer<ReconcilerHall> then) {
        ReconcilerHall hall = new ReconcilerHall();
        make(hall, DEPLOY, MOST, 5, LOAD, 35);
        let(hall, SCALER);
        due(4, hall.field(0, WANTED));
        due(NONE, hall.queued(SCALER, 0));
        then.accept(hall);
        hall.see(SCALER, 400);
        return hall;
    }

    static void promise13_scalerLeavesWhatItHasSeenToBeRight() {
        new Deed(() -> scaled(putting(0, WANTED, 4)), SCALER, LEFT, hall -> hall.managerOf(0, WANTED) == 0)
            .unlessSeen(putting(0, LOAD, 10))
            .unlessSeen(putting(0, MOST, 3))
            .unlessSeen(putting(0, WANTED, 2));
        new Deed(() -> scaled(putting(0, MOST, 0)), SCALER, LEFT, hall -> hall.field(0, WANTED) == 4)
            .unlessSeen(hall -> {
                put(hall, 0, LOAD, 50);
                put(hall, 0, MOST, 5);
            });
    }

    static void promise13_scalerWritesWhatItHasSeenToBeMissing() {
        new Deed(() -> scaled(putting(0, LOAD, 50)), SCALER, LEFT, hall -> hall.field(0, WANTED) == 5)
            .failsBy(putting(0, LOAD, 35))
            .failsBy(putting(0, WANTED, 5))
            .failsBy(putting(0, MOST, 0))
            .failsBy(deleting(0, FOREGROUND));
        new Deed(() -> scaled(putting(0, LOAD, 5)), SCALER, PUT_OFF, hall -> hall.queued(SCALER, 0) == 0)
            .unlessSeen(putting(0, LOAD, 35))
            .unlessSeen(putting(0, WANTED, 1))
            .unlessSeen(putting(0, MOST, 0))
            .unlessSeen(deleting(0, FOREGROUND));
    }

    // ---- keys, by what is so behind the event

    private static void keysOfNext(ReconcilerHall hall, int controller, int... keys) {
        while (hall.work(controller) == LEFT) {
            due(true, hall.queued(controller, 60) == NONE);
        }
        due(NONE, hall.queued(controller, 0));
        due(keys.length, hall.see(controller, 1));
        for (int place = 0; place < keys.length; place++) {
            due(keys[place], hall.queued(controller, place));
        }
    }

    /** Behind the event of the NODE the POD had no place yet. */
    static void promise12_placesBehindTheEvent() {
        for (boolean isRunning : new boolean[] {false, true}) {
            ReconcilerHall hall = new ReconcilerHall();
            hall.make(0, POD);
            hall.make(0, NODE);
            hall.see(RUNNER, 400);
            hall.see(SCHEDULER, 400);
            hall.hold(1, true);
            due(LEFT, hall.work(SCHEDULER));
            due(1, hall.placeOf(0));
            if (isRunning) {
                let(hall, RUNNER);
                due(RUNNING, hall.phaseOf(0));
            } else {
                keysOfNext(hall, RUNNER);
                keysOfNext(hall, RUNNER, 0);
            }
            keysOfNext(hall, SCHEDULER, 0);
        }
    }

    /** Behind the event of the NODE the POD had its place still. */
    static void promise12_placesThatAreLostByNow() {
        ReconcilerHall hall = new ReconcilerHall();
        hall.make(0, NODE);
        int pod = runningPod(hall, 0);
        hall.delete(pod, FOREGROUND);
        hall.see(RUNNER, 400);
        hall.hold(0, true);
        due(LEFT, hall.work(RUNNER));
        due(GONE, hall.goingOf(pod));
        keysOfNext(hall, RUNNER, pod);
        let(hall, SCHEDULER);
        due(NONE, hall.queued(SCHEDULER, 0));
    }

    /** Behind the event of the NODE the POD was STAYING still. */
    static void promise12_podsThatAreGoingByNow() {
        ReconcilerHall hall = new ReconcilerHall();
        hall.make(0, POD);
        put(hall, 0, TEMPLATE, 1);
        hall.see(SCHEDULER, 400);
        due(BROKEN, hall.work(SCHEDULER));
        hall.tick(1);
        make(hall, NODE, ROOM, 0);
        hall.delete(0, FOREGROUND);
        due(0, hall.see(SCHEDULER, 1));
        due(BROKEN, hall.work(SCHEDULER));
        due(0, hall.see(SCHEDULER, 2));
        hall.tick(2);
        due(LEFT, hall.work(SCHEDULER));
        put(hall, 1, ROOM, 1);
        due(0, hall.see(SCHEDULER, 400));
    }

    /** Behind the event of the POD the ROUTE was not GONE yet. */
    static void promise12_routesBehindTheEvent() {
        ReconcilerHall hall = new ReconcilerHall();
        hall.make(0, ROUTE);
        hall.make(0, ROUTE);
        hall.make(0, POD);
        hall.delete(0, BACKGROUND);
        hall.hold(2, true);
        hall.see(ROUTER, 2);
        keysOfNext(hall, ROUTER, 0, 1);
        keysOfNext(hall, ROUTER, 0);
        keysOfNext(hall, ROUTER, 1);
    }

    /** Behind the events of the SET the POD was owned by it, or was none yet. */
    static void promise12_ownersBehindTheEvent() {
        ReconcilerHall hall = family(one -> { });
        put(hall, 0, TEMPLATE, 5);
        makeTheSecond(hall);
        hall.delete(1, BACKGROUND);
        put(hall, 0, TEMPLATE, 6);
        keysOfNext(hall, COLLECTOR, 0, 1);
        keysOfNext(hall, COLLECTOR, 2, 0);
        keysOfNext(hall, COLLECTOR, 1, 0);
        keysOfNext(hall, COLLECTOR, 0, 2);
    }

    /** Behind the event of the POD its owner was owned by the DEPLOY; the SET has no owner any more. */
    static void promise12_ownersOfOwnersBehindTheEvent() {
        ReconcilerHall hall = new ReconcilerHall();
        make(hall, DEPLOY, WANTED, 1);
        hall.turn(6);
        due(POD, hall.kindOf(2));
        hall.hold(2, true);
        hall.delete(1, BACKGROUND);
        due(NONE, hall.ownerOf(1));
        hall.hold(2, false);
        due(1, hall.see(DEPLOYER, 1));
        due(0, hall.queued(DEPLOYER, 0));
        due(LEFT, hall.work(DEPLOYER));
        keysOfNext(hall, DEPLOYER, 0);
        due(LEFT, hall.work(DEPLOYER));
        keysOfNext(hall, DEPLOYER);
    }

    /** Behind the event by which it was made, the POD had the owner that it has lost by now. */
    static void promise12_ownersThatAreLostByNow() {
        for (int kind : new int[] {SET, JOB}) {
            int maker = kind == SET ? REPLICATOR : JOBBER;
            ReconcilerHall hall = new ReconcilerHall();
            make(hall, kind, WANTED, 1);
            hall.see(maker, 400);
            due(LEFT, hall.work(maker));
            due(0, hall.ownerOf(1));
            hall.delete(0, ORPHAN);
            let(hall, COLLECTOR);
            due(NONE, hall.ownerOf(1));
            keysOfNext(hall, maker, 0);
        }
    }
}
