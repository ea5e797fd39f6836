import java.util.function.Consumer;

/** Promise 13: which objects count for what a controller does, and which do not. */
public final class WorkEdgesTest extends Suite {
    public static void main(String[] args) {
        run(WorkEdgesTest.class);
    }

    private static void workFor(ReconcilerHall hall, int controller, int key, int outcome) {
        hall.see(controller, 400);
        while (hall.queued(controller, 0) != key) {
            due(LEFT, hall.work(controller));
        }
        due(outcome, hall.work(controller));
    }

    // ---- DEPLOYER

    /** The old SETs 2, with the RUNNING PODs 3 to 5, and 6 both want 2 of the DEPLOY 1; the new SET 7 wants 3, as it does. */
    private static ReconcilerHall twoOldSets(int slack) {
        ReconcilerHall hall = new ReconcilerHall();
        make(hall, NODE, ROOM, 9);
        make(hall, DEPLOY, WANTED, 3);
        hall.turn(8);
        due(3, hall.running(1, true));
        put(hall, 1, SLACK, slack);
        for (int template = 3; template <= 6; template += 3) {
            put(hall, 1, TEMPLATE, template);
            workFor(hall, DEPLOYER, 1, LEFT);
        }
        due(8, hall.objects());
        put(hall, 2, WANTED, 2);
        put(hall, 6, WANTED, 2);
        put(hall, 7, WANTED, 3);
        return hall;
    }

    /** The lowest old SET has nothing to give, so the other one keeps what it wants, though nothing of it is RUNNING. */
    static void promise13_deployerLooksAtTheLowestOtherOneAlone() {
        ReconcilerHall hall = twoOldSets(0);
        int version = hall.version();
        workFor(hall, DEPLOYER, 1, LEFT);
        due(version, hall.version());
        due(2, hall.field(6, WANTED));
        ReconcilerHall slack = twoOldSets(1);
        workFor(slack, DEPLOYER, 1, LEFT);
        due(1, slack.field(2, WANTED));
        due(2, slack.field(6, WANTED));
    }

    /** A SET that is GOING is no other one: what it wants, and what runs of it, does not count. */
    static void promise13_deployerLeavesGoingSetsOut() {
        for (int manner : new int[] {FOREGROUND, ORPHAN}) {
            ReconcilerHall hall = twoOldSets(0);
            hall.delete(2, manner);
            workFor(hall, DEPLOYER, 1, LEFT);
            due(2, hall.field(2, WANTED));
            due(0, hall.field(6, WANTED));
            put(hall, 7, WANTED, 0);
            put(hall, 6, WANTED, 1);
            workFor(hall, DEPLOYER, 1, LEFT);
            due(3, hall.field(7, WANTED));
        }
    }

    // ---- SCHEDULER

    /** The POD 3 is on the NODE 2, in the zone of the NODE 0; the NODE 1 is in a zone for itself, but has less room. */
    private static int chosenNode(Consumer<ReconcilerHall> change) {
        ReconcilerHall hall = new ReconcilerHall();
        make(hall, NODE, ROOM, 6);
        make(hall, NODE, ROOM, 5, ZONE, 1);
        make(hall, NODE, ROOM, 9);
        due(2, hall.placeOf(runningPod(hall, 0)));
        change.accept(hall);
        int pod = hall.make(0, POD);
        workFor(hall, SCHEDULER, pod, LEFT);
        return hall.placeOf(pod);
    }

    /** Mates count, whatever has become of them and of their NODE, unless one of them is GONE. */
    static void promise13_schedulerCountsMatesThatAreNotGone() {
        due(1, chosenNode(hall -> { }));
        due(1, chosenNode(hall -> put(hall, 2, BARRED, 1)));
        due(1, chosenNode(hall -> put(hall, 2, ROOM, 0)));
        due(1, chosenNode(hall -> hall.delete(2, FOREGROUND)));
        due(1, chosenNode(hall -> hall.finish(3, true)));
        due(1, chosenNode(hall -> hall.finish(3, false)));
        due(1, chosenNode(hall -> hall.delete(3, BACKGROUND)));
        due(1, chosenNode(hall -> {
            hall.tick(15);
            hall.beat(0);
            hall.beat(1);
            hall.tick(6);
            due(false, hall.isReady(2));
        }));
        due(0, chosenNode(hall -> hall.delete(2, BACKGROUND)));
        due(2, chosenNode(hall -> {
            hall.delete(3, BACKGROUND);
            let(hall, RUNNER);
            due(GONE, hall.goingOf(3));
        }));
        due(0, chosenNode(hall -> {
            put(hall, 2, BARRED, 1);
            put(hall, 2, ZONE, 1);
        }));
    }

    // ---- RUNNER

    /** With the event of a NODE the keys of all PODs with this place come, of those that have ended or are GOING as well. */
    static void promise12_runnerKeysOfAllPodsWithThisPlace() {
        ReconcilerHall hall = new ReconcilerHall();
        make(hall, NODE, ROOM, 9);
        for (int pod = 1; pod <= 4; pod++) {
            due(pod, runningPod(hall, 0));
        }
        hall.finish(1, true);
        hall.finish(2, false);
        hall.delete(3, FOREGROUND);
        hall.see(RUNNER, 400);
        hall.hold(0, true);
        while (hall.queued(RUNNER, 0) != NONE) {
            due(LEFT, hall.work(RUNNER));
        }
        due(GONE, hall.goingOf(3));
        due(4, hall.see(RUNNER, 1));
        for (int place = 0; place < 4; place++) {
            due(place + 1, hall.queued(RUNNER, place));
        }
    }

    // ---- COLLECTOR

    /** What is owned loses its owner, STAYING or GOING; by FOREGROUND, what is GOING stays as it is. */
    static void promise13_collectorDisownsGoingOnes() {
        for (int manner = 1; manner <= 3; manner++) {
            for (int way : new int[] {FOREGROUND, ORPHAN}) {
                ReconcilerHall hall = new ReconcilerHall();
                make(hall, SET, WANTED, 2);
                let(hall, REPLICATOR, COLLECTOR);
                hall.hold(1, true);
                hall.delete(1, manner);
                hall.delete(0, way);
                workFor(hall, COLLECTOR, 0, LEFT);
                due(way == ORPHAN ? NONE : 0, hall.ownerOf(1));
                due(way == ORPHAN ? NONE : 0, hall.ownerOf(2));
                due(manner, hall.goingOf(1));
                due(way == ORPHAN ? STAYING : FOREGROUND, hall.goingOf(2));
                due(way, hall.goingOf(0));
            }
        }
    }

    // ---- SCALER

    /** A write that is refused is none: the time is not counted from it. */
    static void promise13_scalerCountsNoRefusedWrite() {
        ReconcilerHall hall = new ReconcilerHall();
        make(hall, DEPLOY, MOST, 5, WANTED, 1, LOAD, 40);
        hall.check(DEPLOY, WANTED, 3);
        hall.see(SCALER, 400);
        due(BROKEN, hall.work(SCALER));
        hall.clear();
        put(hall, 0, WANTED, 5);
        hall.see(SCALER, 400);
        hall.tick(1);
        due(LEFT, hall.work(SCALER));
        due(4, hall.field(0, WANTED));
        put(hall, 0, LOAD, 10);
        hall.see(SCALER, 400);
        due(PUT_OFF, hall.work(SCALER));
    }
}
