/** Promises 1 to 7: a new hall, make, apply, applyBudget, delete, hold, finish. */
public final class ObjectsTest extends Suite {
    public static void main(String[] args) {
        run(ObjectsTest.class);
    }

    static void promise01_newHallIsEmpty() {
        ReconcilerHall hall = new ReconcilerHall();
        due(0, hall.objects());
        due(0, hall.version());
        due(0, hall.clear());
        due(30, hall.quota(30));
        due(0, hall.compact(0));
        due(true, hall.isSettled());
        for (int number = 0; number < 8; number++) {
            due(0, hall.seen(number));
            due(NONE, hall.queued(number, 0));
            due(IDLE, hall.work(number));
        }
        for (int reader = 0; reader < 4; reader++) {
            due(NONE, hall.next(reader));
        }
        due(0, hall.hub(false));
        due(1, hall.tick(1));
    }

    static void promise01_hallsAreApart() {
        ReconcilerHall one = new ReconcilerHall();
        ReconcilerHall other = new ReconcilerHall();
        one.make(0, NODE);
        one.check(NODE, ROOM, 1);
        due(0, other.objects());
        due(0, other.clear());
        due(1, one.clear());
    }

    static void promise02_numbersAndVersionsRise() {
        ReconcilerHall hall = new ReconcilerHall();
        for (int kind = 0; kind < 6; kind++) {
            due(kind, hall.make(3 - kind % 4, kind));
            due(kind, hall.kindOf(kind));
            due(kind + 1, hall.versionOf(kind));
            due(STAYING, hall.goingOf(kind));
            due(NONE, hall.ownerOf(kind));
        }
        due(6, hall.version());
        due(6, hall.objects());
    }

    static void promise02_firstValuesAndManagers() {
        ReconcilerHall hall = new ReconcilerHall();
        int[] first = {0, 0, 1, 0, 0, 0, 0, 4, 0, 0, 1};
        for (int kind = 0; kind < 6; kind++) {
            int object = hall.make(2, kind);
            for (int field = 0; field < 11; field++) {
                if (has(kind, field)) {
                    due(first[field], hall.field(object, field));
                    due(2, hall.managerOf(object, field));
                }
            }
        }
        due(true, hall.isReady(NODE));
        due(WAITING, hall.phaseOf(POD));
        due(NONE, hall.placeOf(POD));
        due(false, hall.isBehind(ROUTE, POD));
    }

    /** Nothing of an object that was written ahead of it comes over to a new one. */
    static void promise02_newObjectsHaveNothingOfOthers() {
        ReconcilerHall hall = new ReconcilerHall();
        int pod = hall.make(0, POD);
        hall.make(0, NODE);
        int route = hall.make(0, ROUTE);
        let(hall, SCHEDULER, RUNNER, ROUTER);
        due(true, hall.isBehind(route, pod));
        int other = hall.make(0, ROUTE);
        due(false, hall.isBehind(other, pod));
        hall.hold(other, true);
        due(false, hall.hold(hall.make(0, ROUTE), false));
        hall.delete(other, FOREGROUND);
        due(STAYING, hall.goingOf(hall.make(0, ROUTE)));
    }

    static void promise02_wrongArguments() {
        ReconcilerHall hall = new ReconcilerHall();
        refused(hall, ARGUMENT, () -> hall.make(-1, POD));
        refused(hall, ARGUMENT, () -> hall.make(4, POD));
        refused(hall, ARGUMENT, () -> hall.make(0, -1));
        refused(hall, ARGUMENT, () -> hall.make(0, 6));
        refused(hall, ARGUMENT, () -> hall.make(Integer.MIN_VALUE, Integer.MAX_VALUE));
        due(0, hall.make(3, ROUTE));
    }

    static void promise02_sixtyObjectsGoneOnesCounted() {
        ReconcilerHall hall = new ReconcilerHall();
        for (int number = 0; number < 60; number++) {
            due(number, hall.make(0, NODE));
        }
        hall.delete(7, BACKGROUND);
        refused(hall, STATE, () -> hall.make(0, NODE));
        refused(hall, ARGUMENT, () -> hall.make(4, NODE));
        due(60, hall.objects());
    }

    static void promise02_refusedByAdmissionOrLog() {
        ReconcilerHall hall = new ReconcilerHall();
        hall.check(DEPLOY, SURGE, 0);
        refused(hall, STATE, () -> hall.make(0, DEPLOY));
        hall.clear();
        hall.rule(DEPLOY, SURGE, 0, 2, SURGE, 0);
        refused(hall, STATE, () -> hall.make(0, DEPLOY));
        hall.rule(DEPLOY, SURGE, 0, 2, SLACK, 1);
        int deploy = hall.make(1, DEPLOY);
        due(1, hall.budget(deploy));
        due(1, hall.managerOf(deploy, SURGE));
        fillLog(hall, deploy, 400);
        refused(hall, STATE, () -> hall.make(0, NODE));
    }

    static void promise02_quotaCountsPodsThatAreNotGone() {
        ReconcilerHall hall = new ReconcilerHall();
        for (int number = 0; number < 30; number++) {
            hall.make(0, POD);
        }
        refused(hall, STATE, () -> hall.make(0, POD));
        hall.make(0, NODE);
        hall.hold(0, true);
        hall.delete(0, BACKGROUND);
        refused(hall, STATE, () -> hall.make(0, POD));
        put(hall, 1, TEMPLATE, 3);
        hall.delete(1, BACKGROUND);
        due(31, hall.make(0, POD));
        refused(hall, STATE, () -> hall.make(0, POD));
        hall.quota(60);
        due(32, hall.make(0, POD));
    }

    static void promise03_appliesAndReturnsTheVersion() {
        ReconcilerHall hall = new ReconcilerHall();
        int deploy = hall.make(1, DEPLOY);
        int[] most = {5, 9, 2, 2, 1, 5, 99};
        for (int field = 0; field < 7; field++) {
            due(2 + field, hall.apply(1, deploy, field, most[field], NONE, false));
            due(most[field], hall.field(deploy, field));
        }
        int node = hall.make(0, NODE);
        due(10, hall.apply(0, node, ROOM, 9, NONE, false));
        due(11, hall.apply(0, node, ZONE, 2, NONE, false));
        due(12, hall.apply(0, node, BARRED, 1, NONE, false));
        int job = hall.make(0, JOB);
        due(14, hall.apply(0, job, AT_ONCE, 5, NONE, false));
        due(8, hall.versionOf(deploy));
    }

    static void promise03_samenessIsNoEvent() {
        ReconcilerHall hall = new ReconcilerHall();
        int node = hall.make(0, NODE);
        due(1, hall.apply(0, node, ROOM, 4, NONE, false));
        due(1, hall.version());
        due(2, hall.apply(1, node, ROOM, 4, NONE, true));
        due(1, hall.managerOf(node, ROOM));
        due(0, hall.managerOf(node, ZONE));
        due(2, hall.apply(1, node, ROOM, 4, NONE, false));
    }

    static void promise03_managersTakeOver() {
        ReconcilerHall hall = new ReconcilerHall();
        int set = hall.make(0, SET);
        refused(hall, STATE, () -> hall.apply(1, set, WANTED, 3, NONE, false));
        refused(hall, STATE, () -> hall.apply(1, set, WANTED, 0, NONE, false));
        due(2, hall.apply(1, set, WANTED, 3, NONE, true));
        refused(hall, STATE, () -> hall.apply(0, set, WANTED, 4, NONE, false));
        due(3, hall.apply(0, set, TEMPLATE, 4, NONE, false));
    }

    static void promise03_expectedVersion() {
        ReconcilerHall hall = new ReconcilerHall();
        int set = hall.make(0, SET);
        hall.make(0, SET);
        refused(hall, STATE, () -> hall.apply(0, set, WANTED, 1, 2, false));
        refused(hall, STATE, () -> hall.apply(0, set, WANTED, 1, 0, false));
        refused(hall, STATE, () -> hall.apply(0, set, WANTED, 1, -2, false));
        due(3, hall.apply(0, set, WANTED, 1, 1, false));
        refused(hall, STATE, () -> hall.apply(0, set, WANTED, 1, 1, false));
    }

    static void promise03_wrongArguments() {
        ReconcilerHall hall = new ReconcilerHall();
        int job = hall.make(0, JOB);
        refused(hall, INDEX, () -> hall.apply(9, 1, 20, 20, NONE, false));
        refused(hall, INDEX, () -> hall.apply(0, -1, WANTED, 1, NONE, false));
        refused(hall, ARGUMENT, () -> hall.apply(4, job, WANTED, 1, NONE, true));
        refused(hall, ARGUMENT, () -> hall.apply(-1, job, WANTED, 1, NONE, true));
        refused(hall, ARGUMENT, () -> hall.apply(0, job, -1, 0, NONE, true));
        refused(hall, ARGUMENT, () -> hall.apply(0, job, 11, 0, NONE, true));
        refused(hall, ARGUMENT, () -> hall.apply(0, job, ROOM, 0, NONE, true));
        refused(hall, ARGUMENT, () -> hall.apply(0, job, WANTED, 6, NONE, true));
        refused(hall, ARGUMENT, () -> hall.apply(0, job, WANTED, -1, NONE, true));
        refused(hall, ARGUMENT, () -> hall.apply(0, job, AT_ONCE, 0, NONE, true));
        refused(hall, ARGUMENT, () -> hall.apply(0, job, TEMPLATE, 10, 99, true));
        hall.delete(job, BACKGROUND);
        refused(hall, ARGUMENT, () -> hall.apply(0, job, WANTED, 6, NONE, true));
        refused(hall, STATE, () -> hall.apply(0, job, WANTED, 0, NONE, true));
    }

    static void promise03_admissionAndFullLog() {
        ReconcilerHall hall = new ReconcilerHall();
        int deploy = hall.make(0, DEPLOY);
        refused(hall, STATE, () -> hall.apply(0, deploy, SURGE, 0, NONE, false));
        hall.check(DEPLOY, WANTED, 2);
        refused(hall, STATE, () -> hall.apply(0, deploy, WANTED, 3, NONE, false));
        due(2, hall.apply(0, deploy, WANTED, 2, NONE, false));
        hall.check(DEPLOY, WANTED, 1);
        refused(hall, STATE, () -> hall.apply(0, deploy, TEMPLATE, 3, NONE, false));
        refused(hall, STATE, () -> hall.apply(0, deploy, WANTED, 2, NONE, false));
        hall.clear();
        fillLog(hall, deploy, 400);
        refused(hall, STATE, () -> hall.apply(0, deploy, WANTED, 3, NONE, false));
        due(400, hall.apply(0, deploy, WANTED, 2, NONE, false));
    }

    static void promise03_goingObjectsAreStillApplied() {
        ReconcilerHall hall = new ReconcilerHall();
        int set = hall.make(0, SET);
        hall.delete(set, FOREGROUND);
        due(3, hall.apply(0, set, WANTED, 2, 2, false));
        due(FOREGROUND, hall.goingOf(set));
    }

    static void promise04_oneWriteForBothFields() {
        ReconcilerHall hall = new ReconcilerHall();
        int deploy = hall.make(0, DEPLOY);
        due(2, hall.applyBudget(0, deploy, 21, false));
        due(2, hall.field(deploy, SURGE));
        due(1, hall.field(deploy, SLACK));
        due(21, hall.budget(deploy));
        due(2, hall.applyBudget(0, deploy, 21, false));
        due(3, hall.applyBudget(2, deploy, 21, true));
        due(2, hall.managerOf(deploy, SURGE));
        due(2, hall.managerOf(deploy, SLACK));
        due(0, hall.managerOf(deploy, WANTED));
    }

    static void promise04_bothManagersCount() {
        ReconcilerHall hall = new ReconcilerHall();
        int deploy = hall.make(0, DEPLOY);
        hall.apply(1, deploy, SLACK, 1, NONE, true);
        refused(hall, STATE, () -> hall.applyBudget(0, deploy, 22, false));
        refused(hall, STATE, () -> hall.applyBudget(1, deploy, 22, false));
        due(3, hall.applyBudget(1, deploy, 22, true));
        due(4, hall.applyBudget(1, deploy, 2, false));
    }

    static void promise04_wrongArguments() {
        ReconcilerHall hall = new ReconcilerHall();
        int deploy = hall.make(0, DEPLOY);
        int set = hall.make(0, SET);
        refused(hall, INDEX, () -> hall.applyBudget(4, 2, 10, true));
        refused(hall, INDEX, () -> hall.applyBudget(0, -1, 10, true));
        refused(hall, ARGUMENT, () -> hall.applyBudget(4, deploy, 10, true));
        refused(hall, ARGUMENT, () -> hall.applyBudget(-1, deploy, 10, true));
        refused(hall, ARGUMENT, () -> hall.applyBudget(0, set, 10, true));
        for (int budget : new int[] {-1, -10, -9, 3, 9, 13, 19, 23, 30, 100, Integer.MIN_VALUE, Integer.MAX_VALUE}) {
            refused(hall, ARGUMENT, () -> hall.applyBudget(0, deploy, budget, true));
        }
        refused(hall, STATE, () -> hall.applyBudget(0, deploy, 0, true));
        hall.check(DEPLOY, SLACK, 1);
        refused(hall, STATE, () -> hall.applyBudget(0, deploy, 12, true));
        hall.clear();
        fillLog(hall, set, 400);
        refused(hall, STATE, () -> hall.applyBudget(0, deploy, 12, true));
        due(1, hall.applyBudget(0, deploy, 10, true));
    }

    static void promise04_notForGoneOnes() {
        ReconcilerHall hall = new ReconcilerHall();
        int deploy = hall.make(0, DEPLOY);
        hall.delete(deploy, BACKGROUND);
        refused(hall, ARGUMENT, () -> hall.applyBudget(0, deploy, 3, true));
        refused(hall, STATE, () -> hall.applyBudget(0, deploy, 10, true));
    }

    static void promise05_mannersOfDeleting() {
        ReconcilerHall hall = new ReconcilerHall();
        for (int manner = 1; manner <= 3; manner++) {
            int set = hall.make(0, SET);
            due(manner == BACKGROUND ? GONE : manner, hall.delete(set, manner));
            due(manner == BACKGROUND ? GONE : manner, hall.goingOf(set));
            due(hall.version(), hall.versionOf(set));
        }
        due(6, hall.version());
    }

    static void promise05_heldOnesOnlyGo() {
        ReconcilerHall hall = new ReconcilerHall();
        int set = hall.make(0, SET);
        hall.hold(set, true);
        due(BACKGROUND, hall.delete(set, BACKGROUND));
        refused(hall, STATE, () -> hall.delete(set, BACKGROUND));
        refused(hall, STATE, () -> hall.delete(set, FOREGROUND));
    }

    static void promise05_podsWithAPlaceOnlyGo() {
        ReconcilerHall hall = new ReconcilerHall();
        hall.make(0, NODE);
        int pod = runningPod(hall, 0);
        due(BACKGROUND, hall.delete(pod, BACKGROUND));
        int other = hall.make(0, POD);
        due(GONE, hall.delete(other, BACKGROUND));
    }

    static void promise05_goneOnesHaveNoOwner() {
        ReconcilerHall hall = new ReconcilerHall();
        int set = make(hall, SET, WANTED, 1);
        let(hall, REPLICATOR);
        due(set, hall.ownerOf(1));
        due(GONE, hall.delete(1, BACKGROUND));
        due(NONE, hall.ownerOf(1));
        due(set, hall.objectOf(1));
    }

    static void promise05_wrongArguments() {
        ReconcilerHall hall = new ReconcilerHall();
        int node = hall.make(0, NODE);
        refused(hall, INDEX, () -> hall.delete(1, 0));
        refused(hall, INDEX, () -> hall.delete(-1, 1));
        refused(hall, ARGUMENT, () -> hall.delete(node, STAYING));
        refused(hall, ARGUMENT, () -> hall.delete(node, GONE));
        refused(hall, ARGUMENT, () -> hall.delete(node, -1));
        fillLog(hall, node, 400);
        refused(hall, STATE, () -> hall.delete(node, FOREGROUND));
        refused(hall, ARGUMENT, () -> hall.delete(node, 5));
    }

    static void promise06_holdTellsWhatWas() {
        ReconcilerHall hall = new ReconcilerHall();
        int node = hall.make(0, NODE);
        due(false, hall.hold(node, false));
        due(1, hall.version());
        due(false, hall.hold(node, true));
        due(true, hall.hold(node, true));
        due(2, hall.versionOf(node));
        due(true, hall.hold(node, false));
        due(3, hall.version());
    }

    static void promise06_wrongStates() {
        ReconcilerHall hall = new ReconcilerHall();
        refused(hall, INDEX, () -> hall.hold(0, true));
        int gone = hall.make(0, NODE);
        int node = hall.make(0, NODE);
        hall.delete(gone, BACKGROUND);
        refused(hall, STATE, () -> hall.hold(gone, true));
        refused(hall, STATE, () -> hall.hold(gone, false));
        refused(hall, INDEX, () -> hall.hold(-1, true));
        refused(hall, INDEX, () -> hall.hold(2, true));
        boolean isHeld = fillLog(hall, node, 400);
        refused(hall, STATE, () -> hall.hold(node, !isHeld));
        due(isHeld, hall.hold(node, isHeld));
        due(400, hall.version());
    }

    static void promise07_runningPodsComeToTheirEnd() {
        ReconcilerHall hall = new ReconcilerHall();
        make(hall, NODE, ROOM, 9);
        int good = runningPod(hall, 0);
        int bad = runningPod(hall, 0);
        due(hall.version() + 1, hall.finish(good, true));
        due(DONE, hall.phaseOf(good));
        due(hall.version() + 1, hall.finish(bad, false));
        due(FAILED, hall.phaseOf(bad));
        refused(hall, STATE, () -> hall.finish(good, true));
        refused(hall, STATE, () -> hall.finish(bad, false));
    }

    static void promise07_goingPodsMayFinish() {
        ReconcilerHall hall = new ReconcilerHall();
        hall.make(0, NODE);
        int pod = runningPod(hall, 0);
        hall.delete(pod, BACKGROUND);
        due(hall.version() + 1, hall.finish(pod, true));
        due(DONE, hall.phaseOf(pod));
    }

    static void promise07_wrongArguments() {
        ReconcilerHall hall = new ReconcilerHall();
        int node = hall.make(0, NODE);
        int pod = runningPod(hall, 0);
        int waiting = hall.make(0, POD);
        refused(hall, INDEX, () -> hall.finish(3, true));
        refused(hall, INDEX, () -> hall.finish(-1, true));
        refused(hall, ARGUMENT, () -> hall.finish(node, true));
        refused(hall, STATE, () -> hall.finish(waiting, true));
        hall.delete(waiting, BACKGROUND);
        refused(hall, STATE, () -> hall.finish(waiting, true));
        fillLog(hall, node, 400);
        refused(hall, STATE, () -> hall.finish(pod, true));
    }

    /** A POD that was RUNNING when it became GONE can't finish. */
    static void promise07_goneOnesDoNotFinish() {
        ReconcilerHall hall = new ReconcilerHall();
        hall.make(0, NODE);
        int pod = runningPod(hall, 0);
        hall.delete(pod, BACKGROUND);
        let(hall, RUNNER);
        due(GONE, hall.goingOf(pod));
        refused(hall, STATE, () -> hall.finish(pod, true));
    }
}
