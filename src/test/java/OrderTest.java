/**
 * If several exceptions apply, the one that the @throws lines name first is thrown; by promise, for each pair of lines,
 * and nothing is changed by any of these calls.
 */
public final class OrderTest extends Twins {
    public static void main(String[] args) {
        run(OrderTest.class);
    }

    // ---- 2: IllegalArgumentException ahead of IllegalStateException

    static void promise02_wrongArgumentsAheadOfSixtyObjects() {
        untouched(SIXTY, STATE, hall -> hall.make(0, POD));
        untouched(SIXTY, ARGUMENT, hall -> hall.make(4, POD));
        untouched(SIXTY, ARGUMENT, hall -> hall.make(0, 6));
    }

    static void promise02_wrongArgumentsAheadOfAFullLog() {
        untouched(FULL, STATE, hall -> hall.make(0, POD));
        untouched(FULL, ARGUMENT, hall -> hall.make(-1, POD));
        untouched(FULL, ARGUMENT, hall -> hall.make(0, -1));
    }

    static void promise02_wrongArgumentsAheadOfAdmission() {
        ReconcilerHall hall = new ReconcilerHall();
        hall.quota(0);
        hall.check(SET, WANTED, -1);
        refused(hall, STATE, () -> hall.make(0, POD));
        refused(hall, STATE, () -> hall.make(0, SET));
        refused(hall, ARGUMENT, () -> hall.make(4, POD));
        refused(hall, ARGUMENT, () -> hall.make(4, SET));
    }

    // ---- 3: IndexOutOfBoundsException, IllegalArgumentException, IllegalStateException

    static void promise03_noObjectAheadOfWrongArguments() {
        untouched(RICH, INDEX, hall -> hall.apply(4, RICH_OBJECTS, WANTED, 1, NONE, true));
        untouched(RICH, INDEX, hall -> hall.apply(0, -1, 99, 1, NONE, true));
        untouched(RICH, INDEX, hall -> hall.apply(0, 60, WANTED, 99, NONE, true));
        untouched(RICH, INDEX, hall -> hall.apply(LOWEST, GREATEST, LOWEST, GREATEST, LOWEST, false));
    }

    static void promise03_noObjectAheadOfWrongStates() {
        untouched(RICH, INDEX, hall -> hall.apply(0, RICH_OBJECTS, WANTED, 1, 7, false));
        untouched(FULL, INDEX, hall -> hall.apply(0, -1, WANTED, 1, NONE, false));
    }

    static void promise03_wrongArgumentsAheadOfAGoneObject() {
        int gone = GONE_ONES + SET;
        untouched(RICH, STATE, hall -> hall.apply(0, gone, WANTED, 1, NONE, true));
        untouched(RICH, ARGUMENT, hall -> hall.apply(4, gone, WANTED, 1, NONE, true));
        untouched(RICH, ARGUMENT, hall -> hall.apply(0, gone, LOAD, 1, NONE, true));
        untouched(RICH, ARGUMENT, hall -> hall.apply(0, gone, WANTED, 6, NONE, true));
    }

    static void promise03_wrongArgumentsAheadOfAnotherVersion() {
        untouched(RICH, STATE, hall -> hall.apply(0, JOB_STAYING, WANTED, 1, 1, true));
        untouched(RICH, ARGUMENT, hall -> hall.apply(4, JOB_STAYING, WANTED, 1, 1, true));
        untouched(RICH, ARGUMENT, hall -> hall.apply(0, JOB_STAYING, ROOM, 1, 1, true));
        untouched(RICH, ARGUMENT, hall -> hall.apply(0, JOB_STAYING, AT_ONCE, 0, 1, true));
    }

    static void promise03_wrongArgumentsAheadOfAnotherManager() {
        untouched(RICH, STATE, hall -> hall.apply(1, JOB_STAYING, WANTED, 1, NONE, false));
        untouched(RICH, ARGUMENT, hall -> hall.apply(5, JOB_STAYING, WANTED, 1, NONE, false));
        untouched(RICH, ARGUMENT, hall -> hall.apply(1, JOB_STAYING, BARRED, 1, NONE, false));
        untouched(RICH, ARGUMENT, hall -> hall.apply(1, JOB_STAYING, WANTED, -1, NONE, false));
    }

    static void promise03_wrongArgumentsAheadOfAdmissionAndAFullLog() {
        untouched(RICH, STATE, hall -> hall.apply(0, DEPLOY_STAYING, LOAD, 81, NONE, true));
        untouched(RICH, ARGUMENT, hall -> hall.apply(0, DEPLOY_STAYING, LOAD, 100, NONE, true));
        untouched(FULL, STATE, hall -> hall.apply(0, DEPLOY_STAYING, LOAD, 1, NONE, true));
        untouched(FULL, ARGUMENT, hall -> hall.apply(0, DEPLOY_STAYING, LOAD, 100, NONE, true));
    }

    // ---- 4: IndexOutOfBoundsException, IllegalArgumentException, IllegalStateException

    static void promise04_noObjectAheadOfAll() {
        untouched(RICH, INDEX, hall -> hall.applyBudget(4, RICH_OBJECTS, 10, true));
        untouched(RICH, INDEX, hall -> hall.applyBudget(0, -1, 99, true));
        untouched(FULL, INDEX, hall -> hall.applyBudget(0, 60, 10, true));
        untouched(RICH, INDEX, hall -> hall.applyBudget(LOWEST, GREATEST, LOWEST, false));
    }

    static void promise04_wrongArgumentsAheadOfWrongStates() {
        int gone = GONE_ONES + DEPLOY;
        untouched(RICH, STATE, hall -> hall.applyBudget(0, gone, 20, true));
        untouched(RICH, ARGUMENT, hall -> hall.applyBudget(4, gone, 20, true));
        untouched(RICH, ARGUMENT, hall -> hall.applyBudget(0, gone, 30, true));
        untouched(RICH, ARGUMENT, hall -> hall.applyBudget(0, GONE_ONES + SET, 20, true));
        untouched(RICH, STATE, hall -> hall.applyBudget(1, DEPLOY_STAYING, 20, false));
        untouched(RICH, ARGUMENT, hall -> hall.applyBudget(1, DEPLOY_STAYING, 3, false));
        untouched(FULL, STATE, hall -> hall.applyBudget(0, DEPLOY_STAYING, 20, false));
        untouched(FULL, ARGUMENT, hall -> hall.applyBudget(0, DEPLOY_STAYING, 23, false));
        untouched(FULL, ARGUMENT, hall -> hall.applyBudget(-1, DEPLOY_STAYING, 20, false));
    }

    // ---- 5 to 7

    static void promise05_noObjectThenWrongMannersThenWrongStates() {
        untouched(RICH, INDEX, hall -> hall.delete(RICH_OBJECTS, STAYING));
        untouched(FULL, INDEX, hall -> hall.delete(-1, FOREGROUND));
        untouched(RICH, ARGUMENT, hall -> hall.delete(SET_FOREGROUND, STAYING));
        untouched(RICH, ARGUMENT, hall -> hall.delete(GONE_ONES, GONE));
        untouched(FULL, ARGUMENT, hall -> hall.delete(SET_STAYING, 5));
        untouched(FULL, STATE, hall -> hall.delete(SET_STAYING, BACKGROUND));
    }

    static void promise06_noObjectAheadOfWrongStates() {
        untouched(FULL, INDEX, hall -> hall.hold(RICH_OBJECTS, true));
        untouched(FULL, INDEX, hall -> hall.hold(-1, true));
        untouched(FULL, STATE, hall -> hall.hold(SET_STAYING, true));
    }

    static void promise07_noObjectThenNoPodThenWrongStates() {
        untouched(FULL, INDEX, hall -> hall.finish(RICH_OBJECTS, true));
        untouched(FULL, ARGUMENT, hall -> hall.finish(SET_STAYING, true));
        untouched(FULL, ARGUMENT, hall -> hall.finish(GONE_ONES + SET, true));
        untouched(FULL, STATE, hall -> hall.finish(POD_RUNNING, true));
    }

    // ---- 8 and 9: IllegalArgumentException ahead of IllegalStateException

    static void promise08_wrongArgumentsAheadOfEightRules() {
        ReconcilerHall hall = RICH.get();
        for (int count = 2; count <= 8; count++) {
            due(count, hall.rule(POD, TEMPLATE, 0, 0, TEMPLATE, 0));
        }
        refused(hall, STATE, () -> hall.rule(POD, TEMPLATE, 0, 0, TEMPLATE, 0));
        refused(hall, ARGUMENT, () -> hall.rule(6, TEMPLATE, 0, 0, TEMPLATE, 0));
        refused(hall, ARGUMENT, () -> hall.rule(POD, WANTED, 0, 0, TEMPLATE, 0));
        refused(hall, ARGUMENT, () -> hall.rule(POD, TEMPLATE, 1, 0, TEMPLATE, 0));
        refused(hall, ARGUMENT, () -> hall.rule(POD, TEMPLATE, 0, 0, WANTED, 0));
        refused(hall, ARGUMENT, () -> hall.rule(POD, TEMPLATE, 0, 0, TEMPLATE, 10));
        due(9, hall.clear());
    }

    static void promise09_wrongArgumentsAheadOfEightChecks() {
        ReconcilerHall hall = RICH.get();
        for (int count = 2; count <= 8; count++) {
            due(count, hall.check(POD, TEMPLATE, 9));
        }
        refused(hall, STATE, () -> hall.check(POD, TEMPLATE, 9));
        refused(hall, ARGUMENT, () -> hall.check(-1, TEMPLATE, 9));
        refused(hall, ARGUMENT, () -> hall.check(POD, WANTED, 9));
        due(9, hall.clear());
    }

    // ---- 16 to 18: IllegalArgumentException ahead of IndexOutOfBoundsException

    static void promise16_noControllerAheadOfNoPlace() {
        untouched(RICH, ARGUMENT, hall -> hall.queued(8, -1));
        untouched(RICH, ARGUMENT, hall -> hall.queued(-1, LOWEST));
        untouched(RICH, INDEX, hall -> hall.queued(7, -1));
    }

    static void promise17_noControllerAheadOfNoObject() {
        untouched(RICH, ARGUMENT, hall -> hall.failures(8, RICH_OBJECTS));
        untouched(RICH, ARGUMENT, hall -> hall.failures(-1, -1));
        untouched(RICH, INDEX, hall -> hall.failures(7, RICH_OBJECTS));
    }

    static void promise18_noControllerAheadOfNoObject() {
        untouched(RICH, ARGUMENT, hall -> hall.believed(8, RICH_OBJECTS, TEMPLATE));
        untouched(RICH, ARGUMENT, hall -> hall.believed(-1, -1, TEMPLATE));
        untouched(RICH, ARGUMENT, hall -> hall.believed(8, POD_RUNNING, WANTED));
        untouched(RICH, INDEX, hall -> hall.believed(7, RICH_OBJECTS, TEMPLATE));
    }

    // ---- 20, 21 and 24: IllegalArgumentException ahead of IllegalStateException

    static void promise20_wrongArgumentsAheadOfCompactedEvents() {
        untouched(RICH, STATE, hall -> hall.watch(1, 3));
        untouched(RICH, ARGUMENT, hall -> hall.watch(4, 3));
        untouched(RICH, ARGUMENT, hall -> hall.watch(1, -1));
        untouched(RICH, ARGUMENT, hall -> hall.watch(1, LOWEST));
    }

    static void promise21_noReaderAheadOfCompactedEvents() {
        untouched(RICH, STATE, hall -> hall.next(3));
        untouched(RICH, ARGUMENT, hall -> hall.next(4));
        untouched(RICH, ARGUMENT, hall -> hall.next(-1));
    }

    static void promise24_wrongTicksAheadOfTheTickAbove10000() {
        untouched(LATE, STATE, hall -> hall.tick(100));
        untouched(LATE, ARGUMENT, hall -> hall.tick(101));
        untouched(LATE, ARGUMENT, hall -> hall.tick(GREATEST));
        untouched(LATE, ARGUMENT, hall -> hall.tick(0));
    }

    // ---- 25, 26 and what there is: IndexOutOfBoundsException ahead of the others

    static void promise25_noObjectThenNoNodeThenWrongStates() {
        untouched(FULL, INDEX, hall -> hall.beat(RICH_OBJECTS));
        untouched(FULL, ARGUMENT, hall -> hall.beat(POD_RUNNING));
        untouched(FULL, ARGUMENT, hall -> hall.beat(GONE_ONES + POD));
        untouched(FULL, STATE, hall -> hall.beat(NODE_SILENT));
        untouched(FULL, STATE, hall -> hall.beat(GONE_ONES + NODE));
    }

    static void promise26_noObjectAheadOfWrongArguments() {
        untouched(RICH, INDEX, hall -> hall.wish(RICH_OBJECTS, 10));
        untouched(RICH, INDEX, hall -> hall.wish(-1, -2));
        untouched(RICH, ARGUMENT, hall -> hall.wish(SET_STAYING, 10));
    }

    static void promise31_noObjectAheadOfNoField() {
        untouched(RICH, INDEX, hall -> hall.field(RICH_OBJECTS, 11));
        untouched(RICH, INDEX, hall -> hall.field(-1, -1));
    }

    static void promise32_noObjectAheadOfNoField() {
        untouched(RICH, INDEX, hall -> hall.managerOf(RICH_OBJECTS, 11));
        untouched(RICH, INDEX, hall -> hall.managerOf(-1, -1));
    }

    static void promise40_noObjectAheadOfNoRoute() {
        untouched(RICH, INDEX, hall -> hall.isBehind(POD_RUNNING, RICH_OBJECTS));
        untouched(RICH, INDEX, hall -> hall.isBehind(POD_RUNNING, -1));
        untouched(RICH, INDEX, hall -> hall.isBehind(RICH_OBJECTS, RICH_OBJECTS));
        untouched(RICH, ARGUMENT, hall -> hall.isBehind(POD_RUNNING, POD_RUNNING));
    }
}
