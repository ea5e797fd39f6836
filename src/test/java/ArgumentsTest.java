/**
 * The Throws rows, by promise: the least and the greatest argument that is taken, the ones next to them that are not,
 * and the lowest and the greatest int; what is refused leaves everything as it was.
 */
public final class ArgumentsTest extends Twins {
    public static void main(String[] args) {
        run(ArgumentsTest.class);
    }

    private interface ByNumber {
        void call(ReconcilerHall hall, int number);
    }

    /** Each of these numbers is refused in a rich hall, and changes nothing. */
    private static void none(Class<? extends RuntimeException> want, int[] numbers, ByNumber call) {
        for (int number : numbers) {
            untouched(RICH, want, hall -> call.call(hall, number));
        }
    }

    /** Each number that is no object of a rich hall. */
    private static void noObject(ByNumber call) {
        none(INDEX, noObjects(), call);
    }

    /** For one object of each kind, STAYING or GONE, but of the kind that is meant. */
    private static void otherKinds(int kind, ByNumber call) {
        int[] staying = {DEPLOY_STAYING, SET_STAYING, POD_RUNNING, JOB_STAYING, NODE_READY, ROUTE_STAYING};
        for (int other = 0; other < 6; other++) {
            if (other != kind) {
                none(ARGUMENT, new int[] {staying[other], GONE_ONES + other}, call);
            }
        }
    }

    // ---- 2: make

    static void promise02_managers0To3() {
        none(ARGUMENT, outside(0, 3), (hall, manager) -> hall.make(manager, POD));
        for (int manager = 0; manager <= 3; manager++) {
            ReconcilerHall hall = new ReconcilerHall();
            due(0, hall.make(manager, POD));
            due(manager, hall.managerOf(0, TEMPLATE));
        }
    }

    static void promise02_kindsDeployToRoute() {
        none(ARGUMENT, outside(DEPLOY, ROUTE), (hall, kind) -> hall.make(0, kind));
        for (int kind = DEPLOY; kind <= ROUTE; kind++) {
            ReconcilerHall hall = new ReconcilerHall();
            due(0, hall.make(0, kind));
            due(kind, hall.kindOf(0));
        }
    }

    // ---- 3: apply

    static void promise03_thereIsNoSuchObject() {
        noObject((hall, object) -> hall.apply(0, object, TEMPLATE, 0, NONE, true));
    }

    static void promise03_managers0To3() {
        none(ARGUMENT, outside(0, 3), (hall, manager) -> hall.apply(manager, SET_STAYING, WANTED, 1, NONE, true));
        for (int manager = 0; manager <= 3; manager++) {
            ReconcilerHall hall = new ReconcilerHall();
            hall.make(manager, SET);
            due(2, hall.apply(manager, 0, WANTED, 1, NONE, false));
            due(manager, hall.managerOf(0, WANTED));
        }
    }

    static void promise03_fieldsThatTheKindHas() {
        int[] ofKinds = {DEPLOY_STAYING, SET_STAYING, POD_RUNNING, JOB_STAYING, NODE_READY, ROUTE_STAYING};
        for (int kind = 0; kind < 6; kind++) {
            int object = ofKinds[kind];
            none(ARGUMENT, noFieldsOf(kind), (hall, field) -> hall.apply(0, object, field, 1, NONE, true));
        }
    }

    static void promise03_theLeastAndTheGreatestValueOfEachField() {
        for (int kind = 0; kind < 6; kind++) {
            for (int field = 0; field < 11; field++) {
                if (!has(kind, field)) {
                    continue;
                }
                ReconcilerHall hall = new ReconcilerHall();
                hall.make(0, kind);
                if (field == SURGE) {
                    put(hall, 0, SLACK, 1);
                }
                for (int value : new int[] {GREATEST_VALUE[field], LEAST_VALUE[field], GREATEST_VALUE[field]}) {
                    int due = hall.version() + (hall.field(0, field) == value ? 0 : 1);
                    due(due, hall.apply(0, 0, field, value, NONE, false));
                    due(value, hall.field(0, field));
                }
            }
        }
    }

    static void promise03_valuesNextToTheRangeOfEachField() {
        int[] ofKinds = {DEPLOY_STAYING, SET_STAYING, POD_RUNNING, JOB_STAYING, NODE_READY, ROUTE_STAYING};
        for (int kind = 0; kind < 6; kind++) {
            for (int field = 0; field < 11; field++) {
                if (has(kind, field)) {
                    int object = ofKinds[kind];
                    int number = field;
                    none(ARGUMENT, outside(LEAST_VALUE[field], GREATEST_VALUE[field]),
                        (hall, value) -> hall.apply(0, object, number, value, NONE, true));
                }
            }
        }
    }

    static void promise03_expectedIsTheVersionOrNone() {
        int version = RICH.get().versionOf(SET_STAYING);
        none(STATE, new int[] {LOWEST, -2, 0, version - 1, version + 1, 400, 401, GREATEST},
            (hall, expected) -> hall.apply(0, SET_STAYING, WANTED, 1, expected, true));
        none(STATE, new int[] {0, 400}, (hall, expected) -> hall.apply(0, NODE_READY, ZONE, 1, expected, true));
        for (int expected : new int[] {version, NONE}) {
            ReconcilerHall hall = RICH.get();
            due(hall.version() + 1, hall.apply(0, SET_STAYING, WANTED, 1, expected, true));
        }
    }

    /** The version that is expected counts even if nothing would be another one. */
    static void promise03_expectedCountsForSamenessToo() {
        none(STATE, new int[] {0, 400}, (hall, expected) -> hall.apply(0, JOB_STAYING, WANTED, 0, expected, false));
        ReconcilerHall hall = RICH.get();
        int version = hall.versionOf(JOB_STAYING);
        due(version, hall.apply(0, JOB_STAYING, WANTED, 0, version, false));
    }

    // ---- 4: applyBudget

    static void promise04_thereIsNoSuchObject() {
        noObject((hall, object) -> hall.applyBudget(0, object, 10, true));
    }

    static void promise04_managers0To3() {
        none(ARGUMENT, outside(0, 3), (hall, manager) -> hall.applyBudget(manager, DEPLOY_STAYING, 21, true));
        for (int manager = 0; manager <= 3; manager++) {
            ReconcilerHall hall = new ReconcilerHall();
            hall.make(manager, DEPLOY);
            due(2, hall.applyBudget(manager, 0, 22, false));
            due(manager, hall.managerOf(0, SURGE));
            due(manager, hall.managerOf(0, SLACK));
        }
    }

    static void promise04_itIsNoDeploy() {
        otherKinds(DEPLOY, (hall, object) -> hall.applyBudget(0, object, 10, true));
    }

    static void promise04_surgeAndSlackInTheirRanges() {
        for (int budget = -40; budget <= 120; budget++) {
            int surge = Math.floorDiv(budget, 10);
            int slack = Math.floorMod(budget, 10);
            int number = budget;
            if (surge < 0 || surge > 2 || slack > 2) {
                untouched(RICH, ARGUMENT, hall -> hall.applyBudget(0, DEPLOY_STAYING, number, true));
            } else if (budget > 0) {
                ReconcilerHall hall = new ReconcilerHall();
                hall.make(0, DEPLOY);
                hall.applyBudget(1, 0, budget, true);
                due(surge, hall.field(0, SURGE));
                due(slack, hall.field(0, SLACK));
                due(budget, hall.budget(0));
            }
        }
    }

    static void promise04_lowestAndGreatestBudget() {
        none(ARGUMENT, new int[] {LOWEST, LOWEST + 8, LOWEST + 9, -2147483640, GREATEST, 2147483640, 2147483642},
            (hall, budget) -> hall.applyBudget(0, DEPLOY_STAYING, budget, true));
    }

    /** Surge and slack both 0 is a budget, but admission refuses it. */
    static void promise04_theLeastBudgetIsRefusedByAdmission() {
        untouched(RICH, STATE, hall -> hall.applyBudget(0, DEPLOY_STAYING, 0, true));
        ReconcilerHall hall = RICH.get();
        hall.rule(DEPLOY, SLACK, 0, 0, SLACK, 1);
        hall.applyBudget(0, DEPLOY_STAYING, 0, true);
        due(1, hall.budget(DEPLOY_STAYING));
    }

    // ---- 5 to 7: delete, hold, finish

    static void promise05_thereIsNoSuchObject() {
        noObject((hall, object) -> hall.delete(object, FOREGROUND));
    }

    static void promise05_mannersForegroundToOrphan() {
        none(ARGUMENT, new int[] {LOWEST, -1, STAYING, GONE, 5, GREATEST}, (hall, manner) -> hall.delete(SET_STAYING, manner));
        for (int manner = FOREGROUND; manner <= ORPHAN; manner++) {
            ReconcilerHall hall = RICH.get();
            due(manner == BACKGROUND ? GONE : manner, hall.delete(SET_STAYING, manner));
        }
    }

    static void promise05_itIsNotStaying() {
        for (int manner = FOREGROUND; manner <= ORPHAN; manner++) {
            int number = manner;
            none(STATE, new int[] {SET_FOREGROUND, SET_BACKGROUND, SET_ORPHAN}, (hall, object) -> hall.delete(object, number));
            for (int kind = 0; kind < 6; kind++) {
                int gone = GONE_ONES + kind;
                untouched(RICH, STATE, hall -> hall.delete(gone, number));
            }
        }
    }

    static void promise06_thereIsNoSuchObject() {
        noObject((hall, object) -> hall.hold(object, true));
        noObject((hall, object) -> hall.hold(object, false));
    }

    static void promise06_itIsGone() {
        int[] gone = {GONE_ONES, GONE_ONES + SET, GONE_ONES + POD, GONE_ONES + JOB, GONE_ONES + NODE, GONE_ONES + ROUTE};
        none(STATE, gone, (hall, object) -> hall.hold(object, true));
        none(STATE, gone, (hall, object) -> hall.hold(object, false));
    }

    static void promise07_thereIsNoSuchObject() {
        noObject((hall, object) -> hall.finish(object, true));
    }

    static void promise07_itIsNoPod() {
        otherKinds(POD, (hall, object) -> hall.finish(object, false));
    }

    static void promise07_itIsGoneOrNotRunning() {
        none(STATE, new int[] {GONE_ONES + POD, POD_WAITING, POD_DONE, POD_FAILED}, (hall, object) -> hall.finish(object, true));
        none(STATE, new int[] {GONE_ONES + POD, POD_WAITING, POD_DONE, POD_FAILED}, (hall, object) -> hall.finish(object, false));
    }

    // ---- 8 to 11: rule, check, clear, quota

    static void promise08_kindsDeployToRoute() {
        none(ARGUMENT, outside(DEPLOY, ROUTE), (hall, kind) -> hall.rule(kind, TEMPLATE, 0, 1, TEMPLATE, 0));
        for (int kind = DEPLOY; kind <= ROUTE; kind++) {
            int field = kind == NODE ? ROOM : TEMPLATE;
            due(1, new ReconcilerHall().rule(kind, field, 0, 1, field, 0));
        }
    }

    static void promise08_fieldsThatTheKindHas() {
        for (int kind = 0; kind < 6; kind++) {
            int ofKind = kind;
            int own = kind == NODE ? ROOM : TEMPLATE;
            none(ARGUMENT, noFieldsOf(kind), (hall, field) -> hall.rule(ofKind, field, 0, 1, own, 1));
            none(ARGUMENT, noFieldsOf(kind), (hall, target) -> hall.rule(ofKind, own, 0, 1, target, 1));
        }
    }

    static void promise08_everyFieldOfTheKindIsTaken() {
        for (int kind = 0; kind < 6; kind++) {
            for (int field = 0; field < 11; field++) {
                for (int target = 0; target < 11; target++) {
                    if (has(kind, field) && has(kind, target)) {
                        due(1, new ReconcilerHall().rule(kind, field, 0, 0, target, LEAST_VALUE[target]));
                        due(1, new ReconcilerHall().rule(kind, field, 0, 0, target, GREATEST_VALUE[target]));
                    }
                }
            }
        }
    }

    static void promise08_valuesNextToTheRangeOfTheTarget() {
        for (int kind = 0; kind < 6; kind++) {
            for (int target = 0; target < 11; target++) {
                if (has(kind, target)) {
                    int ofKind = kind;
                    int number = target;
                    none(ARGUMENT, outside(LEAST_VALUE[target], GREATEST_VALUE[target]),
                        (hall, value) -> hall.rule(ofKind, number, 0, 1, number, value));
                }
            }
        }
    }

    /** The least value may be the greatest one, but not above it; both may lie outside of the range of the field. */
    static void promise08_lowIsNotAboveHigh() {
        int[][] wrong = {{1, 0}, {0, -1}, {GREATEST, LOWEST}, {GREATEST, GREATEST - 1}, {LOWEST + 1, LOWEST}, {9, 5}};
        for (int[] range : wrong) {
            untouched(RICH, ARGUMENT, hall -> hall.rule(NODE, ROOM, range[0], range[1], ZONE, 1));
        }
        int[][] right = {{4, 4}, {LOWEST, GREATEST}, {LOWEST, 4}, {4, GREATEST}, {-5, 100}};
        for (int[] range : right) {
            ReconcilerHall hall = new ReconcilerHall();
            due(1, hall.rule(NODE, ROOM, range[0], range[1], ZONE, 1));
            hall.make(0, NODE);
            due(1, hall.field(0, ZONE));
        }
        int[][] never = {{LOWEST, LOWEST}, {GREATEST, GREATEST}, {LOWEST, 3}, {5, GREATEST}, {0, 3}, {5, 9}};
        for (int[] range : never) {
            ReconcilerHall hall = new ReconcilerHall();
            due(1, hall.rule(NODE, ROOM, range[0], range[1], ZONE, 1));
            hall.make(0, NODE);
            due(0, hall.field(0, ZONE));
        }
    }

    static void promise09_kindsDeployToRoute() {
        none(ARGUMENT, outside(DEPLOY, ROUTE), (hall, kind) -> hall.check(kind, TEMPLATE, 5));
        for (int kind = DEPLOY; kind <= ROUTE; kind++) {
            due(1, new ReconcilerHall().check(kind, kind == NODE ? ROOM : TEMPLATE, 5));
        }
    }

    static void promise09_fieldsThatTheKindHas() {
        for (int kind = 0; kind < 6; kind++) {
            int ofKind = kind;
            none(ARGUMENT, noFieldsOf(kind), (hall, field) -> hall.check(ofKind, field, 1));
            for (int field = 0; field < 11; field++) {
                if (has(kind, field)) {
                    ReconcilerHall hall = new ReconcilerHall();
                    due(1, hall.check(kind, field, FIRST_VALUE[field] - 1));
                    untouchedMake(hall, ofKind);
                    hall.clear();
                    due(1, hall.check(kind, field, FIRST_VALUE[field]));
                    due(0, hall.make(0, kind));
                }
            }
        }
    }

    private static void untouchedMake(ReconcilerHall hall, int kind) {
        refused(hall, STATE, () -> hall.make(0, kind));
    }

    static void promise09_anyNumberMayBeTheGreatest() {
        for (int most : new int[] {LOWEST, -1, 0, 3, 4, 9, 10, GREATEST}) {
            ReconcilerHall hall = new ReconcilerHall();
            due(1, hall.check(NODE, ROOM, most));
            if (most < 4) {
                untouchedMake(hall, NODE);
            } else {
                due(0, hall.make(0, NODE));
            }
        }
    }

    static void promise11_quotas0To60() {
        none(ARGUMENT, outside(0, 60), (hall, most) -> hall.quota(most));
        ReconcilerHall hall = new ReconcilerHall();
        due(30, hall.quota(60));
        due(60, hall.quota(0));
        due(0, hall.quota(1));
        due(1, hall.quota(30));
    }

    // ---- 12 to 18: what asks for a controller

    /** The call takes the controllers 0 to 7 and no others. */
    private static void controllers(ByNumber call) {
        none(ARGUMENT, outside(DEPLOYER, SCALER), call);
        for (int controller = DEPLOYER; controller <= SCALER; controller++) {
            call.call(RICH.get(), controller);
        }
    }

    static void promise12_controllersDeployerToScaler() {
        controllers((hall, controller) -> hall.see(controller, 1));
    }

    static void promise12_many1To400() {
        for (int controller = DEPLOYER; controller <= SCALER; controller++) {
            int number = controller;
            none(ARGUMENT, outside(1, 400), (hall, many) -> hall.see(number, many));
        }
        ReconcilerHall hall = new ReconcilerHall();
        hall.make(0, NODE);
        fillLog(hall, 0, 400);
        hall.see(RUNNER, 1);
        due(1, hall.seen(RUNNER));
        hall.see(RUNNER, 398);
        due(399, hall.seen(RUNNER));
        hall.see(ROUTER, 400);
        due(400, hall.seen(ROUTER));
        hall.see(SCALER, 399);
        due(399, hall.seen(SCALER));
    }

    static void promise13_controllersDeployerToScaler() {
        controllers((hall, controller) -> hall.work(controller));
    }

    static void promise14_times1To10() {
        none(ARGUMENT, outside(1, 10), (hall, times) -> hall.turn(times));
        for (int times : new int[] {1, 10}) {
            ReconcilerHall hall = new ReconcilerHall();
            make(hall, SET, WANTED, 5);
            hall.make(0, NODE);
            put(hall, 1, ROOM, 0);
            int version = hall.version();
            due(times == 1 ? 1 : 5, hall.turn(times));
            due(version + (times == 1 ? 1 : 5), hall.version());
        }
    }

    static void promise15_controllersDeployerToScaler() {
        controllers((hall, controller) -> hall.seen(controller));
    }

    static void promise16_controllersDeployerToScaler() {
        controllers((hall, controller) -> hall.queued(controller, 0));
    }

    static void promise16_placesFrom0() {
        for (int controller = DEPLOYER; controller <= SCALER; controller++) {
            int number = controller;
            none(INDEX, new int[] {LOWEST, -2, -1}, (hall, place) -> hall.queued(number, place));
            for (int place : new int[] {40, 59, 60, 61, 400, GREATEST}) {
                due(NONE, RICH.get().queued(controller, place));
            }
        }
        due(JOB_PUT_OFF, RICH.get().queued(JOBBER, 0));
        due(NONE, RICH.get().queued(JOBBER, 1));
        due(RICH_OBJECTS - 1, RICH.get().queued(SCHEDULER, 1));
        due(NONE, RICH.get().queued(SCHEDULER, 2));
    }

    static void promise17_controllersDeployerToScaler() {
        controllers((hall, controller) -> hall.failures(controller, 0));
    }

    static void promise17_thereIsNoSuchObject() {
        for (int controller = DEPLOYER; controller <= SCALER; controller++) {
            int number = controller;
            noObject((hall, object) -> hall.failures(number, object));
            due(0, RICH.get().failures(controller, 0));
            due(0, RICH.get().failures(controller, RICH_OBJECTS - 1));
        }
        due(1, RICH.get().failures(SCHEDULER, POD_WAITING));
    }

    static void promise18_controllersDeployerToScaler() {
        controllers((hall, controller) -> hall.believed(controller, 0, ROOM));
    }

    static void promise18_thereIsNoSuchObject() {
        for (int controller = DEPLOYER; controller <= SCALER; controller++) {
            int number = controller;
            noObject((hall, object) -> hall.believed(number, object, TEMPLATE));
            due(9, RICH.get().believed(DEPLOYER, 0, ROOM));
            due(controller == SCHEDULER ? 5 : NONE, RICH.get().believed(controller, RICH_OBJECTS - 1, TEMPLATE));
        }
    }

    static void promise18_fieldsThatTheKindHas() {
        for (int kind = 0; kind < 6; kind++) {
            int gone = GONE_ONES + kind;
            none(ARGUMENT, noFieldsOf(kind), (hall, field) -> hall.believed(JOBBER, gone, field));
            for (int field = 0; field < 11; field++) {
                if (has(kind, field)) {
                    due(FIRST_VALUE[field], RICH.get().believed(JOBBER, gone, field));
                    due(NONE, RICH.get().believed(RUNNER, gone, field));
                }
            }
        }
    }

    // ---- 20 to 23: readers

    static void promise20_readers0To3() {
        none(ARGUMENT, outside(0, 3), (hall, reader) -> hall.watch(reader, 10));
        for (int reader = 0; reader <= 3; reader++) {
            due(44, RICH.get().watch(reader, 10));
        }
    }

    static void promise20_from0ToTheLatestVersion() {
        none(ARGUMENT, outside(0, RICH.get().version()), (hall, from) -> hall.watch(0, from));
        due(0, RICH.get().watch(0, RICH.get().version()));
        ReconcilerHall hall = new ReconcilerHall();
        due(0, hall.watch(2, 0));
        refused(hall, ARGUMENT, () -> hall.watch(2, 1));
        hall.make(0, SET);
        due(1, hall.watch(2, 0));
        due(0, hall.watch(2, 1));
        refused(hall, ARGUMENT, () -> hall.watch(2, 2));
        fillLog(hall, 0, 400);
        due(400, hall.watch(2, 0));
        due(0, hall.watch(2, 400));
        refused(hall, ARGUMENT, () -> hall.watch(2, 401));
    }

    /** Behind the latest version that was compacted a reader may begin, ahead of it not. */
    static void promise20_someWereCompacted() {
        none(STATE, new int[] {0, 1, 2, 3}, (hall, from) -> hall.watch(3, from));
        ReconcilerHall hall = RICH.get();
        due(hall.version() - 4, hall.watch(3, 4));
        due(hall.version() - 5, hall.watch(3, 5));
        hall.compact(hall.version());
        refused(hall, STATE, () -> hall.watch(3, hall.version() - 1));
        due(0, hall.watch(3, hall.version()));
    }

    static void promise21_readers0To3() {
        none(ARGUMENT, outside(0, 3), (hall, reader) -> hall.next(reader));
        for (int reader = 0; reader <= 3; reader++) {
            ReconcilerHall hall = RICH.get();
            hall.watch(reader, 4);
            due(hall.objectOf(5), hall.next(reader));
        }
    }

    /** A reader whose next event was compacted is refused, again and again, until it goes elsewhere. */
    static void promise21_theNextOneWasCompacted() {
        none(STATE, new int[] {1, 3}, (hall, reader) -> hall.next(reader));
        ReconcilerHall hall = RICH.get();
        fails(STATE, () -> hall.next(1));
        fails(STATE, () -> hall.next(1));
        hall.watch(1, 4);
        due(hall.objectOf(5), hall.next(1));
        hall.compact(5);
        due(hall.objectOf(6), hall.next(1));
        hall.compact(7);
        fails(STATE, () -> hall.next(1));
        hall.list(1);
        due(NONE, hall.next(1));
    }

    static void promise22_readers0To3() {
        none(ARGUMENT, outside(0, 3), (hall, reader) -> hall.list(reader));
        for (int reader = 0; reader <= 3; reader++) {
            ReconcilerHall hall = RICH.get();
            due(16, hall.list(reader));
            due(NONE, hall.next(reader));
        }
    }

    static void promise23_versions0ToTheLatest() {
        none(ARGUMENT, outside(0, RICH.get().version()), (hall, version) -> hall.compact(version));
        ReconcilerHall hall = RICH.get();
        due(4, hall.compact(0));
        due(4, hall.compact(3));
        due(4, hall.compact(4));
        due(5, hall.compact(5));
        due(hall.version(), hall.compact(hall.version()));
        due(hall.version(), hall.compact(0));
        ReconcilerHall other = new ReconcilerHall();
        due(0, other.compact(0));
        refused(other, ARGUMENT, () -> other.compact(1));
    }

    // ---- 24 to 27: tick, beat, wish

    static void promise24_ticks1To100() {
        none(ARGUMENT, outside(1, 100), (hall, ticks) -> hall.tick(ticks));
        due(22, RICH.get().tick(1));
        due(121, RICH.get().tick(100));
    }

    static void promise24_theTickWouldBeAbove10000() {
        for (int ticks : new int[] {1, 2, 99, 100}) {
            untouched(LATE, STATE, hall -> hall.tick(ticks));
        }
        ReconcilerHall hall = new ReconcilerHall();
        for (int tick = 100; tick <= 9900; tick += 100) {
            due(tick, hall.tick(100));
        }
        due(9901, hall.tick(1));
        refused(hall, STATE, () -> hall.tick(100));
        due(10000, hall.tick(99));
        refused(hall, STATE, () -> hall.tick(1));
        ReconcilerHall other = new ReconcilerHall();
        for (int tick = 100; tick <= 10000; tick += 100) {
            due(tick, other.tick(100));
        }
    }

    static void promise25_thereIsNoSuchObject() {
        noObject((hall, object) -> hall.beat(object));
    }

    static void promise25_itIsNoNode() {
        otherKinds(NODE, (hall, object) -> hall.beat(object));
    }

    static void promise25_itIsGone() {
        untouched(RICH, STATE, hall -> hall.beat(GONE_ONES + NODE));
    }

    static void promise26_thereIsNoSuchObject() {
        noObject((hall, object) -> hall.wish(object, 1));
        noObject((hall, object) -> hall.wish(object, NONE));
    }

    static void promise26_itIsNoDeploy() {
        otherKinds(DEPLOY, (hall, object) -> hall.wish(object, 1));
        otherKinds(DEPLOY, (hall, object) -> hall.wish(object, NONE));
    }

    static void promise26_templates0To9OrNone() {
        none(ARGUMENT, new int[] {LOWEST, -2, 10, GREATEST}, (hall, template) -> hall.wish(DEPLOY_STAYING, template));
        ReconcilerHall hall = RICH.get();
        due(3, hall.wish(DEPLOY_STAYING, 0));
        due(0, hall.wish(DEPLOY_STAYING, 9));
        due(9, hall.wish(DEPLOY_STAYING, NONE));
        due(NONE, hall.wish(DEPLOY_STAYING, 9));
    }

    // ---- 30 to 42: what there is

    static void promise30_thereIsNoSuchObject() {
        noObject((hall, object) -> hall.kindOf(object));
        due(NODE, RICH.get().kindOf(0));
        due(POD, RICH.get().kindOf(RICH_OBJECTS - 1));
    }

    static void promise31_thereIsNoSuchObject() {
        noObject((hall, object) -> hall.field(object, TEMPLATE));
        due(4, RICH.get().field(0, ROOM));
        due(5, RICH.get().field(RICH_OBJECTS - 1, TEMPLATE));
    }

    static void promise31_fieldsThatTheKindHas() {
        for (int kind = 0; kind < 6; kind++) {
            int gone = GONE_ONES + kind;
            none(ARGUMENT, noFieldsOf(kind), (hall, field) -> hall.field(gone, field));
            for (int field = 0; field < 11; field++) {
                if (has(kind, field)) {
                    due(FIRST_VALUE[field], RICH.get().field(gone, field));
                }
            }
        }
    }

    static void promise32_thereIsNoSuchObject() {
        noObject((hall, object) -> hall.managerOf(object, TEMPLATE));
        due(0, RICH.get().managerOf(0, ROOM));
        due(4, RICH.get().managerOf(RICH_OBJECTS - 1, TEMPLATE));
    }

    static void promise32_fieldsThatTheKindHas() {
        for (int kind = 0; kind < 6; kind++) {
            int gone = GONE_ONES + kind;
            none(ARGUMENT, noFieldsOf(kind), (hall, field) -> hall.managerOf(gone, field));
            for (int field = 0; field < 11; field++) {
                if (has(kind, field)) {
                    due(0, RICH.get().managerOf(gone, field));
                }
            }
        }
    }

    static void promise33_objectsAndKinds() {
        noObject((hall, object) -> hall.budget(object));
        otherKinds(DEPLOY, (hall, object) -> hall.budget(object));
        due(11, RICH.get().budget(DEPLOY_STAYING));
        due(10, RICH.get().budget(GONE_ONES + DEPLOY));
    }

    static void promise34_thereIsNoSuchObject() {
        noObject((hall, object) -> hall.versionOf(object));
        due(49, RICH.get().versionOf(0));
        due(54, RICH.get().versionOf(RICH_OBJECTS - 1));
    }

    static void promise35_thereIsNoSuchObject() {
        noObject((hall, object) -> hall.goingOf(object));
        due(STAYING, RICH.get().goingOf(0));
        due(STAYING, RICH.get().goingOf(RICH_OBJECTS - 1));
    }

    static void promise36_thereIsNoSuchObject() {
        noObject((hall, object) -> hall.ownerOf(object));
        due(NONE, RICH.get().ownerOf(0));
        due(JOB_PUT_OFF, RICH.get().ownerOf(RICH_OBJECTS - 1));
    }

    static void promise37_objectsAndKinds() {
        noObject((hall, object) -> hall.phaseOf(object));
        otherKinds(POD, (hall, object) -> hall.phaseOf(object));
        due(RUNNING, RICH.get().phaseOf(POD_RUNNING));
        due(WAITING, RICH.get().phaseOf(RICH_OBJECTS - 1));
    }

    static void promise38_objectsAndKinds() {
        noObject((hall, object) -> hall.placeOf(object));
        otherKinds(POD, (hall, object) -> hall.placeOf(object));
        due(NODE_READY, RICH.get().placeOf(POD_RUNNING));
        due(NONE, RICH.get().placeOf(RICH_OBJECTS - 1));
    }

    static void promise39_objectsAndKinds() {
        noObject((hall, object) -> hall.isReady(object));
        otherKinds(NODE, (hall, object) -> hall.isReady(object));
        due(true, RICH.get().isReady(NODE_READY));
        due(false, RICH.get().isReady(NODE_SILENT));
    }

    static void promise40_objectsOfEither() {
        noObject((hall, route) -> hall.isBehind(route, POD_RUNNING));
        noObject((hall, pod) -> hall.isBehind(ROUTE_STAYING, pod));
        otherKinds(ROUTE, (hall, route) -> hall.isBehind(route, POD_RUNNING));
        for (int pod = 0; pod < RICH_OBJECTS; pod++) {
            due(pod == 3 || pod == 4, RICH.get().isBehind(ROUTE_STAYING, pod));
        }
    }

    static void promise41_objectsAndKinds() {
        noObject((hall, object) -> hall.running(object, false));
        noObject((hall, object) -> hall.running(object, true));
        otherKinds(DEPLOY, (hall, object) -> hall.running(object, false));
        otherKinds(DEPLOY, (hall, object) -> hall.running(object, true));
        due(2, RICH.get().running(DEPLOY_STAYING, true));
        due(0, RICH.get().running(GONE_ONES + DEPLOY, false));
    }

    static void promise42_versions1ToTheLatest() {
        none(INDEX, outside(1, RICH.get().version()), (hall, version) -> hall.objectOf(version));
        due(0, RICH.get().objectOf(1));
        due(RICH_OBJECTS - 1, RICH.get().objectOf(RICH.get().version()));
        ReconcilerHall empty = new ReconcilerHall();
        refused(empty, INDEX, () -> empty.objectOf(1));
        for (int version : outside(1, 400)) {
            untouched(FULL, INDEX, hall -> hall.objectOf(version));
        }
    }

    /** In a new hall there is no object for any call. */
    static void promise01_noObjectsAtFirst() {
        ReconcilerHall hall = new ReconcilerHall();
        refused(hall, INDEX, () -> hall.apply(0, 0, TEMPLATE, 0, NONE, true));
        refused(hall, INDEX, () -> hall.applyBudget(0, 0, 10, true));
        refused(hall, INDEX, () -> hall.delete(0, BACKGROUND));
        refused(hall, INDEX, () -> hall.hold(0, true));
        refused(hall, INDEX, () -> hall.finish(0, true));
        refused(hall, INDEX, () -> hall.failures(DEPLOYER, 0));
        refused(hall, INDEX, () -> hall.believed(DEPLOYER, 0, TEMPLATE));
        refused(hall, INDEX, () -> hall.beat(0));
        refused(hall, INDEX, () -> hall.wish(0, 1));
        refused(hall, INDEX, () -> hall.kindOf(0));
        refused(hall, INDEX, () -> hall.field(0, TEMPLATE));
        refused(hall, INDEX, () -> hall.managerOf(0, TEMPLATE));
        refused(hall, INDEX, () -> hall.budget(0));
        refused(hall, INDEX, () -> hall.versionOf(0));
        refused(hall, INDEX, () -> hall.goingOf(0));
        refused(hall, INDEX, () -> hall.ownerOf(0));
        refused(hall, INDEX, () -> hall.phaseOf(0));
        refused(hall, INDEX, () -> hall.placeOf(0));
        refused(hall, INDEX, () -> hall.isReady(0));
        refused(hall, INDEX, () -> hall.isBehind(0, 0));
        refused(hall, INDEX, () -> hall.running(0, true));
        refused(hall, INDEX, () -> hall.objectOf(1));
        due(0, hall.make(0, DEPLOY));
    }

    /** With 60 objects the number 59 is taken by each call, and 60 by none. */
    static void promise02_theSixtiethObjectIsTaken() {
        ReconcilerHall hall = SIXTY.get();
        due(SET, hall.kindOf(59));
        due(93, hall.apply(0, 59, WANTED, 1, NONE, false));
        due(false, hall.hold(59, true));
        due(0, hall.failures(REPLICATOR, 59));
        due(NONE, hall.believed(REPLICATOR, 59, WANTED));
        due(1, hall.field(59, WANTED));
        due(0, hall.managerOf(59, WANTED));
        due(94, hall.versionOf(59));
        due(NONE, hall.ownerOf(59));
        due(false, hall.isBehind(ROUTE_STAYING, 59));
        due(BACKGROUND, hall.delete(59, BACKGROUND));
        due(BACKGROUND, hall.goingOf(59));
        due(59, hall.objectOf(95));
        refused(hall, INDEX, () -> hall.kindOf(60));
        refused(hall, INDEX, () -> hall.hold(60, true));
        refused(hall, INDEX, () -> hall.isBehind(ROUTE_STAYING, 60));
        refused(hall, INDEX, () -> hall.failures(REPLICATOR, 60));
    }
}
