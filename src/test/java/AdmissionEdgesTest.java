/**
 * Admission at its edges, for each way by which it is gone through: make, apply, applyBudget, the hub and the
 * controllers. What is refused changes nothing; the sixth turn of the rules, the checks, SURGE and SLACK both 0.
 */
public final class AdmissionEdgesTest extends Twins {
    public static void main(String[] args) {
        run(AdmissionEdgesTest.class);
    }

    /** Rules by which a field goes from 0 up to a value, by one for each turn. */
    private static void chain(ReconcilerHall hall, int kind, int field, int turns) {
        for (int value = turns - 1; value >= 0; value--) {
            hall.rule(kind, field, value, value, field, value + 1);
        }
    }

    /** A DEPLOY 0 that would come to a LOAD by so many turns; its TEMPLATE is 9. */
    private static ReconcilerHall deployWithChain(int turns) {
        ReconcilerHall hall = new ReconcilerHall();
        make(hall, DEPLOY, TEMPLATE, 9);
        chain(hall, DEPLOY, LOAD, turns);
        return hall;
    }

    // ---- if something is in the sixth turn, the write is refused

    static void promise02_fiveTurnsAreTakenAndSixRefused() {
        for (int turns = 1; turns <= 8; turns++) {
            ReconcilerHall hall = new ReconcilerHall();
            chain(hall, DEPLOY, LOAD, turns);
            if (turns <= 5) {
                due(0, hall.make(1, DEPLOY));
                due(turns, hall.field(0, LOAD));
                due(1, hall.managerOf(0, LOAD));
                due(1, hall.version());
            } else {
                refused(hall, STATE, () -> hall.make(1, DEPLOY));
            }
        }
    }

    static void promise03_fiveTurnsAreTakenAndSixRefused() {
        for (int turns = 1; turns <= 8; turns++) {
            ReconcilerHall hall = deployWithChain(turns);
            if (turns <= 5) {
                due(3, hall.apply(1, 0, WANTED, 2, 2, true));
                due(turns, hall.field(0, LOAD));
                due(0, hall.managerOf(0, LOAD));
                due(1, hall.managerOf(0, WANTED));
            } else {
                refused(hall, STATE, () -> hall.apply(1, 0, WANTED, 2, 2, true));
                refused(hall, STATE, () -> hall.apply(0, 0, WANTED, 0, NONE, false));
            }
        }
    }

    static void promise04_fiveTurnsAreTakenAndSixRefused() {
        for (int turns = 1; turns <= 8; turns++) {
            ReconcilerHall hall = deployWithChain(turns);
            if (turns <= 5) {
                due(3, hall.applyBudget(0, 0, 21, false));
                due(turns, hall.field(0, LOAD));
                due(21, hall.budget(0));
            } else {
                refused(hall, STATE, () -> hall.applyBudget(0, 0, 21, false));
                refused(hall, STATE, () -> hall.applyBudget(0, 0, 10, false));
            }
        }
    }

    static void promise27_fiveTurnsAreTakenAndSixLeftOut() {
        for (int turns = 1; turns <= 8; turns++) {
            ReconcilerHall hall = deployWithChain(turns);
            hall.wish(0, 8);
            due(turns <= 5 ? 1 : 0, hall.hub(false));
            due(turns <= 5 ? 8 : 9, hall.field(0, TEMPLATE));
            due(turns <= 5 ? turns : 0, hall.field(0, LOAD));
            due(turns <= 5 ? 5 : 0, hall.managerOf(0, TEMPLATE));
            due(turns <= 5 ? 3 : 2, hall.version());
        }
    }

    static void promise13_fiveTurnsAreTakenAndSixBreakIt() {
        int[] kinds = {DEPLOY, SET, JOB};
        for (int controller = DEPLOYER; controller <= JOBBER; controller++) {
            for (int turns = 5; turns <= 6; turns++) {
                ReconcilerHall hall = new ReconcilerHall();
                make(hall, kinds[controller], WANTED, 1);
                hall.see(controller, 400);
                chain(hall, controller == DEPLOYER ? SET : POD, TEMPLATE, turns);
                due(turns == 5 ? LEFT : BROKEN, hall.work(controller));
                due(turns == 5 ? 2 : 1, hall.objects());
                due(turns == 5 ? 0 : 1, hall.failures(controller, 0));
                if (turns == 5) {
                    due(5, hall.field(1, TEMPLATE));
                }
            }
        }
    }

    static void promise13_fiveTurnsAreTakenAndSixBreakTheScaler() {
        for (int turns = 5; turns <= 6; turns++) {
            ReconcilerHall hall = new ReconcilerHall();
            make(hall, DEPLOY, MOST, 3);
            hall.see(SCALER, 400);
            chain(hall, DEPLOY, TEMPLATE, turns);
            due(turns == 5 ? LEFT : BROKEN, hall.work(SCALER));
            due(turns == 5 ? 1 : 0, hall.field(0, WANTED));
            due(turns == 5 ? 5 : 0, hall.field(0, TEMPLATE));
            due(turns == 5 ? 0 : 1, hall.failures(SCALER, 0));
        }
    }

    /** What the DEPLOYER wants of a SET goes through the rules of SETs. */
    static void promise13_fiveTurnsAreTakenAndSixBreakWhatIsWanted() {
        for (int turns = 5; turns <= 6; turns++) {
            ReconcilerHall hall = new ReconcilerHall();
            make(hall, DEPLOY, WANTED, 2);
            let(hall, DEPLOYER);
            put(hall, 1, WANTED, 5);
            put(hall, 1, TEMPLATE, 0);
            hall.see(DEPLOYER, 400);
            chain(hall, SET, TEMPLATE, turns);
            due(turns == 5 ? LEFT : BROKEN, hall.work(DEPLOYER));
            due(turns == 5 ? 2 : 5, hall.field(1, WANTED));
            due(turns == 5 ? 4 : 0, hall.managerOf(1, WANTED));
        }
    }

    /** Only a turn behind which something is another one than ahead of it counts: there and back again is nothing. */
    static void promise08_aTurnThatTakesItsChangesBackIsTheLastOne() {
        ReconcilerHall hall = new ReconcilerHall();
        hall.make(0, NODE);
        hall.rule(NODE, ZONE, 1, 1, ROOM, 9);
        hall.rule(NODE, ROOM, 9, 9, ROOM, 3);
        put(hall, 0, ZONE, 1);
        due(3, hall.field(0, ROOM));
        due(2, hall.version());
    }

    /** A rule sees what the rules of lesser numbers have changed in the same turn, so that rising chains end at once. */
    static void promise08_aRisingChainNeedsOneTurn() {
        ReconcilerHall hall = new ReconcilerHall();
        hall.make(0, SET);
        for (int value = 0; value < 8; value++) {
            hall.rule(SET, TEMPLATE, value, value, TEMPLATE, value + 1);
        }
        put(hall, 0, WANTED, 1);
        due(8, hall.field(0, TEMPLATE));
    }

    /** The range of a rule takes its least and its greatest value, and nothing next to them. */
    static void promise08_theLeastAndTheGreatestValueOfARange() {
        for (int load = 0; load <= 99; load++) {
            ReconcilerHall hall = new ReconcilerHall();
            hall.make(0, DEPLOY);
            hall.rule(DEPLOY, LOAD, 40, 60, PAUSED, 1);
            put(hall, 0, LOAD, load);
            due(load >= 40 && load <= 60 ? 1 : 0, hall.field(0, PAUSED));
        }
    }

    /** Rules are gone through when an object is made or a field applied; by other writes nothing comes of them. */
    static void promise08_otherWritesDoNotGoThroughRules() {
        ReconcilerHall hall = new ReconcilerHall();
        hall.make(0, NODE);
        int pod = runningPod(hall, 3);
        int doomed = hall.make(0, POD);
        hall.rule(NODE, ROOM, 0, 9, ROOM, 1);
        hall.rule(POD, TEMPLATE, 0, 9, TEMPLATE, 8);
        hall.hold(pod, true);
        hall.finish(pod, true);
        hall.delete(doomed, BACKGROUND);
        hall.tick(21);
        hall.beat(0);
        due(4, hall.field(0, ROOM));
        due(3, hall.field(pod, TEMPLATE));
        due(0, hall.field(doomed, TEMPLATE));
        put(hall, 0, ZONE, 1);
        due(1, hall.field(0, ROOM));
    }

    /** Places, phases, what is behind a ROUTE, and all deleting by controllers go through no admission. */
    static void promise13_otherWritesOfControllersAreNotChecked() {
        ReconcilerHall hall = new ReconcilerHall();
        make(hall, NODE, ROOM, 9);
        hall.make(0, POD);
        hall.make(0, ROUTE);
        make(hall, SET, WANTED, 1);
        let(hall, REPLICATOR);
        put(hall, 3, WANTED, 0);
        hall.delete(3, FOREGROUND);
        for (int kind = 0; kind < 6; kind++) {
            hall.check(kind, kind == NODE ? ROOM : TEMPLATE, -1);
        }
        let(hall, SCHEDULER, RUNNER, ROUTER, COLLECTOR);
        due(0, hall.placeOf(1));
        due(RUNNING, hall.phaseOf(1));
        due(true, hall.isBehind(2, 1));
        due(FOREGROUND, hall.goingOf(4));
    }

    // ---- a check refuses what is above its value

    static void promise02_theGreatestValueOfACheck() {
        ReconcilerHall hall = new ReconcilerHall();
        hall.check(NODE, ROOM, 4);
        due(0, hall.make(0, NODE));
        hall.check(NODE, ROOM, 3);
        refused(hall, STATE, () -> hall.make(0, NODE));
        due(1, hall.make(0, SET));
    }

    static void promise03_theGreatestValueOfACheck() {
        for (int kind = 0; kind < 6; kind++) {
            for (int field = 0; field < 11; field++) {
                if (!has(kind, field) || GREATEST_VALUE[field] < 2) {
                    continue;
                }
                int number = field;
                ReconcilerHall hall = new ReconcilerHall();
                hall.make(0, kind);
                int most = GREATEST_VALUE[field] - 1;
                hall.check(kind, field, most);
                put(hall, 0, field, most);
                due(most, hall.field(0, field));
                refused(hall, STATE, () -> put(hall, 0, number, most + 1));
                hall.clear();
                put(hall, 0, field, most + 1);
                due(most + 1, hall.field(0, field));
            }
        }
    }

    static void promise04_theGreatestValueOfACheck() {
        ReconcilerHall hall = new ReconcilerHall();
        hall.make(0, DEPLOY);
        hall.check(DEPLOY, SURGE, 1);
        hall.check(DEPLOY, SLACK, 1);
        due(2, hall.applyBudget(0, 0, 11, false));
        refused(hall, STATE, () -> hall.applyBudget(0, 0, 12, false));
        refused(hall, STATE, () -> hall.applyBudget(0, 0, 21, false));
        due(3, hall.applyBudget(0, 0, 1, false));
    }

    static void promise13_theGreatestValueOfACheck() {
        int[] kinds = {DEPLOY, SET, JOB};
        for (int controller = DEPLOYER; controller <= JOBBER; controller++) {
            for (int most = 3; most <= 4; most++) {
                ReconcilerHall hall = new ReconcilerHall();
                make(hall, kinds[controller], WANTED, 1, TEMPLATE, 4);
                hall.see(controller, 400);
                hall.check(controller == DEPLOYER ? SET : POD, TEMPLATE, most);
                due(most == 4 ? LEFT : BROKEN, hall.work(controller));
                due(most == 4 ? 2 : 1, hall.objects());
                due(most == 4 ? 0 : 1, hall.failures(controller, 0));
            }
        }
        for (int most = 2; most <= 3; most++) {
            ReconcilerHall hall = new ReconcilerHall();
            make(hall, DEPLOY, MOST, 5, LOAD, 21);
            hall.see(SCALER, 400);
            hall.check(DEPLOY, WANTED, most);
            due(most == 3 ? LEFT : BROKEN, hall.work(SCALER));
            due(most == 3 ? 3 : 0, hall.field(0, WANTED));
        }
    }

    /** What the DEPLOYER wants of a SET is checked as a SET. */
    static void promise13_whatIsWantedOfASetIsChecked() {
        for (int most = 2; most <= 3; most++) {
            ReconcilerHall hall = new ReconcilerHall();
            make(hall, DEPLOY, WANTED, 3);
            hall.check(SET, WANTED, most);
            hall.see(DEPLOYER, 400);
            due(LEFT, hall.work(DEPLOYER));
            hall.see(DEPLOYER, 400);
            due(most == 3 ? LEFT : BROKEN, hall.work(DEPLOYER));
            due(most == 3 ? 3 : 0, hall.field(1, WANTED));
        }
    }

    static void promise27_theGreatestValueOfACheck() {
        ReconcilerHall hall = new ReconcilerHall();
        hall.make(0, DEPLOY);
        hall.make(0, DEPLOY);
        hall.wish(0, 6);
        hall.wish(1, 5);
        hall.check(DEPLOY, TEMPLATE, 5);
        due(1, hall.hub(false));
        due(0, hall.field(0, TEMPLATE));
        due(0, hall.managerOf(0, TEMPLATE));
        due(5, hall.field(1, TEMPLATE));
        due(5, hall.managerOf(1, TEMPLATE));
    }

    /** Even an object that keeps what is above a check can't get another field. */
    static void promise03_whatIsAboveACheckAlreadyRefusesAllFields() {
        ReconcilerHall hall = new ReconcilerHall();
        make(hall, NODE, ROOM, 9);
        hall.check(NODE, ROOM, 8);
        refused(hall, STATE, () -> hall.apply(0, 0, ZONE, 1, NONE, false));
        refused(hall, STATE, () -> hall.apply(0, 0, ROOM, 9, NONE, false));
        due(3, hall.apply(0, 0, ROOM, 8, NONE, false));
    }

    // ---- a DEPLOY with SURGE and SLACK both 0 is refused

    static void promise02_surgeAndSlackBoth0() {
        ReconcilerHall hall = new ReconcilerHall();
        hall.rule(DEPLOY, WANTED, 0, 0, SURGE, 0);
        refused(hall, STATE, () -> hall.make(0, DEPLOY));
        hall.rule(DEPLOY, WANTED, 0, 0, SLACK, 1);
        due(0, hall.make(0, DEPLOY));
        due(1, hall.budget(0));
    }

    static void promise03_surgeAndSlackBoth0() {
        ReconcilerHall hall = new ReconcilerHall();
        hall.make(0, DEPLOY);
        refused(hall, STATE, () -> put(hall, 0, SURGE, 0));
        put(hall, 0, SLACK, 1);
        put(hall, 0, SURGE, 0);
        due(1, hall.budget(0));
        refused(hall, STATE, () -> put(hall, 0, SLACK, 0));
        put(hall, 0, SURGE, 1);
        put(hall, 0, SLACK, 0);
        due(10, hall.budget(0));
        refused(hall, STATE, () -> hall.apply(1, 0, SURGE, 0, NONE, true));
        put(hall, 0, SURGE, 2);
        due(20, hall.budget(0));
    }

    /** Whatever field is applied: by rules SURGE or SLACK may become 0. */
    static void promise03_surgeAndSlackBoth0ByRules() {
        ReconcilerHall hall = new ReconcilerHall();
        hall.make(0, DEPLOY);
        hall.rule(DEPLOY, PAUSED, 1, 1, SURGE, 0);
        refused(hall, STATE, () -> put(hall, 0, PAUSED, 1));
        put(hall, 0, WANTED, 1);
        hall.rule(DEPLOY, PAUSED, 1, 1, SLACK, 2);
        put(hall, 0, PAUSED, 1);
        due(2, hall.budget(0));
    }

    static void promise04_surgeAndSlackBoth0() {
        ReconcilerHall hall = new ReconcilerHall();
        hall.make(0, DEPLOY);
        refused(hall, STATE, () -> hall.applyBudget(0, 0, 0, true));
        due(2, hall.applyBudget(0, 0, 1, true));
        refused(hall, STATE, () -> hall.applyBudget(0, 0, 0, false));
        due(3, hall.applyBudget(0, 0, 10, true));
        hall.rule(DEPLOY, SLACK, 2, 2, SLACK, 0);
        refused(hall, STATE, () -> hall.applyBudget(0, 0, 2, true));
        due(4, hall.applyBudget(0, 0, 22, true));
        due(20, hall.budget(0));
    }

    static void promise27_surgeAndSlackBoth0() {
        ReconcilerHall hall = new ReconcilerHall();
        hall.make(0, DEPLOY);
        hall.rule(DEPLOY, TEMPLATE, 5, 5, SURGE, 0);
        hall.wish(0, 5);
        due(0, hall.hub(false));
        due(0, hall.field(0, TEMPLATE));
        due(10, hall.budget(0));
        hall.wish(0, 4);
        due(1, hall.hub(false));
    }

    static void promise13_surgeAndSlackBoth0BreakTheScaler() {
        ReconcilerHall hall = new ReconcilerHall();
        make(hall, DEPLOY, MOST, 2);
        hall.see(SCALER, 400);
        hall.rule(DEPLOY, WANTED, 1, 1, SURGE, 0);
        due(BROKEN, hall.work(SCALER));
        due(0, hall.field(0, WANTED));
        due(10, hall.budget(0));
        hall.clear();
        hall.tick(1);
        due(LEFT, hall.work(SCALER));
        due(1, hall.field(0, WANTED));
    }

    // ---- a write by which nothing would be another one is none; another manager is another one

    static void promise03_samenessOfEachFieldIsNoEvent() {
        for (int kind = 0; kind < 6; kind++) {
            for (int field = 0; field < 11; field++) {
                if (has(kind, field)) {
                    ReconcilerHall hall = new ReconcilerHall();
                    hall.make(2, kind);
                    due(1, hall.apply(2, 0, field, FIRST_VALUE[field], NONE, false));
                    due(1, hall.apply(2, 0, field, FIRST_VALUE[field], 1, true));
                    due(1, hall.version());
                    due(2, hall.apply(3, 0, field, FIRST_VALUE[field], NONE, true));
                    due(3, hall.managerOf(0, field));
                    due(2, hall.apply(3, 0, field, FIRST_VALUE[field], NONE, false));
                    due(2, hall.version());
                }
            }
        }
    }

    /** Sameness is looked at behind admission: a rule may make an event of it, or none. */
    static void promise03_samenessBehindAdmission() {
        ReconcilerHall hall = new ReconcilerHall();
        hall.make(0, SET);
        hall.rule(SET, WANTED, 0, 0, TEMPLATE, 3);
        due(2, hall.apply(0, 0, WANTED, 0, NONE, false));
        due(3, hall.field(0, TEMPLATE));
        due(2, hall.apply(0, 0, TEMPLATE, 7, NONE, false));
        due(3, hall.field(0, TEMPLATE));
        due(2, hall.version());
    }

    static void promise04_oneManagerThatBecomesAnotherOne() {
        ReconcilerHall hall = new ReconcilerHall();
        hall.make(0, DEPLOY);
        hall.apply(1, 0, SLACK, 0, NONE, true);
        due(2, hall.version());
        refused(hall, STATE, () -> hall.applyBudget(1, 0, 10, false));
        refused(hall, STATE, () -> hall.applyBudget(0, 0, 10, false));
        due(3, hall.applyBudget(1, 0, 10, true));
        due(1, hall.managerOf(0, SURGE));
        due(3, hall.applyBudget(1, 0, 10, false));
        due(4, hall.applyBudget(0, 0, 10, true));
        due(4, hall.version());
    }

    static void promise06_samenessIsNoEvent() {
        ReconcilerHall hall = new ReconcilerHall();
        hall.make(0, SET);
        due(false, hall.hold(0, false));
        due(1, hall.version());
        due(false, hall.hold(0, true));
        due(2, hall.version());
        due(true, hall.hold(0, true));
        due(2, hall.version());
        due(true, hall.hold(0, false));
        due(3, hall.version());
        due(false, hall.hold(0, false));
        due(3, hall.version());
    }

    static void promise25_samenessIsNoEvent() {
        ReconcilerHall hall = new ReconcilerHall();
        hall.make(0, NODE);
        due(true, hall.beat(0));
        due(1, hall.version());
        hall.tick(21);
        due(2, hall.version());
        due(false, hall.beat(0));
        due(3, hall.version());
        due(true, hall.beat(0));
        due(3, hall.version());
    }

    static void promise27_samenessIsNoEvent() {
        ReconcilerHall hall = new ReconcilerHall();
        hall.make(0, DEPLOY);
        hall.wish(0, 0);
        due(1, hall.hub(false));
        due(5, hall.managerOf(0, TEMPLATE));
        due(0, hall.hub(false));
        due(2, hall.version());
        hall.apply(0, 0, TEMPLATE, 0, NONE, true);
        due(1, hall.hub(false));
        due(4, hall.version());
    }
}
