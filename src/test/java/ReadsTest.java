import java.lang.reflect.Constructor;
import java.lang.reflect.Field;
import java.lang.reflect.Method;
import java.lang.reflect.Modifier;
import java.util.Arrays;
import java.util.TreeSet;

/** Promises 28 to 42: what there is; and the face itself. */
public final class ReadsTest extends Suite {
    public static void main(String[] args) {
        run(ReadsTest.class);
    }

    /** The constants stand in Suite as the document tells them. */
    static void promise00_constants() throws ReflectiveOperationException {
        int count = 0;
        for (Field field : ReconcilerHall.class.getDeclaredFields()) {
            if (Modifier.isPublic(field.getModifiers())) {
                due(Suite.class.getDeclaredField(field.getName()).getInt(null), field.getInt(null));
                due(true, Modifier.isStatic(field.getModifiers()) && Modifier.isFinal(field.getModifiers()));
                count++;
            }
        }
        due(39, count);
    }

    static void promise00_face() {
        due(true, Modifier.isFinal(ReconcilerHall.class.getModifiers()));
        TreeSet<String> names = new TreeSet<>();
        for (Method method : ReconcilerHall.class.getDeclaredMethods()) {
            if (Modifier.isPublic(method.getModifiers())) {
                names.add(method.getName());
            }
            due(true, Modifier.isPublic(method.getModifiers()) || Modifier.isPrivate(method.getModifiers()) || method.isSynthetic());
        }
        due(new TreeSet<>(Arrays.asList(("make apply applyBudget delete hold finish rule check clear quota see work turn seen queued "
            + "failures believed isSettled watch next list compact tick beat wish hub objects version kindOf field managerOf budget "
            + "versionOf goingOf ownerOf phaseOf placeOf isReady isBehind running objectOf").split(" "))), names);
        for (Constructor<?> constructor : ReconcilerHall.class.getDeclaredConstructors()) {
            due(true, Modifier.isPublic(constructor.getModifiers()) && constructor.getParameterCount() == 0);
        }
    }

    private static ReconcilerHall hallOfAllKinds() {
        ReconcilerHall hall = new ReconcilerHall();
        for (int kind = 0; kind < 6; kind++) {
            hall.make(kind % 4, kind);
        }
        return hall;
    }

    static void promise28_countsGoneOnesToo() {
        ReconcilerHall hall = hallOfAllKinds();
        due(6, hall.objects());
        hall.delete(0, BACKGROUND);
        due(6, hall.objects());
    }

    static void promise29_isTheNumberOfEvents() {
        ReconcilerHall hall = hallOfAllKinds();
        due(6, hall.version());
        hall.compact(6);
        due(6, hall.version());
        hall.hold(0, true);
        due(7, hall.version());
    }

    static void promise30_kindOf() {
        ReconcilerHall hall = hallOfAllKinds();
        for (int kind = 0; kind < 6; kind++) {
            hall.delete(kind, BACKGROUND);
            due(kind, hall.kindOf(kind));
        }
        refused(hall, INDEX, () -> hall.kindOf(6));
        refused(hall, INDEX, () -> hall.kindOf(-1));
        refused(hall, INDEX, () -> hall.kindOf(Integer.MAX_VALUE));
        refused(hall, INDEX, () -> hall.kindOf(Integer.MIN_VALUE));
    }

    static void promise31_fieldsOfTheKindAlone() {
        ReconcilerHall hall = hallOfAllKinds();
        for (int kind = 0; kind < 6; kind++) {
            for (int field = -2; field < 14; field++) {
                int object = kind;
                int number = field;
                if (has(kind, field)) {
                    due(field == SURGE || field == AT_ONCE ? 1 : field == ROOM ? 4 : 0, hall.field(object, number));
                } else {
                    refused(hall, ARGUMENT, () -> hall.field(object, number));
                    refused(hall, ARGUMENT, () -> hall.managerOf(object, number));
                    refused(hall, ARGUMENT, () -> hall.believed(DEPLOYER, object, number));
                }
            }
        }
        refused(hall, INDEX, () -> hall.field(6, 99));
        refused(hall, INDEX, () -> hall.field(-1, 0));
    }

    static void promise31_goneOnesAsTheyWereAtLast() {
        ReconcilerHall hall = new ReconcilerHall();
        int set = make(hall, SET, WANTED, 3);
        hall.delete(set, BACKGROUND);
        due(3, hall.field(set, WANTED));
        due(0, hall.managerOf(set, WANTED));
    }

    static void promise32_managerOf() {
        ReconcilerHall hall = hallOfAllKinds();
        due(0, hall.managerOf(0, WANTED));
        due(1, hall.managerOf(1, WANTED));
        due(3, hall.managerOf(3, AT_ONCE));
        due(0, hall.managerOf(4, BARRED));
        hall.apply(3, 4, BARRED, 1, NONE, true);
        due(3, hall.managerOf(4, BARRED));
        due(0, hall.managerOf(4, ROOM));
        hall.apply(1, 1, WANTED, 1, NONE, false);
        let(hall, REPLICATOR);
        due(4, hall.managerOf(6, TEMPLATE));
        refused(hall, INDEX, () -> hall.managerOf(7, 0));
        refused(hall, INDEX, () -> hall.managerOf(-1, 0));
    }

    static void promise33_budget() {
        ReconcilerHall hall = hallOfAllKinds();
        due(10, hall.budget(0));
        put(hall, 0, SLACK, 2);
        due(12, hall.budget(0));
        put(hall, 0, SURGE, 0);
        due(2, hall.budget(0));
        hall.delete(0, BACKGROUND);
        due(2, hall.budget(0));
        for (int kind = 1; kind < 6; kind++) {
            int object = kind;
            refused(hall, ARGUMENT, () -> hall.budget(object));
        }
        refused(hall, INDEX, () -> hall.budget(6));
        refused(hall, INDEX, () -> hall.budget(-1));
    }

    static void promise34_versionOf() {
        ReconcilerHall hall = hallOfAllKinds();
        hall.hold(2, true);
        due(7, hall.versionOf(2));
        due(4, hall.versionOf(3));
        hall.compact(7);
        due(1, hall.versionOf(0));
        refused(hall, INDEX, () -> hall.versionOf(6));
        refused(hall, INDEX, () -> hall.versionOf(-1));
    }

    static void promise35_goingOf() {
        ReconcilerHall hall = hallOfAllKinds();
        hall.hold(3, true);
        hall.delete(1, FOREGROUND);
        hall.delete(2, ORPHAN);
        hall.delete(3, BACKGROUND);
        hall.delete(4, BACKGROUND);
        int[] going = {STAYING, FOREGROUND, ORPHAN, BACKGROUND, GONE, STAYING};
        for (int object = 0; object < 6; object++) {
            due(going[object], hall.goingOf(object));
        }
        refused(hall, INDEX, () -> hall.goingOf(6));
        refused(hall, INDEX, () -> hall.goingOf(-1));
    }

    static void promise36_ownerOf() {
        ReconcilerHall hall = hallOfAllKinds();
        put(hall, 1, WANTED, 1);
        let(hall, REPLICATOR, DEPLOYER);
        due(1, hall.ownerOf(6));
        due(0, hall.ownerOf(7));
        due(NONE, hall.ownerOf(1));
        hall.delete(1, BACKGROUND);
        due(1, hall.ownerOf(6));
        hall.delete(6, BACKGROUND);
        due(NONE, hall.ownerOf(6));
        refused(hall, INDEX, () -> hall.ownerOf(8));
        refused(hall, INDEX, () -> hall.ownerOf(-1));
    }

    static void promise37_phaseOf() {
        ReconcilerHall hall = hallOfAllKinds();
        due(WAITING, hall.phaseOf(2));
        let(hall, SCHEDULER);
        due(WAITING, hall.phaseOf(2));
        let(hall, RUNNER);
        due(RUNNING, hall.phaseOf(2));
        hall.finish(2, true);
        due(DONE, hall.phaseOf(2));
        for (int kind = 0; kind < 6; kind++) {
            int object = kind;
            if (kind != POD) {
                refused(hall, ARGUMENT, () -> hall.phaseOf(object));
                refused(hall, ARGUMENT, () -> hall.placeOf(object));
            }
        }
        refused(hall, INDEX, () -> hall.phaseOf(6));
        refused(hall, INDEX, () -> hall.phaseOf(-1));
    }

    /** What is GONE loses its owner alone; its phase is as it was at last. */
    static void promise37_phasesOfGonePods() {
        ReconcilerHall hall = new ReconcilerHall();
        make(hall, NODE, ROOM, 9);
        for (int phase = RUNNING; phase <= FAILED; phase++) {
            int pod = runningPod(hall, 0);
            if (phase != RUNNING) {
                hall.finish(pod, phase == DONE);
            }
            hall.delete(pod, BACKGROUND);
            let(hall, RUNNER);
            due(GONE, hall.goingOf(pod));
            due(phase, hall.phaseOf(pod));
            due(NONE, hall.placeOf(pod));
        }
    }

    static void promise38_placeOf() {
        ReconcilerHall hall = hallOfAllKinds();
        due(NONE, hall.placeOf(2));
        let(hall, SCHEDULER);
        due(4, hall.placeOf(2));
        hall.delete(2, BACKGROUND);
        due(4, hall.placeOf(2));
        let(hall, RUNNER);
        due(NONE, hall.placeOf(2));
        refused(hall, INDEX, () -> hall.placeOf(6));
        refused(hall, INDEX, () -> hall.placeOf(-1));
    }

    static void promise39_isReady() {
        ReconcilerHall hall = hallOfAllKinds();
        due(true, hall.isReady(4));
        hall.tick(21);
        due(false, hall.isReady(4));
        for (int kind = 0; kind < 6; kind++) {
            int object = kind;
            if (kind != NODE) {
                refused(hall, ARGUMENT, () -> hall.isReady(object));
            }
        }
        refused(hall, INDEX, () -> hall.isReady(6));
        refused(hall, INDEX, () -> hall.isReady(-1));
    }

    static void promise40_isBehind() {
        ReconcilerHall hall = hallOfAllKinds();
        let(hall, SCHEDULER, RUNNER);
        due(false, hall.isBehind(5, 2));
        let(hall, ROUTER);
        due(true, hall.isBehind(5, 2));
        due(false, hall.isBehind(5, 4));
        due(false, hall.isBehind(5, 5));
        refused(hall, ARGUMENT, () -> hall.isBehind(2, 5));
        refused(hall, INDEX, () -> hall.isBehind(6, 2));
        refused(hall, INDEX, () -> hall.isBehind(5, 6));
        refused(hall, INDEX, () -> hall.isBehind(2, -1));
        refused(hall, INDEX, () -> hall.isBehind(-1, 2));
    }

    /** A POD is behind a ROUTE until the ROUTER has written otherwise, and a ROUTE that is GONE is written no more. */
    static void promise40_goneOnesAsTheyWereAtLast() {
        ReconcilerHall hall = hallOfAllKinds();
        let(hall, SCHEDULER, RUNNER, ROUTER);
        hall.delete(2, BACKGROUND);
        let(hall, RUNNER);
        due(GONE, hall.goingOf(2));
        due(true, hall.isBehind(5, 2));
        ReconcilerHall other = hallOfAllKinds();
        let(other, SCHEDULER, RUNNER, ROUTER);
        other.delete(5, BACKGROUND);
        other.finish(2, true);
        let(other, ROUTER);
        due(true, other.isBehind(5, 2));
        let(hall, ROUTER);
        due(false, hall.isBehind(5, 2));
    }

    /** PODs of great numbers are behind a ROUTE as well, and no others for that. */
    static void promise40_allNumbersOfPods() {
        ReconcilerHall hall = new ReconcilerHall();
        int route = hall.make(0, ROUTE);
        make(hall, NODE, ROOM, 9);
        for (int number = 2; number < 60; number++) {
            if (number >= 28 && number <= 32 || number >= 58) {
                runningPod(hall, 0);
            } else {
                hall.make(0, SET);
            }
        }
        let(hall, ROUTER);
        for (int pod = 0; pod < 60; pod++) {
            due(pod >= 28 && pod <= 32 || pod >= 58, hall.isBehind(route, pod));
        }
    }

    static void promise41_runningPodsOfADeploy() {
        ReconcilerHall hall = new ReconcilerHall();
        make(hall, NODE, ROOM, 9);
        int deploy = make(hall, DEPLOY, WANTED, 2);
        hall.turn(5);
        due(2, hall.running(deploy, false));
        due(2, hall.running(deploy, true));
        put(hall, deploy, PAUSED, 1);
        put(hall, deploy, TEMPLATE, 3);
        due(2, hall.running(deploy, false));
        due(0, hall.running(deploy, true));
        put(hall, deploy, PAUSED, 0);
        hall.turn(2);
        due(3, hall.running(deploy, false));
        due(1, hall.running(deploy, true));
        runningPod(hall, 3);
        due(3, hall.running(deploy, false));
        hall.delete(3, BACKGROUND);
        due(2, hall.running(deploy, false));
        due(1, hall.running(deploy, true));
        hall.delete(2, FOREGROUND);
        due(1, hall.running(deploy, false));
    }

    /** What has become of the DEPLOY does not matter: its SETs are owned by it as long as they have it as their owner. */
    static void promise41_ofADeployThatIsGone() {
        for (int manner = FOREGROUND; manner <= ORPHAN; manner++) {
            ReconcilerHall hall = new ReconcilerHall();
            make(hall, NODE, ROOM, 9);
            int deploy = make(hall, DEPLOY, WANTED, 2);
            hall.turn(6);
            hall.delete(deploy, manner);
            due(manner == BACKGROUND ? GONE : manner, hall.goingOf(deploy));
            due(2, hall.running(deploy, false));
            due(2, hall.running(deploy, true));
            let(hall, COLLECTOR);
            due(0, hall.running(deploy, false));
            due(0, hall.running(deploy, true));
        }
    }

    static void promise41_countsTheLowestSetWithItsTemplate() {
        ReconcilerHall hall = new ReconcilerHall();
        make(hall, NODE, ROOM, 9);
        int deploy = make(hall, DEPLOY, WANTED, 1);
        hall.turn(4);
        put(hall, deploy, TEMPLATE, 1);
        hall.turn(1);
        hall.turn(1);
        due(2, hall.running(deploy, false));
        put(hall, deploy, PAUSED, 1);
        int lower = 2;
        int higher = 4;
        due(SET, hall.kindOf(higher));
        put(hall, lower, TEMPLATE, 1);
        put(hall, hall.objects() - 1, TEMPLATE, 2);
        hall.delete(3, BACKGROUND);
        due(1, hall.running(deploy, false));
        due(0, hall.running(deploy, true));
        put(hall, deploy, TEMPLATE, 0);
        due(0, hall.running(deploy, true));
    }

    static void promise41_wrongArguments() {
        ReconcilerHall hall = hallOfAllKinds();
        due(0, hall.running(0, true));
        for (int kind = 1; kind < 6; kind++) {
            int object = kind;
            refused(hall, ARGUMENT, () -> hall.running(object, true));
        }
        refused(hall, INDEX, () -> hall.running(6, true));
        refused(hall, INDEX, () -> hall.running(-1, false));
    }

    static void promise42_objectOf() {
        ReconcilerHall hall = hallOfAllKinds();
        hall.hold(3, true);
        hall.compact(7);
        for (int version = 1; version <= 6; version++) {
            due(version - 1, hall.objectOf(version));
        }
        due(3, hall.objectOf(7));
        refused(hall, INDEX, () -> hall.objectOf(0));
        refused(hall, INDEX, () -> hall.objectOf(-1));
        refused(hall, INDEX, () -> hall.objectOf(8));
        refused(hall, INDEX, () -> hall.objectOf(Integer.MAX_VALUE));
        fillLog(hall, 4, 400);
        due(4, hall.objectOf(400));
        refused(hall, INDEX, () -> hall.objectOf(401));
    }
}
