import java.util.ArrayList;
import java.util.Arrays;
import java.util.Collection;
import java.util.Comparator;
import java.util.HashMap;
import java.util.List;
import java.util.Map;
import java.util.TreeMap;
import java.util.TreeSet;
import java.util.function.Consumer;
import java.util.function.Predicate;

/**
 * The document once more, told as plainly as it can be and slowly: every version has its whole world.
 * ModelTest compares ReconcilerHall with it, call by call.
 */
public final class Model {
    private static final int[] LOW = {0, 0, 0, 0, 0, 0, 0, 0, 0, 0, 1};
    private static final int[] HIGH = {5, 9, 2, 2, 1, 5, 99, 9, 2, 1, 5};

    /** What an object is like behind a write. */
    private static final class Thing {
        int number;
        int kind;
        int owner = -1;
        int going;
        int place = -1;
        int phase;
        boolean isHeld;
        boolean isReady = true;
        int version;
        int[] value = {0, 0, 1, 0, 0, 0, 0, 4, 0, 0, 1};
        int[] manager = new int[11];
        TreeSet<Integer> behind = new TreeSet<>();

        Thing copy() {
            Thing other = new Thing();
            other.number = number;
            other.kind = kind;
            other.owner = owner;
            other.going = going;
            other.place = place;
            other.phase = phase;
            other.isHeld = isHeld;
            other.isReady = isReady;
            other.version = version;
            other.value = value.clone();
            other.manager = manager.clone();
            other.behind = new TreeSet<>(behind);
            return other;
        }

        String text() {
            return number + " " + kind + " " + owner + " " + going + " " + place + " " + phase + " " + isHeld + " " + isReady
                + Arrays.toString(value) + Arrays.toString(manager) + behind;
        }

        boolean isGone() {
            return going == 4;
        }

        boolean stays(int ofKind) {
            return kind == ofKind && going == 0;
        }

        int need() {
            return value[1] % 3 + 1;
        }

        int rank() {
            return value[1] / 4;
        }

        int wants() {
            return value[0];
        }
    }

    private static final class Refused extends Exception {
        private static final long serialVersionUID = 1;
    }

    private static final class PutOff extends Exception {
        private static final long serialVersionUID = 1;
    }

    private final class Controller {
        final int number;
        int seen;
        final List<Integer> queue = new ArrayList<>();
        final Map<Integer, Integer> failed = new HashMap<>();
        final Map<Integer, Integer> due = new HashMap<>();
        final Map<Integer, Integer> wrote = new HashMap<>();

        Controller(int number) {
            this.number = number;
        }

        void come(int key) {
            if (key != -1 && !queue.contains(key)) {
                queue.add(key);
            }
        }
    }

    private final List<Thing> log = new ArrayList<>();
    /** By version: all objects as they were behind that event. */
    private final List<TreeMap<Integer, Thing>> worlds = new ArrayList<>();
    private final List<int[]> rules = new ArrayList<>();
    private final List<int[]> checks = new ArrayList<>();
    private final Map<Integer, Integer> beats = new HashMap<>();
    private final Map<Integer, Integer> wishes = new HashMap<>();
    private final Map<Integer, Integer> scaledAt = new HashMap<>();
    private final Controller[] controllers = new Controller[8];
    private final int[] readers = new int[4];
    private int most = 30;
    private int now;
    private int compacted;

    public Model() {
        for (int number = 0; number < 8; number++) {
            controllers[number] = new Controller(number);
        }
    }

    // ---- the log and its views

    private TreeMap<Integer, Thing> world(int upTo) {
        while (worlds.size() <= upTo) {
            TreeMap<Integer, Thing> world = worlds.isEmpty() ? new TreeMap<>() : new TreeMap<>(worlds.get(worlds.size() - 1));
            if (!worlds.isEmpty()) {
                Thing thing = log.get(worlds.size() - 1);
                world.put(thing.number, thing);
            }
            worlds.add(world);
        }
        return worlds.get(upTo);
    }

    private TreeMap<Integer, Thing> present() {
        return world(log.size());
    }

    private static List<Thing> those(Collection<Thing> world, Predicate<Thing> which) {
        return world.stream().filter(which).sorted(Comparator.comparingInt(thing -> thing.number)).toList();
    }

    private void write(Thing thing) throws Refused {
        if (thing.going == 4) {
            thing.owner = -1;
        }
        Thing before = present().get(thing.number);
        if (before != null && before.text().equals(thing.text())) {
            return;
        }
        if (log.size() == 400) {
            throw new Refused();
        }
        thing.version = log.size() + 1;
        log.add(thing);
    }

    private void admit(Thing thing) throws Refused {
        for (int turn = 1;; turn++) {
            int[] ahead = thing.value.clone();
            for (int[] rule : rules) {
                if (rule[0] == thing.kind && rule[2] <= thing.value[rule[1]] && thing.value[rule[1]] <= rule[3]) {
                    thing.value[rule[4]] = rule[5];
                }
            }
            if (Arrays.equals(ahead, thing.value)) {
                break;
            }
            if (turn == 6) {
                throw new Refused();
            }
        }
        for (int[] check : checks) {
            if (check[0] == thing.kind && thing.value[check[1]] > check[2]) {
                throw new Refused();
            }
        }
        if (thing.kind == 0 && thing.value[2] == 0 && thing.value[3] == 0) {
            throw new Refused();
        }
    }

    private Thing create(int manager, int kind, int owner, int template) throws Refused {
        TreeMap<Integer, Thing> world = present();
        Thing thing = new Thing();
        thing.number = world.size();
        thing.kind = kind;
        thing.owner = owner;
        thing.value[1] = template;
        Arrays.fill(thing.manager, manager);
        admit(thing);
        if (world.size() == 60 || kind == 2 && those(world.values(), pod -> pod.kind == 2 && !pod.isGone()).size() >= most) {
            throw new Refused();
        }
        write(thing);
        beats.put(thing.number, now);
        return thing;
    }

    private void put(int manager, int object, int field, int value) throws Refused {
        Thing thing = present().get(object).copy();
        thing.value[field] = value;
        thing.manager[field] = manager;
        admit(thing);
        write(thing);
    }

    private static void send(Thing thing, int manner) {
        boolean isKept = thing.isHeld || thing.kind == 2 && thing.place != -1;
        thing.going = manner == 2 && !isKept ? 4 : manner;
    }

    // ---- objects

    public int make(int manager, int kind) {
        argument(isCaller(manager) && kind >= 0 && kind <= 5);
        try {
            return create(manager, kind, -1, 0).number;
        } catch (Refused refused) {
            throw new IllegalStateException();
        }
    }

    public int apply(int manager, int object, int field, int value, int expected, boolean isForced) {
        Thing thing = thing(object);
        argument(isCaller(manager) && Suite.has(thing.kind, field) && LOW[field] <= value && value <= HIGH[field]);
        state(!thing.isGone() && (expected == -1 || expected == thing.version) && (isForced || thing.manager[field] == manager));
        attempt(() -> put(manager, object, field, value));
        return thing(object).version;
    }

    public int applyBudget(int manager, int object, int budget, boolean isForced) {
        Thing thing = thing(object).copy();
        argument(isCaller(manager) && thing.kind == 0 && List.of(0, 1, 2, 10, 11, 12, 20, 21, 22).contains(budget));
        state(!thing.isGone() && (isForced || thing.manager[2] == manager && thing.manager[3] == manager));
        thing.value[2] = budget / 10;
        thing.value[3] = budget % 10;
        thing.manager[2] = manager;
        thing.manager[3] = manager;
        attempt(() -> {
            admit(thing);
            write(thing);
        });
        return thing(object).version;
    }

    public int delete(int object, int manner) {
        Thing thing = thing(object).copy();
        argument(manner >= 1 && manner <= 3);
        state(thing.going == 0);
        send(thing, manner);
        attempt(() -> write(thing));
        return thing(object).going;
    }

    public boolean hold(int object, boolean isHeld) {
        Thing thing = thing(object).copy();
        state(!thing.isGone());
        boolean before = thing.isHeld;
        thing.isHeld = isHeld;
        attempt(() -> write(thing));
        return before;
    }

    public int finish(int object, boolean isGood) {
        Thing thing = thing(object).copy();
        argument(thing.kind == 2);
        state(!thing.isGone() && thing.phase == 1);
        thing.phase = isGood ? 2 : 3;
        attempt(() -> write(thing));
        return thing(object).version;
    }

    // ---- admission

    public int rule(int kind, int field, int low, int high, int target, int value) {
        argument(Suite.has(kind, field) && Suite.has(kind, target) && low <= high);
        argument(LOW[target] <= value && value <= HIGH[target]);
        state(rules.size() < 8);
        rules.add(new int[] {kind, field, low, high, target, value});
        return rules.size();
    }

    public int check(int kind, int field, int most) {
        argument(Suite.has(kind, field));
        state(checks.size() < 8);
        checks.add(new int[] {kind, field, most});
        return checks.size();
    }

    public int clear() {
        int count = rules.size() + checks.size();
        rules.clear();
        checks.clear();
        return count;
    }

    public int quota(int most) {
        argument(most >= 0 && most <= 60);
        int before = this.most;
        this.most = most;
        return before;
    }

    // ---- controllers

    public int see(int controller, int many) {
        Controller one = controller(controller);
        argument(many >= 1 && many <= 400);
        int before = one.queue.size();
        if (one.seen < compacted) {
            one.seen = log.size();
            int[] kinds = {0, 1, 3, 2, 2, -1, 5, 0};
            for (Thing thing : present().values()) {
                if (!thing.isGone() && (kinds[controller] == -1 || thing.kind == kinds[controller])) {
                    one.come(thing.number);
                }
            }
        } else {
            for (int i = 0; i < many && one.seen < log.size(); i++) {
                TreeMap<Integer, Thing> ahead = world(one.seen);
                one.seen++;
                Thing thing = log.get(one.seen - 1);
                Thing old = ahead.get(thing.number);
                int owner = thing.owner == -1 && old != null ? old.owner : thing.owner;
                comeOf(one, world(one.seen), thing, owner);
            }
        }
        return one.queue.size() - before;
    }

    private void comeOf(Controller one, TreeMap<Integer, Thing> world, Thing thing, int owner) {
        Consumer<Predicate<Thing>> all = which -> those(world.values(), which).forEach(other -> one.come(other.number));
        int ownerKind = owner == -1 ? -1 : world.get(owner).kind;
        int n = thing.number;
        int k = thing.kind;
        switch (one.number) {
            case 0 -> one.come(k == 0 ? n : k == 1 ? owner : k == 2 && ownerKind == 1 ? world.get(owner).owner : -1);
            case 1 -> one.come(k == 1 ? n : k == 2 && ownerKind == 1 ? owner : -1);
            case 2 -> one.come(k == 3 ? n : k == 2 && ownerKind == 3 ? owner : -1);
            case 3 -> {
                one.come(k == 2 ? n : -1);
                all.accept(pod -> k == 4 && isToPlace(pod));
            }
            case 4 -> {
                one.come(k == 2 ? n : -1);
                all.accept(pod -> k == 4 && pod.kind == 2 && pod.place == n);
            }
            case 5 -> {
                one.come(n);
                one.come(owner);
                all.accept(owned -> owned.owner == n);
            }
            case 6 -> {
                one.come(k == 5 ? n : -1);
                all.accept(route -> k == 2 && route.kind == 5 && !route.isGone());
            }
            default -> one.come(k == 0 ? n : -1);
        }
    }

    private static boolean isToPlace(Thing pod) {
        return pod.stays(2) && pod.phase == 0 && pod.place == -1;
    }

    public int work(int controller) {
        Controller one = controller(controller);
        for (int key : one.queue) {
            if (one.due.getOrDefault(key, 0) <= now) {
                one.queue.remove((Integer) key);
                return workOn(one, key);
            }
        }
        return 0;
    }

    private int workOn(Controller one, int key) {
        if (one.wrote.getOrDefault(key, 0) > one.seen) {
            one.queue.add(key);
            return 2;
        }
        int before = log.size();
        int outcome = 1;
        try {
            new Worker(one).serve(key);
            one.failed.remove(key);
        } catch (Refused refused) {
            outcome = 3;
            int times = one.failed.merge(key, 1, Integer::sum);
            one.due.put(key, now + new int[] {1, 2, 4, 8, 16}[Math.min(times, 5) - 1]);
            one.queue.add(key);
        } catch (PutOff off) {
            outcome = 2;
            one.due.put(key, scaledAt.get(key) + 10);
            one.queue.add(key);
        }
        if (log.size() > before) {
            one.wrote.put(key, log.size());
        }
        return outcome;
    }

    /** One thing that a controller does, by the world that it has seen. */
    private final class Worker {
        final Controller one;
        final TreeMap<Integer, Thing> world;

        Worker(Controller one) {
            this.one = one;
            world = world(one.seen);
        }

        List<Thing> all(Predicate<Thing> which) {
            return those(world.values(), which);
        }

        Thing fresh(Thing seen) throws Refused {
            if (thing(seen.number).version != seen.version) {
                throw new Refused();
            }
            return seen.copy();
        }

        void change(Thing seen, Consumer<Thing> how) throws Refused {
            Thing wanted = seen.copy();
            how.accept(wanted);
            if (!wanted.text().equals(seen.text())) {
                fresh(seen);
                write(wanted);
            }
        }

        void want(Thing seen, int wanted) throws Refused {
            if (seen.wants() != wanted) {
                fresh(seen);
                put(4, seen.number, 0, wanted);
            }
        }

        void serve(int key) throws Refused, PutOff {
            Thing it = world.get(key);
            switch (one.number) {
                case 0 -> deploy(it);
                case 1 -> replicate(it);
                case 2 -> job(it);
                case 3 -> schedule(it);
                case 4 -> run(it);
                case 5 -> collect(it);
                case 6 -> route(it);
                default -> scale(it);
            }
        }

        List<Thing> running(Thing set) {
            return all(pod -> pod.stays(2) && pod.owner == set.number && pod.phase == 1);
        }

        void deploy(Thing it) throws Refused {
            if (it.going != 0 || it.value[4] == 1) {
                return;
            }
            List<Thing> sets = all(set -> set.stays(1) && set.owner == it.number);
            Thing fresh = sets.stream().filter(set -> set.value[1] == it.value[1]).findFirst().orElse(null);
            int together = sets.stream().mapToInt(Thing::wants).sum();
            if (fresh == null) {
                create(4, 1, it.number, it.value[1]);
            } else if (fresh.wants() > it.wants()) {
                want(fresh, it.wants());
            } else if (fresh.wants() < it.wants() && together < it.wants() + it.value[2]) {
                int more = Math.min(it.wants() - fresh.wants(), it.wants() + it.value[2] - together);
                want(fresh, fresh.wants() + more);
            } else {
                Thing other = sets.stream().filter(set -> set != fresh && set.wants() > 0).findFirst().orElse(null);
                int run = sets.stream().mapToInt(set -> running(set).size()).sum();
                if (other != null && other.wants() > running(other).size()) {
                    want(other, running(other).size());
                } else if (other != null && run > it.wants() - it.value[3]) {
                    want(other, Math.max(0, other.wants() - (run - (it.wants() - it.value[3]))));
                }
            }
        }

        void replicate(Thing it) throws Refused {
            List<Thing> pods = all(pod -> pod.stays(2) && pod.owner == it.number);
            List<Thing> ended = pods.stream().filter(pod -> pod.phase >= 2).toList();
            if (it.going != 0) {
                return;
            }
            if (!ended.isEmpty()) {
                change(ended.get(0), pod -> send(pod, 2));
            } else if (pods.size() < it.wants()) {
                create(4, 2, it.number, it.value[1]);
            } else if (pods.size() > it.wants()) {
                List<Thing> some = pods.stream().filter(pod -> pod.place == -1).toList();
                some = some.isEmpty() ? pods.stream().filter(pod -> pod.phase == 0).toList() : some;
                some = some.isEmpty() ? pods : some;
                change(some.get(some.size() - 1), pod -> send(pod, 2));
            }
        }

        void job(Thing it) throws Refused {
            List<Thing> pods = all(pod -> pod.stays(2) && pod.owner == it.number);
            long alive = pods.stream().filter(pod -> pod.phase <= 1).count();
            long good = pods.stream().filter(pod -> pod.phase == 2).count();
            if (it.going == 0 && alive + good < it.wants() && alive < it.value[10]) {
                create(4, 2, it.number, it.value[1]);
            }
        }

        int left(Thing node) {
            return node.value[7] - all(pod -> pod.kind == 2 && !pod.isGone() && pod.place == node.number && pod.phase <= 1)
                .stream().mapToInt(Thing::need).sum();
        }

        int mates(Thing it, Thing node) {
            return all(pod -> pod.kind == 2 && !pod.isGone() && pod.owner == it.owner && pod.place != -1
                && !world.get(pod.place).isGone() && world.get(pod.place).value[8] == node.value[8]).size();
        }

        void schedule(Thing it) throws Refused {
            if (!isToPlace(it)) {
                return;
            }
            List<Thing> nodes = all(node -> node.stays(4) && node.isReady && node.value[9] == 0);
            Thing best = nodes.stream().filter(node -> left(node) >= it.need())
                .min(Comparator.<Thing>comparingInt(node -> mates(it, node)).thenComparing(node -> -left(node))).orElse(null);
            if (best != null) {
                change(it, pod -> pod.place = best.number);
                return;
            }
            List<Thing> fewest = null;
            for (Thing node : nodes) {
                List<Thing> taken = taken(it, node);
                fewest = taken != null && (fewest == null || taken.size() < fewest.size()) ? taken : fewest;
            }
            for (Thing victim : fewest == null ? List.<Thing>of() : fewest) {
                change(victim, pod -> send(pod, 2));
            }
            throw new Refused();
        }

        List<Thing> taken(Thing it, Thing node) {
            List<Thing> weaker = new ArrayList<>(all(pod -> pod.stays(2) && pod.place == node.number && pod.phase <= 1
                && pod.rank() < it.rank()));
            weaker.sort(Comparator.comparingInt(Thing::rank).thenComparing(pod -> -pod.number));
            int room = left(node);
            for (int many = 1; many <= weaker.size(); many++) {
                room += weaker.get(many - 1).need();
                if (room >= it.need()) {
                    return weaker.subList(0, many);
                }
            }
            return null;
        }

        void run(Thing it) throws Refused {
            if (it.isGone() || it.place == -1) {
                return;
            }
            Thing node = world.get(it.place);
            int full = all(pod -> pod.kind == 2 && pod.place == it.place && pod.phase == 1).stream().mapToInt(Thing::need).sum();
            if (it.going != 0) {
                change(it, pod -> {
                    pod.place = -1;
                    pod.going = pod.isHeld ? pod.going : 4;
                });
            } else if (it.phase <= 1 && (node.isGone() || !node.isReady || node.value[9] == 1)) {
                change(it, pod -> pod.phase = 3);
            } else if (it.phase == 0) {
                change(it, pod -> pod.phase = node.value[7] >= full + it.need() ? 1 : 3);
            }
        }

        void collect(Thing it) throws Refused {
            List<Thing> owned = all(thing -> thing.owner == it.number);
            boolean isKept = it.isHeld || it.kind == 2 && it.place != -1;
            if (it.going == 1 && !owned.isEmpty()) {
                for (Thing child : owned) {
                    change(child, thing -> thing.going = thing.going == 0 ? 1 : thing.going);
                }
            } else if (it.going == 3 && !owned.isEmpty()) {
                for (Thing child : owned) {
                    change(child, thing -> thing.owner = -1);
                }
            } else if (it.going >= 1 && it.going <= 3 && !isKept) {
                change(it, thing -> thing.going = 4);
            } else if (it.going == 0 && it.owner != -1 && world.get(it.owner).isGone()) {
                change(it, thing -> send(thing, 2));
            }
        }

        void route(Thing it) throws Refused {
            if (it.going == 0) {
                TreeSet<Integer> behind = new TreeSet<>();
                all(pod -> pod.stays(2) && pod.phase == 1 && pod.value[1] == it.value[1]).forEach(pod -> behind.add(pod.number));
                change(it, route -> route.behind = behind);
            }
        }

        void scale(Thing it) throws Refused, PutOff {
            if (it.going != 0 || it.value[5] == 0) {
                return;
            }
            int should = Math.min(it.value[5], Math.max(1, it.value[6] / 10 + (it.value[6] % 10 > 0 ? 1 : 0)));
            if (it.wants() > should && scaledAt.containsKey(it.number) && now - scaledAt.get(it.number) < 10) {
                throw new PutOff();
            }
            int before = log.size();
            want(it, should);
            if (log.size() > before) {
                scaledAt.put(it.number, now);
            }
        }
    }

    public int turn(int times) {
        argument(times >= 1 && times <= 10);
        int before = log.size();
        for (int time = 0; time < times; time++) {
            for (Controller one : controllers) {
                see(one.number, 400);
                int keys = one.queue.size();
                for (int key = 0; key < keys; key++) {
                    work(one.number);
                }
            }
        }
        return log.size() - before;
    }

    public int seen(int controller) {
        return controller(controller).seen;
    }

    public int queued(int controller, int place) {
        Controller one = controller(controller);
        if (place < 0) {
            throw new IndexOutOfBoundsException();
        }
        return place < one.queue.size() ? one.queue.get(place) : -1;
    }

    public int failures(int controller, int object) {
        Controller one = controller(controller);
        thing(object);
        return one.failed.getOrDefault(object, 0);
    }

    public int believed(int controller, int object, int field) {
        Controller one = controller(controller);
        argument(Suite.has(thing(object).kind, field));
        Thing thing = world(one.seen).get(object);
        return thing == null ? -1 : thing.value[field];
    }

    public boolean isSettled() {
        return Arrays.stream(controllers).allMatch(one -> one.seen == log.size() && one.queue.isEmpty());
    }

    // ---- readers

    public int watch(int reader, int from) {
        argument(reader >= 0 && reader <= 3 && from >= 0 && from <= log.size());
        state(from >= compacted);
        readers[reader] = from;
        return log.size() - from;
    }

    public int next(int reader) {
        argument(reader >= 0 && reader <= 3);
        if (readers[reader] == log.size()) {
            return -1;
        }
        state(readers[reader] + 1 > compacted);
        readers[reader]++;
        return log.get(readers[reader] - 1).number;
    }

    public int list(int reader) {
        argument(reader >= 0 && reader <= 3);
        readers[reader] = log.size();
        return those(present().values(), thing -> !thing.isGone()).size();
    }

    public int compact(int version) {
        argument(version >= 0 && version <= log.size());
        compacted = Math.max(compacted, version);
        return compacted;
    }

    // ---- ticks, nodes, the hub

    public int tick(int ticks) {
        argument(ticks >= 1 && ticks <= 100);
        state(now + ticks <= 10000);
        for (int i = 0; i < ticks; i++) {
            now++;
            for (Thing node : those(present().values(), thing -> thing.kind == 4 && !thing.isGone())) {
                if (now - beats.get(node.number) > 20) {
                    Thing silent = node.copy();
                    silent.isReady = false;
                    leave(() -> write(silent));
                }
            }
        }
        return now;
    }

    public boolean beat(int object) {
        Thing thing = thing(object).copy();
        argument(thing.kind == 4);
        state(!thing.isGone());
        boolean before = thing.isReady;
        thing.isReady = true;
        attempt(() -> write(thing));
        beats.put(object, now);
        return before;
    }

    public int wish(int object, int template) {
        Thing thing = thing(object);
        argument(thing.kind == 0 && template >= -1 && template <= 9);
        int before = wishes.getOrDefault(object, -1);
        wishes.put(object, template);
        return before;
    }

    public int hub(boolean isAway) {
        int before = log.size();
        for (Thing thing : isAway ? List.<Thing>of() : those(present().values(), one -> !one.isGone())) {
            int template = wishes.getOrDefault(thing.number, -1);
            if (template != -1) {
                leave(() -> put(5, thing.number, 1, template));
            }
        }
        return log.size() - before;
    }

    // ---- what there is

    public int objects() {
        return present().size();
    }

    public int version() {
        return log.size();
    }

    public int kindOf(int object) {
        return thing(object).kind;
    }

    public int field(int object, int field) {
        argument(Suite.has(thing(object).kind, field));
        return thing(object).value[field];
    }

    public int managerOf(int object, int field) {
        argument(Suite.has(thing(object).kind, field));
        return thing(object).manager[field];
    }

    public int budget(int object) {
        argument(thing(object).kind == 0);
        return thing(object).value[2] * 10 + thing(object).value[3];
    }

    public int versionOf(int object) {
        return thing(object).version;
    }

    public int goingOf(int object) {
        return thing(object).going;
    }

    public int ownerOf(int object) {
        return thing(object).owner;
    }

    public int phaseOf(int object) {
        argument(thing(object).kind == 2);
        return thing(object).phase;
    }

    public int placeOf(int object) {
        argument(thing(object).kind == 2);
        return thing(object).place;
    }

    public boolean isReady(int object) {
        argument(thing(object).kind == 4);
        return thing(object).isReady;
    }

    public boolean isBehind(int route, int pod) {
        thing(route);
        thing(pod);
        argument(thing(route).kind == 5);
        return thing(route).behind.contains(pod);
    }

    public int running(int object, boolean isOfLatest) {
        Thing deploy = thing(object);
        argument(deploy.kind == 0);
        Collection<Thing> world = present().values();
        List<Thing> sets = those(world, set -> set.stays(1) && set.owner == object);
        if (isOfLatest) {
            sets = sets.stream().filter(set -> set.value[1] == deploy.value[1]).limit(1).toList();
        }
        int sum = 0;
        for (Thing set : sets) {
            sum += those(world, pod -> pod.stays(2) && pod.owner == set.number && pod.phase == 1).size();
        }
        return sum;
    }

    public int objectOf(int version) {
        if (version < 1 || version > log.size()) {
            throw new IndexOutOfBoundsException();
        }
        return log.get(version - 1).number;
    }

    // ---- what the calls have in common

    private interface Write {
        void run() throws Refused;
    }

    private static void attempt(Write write) {
        try {
            write.run();
        } catch (Refused refused) {
            throw new IllegalStateException();
        }
    }

    private static void leave(Write write) {
        try {
            write.run();
        } catch (Refused refused) {
            return;
        }
    }

    private static boolean isCaller(int manager) {
        return manager >= 0 && manager <= 3;
    }

    private static void argument(boolean isRight) {
        if (!isRight) {
            throw new IllegalArgumentException();
        }
    }

    private static void state(boolean isRight) {
        if (!isRight) {
            throw new IllegalStateException();
        }
    }

    private Controller controller(int number) {
        argument(number >= 0 && number <= 7);
        return controllers[number];
    }

    private Thing thing(int object) {
        Thing thing = present().get(object);
        if (thing == null) {
            throw new IndexOutOfBoundsException();
        }
        return thing;
    }
}
