/**
 * A control plane: typed objects in versions, a log of what each write left behind, controllers that
 * work by what they have seen of that log, and readers of it. The document is ../shared/DOC.md.
 */
public final class ReconcilerHall {
    public static final int NONE = -1;
    public static final int DEPLOY = 0, SET = 1, POD = 2, JOB = 3, NODE = 4, ROUTE = 5;
    public static final int WANTED = 0, TEMPLATE = 1, SURGE = 2, SLACK = 3, PAUSED = 4, MOST = 5, LOAD = 6, ROOM = 7, ZONE = 8, BARRED = 9, AT_ONCE = 10;
    public static final int STAYING = 0, FOREGROUND = 1, BACKGROUND = 2, ORPHAN = 3, GONE = 4;
    public static final int WAITING = 0, RUNNING = 1, DONE = 2, FAILED = 3;
    public static final int DEPLOYER = 0, REPLICATOR = 1, JOBBER = 2, SCHEDULER = 3, RUNNER = 4, COLLECTOR = 5, ROUTER = 6, SCALER = 7;
    public static final int IDLE = 0, LEFT = 1, PUT_OFF = 2, BROKEN = 3;

    private static final int KINDS = 6;
    private static final int FIELDS = 11;
    private static final int CALLERS = 4;
    private static final int BY_CONTROLLERS = 4;
    private static final int BY_HUB = 5;
    private static final int CONTROLLERS = 8;
    private static final int READERS = 4;
    private static final int MOST_OBJECTS = 60;
    private static final int MOST_EVENTS = 400;
    private static final int MOST_RULES = 8;
    private static final int MOST_CHECKS = 8;
    private static final int MOST_TURNS = 10;
    private static final int MOST_TICKS = 100;
    private static final int LAST_TICK = 10000;
    private static final int MOST_SILENCE = 20;
    private static final int RULE_TURNS = 6;
    private static final int FIRST_QUOTA = 30;
    private static final int LONGEST_DELAY = 16;
    private static final int SCALER_PAUSE = 10;
    private static final int ZONES = 3;

    /** By field: the least, the greatest and the first value. */
    private static final int[] LEAST = {0, 0, 0, 0, 0, 0, 0, 0, 0, 0, 1};
    private static final int[] GREATEST = {5, 9, 2, 2, 1, 5, 99, 9, 2, 1, 5};
    private static final int[] FIRST = {0, 0, 1, 0, 0, 0, 0, 4, 0, 0, 1};

    /** By kind: one bit for each field that it has. */
    private static final int[] FIELDS_OF_KIND = {0x07f, 0x003, 0x002, 0x403, 0x380, 0x002};

    /** The slots of a row of the log; the values of the fields come first, by their numbers. */
    private static final int MANAGER = 11;
    private static final int OBJECT = 22;
    private static final int KIND = 23;
    private static final int OWNER = 24;
    private static final int GOING = 25;
    private static final int HELD = 26;
    private static final int READY = 27;
    private static final int PLACE = 28;
    private static final int PHASE = 29;
    private static final int BEHIND = 30;
    private static final int BEHIND_HIGH = 31;
    private static final int SLOTS = 32;

    /** How many PODs the bits of one BEHIND slot tell of. */
    private static final int BEHIND_BITS = 30;

    private final Store store;
    private final Controller[] controllers;
    private final int[] readers;
    private final int[] wishes;
    private boolean isHubAway;

    public ReconcilerHall() {
        store = new Store();
        controllers = new Controller[CONTROLLERS];
        controllers[DEPLOYER] = new Deployer(store);
        controllers[REPLICATOR] = new PodMaker(store, SET);
        controllers[JOBBER] = new PodMaker(store, JOB);
        controllers[SCHEDULER] = new Scheduler(store);
        controllers[RUNNER] = new Runner(store);
        controllers[COLLECTOR] = new Collector(store);
        controllers[ROUTER] = new Router(store);
        controllers[SCALER] = new Scaler(store);
        readers = new int[READERS];
        wishes = new int[MOST_OBJECTS];
        for (int object = 0; object < MOST_OBJECTS; object++) {
            wishes[object] = NONE;
        }
    }

    // ---- objects

    public int make(int manager, int kind) throws IllegalArgumentException, IllegalStateException {
        if (!isCaller(manager) || !isKind(kind)) {
            throw new IllegalArgumentException("no such manager or kind");
        }
        int object = store.open(manager, kind, NONE, FIRST[TEMPLATE]);
        if (object == NONE) {
            throw new IllegalStateException("the object is refused");
        }
        return object;
    }

    public int apply(int manager, int object, int field, int value, int expected, boolean isForced)
            throws IndexOutOfBoundsException, IllegalArgumentException, IllegalStateException {
        requireObject(object);
        if (!isCaller(manager) || !hasField(store.read(object, KIND), field) || !isInRange(field, value)) {
            throw new IllegalArgumentException("no such manager, field or value");
        }
        if (store.isGone(object) || (expected != NONE && expected != store.latestOf(object))) {
            throw new IllegalStateException("the object is gone or has another version");
        }
        if (!isForced && store.read(object, MANAGER + field) != manager) {
            throw new IllegalStateException("the field has another manager");
        }
        if (!store.applyField(manager, object, field, value)) {
            throw new IllegalStateException("the write is refused");
        }
        return store.latestOf(object);
    }

    public int applyBudget(int manager, int object, int budget, boolean isForced)
            throws IndexOutOfBoundsException, IllegalArgumentException, IllegalStateException {
        requireObject(object);
        int surge = Math.floorDiv(budget, 10);
        int slack = Math.floorMod(budget, 10);
        if (!isCaller(manager) || store.read(object, KIND) != DEPLOY || !isInRange(SURGE, surge) || !isInRange(SLACK, slack)) {
            throw new IllegalArgumentException("no such manager, no deploy or no such budget");
        }
        boolean isManaged = store.read(object, MANAGER + SURGE) == manager && store.read(object, MANAGER + SLACK) == manager;
        if (store.isGone(object) || (!isForced && !isManaged)) {
            throw new IllegalStateException("the object is gone or a field has another manager");
        }
        if (!store.applyBoth(manager, object, surge, slack)) {
            throw new IllegalStateException("the write is refused");
        }
        return store.latestOf(object);
    }

    public int delete(int object, int manner) throws IndexOutOfBoundsException, IllegalArgumentException, IllegalStateException {
        requireObject(object);
        if (manner != FOREGROUND && manner != BACKGROUND && manner != ORPHAN) {
            throw new IllegalArgumentException("no such manner");
        }
        if (store.read(object, GOING) != STAYING || !store.startGoing(object, manner)) {
            throw new IllegalStateException("the object is not staying or the log is full");
        }
        return store.read(object, GOING);
    }

    public boolean hold(int object, boolean isHeld) throws IndexOutOfBoundsException, IllegalStateException {
        requireObject(object);
        boolean wasHeld = store.read(object, HELD) == 1;
        if (store.isGone(object) || !store.change(object, HELD, isHeld ? 1 : 0)) {
            throw new IllegalStateException("the object is gone or the log is full");
        }
        return wasHeld;
    }

    public int finish(int object, boolean isGood) throws IndexOutOfBoundsException, IllegalArgumentException, IllegalStateException {
        requireObject(object);
        requireKind(object, POD);
        boolean isRunning = !store.isGone(object) && store.read(object, PHASE) == RUNNING;
        if (!isRunning || !store.change(object, PHASE, isGood ? DONE : FAILED)) {
            throw new IllegalStateException("the pod is gone, it is not running or the log is full");
        }
        return store.latestOf(object);
    }

    // ---- admission

    public int rule(int kind, int field, int low, int high, int target, int value) throws IllegalArgumentException, IllegalStateException {
        if (!hasField(kind, field) || !hasField(kind, target) || low > high || !isInRange(target, value)) {
            throw new IllegalArgumentException("no such kind, field, range or value");
        }
        if (!store.admission.addRule(kind, field, low, high, target, value)) {
            throw new IllegalStateException("there are as many rules as there can be");
        }
        return store.admission.rules;
    }

    public int check(int kind, int field, int most) throws IllegalArgumentException, IllegalStateException {
        if (!hasField(kind, field)) {
            throw new IllegalArgumentException("no such kind or field");
        }
        if (!store.admission.addCheck(kind, field, most)) {
            throw new IllegalStateException("there are as many checks as there can be");
        }
        return store.admission.checks;
    }

    public int clear() {
        return store.admission.removeAll();
    }

    public int quota(int most) throws IllegalArgumentException {
        if (most < 0 || most > MOST_OBJECTS) {
            throw new IllegalArgumentException("no such quota");
        }
        int before = store.admission.podQuota;
        store.admission.podQuota = most;
        return before;
    }

    // ---- controllers

    public int see(int controller, int many) throws IllegalArgumentException {
        Controller one = controllerAt(controller);
        if (one == null || many < 1 || many > MOST_EVENTS) {
            throw new IllegalArgumentException("no such controller or number of events");
        }
        return one.look(many);
    }

    public int work(int controller) throws IllegalArgumentException {
        Controller one = controllerAt(controller);
        if (one == null) {
            throw new IllegalArgumentException("no such controller");
        }
        return one.workOnce();
    }

    public int turn(int times) throws IllegalArgumentException {
        if (times < 1 || times > MOST_TURNS) {
            throw new IllegalArgumentException("no such number of times");
        }
        int before = store.seenUpTo;
        for (int time = 0; time < times; time++) {
            for (int number = 0; number < CONTROLLERS; number++) {
                Controller one = controllerAt(number);
                int keys = one == null ? 0 : one.lookAtAll();
                for (int key = 0; key < keys; key++) {
                    one.workOnce();
                }
            }
        }
        return store.seenUpTo - before;
    }

    public int seen(int controller) throws IllegalArgumentException {
        Controller one = controllerAt(controller);
        if (one == null) {
            throw new IllegalArgumentException("no such controller");
        }
        return one.seenUpTo;
    }

    public int queued(int controller, int place) throws IllegalArgumentException, IndexOutOfBoundsException {
        Controller one = controllerAt(controller);
        if (one == null) {
            throw new IllegalArgumentException("no such controller");
        }
        if (place < 0) {
            throw new IndexOutOfBoundsException("no such place");
        }
        return one.keyAt(place);
    }

    public int failures(int controller, int object) throws IllegalArgumentException, IndexOutOfBoundsException {
        Controller one = controllerAt(controller);
        if (one == null) {
            throw new IllegalArgumentException("no such controller");
        }
        requireObject(object);
        return one.failed[object];
    }

    public int believed(int controller, int object, int field) throws IllegalArgumentException, IndexOutOfBoundsException {
        Controller one = controllerAt(controller);
        if (one == null) {
            throw new IllegalArgumentException("no such controller");
        }
        requireObject(object);
        requireField(object, field);
        return one.read(object, field);
    }

    public boolean isSettled() {
        for (int number = 0; number < CONTROLLERS; number++) {
            Controller one = controllerAt(number);
            if (one != null && (one.seenUpTo != store.seenUpTo || one.size > 0)) {
                return false;
            }
        }
        return true;
    }

    // ---- readers

    public int watch(int reader, int from) throws IllegalArgumentException, IllegalStateException {
        if (!isReader(reader) || from < 0 || from > store.seenUpTo) {
            throw new IllegalArgumentException("no such reader or version");
        }
        if (from < store.compactedUpTo) {
            throw new IllegalStateException("some of these events were compacted");
        }
        readers[reader] = from;
        return store.seenUpTo - from;
    }

    public int next(int reader) throws IllegalArgumentException, IllegalStateException {
        if (!isReader(reader)) {
            throw new IllegalArgumentException("no such reader");
        }
        if (readers[reader] >= store.seenUpTo) {
            return NONE;
        }
        if (readers[reader] < store.compactedUpTo) {
            throw new IllegalStateException("the next event was compacted");
        }
        readers[reader]++;
        return store.objectAt(readers[reader]);
    }

    public int list(int reader) throws IllegalArgumentException {
        if (!isReader(reader)) {
            throw new IllegalArgumentException("no such reader");
        }
        readers[reader] = store.seenUpTo;
        int living = 0;
        for (int object = 0; object < store.known; object++) {
            living += store.isGone(object) ? 0 : 1;
        }
        return living;
    }

    public int compact(int version) throws IllegalArgumentException {
        if (version < 0 || version > store.seenUpTo) {
            throw new IllegalArgumentException("no such version");
        }
        store.compactedUpTo = Math.max(store.compactedUpTo, version);
        return store.compactedUpTo;
    }

    // ---- ticks, nodes, the hub

    public int tick(int ticks) throws IllegalArgumentException, IllegalStateException {
        if (ticks < 1 || ticks > MOST_TICKS) {
            throw new IllegalArgumentException("no such number of ticks");
        }
        if (store.now > LAST_TICK - ticks) {
            throw new IllegalStateException("there are no such ticks");
        }
        for (int tick = 0; tick < ticks; tick++) {
            store.beginTick();
        }
        return store.now;
    }

    public boolean beat(int object) throws IndexOutOfBoundsException, IllegalArgumentException, IllegalStateException {
        requireObject(object);
        requireKind(object, NODE);
        boolean wasReady = store.read(object, READY) == 1;
        if (store.isGone(object) || !store.change(object, READY, 1)) {
            throw new IllegalStateException("the node is gone or the log is full");
        }
        store.lastBeat[object] = store.now;
        return wasReady;
    }

    public int wish(int object, int template) throws IndexOutOfBoundsException, IllegalArgumentException {
        requireObject(object);
        requireKind(object, DEPLOY);
        if (template != NONE && !isInRange(TEMPLATE, template)) {
            throw new IllegalArgumentException("no such template");
        }
        int before = wishes[object];
        wishes[object] = template;
        return before;
    }

    public int hub(boolean isAway) {
        isHubAway = isAway;
        int before = store.seenUpTo;
        syncHub();
        return store.seenUpTo - before;
    }

    // ---- what there is

    public int objects() {
        return store.known;
    }

    public int version() {
        return store.seenUpTo;
    }

    public int kindOf(int object) throws IndexOutOfBoundsException {
        requireObject(object);
        return store.read(object, KIND);
    }

    public int field(int object, int field) throws IndexOutOfBoundsException, IllegalArgumentException {
        requireObject(object);
        requireField(object, field);
        return store.read(object, field);
    }

    public int managerOf(int object, int field) throws IndexOutOfBoundsException, IllegalArgumentException {
        requireObject(object);
        requireField(object, field);
        return store.read(object, MANAGER + field);
    }

    public int budget(int object) throws IndexOutOfBoundsException, IllegalArgumentException {
        requireObject(object);
        requireKind(object, DEPLOY);
        return 10 * store.read(object, SURGE) + store.read(object, SLACK);
    }

    public int versionOf(int object) throws IndexOutOfBoundsException {
        requireObject(object);
        return store.latestOf(object);
    }

    public int goingOf(int object) throws IndexOutOfBoundsException {
        requireObject(object);
        return store.read(object, GOING);
    }

    public int ownerOf(int object) throws IndexOutOfBoundsException {
        requireObject(object);
        return store.read(object, OWNER);
    }

    public int phaseOf(int object) throws IndexOutOfBoundsException, IllegalArgumentException {
        requireObject(object);
        requireKind(object, POD);
        return store.read(object, PHASE);
    }

    public int placeOf(int object) throws IndexOutOfBoundsException, IllegalArgumentException {
        requireObject(object);
        requireKind(object, POD);
        return store.read(object, PLACE);
    }

    public boolean isReady(int object) throws IndexOutOfBoundsException, IllegalArgumentException {
        requireObject(object);
        requireKind(object, NODE);
        return store.read(object, READY) == 1;
    }

    public boolean isBehind(int route, int pod) throws IndexOutOfBoundsException, IllegalArgumentException {
        requireObject(route);
        requireObject(pod);
        requireKind(route, ROUTE);
        int bits = store.read(route, pod < BEHIND_BITS ? BEHIND : BEHIND_HIGH);
        return (bits >> pod % BEHIND_BITS & 1) == 1;
    }

    public int running(int object, boolean isOfLatest) throws IndexOutOfBoundsException, IllegalArgumentException {
        requireObject(object);
        requireKind(object, DEPLOY);
        return isOfLatest ? store.countRunning(store.newSetOf(object)) : store.countRunningOfAll(object);
    }

    public int objectOf(int version) throws IndexOutOfBoundsException {
        if (version < 1 || version > store.seenUpTo) {
            throw new IndexOutOfBoundsException("no such event");
        }
        return store.objectAt(version);
    }

    // ---- what the calls have in common

    private static boolean isCaller(int manager) {
        return manager >= 0 && manager < CALLERS;
    }

    private static boolean isKind(int kind) {
        return kind >= 0 && kind < KINDS;
    }

    private static boolean isReader(int reader) {
        return reader >= 0 && reader < READERS;
    }

    private static boolean hasField(int kind, int field) {
        return isKind(kind) && field >= 0 && field < FIELDS && (FIELDS_OF_KIND[kind] >> field & 1) == 1;
    }

    private static boolean isInRange(int field, int value) {
        return field >= 0 && field < FIELDS && value >= LEAST[field] && value <= GREATEST[field];
    }

    private void requireObject(int object) {
        if (object < 0 || object >= store.known) {
            throw new IndexOutOfBoundsException("no such object");
        }
    }

    private void requireKind(int object, int kind) {
        if (store.read(object, KIND) != kind) {
            throw new IllegalArgumentException("the object has another kind");
        }
    }

    private void requireField(int object, int field) {
        if (!hasField(store.read(object, KIND), field)) {
            throw new IllegalArgumentException("the kind has no such field");
        }
    }

    private Controller controllerAt(int number) {
        return number >= 0 && number < CONTROLLERS ? controllers[number] : null;
    }

    private void syncHub() {
        for (int object = 0; object < store.known && !isHubAway; object++) {
            if (wishes[object] != NONE && !store.isGone(object)) {
                store.applyField(BY_HUB, object, TEMPLATE, wishes[object]);
            }
        }
    }

    /** What the objects are like behind the event up to which the log was seen. */
    private static class View {
        /** A row for each event by its version; the row 0 tells of an object that was not seen. */
        final int[] log;
        /** By object: its latest event that was seen. */
        final int[] latest;
        int known;
        int seenUpTo;

        View(int[] log) {
            this.log = log;
            latest = new int[MOST_OBJECTS];
        }

        final int read(int object, int slot) {
            if (object < 0 || object >= MOST_OBJECTS || slot < 0 || slot >= SLOTS) {
                return NONE;
            }
            return log[latest[object] * SLOTS + slot];
        }

        final int latestOf(int object) {
            return object < 0 || object >= MOST_OBJECTS ? 0 : latest[object];
        }

        final int objectAt(int version) {
            return version < 1 || version > MOST_EVENTS ? NONE : log[version * SLOTS + OBJECT];
        }

        final void takeIn(int object, int version) {
            if (object < 0 || object >= MOST_OBJECTS || version < 1 || version > MOST_EVENTS) {
                return;
            }
            latest[object] = version;
            known = object >= known ? object + 1 : known;
            seenUpTo = version;
        }

        final void takeAll(View other) {
            System.arraycopy(other.latest, 0, latest, 0, MOST_OBJECTS);
            known = other.known;
            seenUpTo = other.seenUpTo;
        }

        final boolean isGone(int object) {
            return read(object, GOING) == GONE;
        }

        final boolean isStaying(int object, int kind) {
            return read(object, KIND) == kind && read(object, GOING) == STAYING;
        }

        /** Tells of an object that is STAYING whether it has this kind and owner. */
        final boolean isOwned(int object, int kind, int owner) {
            return read(object, OWNER) == owner && read(object, KIND) == kind && read(object, GOING) == STAYING;
        }

        /** What is held, or a POD with a place, can't be GONE yet. */
        final boolean isKept(int object) {
            return read(object, HELD) == 1 || read(object, PLACE) != NONE;
        }

        /** The SET of a DEPLOY that has its TEMPLATE, NONE if there is none. */
        final int newSetOf(int deploy) {
            int template = read(deploy, TEMPLATE);
            for (int set = 0; set < known; set++) {
                if (isOwned(set, SET, deploy) && read(set, TEMPLATE) == template) {
                    return set;
                }
            }
            return NONE;
        }

        final int countRunning(int set) {
            int count = 0;
            for (int pod = 0; pod < known && set != NONE; pod++) {
                count += isOwned(pod, POD, set) && read(pod, PHASE) == RUNNING ? 1 : 0;
            }
            return count;
        }

        /** How many PODs of all SETs of a DEPLOY are RUNNING. */
        final int countRunningOfAll(int deploy) {
            int sum = 0;
            for (int set = 0; set < known; set++) {
                sum += isOwned(set, SET, deploy) ? countRunning(set) : 0;
            }
            return sum;
        }

        final int needOf(int pod) {
            return 1 + read(pod, TEMPLATE) % 3;
        }
    }

    /** The objects as they are now, and all that writes them. A write tells whether it was not refused. */
    private static final class Store extends View {
        final Admission admission;
        final int[] lastBeat;
        final int[] draft;
        int now;
        int compactedUpTo;

        Store() {
            super(emptyLog());
            admission = new Admission();
            lastBeat = new int[MOST_OBJECTS];
            draft = new int[SLOTS];
        }

        private static int[] emptyLog() {
            int[] log = new int[(MOST_EVENTS + 1) * SLOTS];
            for (int slot = 0; slot < SLOTS; slot++) {
                log[slot] = NONE;
            }
            log[GOING] = GONE;
            return log;
        }

        /** Makes an object and returns its number, NONE if it is refused. */
        int open(int maker, int kind, int owner, int template) {
            int object = known;
            if (object >= MOST_OBJECTS || (kind == POD && livingPods() >= admission.podQuota)) {
                return NONE;
            }
            draftNew(maker, kind);
            draft[OBJECT] = object;
            draft[OWNER] = owner;
            draft[TEMPLATE] = template;
            if (!admission.settles(draft) || !admission.allows(draft) || !write(object)) {
                return NONE;
            }
            lastBeat[object] = now;
            return object;
        }

        private void draftNew(int maker, int kind) {
            for (int field = 0; field < FIELDS; field++) {
                draft[field] = FIRST[field];
                draft[MANAGER + field] = maker;
            }
            draft[KIND] = kind;
            draft[GOING] = STAYING;
            draft[HELD] = 0;
            draft[READY] = 1;
            draft[PLACE] = NONE;
            draft[PHASE] = WAITING;
            draft[BEHIND] = 0;
            draft[BEHIND_HIGH] = 0;
        }

        private int livingPods() {
            int count = 0;
            for (int object = 0; object < known; object++) {
                count += read(object, KIND) == POD && read(object, GOING) != GONE ? 1 : 0;
            }
            return count;
        }

        /** Applies a field that is taken over, if it has another manager. */
        boolean applyField(int manager, int object, int field, int value) {
            if (!hasField(read(object, KIND), field)) {
                return false;
            }
            draftFrom(object);
            draft[field] = value;
            draft[MANAGER + field] = manager;
            return admission.settles(draft) && admission.allows(draft) && write(object);
        }

        /** Applies SURGE and SLACK by one write. */
        boolean applyBoth(int manager, int object, int surge, int slack) {
            draftFrom(object);
            draft[SURGE] = surge;
            draft[SLACK] = slack;
            draft[MANAGER + SURGE] = manager;
            draft[MANAGER + SLACK] = manager;
            return admission.settles(draft) && admission.allows(draft) && write(object);
        }

        /** Deletes an object that is STAYING. */
        boolean startGoing(int object, int manner) {
            draftFrom(object);
            draft[GOING] = manner == BACKGROUND && !isKept(object) ? GONE : manner;
            return write(object);
        }

        boolean change(int object, int slot, int value) {
            if (slot < 0 || slot >= SLOTS) {
                return false;
            }
            draftFrom(object);
            draft[slot] = value;
            return write(object);
        }

        boolean changeBoth(int object, int slot, int value, int otherSlot, int otherValue) {
            if (slot < 0 || slot >= SLOTS || otherSlot < 0 || otherSlot >= SLOTS) {
                return false;
            }
            draftFrom(object);
            draft[slot] = value;
            draft[otherSlot] = otherValue;
            return write(object);
        }

        private void draftFrom(int object) {
            System.arraycopy(log, latestOf(object) * SLOTS, draft, 0, SLOTS);
        }

        /** The draft becomes an event, unless by that nothing would be another one. */
        private boolean write(int object) {
            if (draft[GOING] == GONE) {
                draft[OWNER] = NONE;
            }
            if (isDraftAs(latestOf(object))) {
                return true;
            }
            if (seenUpTo >= MOST_EVENTS) {
                return false;
            }
            System.arraycopy(draft, 0, log, (seenUpTo + 1) * SLOTS, SLOTS);
            takeIn(object, seenUpTo + 1);
            return true;
        }

        private boolean isDraftAs(int version) {
            for (int slot = 0; slot < SLOTS; slot++) {
                if (draft[slot] != log[version * SLOTS + slot]) {
                    return false;
                }
            }
            return true;
        }

        void beginTick() {
            now++;
            for (int node = 0; node < known; node++) {
                if (read(node, KIND) == NODE && !isGone(node) && now - lastBeat[node] > MOST_SILENCE) {
                    change(node, READY, 0);
                }
            }
        }
    }

    /** The rules and checks that a write goes through, and the quota of PODs. */
    private static final class Admission {
        private static final int RULE_PARTS = 6;
        private static final int CHECK_PARTS = 3;

        /** For each rule its kind, field, low, high, target and value. */
        final int[] ruleParts;
        /** For each check its kind, field and most. */
        final int[] checkParts;
        final int[] ahead;
        int rules;
        int checks;
        int podQuota;

        Admission() {
            ruleParts = new int[MOST_RULES * RULE_PARTS];
            checkParts = new int[MOST_CHECKS * CHECK_PARTS];
            ahead = new int[FIELDS];
            podQuota = FIRST_QUOTA;
        }

        boolean addRule(int kind, int field, int low, int high, int target, int value) {
            if (rules >= MOST_RULES) {
                return false;
            }
            int at = rules * RULE_PARTS;
            ruleParts[at] = kind;
            ruleParts[at + 1] = field;
            ruleParts[at + 2] = low;
            ruleParts[at + 3] = high;
            ruleParts[at + 4] = target;
            ruleParts[at + 5] = value;
            rules++;
            return true;
        }

        boolean addCheck(int kind, int field, int most) {
            if (checks >= MOST_CHECKS) {
                return false;
            }
            int at = checks * CHECK_PARTS;
            checkParts[at] = kind;
            checkParts[at + 1] = field;
            checkParts[at + 2] = most;
            checks++;
            return true;
        }

        int removeAll() {
            int count = rules + checks;
            rules = 0;
            checks = 0;
            return count;
        }

        /** Lets the rules change the draft, and tells whether they come to an end. */
        boolean settles(int[] draft) {
            for (int turn = 0; turn < RULE_TURNS; turn++) {
                System.arraycopy(draft, 0, ahead, 0, FIELDS);
                runRules(draft);
                boolean isSame = true;
                for (int field = 0; field < FIELDS; field++) {
                    isSame = isSame && draft[field] == ahead[field];
                }
                if (isSame) {
                    return true;
                }
            }
            return false;
        }

        private void runRules(int[] draft) {
            for (int rule = 0; rule < rules; rule++) {
                int at = rule * RULE_PARTS;
                int value = draft[ruleParts[at + 1]];
                if (ruleParts[at] == draft[KIND] && value >= ruleParts[at + 2] && value <= ruleParts[at + 3]) {
                    draft[ruleParts[at + 4]] = ruleParts[at + 5];
                }
            }
        }

        /** Tells whether the checks let the draft pass. */
        boolean allows(int[] draft) {
            if (draft[KIND] == DEPLOY && draft[SURGE] == 0 && draft[SLACK] == 0) {
                return false;
            }
            for (int check = 0; check < checks; check++) {
                int at = check * CHECK_PARTS;
                if (checkParts[at] == draft[KIND] && draft[checkParts[at + 1]] > checkParts[at + 2]) {
                    return false;
                }
            }
            return true;
        }
    }

    /** What a controller has seen, its queue of keys, and how it works on them. */
    private abstract static class Controller extends View {
        final Store store;
        /** The kind of its own keys, NONE for all kinds. */
        final int ownKind;
        final int[] queue;
        final boolean[] isQueued;
        /** By key: the failures one behind the other, the tick when its time comes, the latest write. */
        final int[] failed;
        final int[] due;
        final int[] written;
        int size;

        Controller(Store store, int ownKind) {
            super(store.log);
            this.store = store;
            this.ownKind = ownKind;
            queue = new int[MOST_OBJECTS];
            isQueued = new boolean[MOST_OBJECTS];
            failed = new int[MOST_OBJECTS];
            due = new int[MOST_OBJECTS];
            written = new int[MOST_OBJECTS];
        }

        /** Queues the keys that come of an event, but for the object itself. */
        abstract void queueOthers(int object, int owner);

        /** Does what is to be done for a key, and returns LEFT, PUT_OFF or BROKEN. */
        abstract int serve(int key);

        /** Sees further events and returns how many keys come to the queue. */
        final int look(int many) {
            int before = size;
            if (seenUpTo < store.compactedUpTo) {
                relist();
                return size - before;
            }
            for (int event = 0; event < many && seenUpTo < store.seenUpTo; event++) {
                lookAtNext();
            }
            return size - before;
        }

        /** Sees all events and returns how many keys are in the queue then. */
        final int lookAtAll() {
            look(MOST_EVENTS);
            return size;
        }

        private void relist() {
            takeAll(store);
            for (int object = 0; object < known; object++) {
                if (!isGone(object) && isOwnKey(object)) {
                    enqueue(object);
                }
            }
        }

        private void lookAtNext() {
            int version = seenUpTo + 1;
            int object = objectAt(version);
            int ownerAhead = read(object, OWNER);
            takeIn(object, version);
            int owner = read(object, OWNER);
            if (isOwnKey(object)) {
                enqueue(object);
            }
            queueOthers(object, owner == NONE ? ownerAhead : owner);
        }

        private boolean isOwnKey(int object) {
            return ownKind == NONE || read(object, KIND) == ownKind;
        }

        final void enqueue(int key) {
            if (key < 0 || key >= MOST_OBJECTS || size >= MOST_OBJECTS || isQueued[key]) {
                return;
            }
            isQueued[key] = true;
            queue[size] = key;
            size++;
        }

        final int keyAt(int place) {
            return place >= 0 && place < size ? queue[place] : NONE;
        }

        /** Takes the first key whose time has come out of the queue, NONE if there is none. */
        private int takeKey() {
            for (int place = 0; place < size; place++) {
                int key = queue[place];
                if (due[key] <= store.now) {
                    System.arraycopy(queue, place + 1, queue, place, size - place - 1);
                    size--;
                    isQueued[key] = false;
                    return key;
                }
            }
            return NONE;
        }

        final int workOnce() {
            int key = takeKey();
            if (key == NONE) {
                return IDLE;
            }
            int before = store.seenUpTo;
            int outcome = written[key] > seenUpTo ? PUT_OFF : serve(key);
            if (store.seenUpTo > before) {
                written[key] = store.seenUpTo;
            }
            if (outcome == LEFT) {
                failed[key] = 0;
                return LEFT;
            }
            if (outcome == BROKEN) {
                noteFailure(key);
            }
            enqueue(key);
            return outcome;
        }

        private void noteFailure(int key) {
            int delay = 1;
            for (int failure = 0; failure < failed[key] && delay < LONGEST_DELAY; failure++) {
                delay *= 2;
            }
            failed[key]++;
            due[key] = store.now + delay;
        }

        final boolean isUpToDate(int object) {
            return latestOf(object) == store.latestOf(object);
        }

        /** What comes of a key by a write. */
        static int outcomeOf(boolean isWritten) {
            return isWritten ? LEFT : BROKEN;
        }

        final boolean want(int object, int wanted) {
            if (read(object, WANTED) == wanted) {
                return true;
            }
            return isUpToDate(object) && store.applyField(BY_CONTROLLERS, object, WANTED, wanted);
        }

        /** Writes a slot that the controller has seen to be another one. */
        final boolean set(int object, int slot, int value) {
            return isUpToDate(object) && store.change(object, slot, value);
        }

        final boolean remove(int object) {
            return isUpToDate(object) && store.startGoing(object, BACKGROUND);
        }

        /** Makes an object that is owned by another one and has its TEMPLATE. */
        final boolean makeFor(int owner, int kind) {
            return store.open(BY_CONTROLLERS, kind, owner, read(owner, TEMPLATE)) != NONE;
        }
    }

    /** Rolls a DEPLOY out: moves what is wanted from its other SETs to the new one. */
    private static final class Deployer extends Controller {
        Deployer(Store store) {
            super(store, DEPLOY);
        }

        void queueOthers(int object, int owner) {
            if (read(object, KIND) == SET) {
                enqueue(owner);
            }
            if (read(object, KIND) == POD && read(owner, KIND) == SET) {
                enqueue(read(owner, OWNER));
            }
        }

        int serve(int key) {
            if (!isStaying(key, DEPLOY) || read(key, PAUSED) == 1) {
                return LEFT;
            }
            int newSet = newSetOf(key);
            if (newSet == NONE) {
                return outcomeOf(makeFor(key, SET));
            }
            int goal = read(key, WANTED);
            int has = read(newSet, WANTED);
            if (has > goal) {
                return outcomeOf(want(newSet, goal));
            }
            int free = goal + read(key, SURGE) - wantedTogether(key);
            if (has < goal && free > 0) {
                return outcomeOf(want(newSet, Math.min(goal, has + free)));
            }
            int other = otherSetOf(key, newSet);
            return other == NONE ? LEFT : outcomeOf(want(other, lessWanted(key, other)));
        }

        private int wantedTogether(int deploy) {
            int sum = 0;
            for (int set = 0; set < known; set++) {
                sum += isOwned(set, SET, deploy) ? read(set, WANTED) : 0;
            }
            return sum;
        }

        /** The lowest SET besides the new one that wants some, NONE if there is none. */
        private int otherSetOf(int deploy, int newSet) {
            for (int set = 0; set < known; set++) {
                if (set != newSet && isOwned(set, SET, deploy) && read(set, WANTED) > 0) {
                    return set;
                }
            }
            return NONE;
        }

        private int lessWanted(int deploy, int other) {
            int wanted = read(other, WANTED);
            int running = countRunning(other);
            if (wanted > running) {
                return running;
            }
            int spare = countRunningOfAll(deploy) - (read(deploy, WANTED) - read(deploy, SLACK));
            return spare > 0 ? wanted - Math.min(spare, wanted) : wanted;
        }
    }

    /** Makes the PODs of a SET or of a JOB, and deletes those that a SET has too many. */
    private static final class PodMaker extends Controller {
        PodMaker(Store store, int ownKind) {
            super(store, ownKind);
        }

        void queueOthers(int object, int owner) {
            if (read(object, KIND) == POD && read(owner, KIND) == ownKind) {
                enqueue(owner);
            }
        }

        int serve(int key) {
            if (!isStaying(key, ownKind)) {
                return LEFT;
            }
            return ownKind == SET ? serveSet(key) : serveJob(key);
        }

        private int serveSet(int key) {
            int count = 0;
            for (int pod = 0; pod < known; pod++) {
                if (isOwned(pod, POD, key)) {
                    count++;
                    if (read(pod, PHASE) == DONE || read(pod, PHASE) == FAILED) {
                        return outcomeOf(remove(pod));
                    }
                }
            }
            if (count < read(key, WANTED)) {
                return outcomeOf(makeFor(key, POD));
            }
            return count > read(key, WANTED) ? outcomeOf(remove(podTooMany(key))) : LEFT;
        }

        /** Of the PODs without a place, else the WAITING ones, else all: the one with the greatest number. */
        private int podTooMany(int set) {
            int chosen = NONE;
            int chosenRank = NONE;
            for (int pod = 0; pod < known; pod++) {
                if (isOwned(pod, POD, set)) {
                    int rank = read(pod, PLACE) == NONE ? 2 : read(pod, PHASE) == WAITING ? 1 : 0;
                    if (rank >= chosenRank) {
                        chosen = pod;
                        chosenRank = rank;
                    }
                }
            }
            return chosen;
        }

        private int serveJob(int key) {
            int done = 0;
            int active = 0;
            for (int pod = 0; pod < known; pod++) {
                if (isOwned(pod, POD, key)) {
                    int phase = read(pod, PHASE);
                    done += phase == DONE ? 1 : 0;
                    active += phase == WAITING || phase == RUNNING ? 1 : 0;
                }
            }
            boolean isMissing = done + active < read(key, WANTED) && active < read(key, AT_ONCE);
            return isMissing ? outcomeOf(makeFor(key, POD)) : LEFT;
        }
    }

    /** Gives PODs a place, and deletes others of a lesser rank for them. */
    private static final class Scheduler extends Controller {
        /** By NODE: what the PODs with this place need together. */
        final int[] used;
        /** By zone: how many PODs with the same owner have a place in it. */
        final int[] mates;
        final int[] victims;

        Scheduler(Store store) {
            super(store, POD);
            used = new int[MOST_OBJECTS];
            mates = new int[ZONES];
            victims = new int[MOST_OBJECTS];
        }

        void queueOthers(int object, int owner) {
            for (int pod = 0; pod < known && read(object, KIND) == NODE; pod++) {
                if (isWithoutPlace(pod)) {
                    enqueue(pod);
                }
            }
        }

        private boolean isWithoutPlace(int pod) {
            return isStaying(pod, POD) && read(pod, PHASE) == WAITING && read(pod, PLACE) == NONE;
        }

        int serve(int key) {
            if (!isWithoutPlace(key)) {
                return LEFT;
            }
            countUsed();
            countMates(read(key, OWNER));
            int node = bestNode(needOf(key));
            if (node != NONE) {
                return outcomeOf(set(key, PLACE, node));
            }
            int many = preempt(key);
            boolean isGoingOn = true;
            for (int victim = 0; victim < many && isGoingOn; victim++) {
                isGoingOn = remove(victims[victim]);
            }
            return BROKEN;
        }

        private void countUsed() {
            for (int node = 0; node < MOST_OBJECTS; node++) {
                used[node] = 0;
            }
            for (int pod = 0; pod < known; pod++) {
                int place = read(pod, PLACE);
                int phase = read(pod, PHASE);
                if (place >= 0 && place < MOST_OBJECTS && !isGone(pod) && phase != DONE && phase != FAILED) {
                    used[place] += needOf(pod);
                }
            }
        }

        private void countMates(int owner) {
            for (int zone = 0; zone < ZONES; zone++) {
                mates[zone] = 0;
            }
            for (int pod = 0; pod < known; pod++) {
                int place = read(pod, PLACE);
                if (place != NONE && read(pod, OWNER) == owner && !isGone(pod) && !isGone(place)) {
                    mates[zoneOf(place)]++;
                }
            }
        }

        private int zoneOf(int node) {
            int zone = read(node, ZONE);
            return zone < 0 || zone >= ZONES ? 0 : zone;
        }

        private boolean isOpen(int node) {
            return isStaying(node, NODE) && read(node, READY) == 1 && read(node, BARRED) == 0;
        }

        private int roomLeft(int node) {
            return read(node, ROOM) - used[node];
        }

        /** The best one of the NODEs that can take the need, NONE if there is none. */
        private int bestNode(int need) {
            int best = NONE;
            for (int node = 0; node < known; node++) {
                if (isOpen(node) && roomLeft(node) >= need && (best == NONE || isBetter(node, best))) {
                    best = node;
                }
            }
            return best;
        }

        private boolean isBetter(int node, int best) {
            int fewer = mates[zoneOf(best)] - mates[zoneOf(node)];
            return fewer > 0 || (fewer == 0 && roomLeft(node) > roomLeft(best));
        }

        /** Chooses the PODs to delete so that a NODE could take the key, and returns how many. */
        private int preempt(int key) {
            int best = NONE;
            int fewest = MOST_OBJECTS + 1;
            for (int node = 0; node < known; node++) {
                int many = isOpen(node) ? chooseVictims(key, node) : NONE;
                if (many != NONE && many < fewest) {
                    best = node;
                    fewest = many;
                }
            }
            return best == NONE ? 0 : chooseVictims(key, best);
        }

        /** Returns how many PODs are taken until the NODE could take the key; NONE if it can't come about. */
        private int chooseVictims(int key, int node) {
            int missing = needOf(key) - roomLeft(node);
            int many = 0;
            for (int rank = 0; rank < rankOf(key); rank++) {
                for (int pod = known - 1; pod >= 0 && missing > 0; pod--) {
                    if (isVictim(pod, node) && rankOf(pod) == rank) {
                        victims[many] = pod;
                        many++;
                        missing -= needOf(pod);
                    }
                }
            }
            return missing > 0 ? NONE : many;
        }

        private boolean isVictim(int pod, int node) {
            int phase = read(pod, PHASE);
            return read(pod, PLACE) == node && isStaying(pod, POD) && (phase == WAITING || phase == RUNNING);
        }

        private int rankOf(int pod) {
            return read(pod, TEMPLATE) / 4;
        }
    }

    /** Runs PODs at their places, and clears the places of those that are GOING. */
    private static final class Runner extends Controller {
        Runner(Store store) {
            super(store, POD);
        }

        void queueOthers(int object, int owner) {
            for (int pod = 0; pod < known && read(object, KIND) == NODE; pod++) {
                if (read(pod, KIND) == POD && read(pod, PLACE) == object) {
                    enqueue(pod);
                }
            }
        }

        int serve(int key) {
            int node = read(key, PLACE);
            int phase = read(key, PHASE);
            if (read(key, KIND) != POD || isGone(key) || node == NONE) {
                return LEFT;
            }
            if (read(key, GOING) != STAYING) {
                return outcomeOf(clearPlace(key));
            }
            boolean isLost = isGone(node) || read(node, READY) == 0 || read(node, BARRED) == 1;
            if (isLost && (phase == WAITING || phase == RUNNING)) {
                return outcomeOf(set(key, PHASE, FAILED));
            }
            if (phase != WAITING) {
                return LEFT;
            }
            boolean hasRoom = read(node, ROOM) >= needOf(key) + runningNeeds(node);
            return outcomeOf(set(key, PHASE, hasRoom ? RUNNING : FAILED));
        }

        private boolean clearPlace(int pod) {
            int going = read(pod, HELD) == 1 ? read(pod, GOING) : GONE;
            return isUpToDate(pod) && store.changeBoth(pod, PLACE, NONE, GOING, going);
        }

        private int runningNeeds(int node) {
            int sum = 0;
            for (int pod = 0; pod < known; pod++) {
                boolean isRunning = read(pod, PLACE) == node && read(pod, PHASE) == RUNNING && !isGone(pod);
                sum += isRunning ? needOf(pod) : 0;
            }
            return sum;
        }
    }

    /** Carries the deleting on, from owners to what they own. */
    private static final class Collector extends Controller {
        Collector(Store store) {
            super(store, NONE);
        }

        void queueOthers(int object, int owner) {
            enqueue(owner);
            for (int owned = 0; owned < known; owned++) {
                if (read(owned, OWNER) == object) {
                    enqueue(owned);
                }
            }
        }

        int serve(int key) {
            int going = read(key, GOING);
            if (going == GONE) {
                return LEFT;
            }
            if (going == STAYING) {
                int owner = read(key, OWNER);
                return owner != NONE && isGone(owner) ? outcomeOf(remove(key)) : LEFT;
            }
            if (going != BACKGROUND && ownsSome(key)) {
                return outcomeOf(going == FOREGROUND ? deleteOwned(key) : disownAll(key));
            }
            return isKept(key) ? LEFT : outcomeOf(set(key, GOING, GONE));
        }

        private boolean ownsSome(int owner) {
            for (int owned = 0; owned < known; owned++) {
                if (read(owned, OWNER) == owner) {
                    return true;
                }
            }
            return false;
        }

        private boolean deleteOwned(int owner) {
            for (int owned = 0; owned < known; owned++) {
                boolean isMeant = read(owned, OWNER) == owner && read(owned, GOING) == STAYING;
                if (isMeant && !set(owned, GOING, FOREGROUND)) {
                    return false;
                }
            }
            return true;
        }

        private boolean disownAll(int owner) {
            for (int owned = 0; owned < known; owned++) {
                if (read(owned, OWNER) == owner && !set(owned, OWNER, NONE)) {
                    return false;
                }
            }
            return true;
        }
    }

    /** Keeps the PODs behind a ROUTE. */
    private static final class Router extends Controller {
        Router(Store store) {
            super(store, ROUTE);
        }

        void queueOthers(int object, int owner) {
            for (int route = 0; route < known && read(object, KIND) == POD; route++) {
                if (read(route, KIND) == ROUTE && !isGone(route)) {
                    enqueue(route);
                }
            }
        }

        int serve(int key) {
            if (!isStaying(key, ROUTE)) {
                return LEFT;
            }
            int low = podsBehind(key, 0);
            int high = podsBehind(key, BEHIND_BITS);
            if (low == read(key, BEHIND) && high == read(key, BEHIND_HIGH)) {
                return LEFT;
            }
            return outcomeOf(isUpToDate(key) && store.changeBoth(key, BEHIND, low, BEHIND_HIGH, high));
        }

        /** The bits of the PODs behind a ROUTE, from a first number on. */
        private int podsBehind(int route, int first) {
            int template = read(route, TEMPLATE);
            int bits = 0;
            for (int pod = first; pod < known && pod < first + BEHIND_BITS; pod++) {
                if (isStaying(pod, POD) && read(pod, PHASE) == RUNNING && read(pod, TEMPLATE) == template) {
                    bits |= 1 << pod - first;
                }
            }
            return bits;
        }
    }

    /** Lets a DEPLOY want as many as its LOAD asks for. */
    private static final class Scaler extends Controller {
        /** By DEPLOY: the tick of its latest write by this controller, NONE for never. */
        final int[] wroteAt;

        Scaler(Store store) {
            super(store, DEPLOY);
            wroteAt = new int[MOST_OBJECTS];
            for (int object = 0; object < MOST_OBJECTS; object++) {
                wroteAt[object] = NONE;
            }
        }

        void queueOthers(int object, int owner) {
            // Only DEPLOYs themselves tell of load.
        }

        int serve(int key) {
            int most = read(key, MOST);
            if (key < 0 || key >= MOST_OBJECTS || !isStaying(key, DEPLOY) || most <= 0) {
                return LEFT;
            }
            int goal = Math.min(most, Math.max(1, (read(key, LOAD) + 9) / 10));
            boolean isEarly = wroteAt[key] != NONE && store.now - wroteAt[key] < SCALER_PAUSE;
            if (read(key, WANTED) > goal && isEarly) {
                due[key] = wroteAt[key] + SCALER_PAUSE;
                return PUT_OFF;
            }
            int before = store.seenUpTo;
            boolean isWritten = want(key, goal);
            if (store.seenUpTo > before) {
                wroteAt[key] = store.now;
            }
            return outcomeOf(isWritten);
        }
    }
}
