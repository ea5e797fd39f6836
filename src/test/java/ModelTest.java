import java.lang.reflect.InvocationTargetException;
import java.lang.reflect.Method;
import java.util.Arrays;
import java.util.HashMap;
import java.util.Map;
import java.util.Random;
import java.util.TreeSet;

/** Compares ReconcilerHall with Model over runs of calls from fixed seeds; every call of the face takes part. */
public final class ModelTest {
    private static final int CALLS = 512;
    private static final Map<String, Integer> WEIGHTS = new HashMap<>();

    static {
        for (Method method : ReconcilerHall.class.getDeclaredMethods()) {
            if (java.lang.reflect.Modifier.isPublic(method.getModifiers())) {
                WEIGHTS.put(method.getName(), 3);
            }
        }
        WEIGHTS.putAll(Map.of("make", 40, "apply", 90, "applyBudget", 15, "delete", 14, "hold", 12, "finish", 30));
        WEIGHTS.putAll(Map.of("rule", 5, "check", 3, "clear", 4, "quota", 4, "compact", 4, "wish", 10, "hub", 10));
        WEIGHTS.putAll(Map.of("see", 90, "work", 140, "turn", 25, "tick", 30, "beat", 40, "running", 20));
    }

    public static void main(String[] args) {
        runSeeds(0, args.length > 0 ? Integer.parseInt(args[0]) : 400);
        Suite.run(ModelTest.class);
    }

    private static int wrong = 0;
    private static final TreeSet<String> ANSWERS = new TreeSet<>();

    private static void runSeeds(int from, int to) {
        for (int seed = from; seed < to && wrong == 0; seed++) {
            new Run(seed).go();
        }
    }

    static void promiseAllCallsAnswerAsTheModelDoes() {
        Suite.due(0, wrong);
    }

    /** The runs are worth something only if they come to every answer of working and to every exception. */
    static void promiseRunsReachEveryOutcome() {
        for (String answer : ("work 0,work 1,work 2,work 3,make STATE,apply STATE,apply ARGUMENT,tick STATE,next STATE,"
            + "objects at last 60,events at last 400").split(",")) {
            Suite.due(answer, ANSWERS.contains(answer) ? answer : "none like it");
        }
    }

    private static final class Run {
        final int seed;
        final Random random;
        final ReconcilerHall hall = new ReconcilerHall();
        final Model model = new Model();
        final Method[] methods;
        final int style;
        final StringBuilder told = new StringBuilder();
        int calls;

        Run(int seed) {
            this.seed = seed;
            random = new Random(seed);
            style = random.nextInt(10);
            methods = Arrays.stream(ReconcilerHall.class.getDeclaredMethods())
                .filter(method -> java.lang.reflect.Modifier.isPublic(method.getModifiers()))
                .sorted(java.util.Comparator.comparing(Method::getName)).toArray(Method[]::new);
        }

        /** Runs that begin with objects of all kinds at work, so that controllers have much to be wrong about. */
        boolean isRich() {
            return style > 4;
        }

        void go() {
            if (isRich()) {
                begin();
            }
            int filling = style == 3 ? 250 + random.nextInt(150) : 0;
            int begin = random.nextInt(120);
            for (int call = 0; calls < CALLS && wrong == 0; call++) {
                Method method = choose();
                if (call < begin || call >= begin + filling || !fill(call)) {
                    compare(method, spoilt(arguments(method)));
                }
            }
            readAll();
            ANSWERS.add("objects at last " + hall.objects());
            ANSWERS.add("events at last " + hall.version());
        }

        void begin() {
            for (int[] each : new int[][] {{4, 2, 3}, {0, 1, 2}, {3, 1, 2}, {5, 1, 1}, {2, 1, 3}}) {
                for (int left = each[1] + random.nextInt(each[2]); left > 0; left--) {
                    compare(method("make"), list(0, each[0]));
                    set(hall.objects() - 1, each[0]);
                }
            }
            compare(method("turn"), list(1 + random.nextInt(6)));
        }

        /** Gives some fields of a new object values that keep it busy. */
        void set(int object, int kind) {
            for (int field = 0; field < 11; field++) {
                boolean isCalm = field == 4 || field == 5 || field == 9 || random.nextInt(3) == 0;
                if (Suite.has(kind, field) && !isCalm) {
                    compare(method("apply"), list(0, object, field, field == 1 ? random.nextInt(3) * 3 : valueOf(field), -1, true));
                }
            }
        }

        /** Brings the log nearer to its end by one event, if there is an object for that. */
        boolean fill(int call) {
            for (int object = 0; object < hall.objects(); object++) {
                if (hall.goingOf(object) == 0 && hall.kindOf(object) == 4) {
                    compare(method("hold"), list(object, call % 2 == 0));
                    return true;
                }
            }
            return false;
        }

        Method method(String name) {
            return Arrays.stream(methods).filter(one -> one.getName().equals(name)).findFirst().orElseThrow();
        }

        Method choose() {
            int sum = Arrays.stream(methods).mapToInt(this::weight).sum();
            int left = random.nextInt(sum);
            for (Method method : methods) {
                left -= weight(method);
                if (left < 0) {
                    return method;
                }
            }
            return methods[0];
        }

        int weight(Method method) {
            String name = method.getName();
            int weight = WEIGHTS.get(name);
            if (style == 1 && (name.equals("rule") || name.equals("check") || name.equals("compact"))) {
                return 0;
            }
            if (style == 2 && name.equals("turn")) {
                return 0;
            }
            if (isRich() && (name.equals("turn") || name.equals("compact") || name.equals("make"))) {
                return weight / 8 + 1;
            }
            if (style == 4 && name.equals("tick")) {
                return 6 * weight;
            }
            return weight;
        }

        /** Mostly arguments that are right for the call, at times others. */
        Object[] arguments(Method method) {
            int objects = hall.objects();
            int object = random.nextInt(25) == 0 ? random.nextInt(70) - 5 : random.nextInt(Math.max(1, objects));
            int kind = object >= 0 && object < objects ? hall.kindOf(object) : random.nextInt(6);
            int manager = random.nextInt(40) == 0 ? random.nextInt(9) - 2 : random.nextInt(2);
            int controller = random.nextInt(60) == 0 ? random.nextInt(12) - 2 : random.nextInt(8);
            int field = fieldOf(kind);
            int version = random.nextInt(hall.version() + 1);
            switch (method.getName()) {
                case "make": return list(manager, kindToMake());
                case "apply": return list(manager, object, field, valueOf(field), random.nextInt(15) == 0 ? version : -1, random.nextInt(3) > 0);
                case "applyBudget": return list(manager, deploy(object), new int[] {0, 1, 2, 10, 11, 12, 20, 21, 22, 3, 30, -1, 13, -10}[random.nextInt(14)], random.nextBoolean());
                case "delete": return list(object, random.nextInt(20) == 0 ? random.nextInt(7) - 1 : 1 + random.nextInt(3));
                case "finish": return list(running(object), random.nextBoolean());
                case "rule": return rule();
                case "check": { int k = random.nextInt(6); int f = fieldOf(k); return list(k, f, valueOf(f)); }
                case "quota": return list(random.nextInt(8) == 0 ? random.nextInt(70) - 4 : 4 + random.nextInt(57));
                case "see": return list(controller, random.nextInt(3) == 0 ? random.nextInt(10) - 1 : 400);
                case "work", "seen": return list(controller);
                case "turn": return list(random.nextInt(9) == 0 ? random.nextInt(13) - 1 : 1 + random.nextInt(2));
                case "queued": return list(controller, random.nextInt(8) - 1);
                case "failures": return list(controller, object);
                case "believed": return list(controller, object, field);
                case "watch": return list(random.nextInt(5), random.nextInt(10) == 0 ? hall.version() + random.nextInt(3) : version);
                case "next", "list": return list(random.nextInt(30) == 0 ? -1 + random.nextInt(7) : random.nextInt(4));
                case "compact": return list(random.nextInt(10) == 0 ? hall.version() + random.nextInt(2) : version);
                case "tick": return list(random.nextInt(20) == 0 ? random.nextInt(104) - 1 : style == 4 ? 90 + random.nextInt(11) : 1 + random.nextInt(6));
                case "beat": return list(nodeOr(object));
                case "wish": return list(deploy(object), random.nextInt(12) - 1);
                case "objectOf": return list(version + random.nextInt(2));
                case "isBehind": return list(object, random.nextInt(Math.max(1, objects)));
                default: return plain(method, object, field);
            }
        }

        /** At times one of the numbers is the lowest or the greatest int, or next to one of these. */
        Object[] spoilt(Object[] arguments) {
            int at = random.nextInt(60);
            if (at < arguments.length && arguments[at] instanceof Integer) {
                arguments[at] = new int[] {Integer.MIN_VALUE, Integer.MIN_VALUE + 1, Integer.MAX_VALUE - 1, Integer.MAX_VALUE}[random.nextInt(4)];
            }
            return arguments;
        }

        Object[] plain(Method method, int object, int field) {
            Object[] arguments = new Object[method.getParameterCount()];
            for (int at = 0; at < arguments.length; at++) {
                boolean isFlag = method.getParameterTypes()[at] == boolean.class;
                arguments[at] = isFlag ? (Object) random.nextBoolean() : (Object) (at == 0 ? object : field);
            }
            return arguments;
        }

        Object[] rule() {
            int kind = random.nextInt(20) == 0 ? random.nextInt(9) - 1 : random.nextInt(6);
            int field = fieldOf(kind);
            int target = fieldOf(kind);
            int low = valueOf(field);
            return list(kind, field, low, low + random.nextInt(4) - (random.nextInt(12) == 0 ? 2 : 0), target, valueOf(target));
        }

        int kindToMake() {
            return random.nextInt(50) == 0 ? random.nextInt(9) - 1 : new int[] {0, 0, 1, 2, 2, 3, 4, 4, 4, 5}[random.nextInt(10)];
        }

        int fieldOf(int kind) {
            int field = random.nextInt(11);
            for (int i = 0; i < 60 && random.nextInt(40) > 0 && !Suite.has(kind, field); i++) {
                field = random.nextInt(11);
            }
            return random.nextInt(80) == 0 ? random.nextInt(20) - 4 : field;
        }

        int valueOf(int field) {
            int[] most = {5, 9, 2, 2, 1, 5, 99, 9, 2, 1, 5};
            int top = field >= 0 && field < 11 ? most[field] : 5;
            return random.nextInt(40) == 0 ? random.nextInt(top + 4) - 1 : random.nextInt(top + 1);
        }

        /** Another object, most times one for which the call means something. */
        int find(int object, java.util.function.IntPredicate isMeant) {
            for (int i = 0; i < 30 && hall.objects() > 0 && random.nextInt(30) > 0; i++) {
                int other = random.nextInt(hall.objects());
                if (isMeant.test(other)) {
                    return other;
                }
            }
            return object;
        }

        int deploy(int object) {
            return find(object, other -> hall.kindOf(other) == 0);
        }

        int running(int object) {
            return find(object, other -> hall.kindOf(other) == 2 && hall.phaseOf(other) == 1);
        }

        int nodeOr(int object) {
            return find(object, other -> hall.kindOf(other) == 4);
        }

        static Object[] list(Object... arguments) {
            return arguments;
        }

        void compare(Method method, Object[] arguments) {
            String want = answer(model, method, arguments);
            String got = answer(hall, method, arguments);
            String call = method.getName() + Arrays.toString(arguments);
            told.append(call).append(" = ").append(got).append('\n');
            ANSWERS.add(method.getName() + " " + got);
            calls++;
            if (!want.equals(got)) {
                wrong++;
                System.out.println("seed " + seed + ": " + call + " answered " + got + ", the model " + want + "; ahead of it:\n" + told);
            }
        }

        static String answer(Object target, Method method, Object[] arguments) {
            try {
                return "" + target.getClass().getMethod(method.getName(), method.getParameterTypes()).invoke(target, arguments);
            } catch (InvocationTargetException thrown) {
                Class<?> type = thrown.getCause().getClass();
                if (type == Suite.ARGUMENT) {
                    return "ARGUMENT";
                }
                return type == Suite.STATE ? "STATE" : type == Suite.INDEX ? "INDEX" : target.getClass() + " " + type;
            } catch (ReflectiveOperationException missing) {
                throw new AssertionError(missing);
            }
        }

        /** Every reading call for every object, field and controller. */
        void readAll() {
            for (Method method : methods) {
                if (!isReading(method.getName()) || wrong > 0) {
                    continue;
                }
                int many = method.getParameterCount();
                boolean isOfController = many > 0 && (method.getName().equals("failures") || method.getName().equals("believed")
                    || method.getName().equals("queued") || method.getName().equals("seen"));
                for (int first = -1; first < (many == 0 ? 0 : isOfController ? 9 : 62); first++) {
                    for (int second = -1; second < (many < 2 ? 0 : isOfController || method.getName().equals("isBehind") ? 61 : 12); second++) {
                        for (int third = -1; third < (many < 3 ? 0 : 12); third++) {
                            compareReading(method, first, second, third);
                        }
                    }
                }
            }
        }

        void compareReading(Method method, int first, int second, int third) {
            Object[] arguments = new Object[method.getParameterCount()];
            int[] numbers = {first, second, third};
            for (int at = 0; at < arguments.length; at++) {
                boolean isFlag = method.getParameterTypes()[at] == boolean.class;
                arguments[at] = isFlag ? (Object) (second % 2 == 0) : (Object) numbers[at];
            }
            compare(method, arguments);
        }

        static boolean isReading(String name) {
            return name.endsWith("Of") || name.startsWith("is") || Arrays.asList("seen", "queued", "failures", "believed",
                "objects", "version", "field", "budget", "running").contains(name);
        }
    }
}
