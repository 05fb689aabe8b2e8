import java.lang.reflect.InvocationTargetException;
import java.lang.reflect.Method;
import java.util.ArrayDeque;
import java.util.ArrayList;
import java.util.List;
import java.util.Map;
import java.util.Random;
import java.util.TreeMap;
import java.util.function.IntPredicate;
import java.util.stream.IntStream;

/**
 * Long runs of calls (the same ones each time) on the program and on PlainCity: each answer, each
 * exception and the digest behind each call have to be the same; a refused call changes nothing.
 */
public final class WalkTest {
    private static final int RUNS = Integer.getInteger("runs", 1500);
    private static final int CALLS = 250;

    /** A method of the face, and of each argument the least and the greatest ordinary value. */
    private static final class Op {
        final Method here;
        final Method there;
        final int[] bounds;
        Op(String name, int... bounds) throws NoSuchMethodException {
            Class<?>[] types = new Class<?>[bounds.length / 2];
            for (int k = 0; k < types.length; k++) types[k] = name.equals("rise") && k == 1 ? boolean.class : int.class;
            this.here = Kleroterion.class.getMethod(name, types);
            this.there = PlainCity.class.getMethod(name, types);
            this.bounds = bounds;
        }
        Object[] arguments(Random random) {
            Object[] all = new Object[bounds.length / 2];
            for (int k = 0; k < all.length; k++) {
                int least = bounds[2 * k], most = bounds[2 * k + 1];
                int value = least + random.nextInt(most - least + 1);
                if (random.nextInt(40) == 0) value = new int[] {least - 1, least, most, most + 1, Integer.MAX_VALUE, Integer.MIN_VALUE}[random.nextInt(6)];
                all[k] = here.getParameterTypes()[k] == boolean.class ? (Object) (value % 2 == 0) : (Object) value;
            }
            return all;
        }
    }

    private static Object call(Method method, Object on, Object[] arguments) throws Exception {
        try {
            return method.invoke(on, arguments);
        } catch (InvocationTargetException e) {
            String thrower = e.getCause().getStackTrace()[0].getClassName();
            boolean isOwn = thrower.equals("Kleroterion") || thrower.equals("PlainCity");
            return (isOwn ? "throws " : "lets a list throw ") + e.getCause().getClass().getName();
        }
    }

    private static List<Op> acts() throws Exception {
        List<Op> ops = new ArrayList<>();
        ops.add(new Op("enroll", 0, 7, 18, 70, 0, 300, 0, 15));
        ops.add(new Op("found", 1, 20, 0, 99));
        ops.add(new Op("purge", 0, 7));
        ops.add(new Op("appeal", 0, 39));
        ops.add(new Op("pay", 0, 39));
        ops.add(new Op("seat"));
        ops.add(new Op("move", 0, 39, 0, 5, 0, 7, 0, 15, 0, 300));
        ops.add(new Op("move", 0, 39, 0, 1, 0, 1, 4, 11, 0, 50));
        ops.add(new Op("move", 0, 39, 4, 5, 0, 1, 5, 10, 0, 39));
        ops.add(new Op("amend", 0, 7, 0, 15));
        ops.add(new Op("assembly"));
        ops.add(new Op("stand", 0, 39, 0, 6));
        ops.add(new Op("fill", 0, 6));
        ops.add(new Op("sue", 0, 39, 0, 39, 0, 3, 1, 200, 0, 15));
        ops.add(new Op("sue", 0, 39, 0, 39, 0, 0, 1, 50, 3, 12));
        ops.add(new Op("sue", 0, 39, 0, 39, 3, 3, 1, 200, 0, 15));
        ops.add(new Op("challenge", 0, 39, 0, 11, 1, 200));
        ops.add(new Op("arbitrate", 0, 7));
        ops.add(new Op("court"));
        ops.add(new Op("lease", 0, 39, 0, 2, 1, 100));
        ops.add(new Op("ally", 1, 60, 1, 99));
        ops.add(new Op("claim", 0, 39, 0, 39));
        ops.add(new Op("bear", 0, 39));
        ops.add(new Op("festival"));
        ops.add(new Op("sherds"));
        ops.add(new Op("levy", 1, 15));
        ops.add(new Op("rise", 0, 15, 0, 1));
        ops.add(new Op("enroll", 0, 7, 30, 60, 90, 300, 4, 11));
        ops.add(new Op("lease", 0, 39, 0, 2, 1, 10));
        ops.add(new Op("pass", 1, 3));
        ops.add(new Op("bell"));
        return ops;
    }

    private static List<Op> questions() throws Exception {
        List<Op> ops = new ArrayList<>();
        ops.add(new Op("ofCitizen", 0, 39, 0, 12));
        ops.add(new Op("council", 0, 4));
        ops.add(new Op("ofDecree", 0, 11, 0, 4));
        ops.add(new Op("law", 0, 7));
        ops.add(new Op("would", 0, 7));
        ops.add(new Op("ofOffice", 0, 6, 0, 3));
        ops.add(new Op("ofSuit", 0, 7, 0, 6));
        ops.add(new Op("jury", 0, 6));
        ops.add(new Op("money", 0, 8));
        ops.add(new Op("ofTribe", 0, 3, 0, 4));
        ops.add(new Op("city", 0, 14));
        ops.add(new Op("roll", 0, 5, 0, 99, -1, 3));
        ops.add(new Op("isSound"));
        ops.add(new Op("tell", 0, 39));
        return ops;
    }

    private static final Map<String, int[]> TALLY = new TreeMap<>();

    /** Of each run other calls are dear, so that some runs are of wars, others of offices, and so on. */
    private static int[] weights(int many, Random random) {
        int[] weights = new int[many];
        for (int k = 0; k < many; k++) weights[k] = new int[] {0, 1, 4, 12}[random.nextInt(4)];
        return weights;
    }

    private static Op pick(List<Op> ops, int[] weights, Random random) {
        int sum = 0;
        for (int w : weights) sum += w;
        int at = random.nextInt(Math.max(1, sum));
        for (int k = 0; k < weights.length; k++) {
            at -= weights[k];
            if (at < 0) return ops.get(k);
        }
        return ops.get(ops.size() - 1);
    }

    /** Calls that are made next, ahead of others. */
    private static final class Plan {
        private final ArrayDeque<Object[]> calls = new ArrayDeque<>();
        private final Random random;
        private final Kleroterion city;

        Plan(Random random, Kleroterion city) {
            this.random = random;
            this.city = city;
        }

        private void then(String name, Object... arguments) {
            calls.add(new Object[] {name, arguments});
        }

        private int citizenWith(IntPredicate wanted) {
            int[] all = IntStream.range(0, city.city(5)).filter(wanted).toArray();
            return all.length == 0 ? random.nextInt(40) : all[random.nextInt(all.length)];
        }

        private int someFull() {
            return citizenWith(c -> city.ofCitizen(c, 6) == 1);
        }

        private int popularLean() {
            int best = 0;
            int most = -1;
            for (int lean = 0; lean < 16; lean++) {
                int l = lean;
                int agree = (int) IntStream.range(0, city.city(5))
                    .filter(c -> city.ofCitizen(c, 6) == 1 && Math.abs(city.ofCitizen(c, 3) - l) <= 5).count();
                if (agree > most) {
                    most = agree;
                    best = lean;
                }
            }
            return random.nextInt(3) != 0 ? best : random.nextInt(16);
        }

        private void moveAndVote(int kind, int amount) {
            if (city.council(0) == 0) then("seat");
            if (city.council(2) == -1) then("pass", 10 - city.city(0) % 10);
            then("move", someFull(), kind, random.nextInt(3), popularLean(), amount);
            then("assembly");
        }

        void make() {
            switch (random.nextInt(12)) {
                case 0:
                    for (int c = 0; c < city.city(5); c++) if (city.ofCitizen(c, 12) > 0 && random.nextInt(6) != 0) then("bear", c);
                    then("festival");
                    break;
                case 1:
                    if (city.city(10) == -1) moveAndVote(5, random.nextInt(60));
                    for (int k = random.nextInt(4); k >= 0; k--) { then("levy", 1 + random.nextInt(15)); then("pass", 1); }
                    break;
                case 2:
                    if (city.city(10) == -1) moveAndVote(5, 300);
                    for (int k = random.nextInt(8); k >= 0; k--) { then("levy", 1 << random.nextInt(4)); then("pass", 1); }
                    then("pass", 10);
                    break;
                case 3:
                    moveAndVote(0, 0);
                    if (random.nextBoolean()) then("pass", 1 + random.nextInt(3));
                    then("challenge", someFull(), Math.max(0, city.city(12) - random.nextInt(2)), 1 + random.nextInt(200));
                    if (random.nextBoolean()) then("court");
                    break;
                case 4: then("rise", popularLean(), random.nextBoolean()); break;
                case 5: {
                    int c = citizenWith(k -> city.ofCitizen(k, 12) > 0);
                    int tribe = c < city.city(5) ? city.ofCitizen(c, 1) : 0;
                    then("claim", c, citizenWith(k -> k != c && city.ofCitizen(k, 1) == tribe && city.ofCitizen(k, 12) == 0));
                    break;
                }
                case 6: {
                    int office = random.nextInt(7);
                    for (int k = random.nextInt(4); k >= 0; k--) then("stand", citizenWith(c -> city.ofCitizen(c, 6) == 1
                        && city.ofCitizen(c, 2) >= 30 && (office < 3 || city.ofCitizen(c, 1) == office - 3)
                        && (office != 1 || city.ofCitizen(c, 5) == 3)), office);
                    then("fill", office);
                    break;
                }
                case 7: then("appeal", citizenWith(c -> city.ofCitizen(c, 6) == 0)); break;
                case 8: moveAndVote(4, citizenWith(c -> city.ofCitizen(c, 6) == 3)); break;
                case 9: moveAndVote(1 + random.nextInt(3), random.nextInt(100)); break;
                case 10: then("pay", citizenWith(c -> city.ofCitizen(c, 7) > 0)); break;
                default:
                    for (int k = random.nextInt(5); k >= 0; k--) then("sue", someFull(), citizenWith(c -> city.ofCitizen(c, 6) < 3),
                        new int[] {0, 1, 3}[random.nextInt(3)], 1 + random.nextInt(200), popularLean());
                    then("court");
            }
        }

        boolean isEmpty() {
            return calls.isEmpty();
        }

        Object[] next() {
            return calls.remove();
        }
    }

    private static Op named(List<Op> ops, String name) {
        for (Op op : ops) if (op.here.getName().equals(name)) return op;
        throw new IllegalStateException(name);
    }

    private static boolean walk(int run, List<Op> acts, List<Op> questions) throws Exception {
        Random random = new Random(run);
        Kleroterion here = new Kleroterion();
        PlainCity there = new PlainCity();
        StringBuilder log = new StringBuilder();
        int[] weights = weights(acts.size(), random);
        long digest = here.digest();
        Plan plan = new Plan(random, here);
        Op pass = new Op("pass", 1, 40);
        for (int k = 0; k < CALLS; k++) {
            boolean isAct = random.nextInt(6) != 0 || k < 2;
            Op op = isAct ? pick(acts, weights, random) : questions.get(random.nextInt(questions.size()));
            if (k == 0 && run % 8 != 0) op = acts.get(1);
            if (k == 1 && run % 4 != 0) op = acts.get(5);
            if (k > 2 && random.nextInt(60) == 0) op = isAct ? pass : op;
            Object[] arguments = op.arguments(random);
            if (k > 2 && plan.isEmpty() && run % 3 != 0 && random.nextInt(3) == 0) plan.make();
            if (!plan.isEmpty()) {
                Object[] next = plan.next();
                isAct = true;
                op = named(acts, (String) next[0]);
                arguments = (Object[]) next[1];
            }
            Object got = call(op.here, here, arguments);
            Object want = call(op.there, there, arguments);
            log.append(op.here.getName()).append(List.of(arguments)).append(" -> ").append(got).append('\n');
            long after = here.digest();
            boolean isRefused = String.valueOf(want).startsWith("throws");
            if (isAct) TALLY.computeIfAbsent(op.here.getName(), n -> new int[2])[isRefused ? 1 : 0]++;
            String fault = null;
            if (!got.equals(want)) fault = "due is " + want;
            else if (after != there.digest()) fault = "the digest is another one";
            else if ((isRefused || !isAct) && after != digest) fault = "it changed something";
            else if (!here.isSound()) fault = "it is not sound";
            if (fault != null) {
                System.out.println("run " + run + ", " + fault + ":\n" + log);
                return false;
            }
            digest = after;
        }
        for (int c = 0; c < here.city(5); c++) {
            if (!here.tell(c).equals(there.tell(c))) {
                System.out.println("run " + run + ", tell(" + c + "): " + here.tell(c) + ", due is " + there.tell(c));
                return false;
            }
        }
        return true;
    }

    public static void main(String[] args) throws Exception {
        List<Op> acts = acts(), questions = questions();
        int wrong = 0;
        for (int run = 0; run < RUNS && wrong < 3; run++) if (!walk(run, acts, questions)) wrong++;
        if (Boolean.getBoolean("tally")) TALLY.forEach((n, t) -> System.out.println(n + ": done " + t[0] + ", refused " + t[1]));
        System.out.println(wrong == 0 ? RUNS + " walks are as due" : wrong + " walks are not as due");
        if (wrong != 0) System.exit(1);
    }
}
