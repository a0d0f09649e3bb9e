import java.util.Random;

/** All promises at once: long runs of calls, the same ones every time, on RoleAnalyser and on the Model. */
public final class ModelTest {
    private static final int RUNS = 600;
    private static final int CALLS = 400;
    private static final String[] CHANGES = {
        "above", "grant", "limit", "giveRule", "takeRule", "assign", "assign", "assign", "remove", "give", "give",
        "take", "take", "open", "close", "activate", "activate", "activate", "rest",
    };
    private static final String[] QUESTIONS = {"roles", "roles", "active", "active", "may", "distance", "plan", "plan"};

    private final Random random;
    private final Twins twins = new Twins();
    private int roles = 0;
    private int users = 0;

    private ModelTest(int run) {
        random = new Random(run);
    }

    public static void main(String[] args) {
        for (int run = 0; run < RUNS; run++) {
            new ModelTest(run).play(run);
        }
        Check.end();
    }

    private void play(int run) {
        int mostRoles = 1 + random.nextInt(6);
        int mostUsers = random.nextInt(4) == 0 ? 5 : Math.min(5, 12 / mostRoles);
        for (int i = 0; i < CALLS; i++) {
            if (!agree(run, i, nextName(mostRoles, mostUsers))) {
                return;
            }
        }
    }

    private String nextName(int mostRoles, int mostUsers) {
        if (roles < mostRoles && random.nextInt(3) == 0) {
            return "role";
        }
        if (users < mostUsers && random.nextInt(3) == 0) {
            return "user";
        }
        String[] names = random.nextInt(3) == 0 ? QUESTIONS : CHANGES;
        return names[random.nextInt(names.length)];
    }

    /** Whether both answer alike; a run ends at its first difference, as all later ones may come of it. */
    private boolean agree(int run, int number, String name) {
        boolean alike = twins.agree("run " + run + ", call " + number, name, arguments(name));
        if (!twins.lastAnswer().startsWith("throws")) {
            roles += name.equals("role") ? 1 : 0;
            users += name.equals("user") ? 1 : 0;
        }
        return alike;
    }

    private int[] arguments(String name) {
        switch (name) {
            case "role": case "user": return new int[0];
            case "above": case "takeRule": return new int[] {role(), role()};
            case "grant": return new int[] {role(), permission()};
            case "limit": return new int[] {random.nextInt(2), set(), 1 + random.nextInt(4)};
            case "giveRule": return new int[] {role(), set() & set(), set() & set() & set(), role()};
            case "assign": case "remove": case "distance": return new int[] {user(), role()};
            case "give": case "take": return new int[] {user(), user(), role()};
            case "roles": return new int[] {user(), random.nextInt(2)};
            case "open": return new int[] {user()};
            case "close": case "active": return new int[] {session()};
            case "activate": case "rest": return new int[] {session(), role()};
            case "may": return new int[] {session(), permission()};
            case "plan": return new int[] {user(), role(), random.nextInt(5) - 1};
            default: throw new AssertionError(name);
        }
    }

    private int role() {
        return among(roles);
    }

    private int user() {
        return among(users);
    }

    private int session() {
        return among(4);
    }

    private int permission() {
        return random.nextInt(4) == 0 ? among(31) : random.nextInt(3);
    }

    private int set() {
        return random.nextInt(40) == 0 ? 64 - 65 * random.nextInt(2) : random.nextInt(64);
    }

    /** Mostly a number that is there, now and then the one before the first or behind the last. */
    private int among(int count) {
        if (count == 0 || random.nextInt(40) == 0) {
            return random.nextBoolean() ? -1 : count;
        }
        return random.nextInt(count);
    }
}
