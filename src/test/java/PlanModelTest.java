import java.util.Random;

/** Promises 20 and 21 against the Model: worlds in which plans are long and have rivals, every step of every plan. */
public final class PlanModelTest {
    private static final int WORLDS = 1500;

    private final Random random;
    private final String where;
    private final Twins twins = new Twins();
    private int roles;
    private int users;

    private PlanModelTest(int world) {
        random = new Random(world);
        where = "world " + world;
    }

    public static void main(String[] args) {
        int[] plansOfLength = new int[20];
        for (int world = 0; world < WORLDS; world++) {
            new PlanModelTest(world).ask(plansOfLength);
        }
        for (int length = 0; length <= 5; length++) {
            Check.same("there are plans of length " + length, true, plansOfLength[length] > 0);
        }
        Check.end();
    }

    private void ask(int[] plansOfLength) {
        build();
        for (int user = 0; user < users; user++) {
            for (int role = 0; role < roles; role++) {
                twins.agree(where, "distance", user, role);
                int length = Integer.parseInt(twins.lastAnswer());
                for (int k = 0; k <= length; k++) {
                    twins.agree(where, "plan", user, role, k);
                }
                if (length >= 0) {
                    plansOfLength[Math.min(length, plansOfLength.length - 1)]++;
                }
            }
        }
    }

    private void build() {
        roles = 2 + random.nextInt(5);
        users = Math.min(5, 12 / roles);
        for (int i = 0; i < roles; i++) {
            twins.agree(where, "role");
        }
        for (int i = 0; i < users; i++) {
            twins.agree(where, "user");
        }
        for (int i = random.nextInt(3); i > 0; i--) {
            twins.agree(where, "above", aRole(), aRole());
        }
        for (int i = random.nextInt(3); i > 0; i--) {
            twins.agree(where, "limit", 0, 1 << aRole() | 1 << aRole() | 1 << aRole(), 2 + random.nextInt(2));
        }
        int administrator = aRole();
        twins.agree(where, "assign", random.nextInt(users), administrator);
        twins.agree(where, "assign", random.nextInt(users), aRole());
        for (int i = 0; i < 8; i++) {
            addRule(random.nextInt(3) > 0 ? administrator : aRole());
        }
    }

    private void addRule(int administrator) {
        if (random.nextInt(3) == 0) {
            twins.agree(where, "takeRule", administrator, aRole());
        } else {
            twins.agree(where, "giveRule", administrator, fewRoles(3), fewRoles(2), aRole());
        }
    }

    private int fewRoles(int quarters) {
        return random.nextInt(4) < quarters ? 1 << aRole() : 0;
    }

    private int aRole() {
        return random.nextInt(roles);
    }
}
