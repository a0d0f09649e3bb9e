import java.util.function.Supplier;

/**
 * Rows of calls that bring to light what an object holds. Each row is for an object of its own, as many calls change
 * what they ask about, and as an object answers 512 calls only.
 */
final class Probe {
    static final int ROWS = 6;

    private static final int ROLES = 6;
    private static final int USERS = 5;
    private static final int SESSIONS = 4;
    private static final int PERMISSIONS = 31;

    private final RoleAnalyser x;
    private final StringBuilder answers = new StringBuilder();

    private Probe(RoleAnalyser x) {
        this.x = x;
    }

    /** All that the object answers to a row of calls. */
    static String answers(int row, RoleAnalyser x) {
        Probe probe = new Probe(x);
        switch (row) {
            case 0: probe.askAll(); break;
            case 1: probe.giveAndTakeAll(); break;
            case 2: probe.putAllAbove(); break;
            case 3: probe.assignAndActivateAll(); break;
            case 4: probe.fillAll(); break;
            case 5: probe.addRolesAndUsers(); probe.assignAndActivateAll(); break;
            default: throw new AssertionError(row);
        }
        return probe.answers.toString();
    }

    private void note(Supplier<Object> call) {
        Object answer;
        try {
            answer = call.get();
        } catch (RuntimeException e) {
            answer = e.getClass().getSimpleName();
        }
        answers.append(answer).append(' ');
    }

    private void noteDone(Runnable call) {
        note(() -> {
            call.run();
            return "done";
        });
    }

    private void askAll() {
        askRolesAndActivity();
        for (int s = 0; s < SESSIONS; s++) {
            for (int p = 0; p < PERMISSIONS; p++) {
                int session = s;
                int permission = p;
                note(() -> x.may(session, permission));
            }
        }
        for (int u = 0; u < USERS; u++) {
            for (int r = 0; r < ROLES; r++) {
                int user = u;
                int role = r;
                note(() -> x.distance(user, role));
                note(() -> x.plan(user, role, 0));
                note(() -> x.plan(user, role, 1));
            }
        }
    }

    private void askRolesAndActivity() {
        for (int u = 0; u < USERS; u++) {
            int user = u;
            note(() -> x.roles(user, false));
            note(() -> x.roles(user, true));
        }
        for (int s = 0; s < SESSIONS; s++) {
            int session = s;
            note(() -> x.active(session));
        }
    }

    private void giveAndTakeAll() {
        for (int i = 0; i < USERS * USERS * ROLES; i++) {
            int giver = i / ROLES / USERS;
            int user = i / ROLES % USERS;
            int role = i % ROLES;
            note(() -> x.give(giver, user, role));
            note(() -> x.take(giver, user, role));
        }
        askRolesAndActivity();
    }

    private void putAllAbove() {
        for (int i = 0; i < ROLES * ROLES; i++) {
            int a = i / ROLES;
            int b = i % ROLES;
            note(() -> x.above(a, b));
        }
        askRolesAndActivity();
    }

    private void assignAndActivateAll() {
        for (int i = 0; i < USERS * ROLES; i++) {
            int user = i / ROLES;
            int role = i % ROLES;
            note(() -> x.assign(user, role));
        }
        for (int i = 0; i < SESSIONS * ROLES; i++) {
            int session = i / ROLES;
            int role = i % ROLES;
            note(() -> x.activate(session, role));
        }
        askRolesAndActivity();
        for (int i = 0; i < USERS * ROLES; i++) {
            int user = i / ROLES;
            int role = i % ROLES;
            note(() -> x.remove(user, role));
        }
        askRolesAndActivity();
    }

    private void fillAll() {
        grantAll();
        addRolesAndUsers();
        for (int i = 0; i < 5; i++) {
            noteDone(() -> x.limit(false, 0, 2));
            noteDone(() -> x.limit(true, 0, 2));
            note(() -> x.open(0));
        }
        for (int i = 0; i < 9; i++) {
            note(() -> x.takeRule(0, 0));
        }
        grantAll();
    }

    private void grantAll() {
        for (int i = 0; i < ROLES * PERMISSIONS; i++) {
            int role = i / PERMISSIONS;
            int permission = i % PERMISSIONS;
            note(() -> x.grant(role, permission));
        }
    }

    private void addRolesAndUsers() {
        for (int i = 0; i <= ROLES; i++) {
            note(x::role);
        }
        for (int i = 0; i <= USERS; i++) {
            note(x::user);
        }
    }
}
