import java.util.ArrayList;
import java.util.Arrays;

/** Roles, users, sessions, limits and the rules of administrators, as ../shared/DOC.md promises them. */
public final class RoleAnalyser {
    public static final int NONE = -1;

    private static final int MOST_ROLES = 6;
    private static final int MOST_USERS = 5;
    private static final int MOST_SESSIONS = 4;
    private static final int MOST_LIMITS = 4;
    private static final int MOST_RULES = 8;
    private static final int MOST_PAIRS = 12;
    private static final int PERMISSIONS = 31;
    private static final int LEAST_LIMIT = 2;
    private static final int ROLE_SETS = 1 << MOST_ROLES;
    private static final int STATES = 1 << MOST_PAIRS;
    private static final int USER_CODE = 100;
    private static final int ROLE_CODE = 10;
    private static final int TAKE_CODE = 1;

    private final Policy policy;
    private final Search search;
    private final int[] assigned;
    private final int[] granted;
    /** The user of each session, NONE where none is open. */
    private final int[] sessionUser;
    /** The active roles of each session, 0 where none is open. */
    private final int[] sessionActive;
    private int userCount;

    public RoleAnalyser() {
        policy = new Policy();
        search = new Search(policy);
        assigned = new int[MOST_USERS];
        granted = new int[MOST_ROLES];
        sessionUser = new int[MOST_SESSIONS];
        sessionActive = new int[MOST_SESSIONS];
        Arrays.fill(sessionUser, NONE);
    }

    public int role() throws IllegalStateException {
        if (policy.roleCount >= MOST_ROLES) {
            throw new IllegalStateException("there are 6 roles");
        }
        int added = policy.roleCount;
        policy.roleCount = added + 1;
        return added;
    }

    public int user() throws IllegalStateException {
        if (userCount >= MOST_USERS) {
            throw new IllegalStateException("there are 5 users");
        }
        int added = userCount;
        userCount = added + 1;
        return added;
    }

    public boolean above(int a, int b)
            throws IndexOutOfBoundsException, IllegalArgumentException, IllegalStateException {
        checkRole(a);
        checkRole(b);
        if (a == b || policy.standsAbove(b, a)) {
            throw new IllegalArgumentException("a role would stand above itself");
        }
        if (policy.standsAbove(a, b)) {
            return false;
        }
        for (int user = 0; user < userCount; user++) {
            checkStaticLimits(policy.widened(authorizedRoles(user), a, b));
        }
        policy.putAbove(a, b);
        return true;
    }

    public boolean grant(int role, int permission) throws IndexOutOfBoundsException {
        checkRole(role);
        checkPermission(permission);
        boolean isNew = !has(granted[role], permission);
        granted[role] |= 1 << permission;
        return isNew;
    }

    public void limit(boolean dynamic, int set, int n) throws IllegalArgumentException, IllegalStateException {
        if (n < LEAST_LIMIT) {
            throw new IllegalArgumentException("the number of a limit is below 2");
        }
        checkRoleSet(set);
        ArrayList<Limit> limits = dynamic ? policy.dynamicLimits : policy.staticLimits;
        if (limits.size() >= MOST_LIMITS) {
            throw new IllegalStateException("there are 4 limits of the kind");
        }
        Limit added = new Limit(set, n);
        if (!(dynamic ? isKeptBySessions(added) : isKeptByUsers(added))) {
            throw new IllegalStateException("the limit is not kept");
        }
        limits.add(added);
    }

    public int giveRule(int a, int needed, int unwanted, int r)
            throws IndexOutOfBoundsException, IllegalArgumentException, IllegalStateException {
        checkRole(a);
        checkRole(r);
        checkRoleSet(needed);
        checkRoleSet(unwanted);
        checkRoomForRule();
        return policy.addRule(new Rule(true, a, needed, unwanted, r));
    }

    public int takeRule(int a, int r) throws IndexOutOfBoundsException, IllegalStateException {
        checkRole(a);
        checkRole(r);
        checkRoomForRule();
        return policy.addRule(new Rule(false, a, 0, 0, r));
    }

    public boolean assign(int user, int role) throws IndexOutOfBoundsException, IllegalStateException {
        checkUser(user);
        checkRole(role);
        return addAssignment(user, role);
    }

    public boolean remove(int user, int role) throws IndexOutOfBoundsException {
        checkUser(user);
        checkRole(role);
        return dropAssignment(user, role);
    }

    public boolean give(int x, int u, int role)
            throws IndexOutOfBoundsException, UnsupportedOperationException, IllegalStateException {
        checkUser(x);
        checkUser(u);
        checkRole(role);
        checkLeave(true, x, u, role);
        return addAssignment(u, role);
    }

    public boolean take(int x, int u, int role) throws IndexOutOfBoundsException, UnsupportedOperationException {
        checkUser(x);
        checkUser(u);
        checkRole(role);
        checkLeave(false, x, u, role);
        return dropAssignment(u, role);
    }

    public int roles(int user, boolean all) throws IndexOutOfBoundsException {
        checkUser(user);
        return all ? authorizedRoles(user) : assigned[user];
    }

    public int open(int user) throws IndexOutOfBoundsException, IllegalStateException {
        checkUser(user);
        for (int session = 0; session < MOST_SESSIONS; session++) {
            if (sessionUser[session] == NONE) {
                sessionUser[session] = user;
                return session;
            }
        }
        throw new IllegalStateException("4 sessions are open");
    }

    public void close(int session) throws IndexOutOfBoundsException {
        checkSession(session);
        sessionUser[session] = NONE;
        sessionActive[session] = 0;
    }

    public boolean activate(int session, int role)
            throws IndexOutOfBoundsException, UnsupportedOperationException, IllegalStateException {
        checkSession(session);
        checkRole(role);
        if (!has(authorizedRoles(sessionUser[session]), role)) {
            throw new UnsupportedOperationException("the user is not authorized for the role");
        }
        int active = sessionActive[session] | 1 << role;
        if (!areKept(policy.dynamicLimits, active)) {
            throw new IllegalStateException("a dynamic limit would not be kept");
        }
        boolean isNew = active != sessionActive[session];
        sessionActive[session] = active;
        return isNew;
    }

    public boolean rest(int session, int role) throws IndexOutOfBoundsException {
        checkSession(session);
        checkRole(role);
        boolean wasActive = has(sessionActive[session], role);
        sessionActive[session] &= ~(1 << role);
        return wasActive;
    }

    public int active(int session) throws IndexOutOfBoundsException {
        checkSession(session);
        return sessionActive[session];
    }

    public boolean may(int session, int permission) throws IndexOutOfBoundsException {
        checkSession(session);
        checkPermission(permission);
        int usable = policy.authorizedBy[sessionActive[session]];
        for (int role = 0; role < policy.roleCount; role++) {
            if (has(usable, role) && has(granted[role], permission)) {
                return true;
            }
        }
        return false;
    }

    public int distance(int user, int role) throws IndexOutOfBoundsException, UnsupportedOperationException {
        checkQuestion(user, role);
        int goal = search.nearestGoal(assigned, userCount, user, role);
        return goal == NONE ? NONE : search.stepsTo(goal);
    }

    public int plan(int user, int role, int k)
            throws IndexOutOfBoundsException, UnsupportedOperationException, IllegalStateException {
        checkQuestion(user, role);
        int goal = search.nearestGoal(assigned, userCount, user, role);
        if (goal == NONE) {
            throw new IllegalStateException("no steps lead there");
        }
        return search.stepCode(goal, k);
    }

    private int authorizedRoles(int user) {
        return policy.authorizedBy[assigned[user]];
    }

    private boolean addAssignment(int user, int role) {
        int wanted = assigned[user] | 1 << role;
        checkStaticLimits(policy.authorizedBy[wanted]);
        boolean isNew = wanted != assigned[user];
        assigned[user] = wanted;
        return isNew;
    }

    private boolean dropAssignment(int user, int role) {
        boolean wasAssigned = has(assigned[user], role);
        assigned[user] &= ~(1 << role);
        for (int session = 0; session < MOST_SESSIONS; session++) {
            if (sessionUser[session] == user) {
                sessionActive[session] &= authorizedRoles(user);
            }
        }
        return wasAssigned;
    }

    private boolean isKeptByUsers(Limit limit) {
        for (int user = 0; user < userCount; user++) {
            if (!limit.isKept(authorizedRoles(user))) {
                return false;
            }
        }
        return true;
    }

    private boolean isKeptBySessions(Limit limit) {
        for (int session = 0; session < MOST_SESSIONS; session++) {
            if (!limit.isKept(sessionActive[session])) {
                return false;
            }
        }
        return true;
    }

    private void checkRole(int role) {
        if (role < 0 || role >= policy.roleCount) {
            throw new IndexOutOfBoundsException("no such role");
        }
    }

    private void checkUser(int user) {
        if (user < 0 || user >= userCount) {
            throw new IndexOutOfBoundsException("no such user");
        }
    }

    private void checkSession(int session) {
        if (session < 0 || session >= MOST_SESSIONS || sessionUser[session] == NONE) {
            throw new IndexOutOfBoundsException("no such session is open");
        }
    }

    private void checkQuestion(int user, int role) {
        checkUser(user);
        checkRole(role);
        if (userCount * policy.roleCount > MOST_PAIRS) {
            throw new UnsupportedOperationException("there are more than 12 pairs");
        }
    }

    private void checkRoomForRule() {
        if (policy.rules.size() >= MOST_RULES) {
            throw new IllegalStateException("there are 8 rules");
        }
    }

    private void checkStaticLimits(int authorized) {
        if (!areKept(policy.staticLimits, authorized)) {
            throw new IllegalStateException("a static limit would not be kept");
        }
    }

    private void checkLeave(boolean giving, int x, int u, int role) {
        if (!policy.isAllowed(giving, authorizedRoles(x), authorizedRoles(u), role)) {
            throw new UnsupportedOperationException("no rule allows it");
        }
    }

    private static void checkPermission(int permission) {
        if (permission < 0 || permission >= PERMISSIONS) {
            throw new IndexOutOfBoundsException("no such permission");
        }
    }

    private static void checkRoleSet(int set) {
        if (set < 0 || set >= ROLE_SETS) {
            throw new IllegalArgumentException("a set of roles is not 0 .. 63");
        }
    }

    private static boolean has(int set, int member) {
        return (set >> member & 1) == 1;
    }

    private static boolean areKept(ArrayList<Limit> limits, int held) {
        for (int i = 0; i < limits.size(); i++) {
            if (!limits.get(i).isKept(held)) {
                return false;
            }
        }
        return true;
    }

    /** A set of roles of which fewer than a number may be held together. */
    private static final class Limit {
        final int set;
        final int number;

        Limit(int set, int number) {
            this.set = set;
            this.number = number;
        }

        boolean isKept(int held) {
            return Integer.bitCount(held & set) < number;
        }
    }

    /** A rule to give or to take; one to take needs nothing and minds nothing. */
    private static final class Rule {
        final boolean gives;
        final int administratorRole;
        final int needed;
        final int unwanted;
        final int movedRole;

        Rule(boolean gives, int administratorRole, int needed, int unwanted, int movedRole) {
            this.gives = gives;
            this.administratorRole = administratorRole;
            this.needed = needed;
            this.unwanted = unwanted;
            this.movedRole = movedRole;
        }

        boolean isFor(boolean giving, int role) {
            return gives == giving && movedRole == role;
        }

        boolean allows(int administrator, int subject) {
            return has(administrator, administratorRole)
                    && (subject & needed) == needed
                    && (subject & unwanted) == 0;
        }
    }

    /** What holds for every user alike: the order of the roles, the limits and the rules. */
    private static final class Policy {
        int roleCount;
        /** For each set of roles, that set with all roles below its members. */
        final int[] authorizedBy;
        final ArrayList<Limit> staticLimits;
        final ArrayList<Limit> dynamicLimits;
        final ArrayList<Rule> rules;

        Policy() {
            authorizedBy = new int[ROLE_SETS];
            for (int set = 0; set < ROLE_SETS; set++) {
                authorizedBy[set] = set;
            }
            staticLimits = new ArrayList<>();
            dynamicLimits = new ArrayList<>();
            rules = new ArrayList<>();
        }

        boolean standsAbove(int a, int b) {
            return a != b && has(authorizedBy[1 << a], b);
        }

        /** What a set of authorized roles becomes when a is put above b. */
        int widened(int authorized, int a, int b) {
            return has(authorized, a) ? authorized | authorizedBy[1 << b] : authorized;
        }

        /** As b does not stand above a, the set of b alone stays as it is while the others are widened by it. */
        void putAbove(int a, int b) {
            for (int set = 0; set < ROLE_SETS; set++) {
                authorizedBy[set] = widened(authorizedBy[set], a, b);
            }
        }

        int addRule(Rule rule) {
            rules.add(rule);
            return rules.size() - 1;
        }

        /** Whether a rule allows giving the role, or taking it, between users authorized for these sets. */
        boolean isAllowed(boolean giving, int administrator, int subject, int role) {
            for (int i = 0; i < rules.size(); i++) {
                Rule rule = rules.get(i);
                if (rule.isFor(giving, role) && rule.allows(administrator, subject)) {
                    return true;
                }
            }
            return false;
        }
    }

    /**
     * Looks, step after step, at all that administrators may bring about. A state has a bit for each pair of a user
     * and a role. States come in the order of the least codes that lead to them: each state's steps are tried by
     * rising code, and the states themselves were found in that order, so the first goal met ends the plan.
     */
    private static final class Search {
        static final int UNSEEN = -1;
        static final int START = -2;

        final Policy policy;
        /** The states in the order in which they were found. */
        final int[] found;
        /** For each state the code of the step that led to it, START or UNSEEN. */
        final int[] lastStep;
        int foundCount;
        int users;

        Search(Policy policy) {
            this.policy = policy;
            found = new int[STATES];
            lastStep = new int[STATES];
        }

        int nearestGoal(int[] assigned, int userCount, int user, int role) {
            users = userCount;
            begin(assigned);
            for (int i = 0; i < foundCount && i < STATES; i++) {
                int state = found[i];
                if (has(authorizedIn(state, user), role)) {
                    return state;
                }
                takeSteps(state);
            }
            return NONE;
        }

        int stepsTo(int goal) {
            int steps = 0;
            int state = goal;
            while (lastStep[state] >= 0 && steps < STATES) {
                state = stateBefore(state);
                steps++;
            }
            return steps;
        }

        int stepCode(int goal, int k) {
            int steps = stepsTo(goal);
            if (k < 0 || k >= steps) {
                return NONE;
            }
            int state = goal;
            for (int i = steps - 1; i > k; i--) {
                state = stateBefore(state);
            }
            return lastStep[state];
        }

        private void begin(int[] assigned) {
            int start = 0;
            for (int user = 0; user < users; user++) {
                start |= assigned[user] << pairBit(user, 0);
            }
            Arrays.fill(lastStep, UNSEEN);
            foundCount = 0;
            reach(start, START);
        }

        private void takeSteps(int state) {
            int administrators = authorizedOfAll(state);
            for (int user = 0; user < users; user++) {
                int held = assignedIn(state, user);
                for (int role = 0; role < policy.roleCount; role++) {
                    int next = state ^ 1 << pairBit(user, role);
                    if (lastStep[next] == UNSEEN && isStep(administrators, held, role)) {
                        int kind = has(held, role) ? TAKE_CODE : 0;
                        reach(next, USER_CODE * user + ROLE_CODE * role + kind);
                    }
                }
            }
        }

        /**
         * Whether somebody may give the role to one who is assigned to the held roles, or take it if it is among
         * them. Who does it is all one, so the authorized roles of all users stand for the administrator's.
         */
        private boolean isStep(int administrators, int held, int role) {
            if (has(held, role)) {
                return policy.isAllowed(false, administrators, policy.authorizedBy[held], role);
            }
            return policy.isAllowed(true, administrators, policy.authorizedBy[held], role)
                    && areKept(policy.staticLimits, policy.authorizedBy[held | 1 << role]);
        }

        private void reach(int state, int code) {
            lastStep[state] = code;
            found[foundCount] = state;
            foundCount++;
        }

        private int stateBefore(int state) {
            int code = lastStep[state];
            return state ^ 1 << pairBit(code / USER_CODE, code % USER_CODE / ROLE_CODE);
        }

        private int authorizedOfAll(int state) {
            int all = 0;
            for (int user = 0; user < users; user++) {
                all |= authorizedIn(state, user);
            }
            return all;
        }

        private int authorizedIn(int state, int user) {
            return policy.authorizedBy[assignedIn(state, user)];
        }

        private int assignedIn(int state, int user) {
            return state >> pairBit(user, 0) & (1 << policy.roleCount) - 1;
        }

        private int pairBit(int user, int role) {
            return user * policy.roleCount + role;
        }
    }
}
