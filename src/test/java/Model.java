import java.util.ArrayList;
import java.util.Arrays;
import java.util.HashMap;
import java.util.List;
import java.util.Map;
import java.util.TreeMap;
import java.util.TreeSet;

/**
 * The document once more, written as slowly and as near to its words as can be, to compare RoleAnalyser with.
 * A call and its answer are texts; an exception is answered as throws.ItsName.
 */
final class Model {
    private static final String INDEX = "throws.IndexOutOfBoundsException";
    private static final String ARGUMENT = "throws.IllegalArgumentException";
    private static final String STATE = "throws.IllegalStateException";
    private static final String UNSUPPORTED = "throws.UnsupportedOperationException";

    private record Limit(int set, int n) { }

    private record Rule(boolean giving, int a, int needed, int unwanted, int r) { }

    private record Session(int user, TreeSet<Integer> active) { }

    private int roles = 0;
    /** The assigned roles of each user. */
    private List<TreeSet<Integer>> users = new ArrayList<>();
    private boolean[][] placed = new boolean[6][6];
    private final TreeSet<String> grants = new TreeSet<>();
    private final List<Limit> statics = new ArrayList<>();
    private final List<Limit> dynamics = new ArrayList<>();
    private final List<Rule> rules = new ArrayList<>();
    private final TreeMap<Integer, Session> sessions = new TreeMap<>();

    String answer(String name, int[] p) {
        switch (name) {
            case "role": return roles == 6 ? STATE : "" + roles++;
            case "user": return addUser();
            case "above": return above(p[0], p[1]);
            case "grant": return noRole(p[0]) || noPermission(p[1]) ? INDEX : "" + grants.add(p[0] + " " + p[1]);
            case "limit": return limit(p[0] == 1, p[1], p[2]);
            case "giveRule": return giveRule(p[0], p[1], p[2], p[3]);
            case "takeRule": return takeRule(p[0], p[1]);
            case "assign": return noUser(p[0]) || noRole(p[1]) ? INDEX : put(p[0], p[1]);
            case "remove": return noUser(p[0]) || noRole(p[1]) ? INDEX : drop(p[0], p[1]);
            case "give": return give(p[0], p[1], p[2]);
            case "take": return take(p[0], p[1], p[2]);
            case "roles": return noUser(p[0]) ? INDEX : "" + sum(p[1] == 1 ? authorized(p[0]) : users.get(p[0]));
            case "open": return open(p[0]);
            case "close": return noSession(p[0]) ? INDEX : close(p[0]);
            case "activate": return activate(p[0], p[1]);
            case "rest": return noSession(p[0]) || noRole(p[1]) ? INDEX : "" + active(p[0]).remove(p[1]);
            case "active": return noSession(p[0]) ? INDEX : "" + sum(active(p[0]));
            case "may": return noSession(p[0]) || noPermission(p[1]) ? INDEX : "" + may(p[0], p[1]);
            case "distance": return distance(p[0], p[1]);
            case "plan": return plan(p[0], p[1], p[2]);
            default: throw new AssertionError(name);
        }
    }

    private String addUser() {
        if (users.size() == 5) {
            return STATE;
        }
        users.add(new TreeSet<>());
        return "" + (users.size() - 1);
    }

    private String above(int a, int b) {
        if (noRole(a) || noRole(b)) {
            return INDEX;
        }
        if (a == b || stands(b, a)) {
            return ARGUMENT;
        }
        boolean isNew = !stands(a, b);
        boolean before = placed[a][b];
        placed[a][b] = true;
        if (!staticsKept()) {
            placed[a][b] = before;
            return STATE;
        }
        return "" + isNew;
    }

    private String limit(boolean dynamic, int set, int n) {
        if (n < 2 || set < 0 || set > 63) {
            return ARGUMENT;
        }
        List<Limit> kind = dynamic ? dynamics : statics;
        if (kind.size() == 4) {
            return STATE;
        }
        kind.add(new Limit(set, n));
        if (!staticsKept() || !dynamicsKept()) {
            kind.remove(kind.size() - 1);
            return STATE;
        }
        return "done";
    }

    private String giveRule(int a, int needed, int unwanted, int r) {
        if (noRole(a) || noRole(r)) {
            return INDEX;
        }
        if (needed < 0 || needed > 63 || unwanted < 0 || unwanted > 63) {
            return ARGUMENT;
        }
        return addRule(new Rule(true, a, needed, unwanted, r));
    }

    private String takeRule(int a, int r) {
        return noRole(a) || noRole(r) ? INDEX : addRule(new Rule(false, a, 0, 0, r));
    }

    private String addRule(Rule rule) {
        if (rules.size() == 8) {
            return STATE;
        }
        rules.add(rule);
        return "" + (rules.size() - 1);
    }

    private String put(int user, int role) {
        if (!users.get(user).add(role)) {
            return "false";
        }
        if (!staticsKept()) {
            users.get(user).remove(role);
            return STATE;
        }
        return "true";
    }

    private String drop(int user, int role) {
        boolean was = users.get(user).remove(role);
        for (Session session : sessions.values()) {
            session.active.retainAll(authorized(session.user));
        }
        return "" + was;
    }

    private String give(int x, int u, int role) {
        if (noUser(x) || noUser(u) || noRole(role)) {
            return INDEX;
        }
        return mayMove(true, x, u, role) ? put(u, role) : UNSUPPORTED;
    }

    private String take(int x, int u, int role) {
        if (noUser(x) || noUser(u) || noRole(role)) {
            return INDEX;
        }
        return mayMove(false, x, u, role) ? drop(u, role) : UNSUPPORTED;
    }

    private String open(int user) {
        if (noUser(user)) {
            return INDEX;
        }
        for (int number = 0; number < 4; number++) {
            if (!sessions.containsKey(number)) {
                sessions.put(number, new Session(user, new TreeSet<>()));
                return "" + number;
            }
        }
        return STATE;
    }

    private String close(int session) {
        sessions.remove(session);
        return "done";
    }

    private String activate(int session, int role) {
        if (noSession(session) || noRole(role)) {
            return INDEX;
        }
        if (!authorized(sessions.get(session).user).contains(role)) {
            return UNSUPPORTED;
        }
        if (!active(session).add(role)) {
            return "false";
        }
        if (!dynamicsKept()) {
            active(session).remove(role);
            return STATE;
        }
        return "true";
    }

    private boolean may(int session, int permission) {
        for (int role : active(session)) {
            for (int other = 0; other < roles; other++) {
                if ((other == role || stands(role, other)) && grants.contains(other + " " + permission)) {
                    return true;
                }
            }
        }
        return false;
    }

    private String distance(int user, int role) {
        if (noUser(user) || noRole(role)) {
            return INDEX;
        }
        if (roles * users.size() > 12) {
            return UNSUPPORTED;
        }
        List<Integer> codes = thePlan(user, role);
        return codes == null ? "-1" : "" + codes.size();
    }

    private String plan(int user, int role, int k) {
        if (noUser(user) || noRole(role)) {
            return INDEX;
        }
        if (roles * users.size() > 12) {
            return UNSUPPORTED;
        }
        List<Integer> codes = thePlan(user, role);
        if (codes == null) {
            return STATE;
        }
        return k < 0 || k >= codes.size() ? "-1" : "" + codes.get(k);
    }

    /** All states that are N steps away, each with its least codes, for N from 0 on; null when no steps lead there. */
    private List<Integer> thePlan(int user, int role) {
        List<TreeSet<Integer>> kept = users;
        Map<List<TreeSet<Integer>>, List<Integer>> seen = new HashMap<>();
        Map<List<TreeSet<Integer>>, List<Integer>> level = new HashMap<>();
        level.put(kept, List.of());
        List<Integer> best = null;
        while (best == null && !level.isEmpty()) {
            Map<List<TreeSet<Integer>>, List<Integer>> further = new HashMap<>();
            seen.putAll(level);
            for (Map.Entry<List<TreeSet<Integer>>, List<Integer>> entry : level.entrySet()) {
                users = entry.getKey();
                if (authorized(user).contains(role)) {
                    best = lesser(best, entry.getValue());
                }
                addSteps(entry.getValue(), seen, further);
            }
            level = further;
        }
        users = kept;
        return best;
    }

    private void addSteps(List<Integer> codes, Map<List<TreeSet<Integer>>, List<Integer>> seen,
            Map<List<TreeSet<Integer>>, List<Integer>> further) {
        List<TreeSet<Integer>> from = users;
        for (int u = from.size() - 1; u >= 0; u--) {
            for (int r = roles - 1; r >= 0; r--) {
                users = from;
                boolean taking = from.get(u).contains(r);
                if (!somebodyMayMove(!taking, u, r)) {
                    continue;
                }
                users = new ArrayList<>();
                from.forEach(assigned -> users.add(new TreeSet<>(assigned)));
                if (taking) {
                    users.get(u).remove(r);
                } else {
                    users.get(u).add(r);
                }
                if (staticsKept() && !seen.containsKey(users)) {
                    List<Integer> longer = new ArrayList<>(codes);
                    longer.add(100 * u + 10 * r + (taking ? 1 : 0));
                    further.merge(users, longer, Model::lesser);
                }
            }
        }
        users = from;
    }

    private static List<Integer> lesser(List<Integer> one, List<Integer> other) {
        if (one == null) {
            return other;
        }
        int[] first = one.stream().mapToInt(Integer::intValue).toArray();
        int[] second = other.stream().mapToInt(Integer::intValue).toArray();
        return Arrays.compare(first, second) <= 0 ? one : other;
    }

    private boolean somebodyMayMove(boolean giving, int u, int role) {
        for (int x = 0; x < users.size(); x++) {
            if (mayMove(giving, x, u, role)) {
                return true;
            }
        }
        return false;
    }

    private boolean mayMove(boolean giving, int x, int u, int role) {
        TreeSet<Integer> giver = authorized(x);
        TreeSet<Integer> receiver = authorized(u);
        for (Rule rule : rules) {
            boolean fits = rule.giving == giving && rule.r == role && giver.contains(rule.a);
            for (int other = 0; other < 6; other++) {
                if ((rule.needed & 1 << other) != 0 && !receiver.contains(other)) {
                    fits = false;
                }
                if ((rule.unwanted & 1 << other) != 0 && receiver.contains(other)) {
                    fits = false;
                }
            }
            if (fits) {
                return true;
            }
        }
        return false;
    }

    private boolean staticsKept() {
        for (int user = 0; user < users.size(); user++) {
            for (Limit limit : statics) {
                if (membersIn(limit.set, authorized(user)) >= limit.n) {
                    return false;
                }
            }
        }
        return true;
    }

    private boolean dynamicsKept() {
        for (Session session : sessions.values()) {
            for (Limit limit : dynamics) {
                if (membersIn(limit.set, session.active) >= limit.n) {
                    return false;
                }
            }
        }
        return true;
    }

    private static int membersIn(int set, TreeSet<Integer> held) {
        int count = 0;
        for (int role : held) {
            if ((set & 1 << role) != 0) {
                count++;
            }
        }
        return count;
    }

    private TreeSet<Integer> authorized(int user) {
        TreeSet<Integer> held = new TreeSet<>(users.get(user));
        for (int role : users.get(user)) {
            for (int other = 0; other < roles; other++) {
                if (stands(role, other)) {
                    held.add(other);
                }
            }
        }
        return held;
    }

    private boolean stands(int a, int b) {
        if (placed[a][b]) {
            return true;
        }
        for (int between = 0; between < roles; between++) {
            if (placed[a][between] && stands(between, b)) {
                return true;
            }
        }
        return false;
    }

    private TreeSet<Integer> active(int session) {
        return sessions.get(session).active;
    }

    private static int sum(TreeSet<Integer> set) {
        int sum = 0;
        for (int role : set) {
            sum += 1 << role;
        }
        return sum;
    }

    private boolean noRole(int role) {
        return role < 0 || role >= roles;
    }

    private boolean noUser(int user) {
        return user < 0 || user >= users.size();
    }

    private boolean noSession(int session) {
        return !sessions.containsKey(session);
    }

    private static boolean noPermission(int permission) {
        return permission < 0 || permission > 30;
    }
}
