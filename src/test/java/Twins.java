import java.util.Arrays;

/** A RoleAnalyser and a Model that get the same calls. */
final class Twins {
    private final Model model = new Model();
    private final RoleAnalyser real = new RoleAnalyser();
    private String last = "";

    /** Whether both answer the call alike. */
    boolean agree(String where, String name, int... given) {
        last = model.answer(name, given);
        String got = answer(name, given);
        Check.same(where + ": " + name + Arrays.toString(given), last, got);
        return last.equals(got);
    }

    /** What was due to the last call. */
    String lastAnswer() {
        return last;
    }

    private String answer(String name, int[] given) {
        try {
            return realAnswer(name, given);
        } catch (RuntimeException e) {
            return "throws." + e.getClass().getSimpleName();
        }
    }

    private String realAnswer(String name, int[] p) {
        switch (name) {
            case "role": return "" + real.role();
            case "user": return "" + real.user();
            case "above": return "" + real.above(p[0], p[1]);
            case "grant": return "" + real.grant(p[0], p[1]);
            case "limit": real.limit(p[0] == 1, p[1], p[2]); return "done";
            case "giveRule": return "" + real.giveRule(p[0], p[1], p[2], p[3]);
            case "takeRule": return "" + real.takeRule(p[0], p[1]);
            case "assign": return "" + real.assign(p[0], p[1]);
            case "remove": return "" + real.remove(p[0], p[1]);
            case "give": return "" + real.give(p[0], p[1], p[2]);
            case "take": return "" + real.take(p[0], p[1], p[2]);
            case "roles": return "" + real.roles(p[0], p[1] == 1);
            case "open": return "" + real.open(p[0]);
            case "close": real.close(p[0]); return "done";
            case "activate": return "" + real.activate(p[0], p[1]);
            case "rest": return "" + real.rest(p[0], p[1]);
            case "active": return "" + real.active(p[0]);
            case "may": return "" + real.may(p[0], p[1]);
            case "distance": return "" + real.distance(p[0], p[1]);
            case "plan": return "" + real.plan(p[0], p[1], p[2]);
            default: throw new AssertionError(name);
        }
    }
}
