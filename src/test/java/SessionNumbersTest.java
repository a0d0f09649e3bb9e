/** Promises 14 and 15: "the least number that is free", whichever of the four are free. */
public final class SessionNumbersTest {
    public static void main(String[] args) {
        anySetOfThemIsFree();
        closingAndOpeningByTurns();
        aNewSessionHasNothingActive();
        aNewSessionIsItsUsers();
        refusedOpeningsTakeNoNumber();
        Check.end();
    }

    private static void anySetOfThemIsFree() {
        for (int free = 0; free < 16; free++) {
            isFilled("closed by rising number", free, closed(free, 0, 1));
            isFilled("closed by falling number", free, closed(free, 3, -1));
        }
    }

    private static RoleAnalyser closed(int free, int first, int step) {
        RoleAnalyser x = Check.world(1, 1);
        for (int i = 0; i < 4; i++) {
            x.open(0);
        }
        for (int session = first; session >= 0 && session < 4; session += step) {
            if ((free >> session & 1) == 1) {
                x.close(session);
            }
        }
        return x;
    }

    private static void isFilled(String what, int free, RoleAnalyser x) {
        for (int session = 0; session < 4; session++) {
            if ((free >> session & 1) == 1) {
                Check.same(what + ", free " + free, session, x.open(0));
            }
        }
        Check.state(what + ", all taken", () -> x.open(0));
    }

    private static void closingAndOpeningByTurns() {
        RoleAnalyser x = Check.world(1, 1);
        for (int i = 0; i < 9; i++) {
            Check.same("opened once more", 0, x.open(0));
            x.close(0);
        }
        Check.index("none is open", () -> x.close(0));
    }

    private static void aNewSessionHasNothingActive() {
        RoleAnalyser x = Check.world(1, 1);
        x.grant(0, 0);
        x.assign(0, 0);
        x.open(0);
        x.open(0);
        x.activate(0, 0);
        x.activate(1, 0);
        x.close(0);
        x.open(0);
        Check.same("opened again", 0, x.active(0));
        Check.same("and may nothing", false, x.may(0, 0));
        Check.same("the other one stays", 1, x.active(1));
    }

    private static void aNewSessionIsItsUsers() {
        RoleAnalyser x = Check.world(2, 2);
        x.assign(0, 0);
        x.assign(1, 1);
        x.open(0);
        x.close(0);
        x.open(1);
        Check.unsupported("the former user's role", () -> x.activate(0, 0));
        Check.same("the new user's role", true, x.activate(0, 1));
        x.remove(0, 0);
        Check.same("the former user's loss", 2, x.active(0));
        x.remove(1, 1);
        Check.same("the new user's loss", 0, x.active(0));
    }

    private static void refusedOpeningsTakeNoNumber() {
        RoleAnalyser x = Check.world(1, 1);
        Check.index("no such user", () -> x.open(1));
        Check.index("no such user", () -> x.open(-1));
        Check.same("the first number", 0, x.open(0));
        Check.index("no such user", () -> x.open(1));
        Check.same("the second number", 1, x.open(0));
    }
}
