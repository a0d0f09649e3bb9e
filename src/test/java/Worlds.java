/** Objects in states that several tests start from. */
final class Worlds {
    private Worlds() {
    }

    /**
     * 4 roles, 0 above 1; 3 users, 0 assigned to 0 and 2, 1 to 3. One user must not have 2 and 3, one session not 0
     * and 2. Who has 0 gives 2 and takes it. Sessions 0 and 2 are user 0's, with 0 and 1, and with 2 active; 1 and 3
     * are not open.
     */
    static RoleAnalyser busy() {
        RoleAnalyser x = Check.world(4, 3);
        x.above(0, 1);
        x.grant(0, 30);
        x.grant(1, 0);
        x.grant(2, 5);
        x.limit(false, 12, 2);
        x.limit(true, 5, 2);
        x.giveRule(0, 0, 0, 2);
        x.takeRule(0, 2);
        x.assign(0, 0);
        x.assign(0, 2);
        x.assign(1, 3);
        x.open(0);
        x.open(1);
        x.open(0);
        x.close(1);
        x.activate(0, 0);
        x.activate(0, 1);
        x.activate(2, 2);
        return x;
    }

    /** 6 roles, each above the next one, and so many users, none of them assigned to anything. */
    static RoleAnalyser chain(int users) {
        RoleAnalyser x = Check.world(6, users);
        for (int role = 0; role < 5; role++) {
            x.above(role, role + 1);
        }
        return x;
    }

    /**
     * As much of everything as there can be. Role 4 is above 5; user u is assigned to role u; each of the first four
     * has a session with that role active. Of 0 and 1, 1 and 2, 2 and 3, and of all but 0, one user must not have
     * two, two, two, and three, nor one session. Who has 0 gives the other roles, and takes 1, 2 and 5.
     */
    static RoleAnalyser full() {
        RoleAnalyser x = Check.world(6, 5);
        x.above(4, 5);
        for (boolean dynamic : new boolean[] {false, true}) {
            x.limit(dynamic, 3, 2);
            x.limit(dynamic, 6, 2);
            x.limit(dynamic, 12, 2);
            x.limit(dynamic, 62, 3);
        }
        for (int role = 1; role < 6; role++) {
            x.giveRule(0, 0, 0, role);
        }
        x.takeRule(0, 1);
        x.takeRule(0, 2);
        x.takeRule(0, 5);
        for (int user = 0; user < 5; user++) {
            x.assign(user, user);
        }
        for (int session = 0; session < 4; session++) {
            x.open(session);
            x.activate(session, session);
        }
        return x;
    }
}
