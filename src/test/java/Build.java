/** The calls that many tests make on their way. */
final class Build {
    private Build() {
    }

    static GroupTables groups(int... sizes) {
        GroupTables tables = new GroupTables();
        for (int size : sizes) {
            tables.addGroup(size);
        }
        return tables;
    }

    /** Tells results of the group that begins with a team: seat, seat, goals, goals, .. */
    static void tell(GroupTables tables, int first, int... results) {
        for (int at = 0; at < results.length; at += 4) {
            tables.setResult(first + results[at], first + results[at + 1], results[at + 2],
                    results[at + 3]);
        }
    }

    /**
     * Tells all matches of the group that begins with a team but the first so many: the team with
     * the higher number wins 1:0. So with every result the last team is the first one, and that on
     * the seat k has 3 * k points and k goals.
     */
    static void climb(GroupTables tables, int first, int size, int leftOut) {
        int match = 0;
        for (int lower = 0; lower < size; lower++) {
            for (int upper = lower + 1; upper < size; upper++) {
                if (match >= leftOut) {
                    tables.setResult(first + lower, first + upper, 0, 1);
                }
                match++;
            }
        }
    }

    /** So many groups of a size, each with every result, as {@link #climb} tells them. */
    static GroupTables climbed(int count, int size) {
        GroupTables tables = new GroupTables();
        for (int group = 0; group < count; group++) {
            climb(tables, tables.addGroup(size), size, 0);
        }
        return tables;
    }

    /** Checks the teams at all places of a group, and their places. */
    static void orderDue(String what, GroupTables tables, int group, int... teams) {
        for (int place = 0; place < teams.length; place++) {
            Check.due(what + ", team at " + place, tables.teamAt(group, place), teams[place]);
            Check.due(what + ", place of " + teams[place], tables.place(teams[place]), place);
        }
    }

    /** Checks a rule, asked from both sides. */
    static void ruleDue(String what, GroupTables tables, int team, int other, int rule) {
        Check.due(what + ", rule " + team + " " + other, tables.rule(team, other), rule);
        Check.due(what + ", rule " + other + " " + team, tables.rule(other, team), rule);
    }
}
