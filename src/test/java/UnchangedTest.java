/**
 * A call that throws an exception changes nothing, and no call from 'groups' on does. Each call is
 * made on a new object; what can be asked of it then is compared with what can be asked of an
 * object that was made in the same way without the call.
 */
public final class UnchangedTest {
    private static final int[] SIZES = {3, 4, 3, 5, 3, 3};
    private static final int MOST_CALLS = 512;

    private static int calls;

    /** A call on an object. */
    private interface Single {
        long on(GroupTables tables);
    }

    private UnchangedTest() {
    }

    public static void main(String[] args) {
        refusedOfGroups();
        refusedOfResults();
        refusedOfTeams();
        refusedOfSettings();
        refusedQuestions();
        questions();
        unlikeObjectsDiffer();
        Check.end("UnchangedTest");
    }

    /** Six groups; in group 1 all matches have a result, in group 2 one has none, in 4 none has. */
    private static GroupTables made() {
        GroupTables tables = Build.groups(SIZES);
        Build.tell(tables, 0, 0, 1, 2, 1);
        Build.tell(tables, 3, 0, 1, 1, 1, 0, 2, 1, 1, 0, 3, 0, 2);
        Build.tell(tables, 3, 1, 2, 1, 1, 1, 3, 2, 0, 2, 3, 3, 1);
        Build.tell(tables, 7, 0, 2, 1, 0, 1, 2, 1, 3);
        Build.tell(tables, 10, 0, 1, 1, 0, 2, 3, 4, 4, 0, 4, 0, 1, 1, 3, 2, 2);
        Build.tell(tables, 18, 0, 1, 0, 0, 0, 2, 1, 1, 1, 2, 20, 20);
        tables.takeAway(4, 3);
        tables.takeAway(20, 1);
        tables.setCards(15, 7);
        tables.setCards(5, 2);
        tables.setLot(16, 40);
        tables.setLot(19, 19);
        tables.setThrough(1, 3);
        return tables;
    }

    /** All that can be asked of an object; what has no question is set or struck at the end. */
    private static String all(GroupTables tables) {
        calls = 40;
        StringBuilder all = new StringBuilder();
        ask(all, "groups", () -> tables.groups());
        ask(all, "teams", () -> tables.teams());
        for (int each = 0; each < tables.teams(); each++) {
            askOfTeam(all, tables, each);
        }
        int first = 0;
        for (int each = 0; each < SIZES.length; each++) {
            askOfGroup(all, tables, each, first, SIZES[each]);
            first += SIZES[each];
        }
        for (int each = 0; each < first; each++) {
            int team = each;
            ask(all, "taken from " + team, () -> tables.takeAway(team, 0));
            ask(all, "cards of " + team, () -> tables.setCards(team, 0));
            ask(all, "lot of " + team, () -> tables.setLot(team, 0));
        }
        strikeAll(all, tables);
        Check.due("at most 512 calls", calls <= MOST_CALLS, true);
        return all.toString();
    }

    private static void ask(StringBuilder all, String what, Check.Call call) {
        calls++;
        all.append(what).append(' ').append(Check.outcome(call)).append('\n');
    }

    private static void askOfTeam(StringBuilder all, GroupTables tables, int team) {
        ask(all, "group of " + team, () -> tables.groupOf(team));
        ask(all, "played by " + team, () -> tables.played(team));
        ask(all, "points of " + team, () -> tables.points(team));
        ask(all, "difference of " + team, () -> tables.difference(team));
        ask(all, "goals of " + team, () -> tables.goals(team));
        ask(all, "through " + team, () -> tables.isThrough(team) ? 1 : 0);
        ask(all, "safe " + team, () -> tables.waysSafe(team));
        ask(all, "lost " + team, () -> tables.waysLost(team));
        ask(all, "bad way of " + team, () -> tables.badWay(team));
        ask(all, "scores of " + team, () -> tables.scoresThrough(team));
    }

    private static void askOfGroup(StringBuilder all, GroupTables tables, int group, int first,
            int size) {
        ask(all, "left in " + group, () -> tables.matchesLeft(group));
        ask(all, "third points of " + group, () -> tables.thirdPoints(group));
        ask(all, "third rank of " + group, () -> tables.thirdRank(group));
        ask(all, "ways of " + group, () -> tables.ways(group));
        for (int place = 0; place < size; place++) {
            int at = place;
            ask(all, "at " + place + " of " + group, () -> tables.teamAt(group, at));
        }
        for (int team = first + 1; team < first + size; team++) {
            int higher = team;
            ask(all, "rule " + team, () -> tables.rule(higher, higher - 1));
        }
    }

    /** The goals of every match, as what a team has less when the match is struck. */
    private static void strikeAll(StringBuilder all, GroupTables tables) {
        int first = 0;
        for (int size : SIZES) {
            for (int lower = first; lower < first + size; lower++) {
                for (int upper = lower + 1; upper < first + size; upper++) {
                    int team = lower;
                    int other = upper;
                    String match = team + " against " + other;
                    ask(all, "strike " + match, () -> tables.strike(team, other));
                    ask(all, "goals of the first without " + match, () -> tables.goals(team));
                    ask(all, "goals of the other without " + match, () -> tables.goals(other));
                }
            }
            first += size;
        }
    }

    /** Checks that all that can be asked of an object is as if it had just been made. */
    private static void asMade(GroupTables tables) {
        String[] got = all(tables).split("\n");
        String[] due = all(made()).split("\n");
        Check.due("how many answers", got.length, due.length);
        for (int line = 0; line < Math.min(got.length, due.length); line++) {
            Check.due("asked then", got[line], due[line]);
        }
    }

    private static void refused(String title, String exception, Single call) {
        Check.test(title, () -> {
            GroupTables tables = made();
            Check.throwsDue("the call", exception, () -> call.on(tables));
            asMade(tables);
        });
    }

    private static void refusedOfGroups() {
        String title = "Promise 2, addGroup: a call that throws an exception changes nothing: ";
        refused(title + "6 groups", Check.STATE, tables -> tables.addGroup(4));
        refused(title + "6 groups and 2 teams", Check.ARGUMENT, tables -> tables.addGroup(2));
        refused(title + "6 groups and 6 teams", Check.ARGUMENT, tables -> tables.addGroup(6));
        Check.test(title + "teams out of range, and the next group follows on", () -> {
            GroupTables tables = Build.groups(4);
            for (int wrong : new int[] {Integer.MIN_VALUE, -1, 0, 2, 6, Integer.MAX_VALUE}) {
                Check.throwsDue("teams " + wrong, Check.ARGUMENT, () -> tables.addGroup(wrong));
                Check.due("groups", tables.groups(), 1);
                Check.due("teams", tables.teams(), 4);
            }
            Check.due("first team of the next one", tables.addGroup(5), 4);
            Check.due("its matches", tables.matchesLeft(1), 10);
            Check.due("the lot of its last team", tables.setLot(8, 0), 8);
        });
    }

    private static void refusedOfResults() {
        String title = "Promise 3, setResult: a call that throws an exception changes nothing: ";
        refused(title + "no such team", Check.INDEX, tables -> tables.setResult(21, 20, 7, 8));
        refused(title + "no such other one", Check.INDEX, tables -> tables.setResult(0, -1, 7, 8));
        refused(title + "both the same", Check.ARGUMENT, tables -> tables.setResult(2, 2, 7, 8));
        refused(title + "not of one group", Check.ARGUMENT, tables -> tables.setResult(2, 3, 7, 8));
        refused(title + "goals 21", Check.ARGUMENT, tables -> tables.setResult(0, 1, 21, 8));
        refused(title + "goals -1", Check.ARGUMENT, tables -> tables.setResult(0, 1, -1, 8));
        refused(title + "others 21", Check.ARGUMENT, tables -> tables.setResult(1, 0, 8, 21));
        refused(title + "others -1", Check.ARGUMENT, tables -> tables.setResult(1, 0, 8, -1));
        refused(title + "goals 21, no result as yet", Check.ARGUMENT,
                tables -> tables.setResult(1, 2, 21, 1));
        refused(title + "others -1, no result as yet", Check.ARGUMENT,
                tables -> tables.setResult(1, 2, 1, -1));
        title = "Promise 4, strike: a call that throws an exception changes nothing: ";
        refused(title + "no such team", Check.INDEX, tables -> tables.strike(-1, 0));
        refused(title + "no such other one", Check.INDEX, tables -> tables.strike(20, 21));
        refused(title + "both the same", Check.ARGUMENT, tables -> tables.strike(3, 3));
        refused(title + "not of one group", Check.ARGUMENT, tables -> tables.strike(6, 7));
        refused(title + "no result", Check.STATE, tables -> tables.strike(0, 2));
    }

    private static void refusedOfTeams() {
        String title = "Promise 5, takeAway: a call that throws an exception changes nothing: ";
        refused(title + "no such team", Check.INDEX, tables -> tables.takeAway(21, 5));
        refused(title + "points 21", Check.ARGUMENT, tables -> tables.takeAway(4, 21));
        refused(title + "points -1", Check.ARGUMENT, tables -> tables.takeAway(4, -1));
        title = "Promise 6, setCards: a call that throws an exception changes nothing: ";
        refused(title + "no such team", Check.INDEX, tables -> tables.setCards(-1, 5));
        refused(title + "points 51", Check.ARGUMENT, tables -> tables.setCards(15, 51));
        refused(title + "points -1", Check.ARGUMENT, tables -> tables.setCards(15, -1));
        title = "Promise 7, setLot: a call that throws an exception changes nothing: ";
        refused(title + "no such team", Check.INDEX, tables -> tables.setLot(21, 5));
        refused(title + "lot 100", Check.ARGUMENT, tables -> tables.setLot(16, 100));
        refused(title + "lot -1", Check.ARGUMENT, tables -> tables.setLot(16, -1));
    }

    private static void refusedOfSettings() {
        String title = "Promise 8, setThrough: a call that throws an exception changes nothing: ";
        refusedSetting(title + "places 0, other thirds", 0, 5);
        refusedSetting(title + "places 3, other thirds", 3, 5);
        refusedSetting(title + "other places, thirds -1", 2, -1);
        refusedSetting(title + "other places, thirds 7", 2, 7);
        refusedSetting(title + "both out of range", 3, 7);
    }

    private static void refusedSetting(String title, int places, int thirds) {
        refused(title, Check.ARGUMENT, tables -> {
            tables.setThrough(places, thirds);
            return 0;
        });
    }

    private static void refusedQuestions() {
        String title = ": a call that throws an exception changes nothing";
        refused("Promise 11, groupOf" + title, Check.INDEX, tables -> tables.groupOf(21));
        refused("Promise 12, played" + title, Check.INDEX, tables -> tables.played(-1));
        refused("Promise 13, points" + title, Check.INDEX, tables -> tables.points(21));
        refused("Promise 14, difference" + title, Check.INDEX, tables -> tables.difference(-1));
        refused("Promise 15, goals" + title, Check.INDEX, tables -> tables.goals(21));
        refused("Promise 16, place" + title, Check.INDEX, tables -> tables.place(-1));
        refused("Promise 17, teamAt" + title, Check.INDEX, tables -> tables.teamAt(0, 3));
        refused("Promise 18, rule" + title, Check.ARGUMENT, tables -> tables.rule(2, 3));
        refused("Promise 19, matchesLeft" + title, Check.INDEX, tables -> tables.matchesLeft(6));
        refused("Promise 20, thirdPoints" + title, Check.INDEX, tables -> tables.thirdPoints(-1));
        refused("Promise 21, thirdRank" + title, Check.INDEX, tables -> tables.thirdRank(6));
        refused("Promise 22, isThrough" + title, Check.INDEX,
                tables -> tables.isThrough(21) ? 1 : 0);
        refused("Promise 23, ways" + title, Check.INDEX, tables -> tables.ways(6));
        refused("Promise 24, waysSafe" + title, Check.INDEX, tables -> tables.waysSafe(21));
        refused("Promise 25, waysLost" + title, Check.INDEX, tables -> tables.waysLost(-1));
        refused("Promise 26, badWay" + title, Check.INDEX, tables -> tables.badWay(21));
        refused("Promise 27, scoresThrough" + title, Check.STATE,
                tables -> tables.scoresThrough(10));
    }

    private static void asked(String call, Single single) {
        Check.test(call + ": nothing from here on changes anything", () -> {
            GroupTables tables = made();
            long first = single.on(tables);
            Check.due("asked again", single.on(tables), first);
            asMade(tables);
        });
    }

    private static void questions() {
        asked("Promise 9, groups", tables -> tables.groups());
        asked("Promise 10, teams", tables -> tables.teams());
        asked("Promise 11, groupOf", tables -> tables.groupOf(20));
        asked("Promise 12, played", tables -> tables.played(0));
        asked("Promise 13, points", tables -> tables.points(4));
        asked("Promise 14, difference", tables -> tables.difference(4));
        asked("Promise 15, goals", tables -> tables.goals(4));
        asked("Promise 16, place", tables -> tables.place(5));
        asked("Promise 17, teamAt", tables -> tables.teamAt(3, 4));
        asked("Promise 18, rule", tables -> tables.rule(3, 5));
        asked("Promise 19, matchesLeft", tables -> tables.matchesLeft(2));
        asked("Promise 20, thirdPoints", tables -> tables.thirdPoints(3));
        asked("Promise 21, thirdRank", tables -> tables.thirdRank(3));
        asked("Promise 22, isThrough", tables -> tables.isThrough(12) ? 1 : 0);
        asked("Promise 23, ways", tables -> tables.ways(3));
        asked("Promise 24, waysSafe", tables -> tables.waysSafe(12));
        asked("Promise 25, waysLost", tables -> tables.waysLost(12));
        asked("Promise 26, badWay", tables -> tables.badWay(12));
        asked("Promise 27, scoresThrough, one match left", tables -> tables.scoresThrough(7));
        asked("Promise 27, scoresThrough, two left", tables -> tables.scoresThrough(1));
        asked("Promise 27, scoresThrough, three left", tables -> tables.scoresThrough(16));
        asked("Promise 27, scoresThrough, none left", tables -> tables.scoresThrough(19));
    }

    /** That what can be asked does tell a change: else the tests above would hold for anything. */
    private static void unlikeObjectsDiffer() {
        differs("a result", tables -> tables.setResult(10, 11, 2, 0));
        differs("a result of group 1", tables -> tables.setResult(3, 4, 2, 2));
        differs("a struck result", tables -> tables.strike(0, 1));
        differs("points taken away", tables -> tables.takeAway(14, 1));
        differs("card points", tables -> tables.setCards(14, 1));
        differs("a lot", tables -> tables.setLot(14, 99));
        differs("places", tables -> {
            tables.setThrough(2, 3);
            return 0;
        });
        differs("thirds", tables -> {
            tables.setThrough(1, 4);
            return 0;
        });
    }

    private static void differs(String what, Single call) {
        Check.test("what can be asked tells " + what, () -> {
            GroupTables tables = made();
            call.on(tables);
            Check.due("the same as before", all(tables).equals(all(made())), false);
        });
    }
}
