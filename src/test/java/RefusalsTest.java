/**
 * Each 'Throws' sentence of the document: which numbers of teams and groups there are none of, for
 * objects with no groups, with one and with six; what else is refused; which exception is thrown
 * if several apply; and that a call that throws changes nothing.
 */
public final class RefusalsTest {
    private static final int LEAST = Integer.MIN_VALUE;
    private static final int MOST = Integer.MAX_VALUE;

    private static final String NO_TEAM = "IndexOutOfBoundsException if there is no such team";
    private static final String NO_GROUP = "IndexOutOfBoundsException if there is no such group";
    private static final String NO_PAIR = "IllegalArgumentException if both are the same or not of "
            + "one group";

    /** A call that names one team or group. */
    private interface One {
        long on(GroupTables tables, int number);
    }

    /** A call that names two teams. */
    private interface Two {
        long on(GroupTables tables, int team, int other);
    }

    private RefusalsTest() {
    }

    public static void main(String[] args) {
        callsOfTeams();
        callsOfPairs();
        callsOfGroups();
        noneSuchAsYet();
        noSuchPlace();
        sevenGroups();
        noResultToStrike();
        tooManyLeftForScores();
        firstNamedOfTeams();
        firstNamedOfPairs();
        Check.end("RefusalsTest");
    }

    // ---- no such team, no such group

    private static void callsOfTeams() {
        ofTeam("Promise 5, takeAway", (tables, team) -> tables.takeAway(team, 1));
        ofTeam("Promise 6, setCards", (tables, team) -> tables.setCards(team, 1));
        ofTeam("Promise 7, setLot", (tables, team) -> tables.setLot(team, 1));
        ofTeam("Promise 11, groupOf", (tables, team) -> tables.groupOf(team));
        ofTeam("Promise 12, played", (tables, team) -> tables.played(team));
        ofTeam("Promise 13, points", (tables, team) -> tables.points(team));
        ofTeam("Promise 14, difference", (tables, team) -> tables.difference(team));
        ofTeam("Promise 15, goals", (tables, team) -> tables.goals(team));
        ofTeam("Promise 16, place", (tables, team) -> tables.place(team));
        ofTeam("Promise 22, isThrough", (tables, team) -> tables.isThrough(team) ? 1 : 0);
        ofTeam("Promise 24, waysSafe", (tables, team) -> tables.waysSafe(team));
        ofTeam("Promise 25, waysLost", (tables, team) -> tables.waysLost(team));
        ofTeam("Promise 26, badWay", (tables, team) -> tables.badWay(team));
        ofTeam("Promise 27, scoresThrough", (tables, team) -> tables.scoresThrough(team));
    }

    private static void ofTeam(String call, One one) {
        noneSuch(call + ": " + NO_TEAM, true, one);
    }

    private static void callsOfPairs() {
        ofPair("Promise 3, setResult", (tables, team, other) ->
                tables.setResult(team, other, 1, 1));
        ofPair("Promise 4, strike", (tables, team, other) -> tables.strike(team, other));
        ofPair("Promise 18, rule", (tables, team, other) -> tables.rule(team, other));
    }

    private static void ofPair(String call, Two two) {
        noneSuch(call + ", the team: " + NO_TEAM, true,
                (tables, team) -> two.on(tables, team, mateOf(tables, team)));
        noneSuch(call + ", the other one: " + NO_TEAM, true,
                (tables, other) -> two.on(tables, mateOf(tables, other), other));
        notOnePair(call, two);
    }

    /** Another team beside the first or the last one; team 0 for a number that no team has. */
    private static int mateOf(GroupTables tables, int number) {
        if (number == 0) {
            return 1;
        }
        return number > 0 && number < tables.teams() ? number - 1 : 0;
    }

    private static void callsOfGroups() {
        ofGroup("Promise 17, teamAt", (tables, group) -> tables.teamAt(group, 0));
        ofGroup("Promise 19, matchesLeft", (tables, group) -> tables.matchesLeft(group));
        ofGroup("Promise 20, thirdPoints", (tables, group) -> tables.thirdPoints(group));
        ofGroup("Promise 21, thirdRank", (tables, group) -> tables.thirdRank(group));
        ofGroup("Promise 23, ways", (tables, group) -> tables.ways(group));
    }

    private static void ofGroup(String call, One one) {
        noneSuch(call + ": " + NO_GROUP, false, one);
    }

    private static void noneSuch(String title, boolean ofTeams, One one) {
        noneSuchIn(title + ", with no groups", 0, 3, ofTeams, one);
        noneSuchIn(title + ", with one group of 3", 1, 3, ofTeams, one);
        noneSuchIn(title + ", with one group of 5", 1, 5, ofTeams, one);
        noneSuchIn(title + ", with two groups of 4", 2, 4, ofTeams, one);
        noneSuchIn(title + ", with six groups of 3", 6, 3, ofTeams, one);
        noneSuchIn(title + ", with six groups of 5", 6, 5, ofTeams, one);
    }

    private static void noneSuchIn(String title, int groups, int size, boolean ofTeams, One one) {
        int count = ofTeams ? groups * size : groups;
        Check.test(title + ": the numbers below the first one", () -> {
            for (int wrong : new int[] {-1, -2, -count - 1, -6, -30, -256, LEAST + 1, LEAST}) {
                refusedNumber(groups, size, wrong, one);
            }
        });
        Check.test(title + ": the numbers behind the last one", () -> {
            int[] behind = {count, count + 1, count + 2, count + 5, 30, 31, 32, 64, 256, 65_536,
                1 << 30, LEAST >>> 1, MOST - 1, MOST};
            for (int wrong : behind) {
                refusedNumber(groups, size, wrong, one);
            }
        });
        if (count > 0) {
            Check.test(title + ": not for the first and the last number", () -> {
                takenNumber(groups, size, 0, one);
                takenNumber(groups, size, count - 1, one);
            });
        }
    }

    private static void refusedNumber(int groups, int size, int wrong, One one) {
        GroupTables tables = Build.climbed(groups, size);
        Check.throwsDue("number " + wrong, Check.INDEX, () -> one.on(tables, wrong));
    }

    private static void takenNumber(int groups, int size, int right, One one) {
        GroupTables tables = Build.climbed(groups, size);
        String outcome = Check.outcome(() -> one.on(tables, right));
        Check.due("number " + right + " throws", outcome.contains("Exception"), false);
    }

    private static void noneSuchAsYet() {
        asYet("Promise 3, setResult", 3, (tables, team) -> tables.setResult(team, team + 1, 1, 0));
        asYet("Promise 5, takeAway", 3, (tables, team) -> tables.takeAway(team, 1));
        asYet("Promise 11, groupOf", 3, (tables, team) -> tables.groupOf(team));
        asYet("Promise 16, place", 3, (tables, team) -> tables.place(team));
        asYet("Promise 17, teamAt", 1, (tables, group) -> tables.teamAt(group, 0));
        asYet("Promise 19, matchesLeft", 1, (tables, group) -> tables.matchesLeft(group));
        asYet("Promise 21, thirdRank", 1, (tables, group) -> tables.thirdRank(group));
        asYet("Promise 22, isThrough", 3, (tables, team) -> tables.isThrough(team) ? 1 : 0);
        asYet("Promise 26, badWay", 3, (tables, team) -> tables.badWay(team));
        asYet("Promise 27, scoresThrough", 3, (tables, team) -> tables.scoresThrough(team));
    }

    private static void asYet(String call, int number, One one) {
        Check.test(call + ": there is no such one until a second group is added", () -> {
            GroupTables tables = Build.groups(3);
            Check.throwsDue("number " + number, Check.INDEX, () -> one.on(tables, number));
            tables.addGroup(3);
            String outcome = Check.outcome(() -> one.on(tables, number));
            Check.due("number " + number + " throws", outcome.contains("Exception"), false);
        });
    }

    // ---- teams that are not two of one group

    private static void notOnePair(String call, Two two) {
        Check.test(call + ": " + NO_PAIR + ": each team with itself", () -> {
            GroupTables tables = Build.climbed(6, 5);
            for (int team = 0; team < 30; team++) {
                pairRefused(tables, team, team, two);
            }
        });
        Check.test(call + ": " + NO_PAIR + ": the teams on both sides of a border", () -> {
            GroupTables tables = Build.climbed(6, 4);
            for (int border = 4; border < 24; border += 4) {
                pairRefused(tables, border - 1, border, two);
                pairRefused(tables, border, border - 1, two);
            }
        });
        Check.test(call + ": " + NO_PAIR + ": the first team of all and the last one", () -> {
            pairRefused(Build.climbed(6, 3), 0, 17, two);
            pairRefused(Build.climbed(6, 3), 17, 0, two);
            pairRefused(Build.climbed(6, 5), 0, 29, two);
            pairRefused(Build.climbed(6, 5), 29, 0, two);
        });
        Check.test(call + ": " + NO_PAIR + ": the teams on the same seat of two groups", () -> {
            GroupTables tables = Build.climbed(2, 5);
            for (int seat = 0; seat < 5; seat++) {
                pairRefused(tables, seat, 5 + seat, two);
                pairRefused(tables, 5 + seat, seat, two);
            }
        });
        Check.test(call + ": " + NO_PAIR + ": not for any two teams of one group", () -> {
            for (int team = 5; team < 10; team++) {
                for (int other = 5; other < 10; other++) {
                    if (team != other) {
                        pairTaken(Build.climbed(3, 5), team, other, two);
                    }
                }
            }
        });
    }

    private static void pairRefused(GroupTables tables, int team, int other, Two two) {
        Check.throwsDue("teams " + team + " and " + other, Check.ARGUMENT,
                () -> two.on(tables, team, other));
    }

    private static void pairTaken(GroupTables tables, int team, int other, Two two) {
        String outcome = Check.outcome(() -> two.on(tables, team, other));
        Check.due("teams " + team + " and " + other + " throw", outcome.contains("Exception"),
                false);
    }

    // ---- no such place

    private static void noSuchPlace() {
        String title = "Promise 17, teamAt: IndexOutOfBoundsException if there is no such place";
        for (int size = 3; size <= 5; size++) {
            int places = size;
            Check.test(title + ": below the first one of " + size, () -> {
                GroupTables tables = Build.groups(size(places), places);
                for (int wrong : new int[] {-1, -2, -places, -256, LEAST + 1, LEAST}) {
                    Check.throwsDue("place " + wrong, Check.INDEX, () -> tables.teamAt(1, wrong));
                }
            });
            Check.test(title + ": behind the last one of " + size, () -> {
                GroupTables tables = Build.groups(size(places), places, 5);
                int[] behind = {places, places + 1, 5, 6, 256, 65_536, MOST - 1, MOST};
                for (int wrong : behind) {
                    Check.throwsDue("place " + wrong, Check.INDEX, () -> tables.teamAt(1, wrong));
                }
            });
            Check.test(title + ": not for the first and the last one of " + size, () -> {
                GroupTables tables = Build.groups(size(places), places);
                int first = size(places);
                Check.due("first place", tables.teamAt(1, 0), first);
                Check.due("last place", tables.teamAt(1, places - 1), first + places - 1);
            });
        }
        Check.test(title + ": a place of the larger group only", () -> {
            GroupTables tables = Build.groups(5, 3, 4);
            Check.throwsDue("place 3 of 3", Check.INDEX, () -> tables.teamAt(1, 3));
            Check.throwsDue("place 4 of 4", Check.INDEX, () -> tables.teamAt(2, 4));
            Check.due("place 4 of 5", tables.teamAt(0, 4), 4);
            Check.due("place 3 of 4", tables.teamAt(2, 3), 11);
        });
        Check.test(title + ": neither such a group nor such a place", () -> {
            GroupTables tables = Build.groups(3);
            Check.throwsDue("both below", Check.INDEX, () -> tables.teamAt(-1, -1));
            Check.throwsDue("both behind", Check.INDEX, () -> tables.teamAt(1, 3));
            Check.throwsDue("both far", Check.INDEX, () -> tables.teamAt(LEAST, MOST));
        });
    }

    /** Another size than the one given. */
    private static int size(int other) {
        return other == 5 ? 3 : 5;
    }

    // ---- the further 'Throws' sentences

    private static void sevenGroups() {
        String title = "Promise 2, addGroup: IllegalStateException if there are 6 groups";
        for (int size = 3; size <= 5; size++) {
            int each = size;
            Check.test(title + " of " + size, () -> {
                GroupTables tables = Build.groups(each, each, each, each, each);
                Check.due("the sixth", tables.addGroup(each), 5 * each);
                for (int wrong = 3; wrong <= 5; wrong++) {
                    int seventh = wrong;
                    Check.throwsDue("a seventh of " + wrong, Check.STATE,
                            () -> tables.addGroup(seventh));
                }
                Check.due("groups", tables.groups(), 6);
                Check.due("teams", tables.teams(), 6 * each);
            });
        }
        Check.test(title + ": refused again and again", () -> {
            GroupTables tables = Build.groups(3, 4, 5, 3, 4, 5);
            for (int time = 0; time < 100; time++) {
                Check.throwsDue("time " + time, Check.STATE, () -> tables.addGroup(3));
            }
            Check.due("groups", tables.groups(), 6);
        });
    }

    private static void noResultToStrike() {
        String title = "Promise 4, strike: IllegalStateException if it has no result";
        Check.test(title + " as yet", () -> {
            GroupTables tables = Build.groups(3, 5);
            Check.throwsDue("no result in the group", Check.STATE, () -> tables.strike(3, 4));
            Check.throwsDue("from the other side", Check.STATE, () -> tables.strike(7, 6));
            tables.setResult(3, 4, 0, 0);
            Check.throwsDue("of another match", Check.STATE, () -> tables.strike(3, 5));
            Check.throwsDue("of the same seats of another group", Check.STATE,
                    () -> tables.strike(0, 1));
        });
        Check.test(title + ": struck already", () -> {
            GroupTables tables = Build.groups(4);
            tables.setResult(1, 3, 0, 0);
            Check.due("first time", tables.strike(1, 3), 6);
            Check.throwsDue("second time", Check.STATE, () -> tables.strike(1, 3));
            Check.throwsDue("from the other side", Check.STATE, () -> tables.strike(3, 1));
        });
        Check.test(title + ": one match left is the one without", () -> {
            GroupTables tables = Build.groups(5);
            Build.climb(tables, 0, 5, 1);
            Check.throwsDue("the one that is left", Check.STATE, () -> tables.strike(0, 1));
            Check.due("another one", tables.strike(0, 2), 2);
        });
        Check.test(title + ": not for a draw without goals", () -> {
            GroupTables tables = Build.groups(3);
            tables.setResult(0, 1, 0, 0);
            Check.due("0:0 is a result", tables.strike(1, 0), 3);
        });
    }

    private static void tooManyLeftForScores() {
        String title = "Promise 27, scoresThrough: IllegalStateException if more than 3 matches of "
                + "its group are left";
        Check.test(title + ": 4 of them", () -> {
            GroupTables tables = Build.groups(4, 5);
            Build.climb(tables, 0, 4, 4);
            Build.climb(tables, 4, 5, 4);
            for (int team = 0; team < 9; team++) {
                int each = team;
                Check.throwsDue("team " + team, Check.STATE, () -> tables.scoresThrough(each));
            }
        });
        Check.test(title + ": all of 4 and of 5 teams", () -> {
            GroupTables tables = Build.groups(4, 5);
            Check.throwsDue("6 are left", Check.STATE, () -> tables.scoresThrough(3));
            Check.throwsDue("10 are left", Check.STATE, () -> tables.scoresThrough(4));
        });
        Check.test(title + ": not for 3, 2, 1 and 0", () -> {
            for (int left = 3; left >= 0; left--) {
                GroupTables tables = Build.groups(3, 4, 5);
                Build.climb(tables, 0, 3, left);
                Build.climb(tables, 3, 4, left);
                Build.climb(tables, 7, 5, left);
                for (int team : new int[] {0, 2, 3, 6, 7, 11}) {
                    String outcome = Check.outcome(() -> tables.scoresThrough(team));
                    Check.due(left + " left, team " + team + " throws",
                            outcome.contains("Exception"), false);
                }
            }
        });
        Check.test(title + ": those of other groups do not matter", () -> {
            GroupTables tables = Build.groups(5, 3, 5);
            Check.due("three of its group are left", tables.scoresThrough(5) > 0, true);
            Build.climb(tables, 5, 3, 0);
            Build.climb(tables, 8, 5, 0);
            Check.throwsDue("ten of its group are left", Check.STATE,
                    () -> tables.scoresThrough(4));
        });
        Check.test(title + ": struck to 4, told to 3 again", () -> {
            GroupTables tables = Build.groups(4);
            Build.climb(tables, 0, 4, 3);
            Check.due("3 are left", tables.scoresThrough(0) >= 0, true);
            tables.strike(2, 3);
            Check.throwsDue("4 are left", Check.STATE, () -> tables.scoresThrough(0));
            tables.setResult(2, 3, 1, 1);
            Check.due("3 are left again", tables.scoresThrough(0) >= 0, true);
        });
    }

    // ---- the one that is named first

    private static void firstNamedOfTeams() {
        String title = "the one that is named first in the throws clause is thrown: ";
        Check.test("Promise 2, addGroup, " + title + "6 groups and teams out of range", () -> {
            GroupTables tables = Build.groups(3, 4, 5, 3, 4, 5);
            for (int wrong : new int[] {LEAST, -1, 0, 2, 6, MOST}) {
                Check.throwsDue("teams " + wrong, Check.ARGUMENT, () -> tables.addGroup(wrong));
            }
        });
        Check.test("Promise 5, takeAway, " + title + "no such team and points out of range", () ->
                bothWrong(new int[] {LEAST, -1, 21, MOST}, (tables, team, points) ->
                        tables.takeAway(team, points)));
        Check.test("Promise 6, setCards, " + title + "no such team and points out of range", () ->
                bothWrong(new int[] {LEAST, -1, 51, MOST}, (tables, team, points) ->
                        tables.setCards(team, points)));
        Check.test("Promise 7, setLot, " + title + "no such team and lot out of range", () ->
                bothWrong(new int[] {LEAST, -1, 100, MOST}, (tables, team, lot) ->
                        tables.setLot(team, lot)));
        Check.test("Promise 27, scoresThrough, " + title + "no such team, and more than 3 matches "
                + "of each group are left", () -> {
            GroupTables tables = Build.groups(5, 5, 5, 5, 5, 5);
            for (int wrong : new int[] {LEAST, -1, 30, MOST}) {
                Check.throwsDue("team " + wrong, Check.INDEX, () -> tables.scoresThrough(wrong));
            }
        });
    }

    private static void bothWrong(int[] values, Two two) {
        GroupTables tables = Build.groups(3, 3);
        GroupTables none = new GroupTables();
        for (int value : values) {
            for (int team : new int[] {LEAST, -1, 6, MOST}) {
                Check.throwsDue("team " + team + " and " + value, Check.INDEX,
                        () -> two.on(tables, team, value));
            }
            Check.throwsDue("no groups and " + value, Check.INDEX, () -> two.on(none, 0, value));
        }
    }

    private static void firstNamedOfPairs() {
        String title = "the one that is named first in the throws clause is thrown: ";
        Check.test("Promise 3, setResult, " + title + "no such team, goals out of range", () -> {
            GroupTables tables = Build.groups(3, 3);
            for (int far : new int[] {LEAST, -1, 21, MOST}) {
                Check.throwsDue("team, goals", Check.INDEX, () -> tables.setResult(6, 0, far, 0));
                Check.throwsDue("team, others", Check.INDEX, () -> tables.setResult(-1, 0, 0, far));
                Check.throwsDue("other, goals", Check.INDEX, () -> tables.setResult(0, -1, far, 0));
                Check.throwsDue("other, others", Check.INDEX, () -> tables.setResult(0, 6, 0, far));
            }
        });
        Check.test("Promise 4, strike, " + title + "no such team, and no result", () -> {
            GroupTables tables = Build.groups(3);
            Check.throwsDue("team", Check.INDEX, () -> tables.strike(3, 0));
            Check.throwsDue("other", Check.INDEX, () -> tables.strike(0, 3));
        });
        Check.test("Promise 4, strike, " + title + "the same or not of one group, and no result",
                () -> {
                    GroupTables tables = Build.groups(3, 3);
                    Check.throwsDue("the same", Check.ARGUMENT, () -> tables.strike(2, 2));
                    Check.throwsDue("not of one group", Check.ARGUMENT, () -> tables.strike(2, 3));
                });
        sameAndNoTeam("Promise 3, setResult, " + title, (tables, team, other) ->
                tables.setResult(team, other, 0, 0));
        sameAndNoTeam("Promise 4, strike, " + title, (tables, team, other) ->
                tables.strike(team, other));
        sameAndNoTeam("Promise 18, rule, " + title, (tables, team, other) ->
                tables.rule(team, other));
    }

    private static void sameAndNoTeam(String title, Two two) {
        Check.test(title + "no such team, twice", () -> {
            GroupTables tables = Build.groups(3);
            for (int wrong : new int[] {LEAST, -1, 3, 30, MOST}) {
                Check.throwsDue("twice " + wrong, Check.INDEX, () -> two.on(tables, wrong, wrong));
            }
            Check.throwsDue("no groups", Check.INDEX, () -> two.on(new GroupTables(), 0, 0));
        });
        Check.test(title + "no such team, so not of one group", () -> {
            GroupTables tables = Build.groups(3, 3);
            Check.throwsDue("other", Check.INDEX, () -> two.on(tables, 0, 6));
            Check.throwsDue("team", Check.INDEX, () -> two.on(tables, -1, 5));
            Check.throwsDue("both", Check.INDEX, () -> two.on(tables, -1, 6));
        });
    }
}
