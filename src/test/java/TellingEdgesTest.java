/**
 * The boundary cases of the calls that tell something, promises 1 to 8: the ranges of their
 * arguments with the values just outside and far outside, and what they return at their ends.
 */
public final class TellingEdgesTest {
    private static final int LEAST = Integer.MIN_VALUE;
    private static final int MOST = Integer.MAX_VALUE;

    /** A call with the argument whose range is tried, on a new object. */
    private interface Tried {
        long with(int value);
    }

    private TellingEdgesTest() {
    }

    public static void main(String[] args) {
        newObject();
        sizesOfGroups();
        firstTeamsOfGroups();
        goalsOfResults();
        matchesLeftByResults();
        oneResultOfEachMatch();
        matchesLeftByStriking();
        pointsTakenAway();
        cardPoints();
        lots();
        placesThatLeadOn();
        thirdsThatLeadOn();
        allCallsOfAnObject();
        Check.end("TellingEdgesTest");
    }

    /** What a range takes and what it refuses, each by a test of its own. */
    private static void range(String title, int least, int most, Tried call) {
        for (int right = least; right <= most; right++) {
            int value = right;
            if (right < least + 2 || right > most - 2) {
                Check.test(title + ": " + right + " is in range", () ->
                        Check.due("throws", Check.outcome(() -> call.with(value))
                                .contains("Exception"), false));
            }
        }
        refused(title + ": just below", call, least - 1);
        refused(title + ": just above", call, most + 1);
        refused(title + ": the least int", call, LEAST);
        refused(title + ": the greatest int", call, MOST);
        refused(title + ": far below", call, -most, LEAST + 1, LEAST + least, LEAST + most);
        refused(title + ": far above", call, least + 128, least + 256, least + 65_536, MOST - 1);
        refused(title + ": in range if a bit were not there", call, most | 128, least | 1 << 30,
                most | LEAST);
    }

    private static void refused(String title, Tried call, int... values) {
        Check.test(title, () -> {
            for (int value : values) {
                Check.throwsDue("value " + value, Check.ARGUMENT, () -> call.with(value));
            }
        });
    }

    // ---- Promise 1

    private static void newObject() {
        Check.test("Promise 1: no groups", () ->
                Check.due("groups", new GroupTables().groups(), 0));
        Check.test("Promise 1: no teams", () -> Check.due("teams", new GroupTables().teams(), 0));
        Check.test("Promise 1: groups are numbered from 0 on", () -> {
            GroupTables tables = new GroupTables();
            tables.addGroup(3);
            Check.due("group of the first team", tables.groupOf(0), 0);
        });
        Check.test("Promise 1: each object has groups of its own", () -> {
            GroupTables tables = Build.climbed(6, 5);
            GroupTables other = new GroupTables();
            Check.due("groups of another one", other.groups(), 0);
            Check.due("its first team", other.addGroup(3), 0);
            Check.due("its matches", other.matchesLeft(0), 3);
            Check.due("the matches of the full one", tables.matchesLeft(0), 0);
        });
    }

    // ---- Promise 2

    private static void sizesOfGroups() {
        range("Promise 2, teams: 3 to 5", 3, 5, value -> new GroupTables().addGroup(value));
        range("Promise 2, teams: 3 to 5, as the sixth group", 3, 5, value ->
                Build.groups(3, 4, 5, 4, 3).addGroup(value));
        for (int size = 3; size <= 5; size++) {
            int teams = size;
            Check.test("Promise 2: a group of " + size + " has " + size + " teams", () -> {
                GroupTables tables = Build.groups(teams);
                Check.due("teams", tables.teams(), teams);
                Check.due("group of the last one", tables.groupOf(teams - 1), 0);
                Check.throwsDue("one more", Check.INDEX, () -> tables.groupOf(teams));
            });
            Check.test("Promise 2: each two of " + size + " teams have one match", () -> {
                GroupTables tables = Build.groups(5, teams);
                int left = teams * (teams - 1) / 2;
                Check.due("left", tables.matchesLeft(1), left);
                for (int lower = 5; lower < 5 + teams; lower++) {
                    for (int upper = lower + 1; upper < 5 + teams; upper++) {
                        left--;
                        Check.due("left then", tables.setResult(upper, lower, 1, 2), left);
                    }
                }
                Check.due("none is left", tables.matchesLeft(1), 0);
            });
        }
        Check.test("Promise 2: there are at most 6 groups", () -> {
            GroupTables tables = new GroupTables();
            for (int group = 0; group < 6; group++) {
                Check.due("first team", tables.addGroup(4), 4 * group);
                Check.due("groups", tables.groups(), group + 1);
            }
            Check.throwsDue("a seventh", Check.STATE, () -> tables.addGroup(4));
        });
    }

    private static void firstTeamsOfGroups() {
        Check.test("Promise 2: returns the number of its first team: 0 for the first group", () -> {
            for (int size = 3; size <= 5; size++) {
                Check.due("of " + size, new GroupTables().addGroup(size), 0);
            }
        });
        Check.test("Promise 2: returns the number of its first team: of the least groups", () ->
                firstTeamsDue(3, 3, 3, 3, 3, 3));
        Check.test("Promise 2: returns the number of its first team: of the greatest groups", () ->
                firstTeamsDue(5, 5, 5, 5, 5, 5));
        Check.test("Promise 2: returns the number of its first team: of unlike groups", () -> {
            firstTeamsDue(3, 4, 5, 3, 4, 5);
            firstTeamsDue(5, 4, 3, 5, 4, 3);
            firstTeamsDue(4, 3, 3, 5, 5, 4);
        });
        Check.test("Promise 2: a new group has no results, and takes none from the others", () -> {
            GroupTables tables = Build.climbed(5, 5);
            int first = tables.addGroup(5);
            Check.due("matches of the new one", tables.matchesLeft(5), 10);
            for (int seat = 0; seat < 5; seat++) {
                Check.due("played in the new one", tables.played(first + seat), 0);
                Check.due("points in the new one", tables.points(first + seat), 0);
                Check.due("points in the one before", tables.points(20 + seat), 3 * seat);
                Check.due("points in the first one", tables.points(seat), 3 * seat);
            }
        });
    }

    private static void firstTeamsDue(int... sizes) {
        GroupTables tables = new GroupTables();
        int first = 0;
        for (int group = 0; group < sizes.length; group++) {
            Check.due("group " + group, tables.addGroup(sizes[group]), first);
            Check.due("group of its first team", tables.groupOf(first), group);
            first += sizes[group];
            Check.due("group of its last team", tables.groupOf(first - 1), group);
        }
        Check.due("teams", tables.teams(), first);
    }

    // ---- Promise 3

    private static void goalsOfResults() {
        range("Promise 3, goals: 0 to 20: the goals of the team", 0, 20, value ->
                Build.groups(3).setResult(0, 1, value, 3));
        range("Promise 3, others: 0 to 20: the goals of the other one", 0, 20, value ->
                Build.groups(3).setResult(0, 1, 3, value));
        range("Promise 3, goals: 0 to 20, told by the higher team", 0, 20, value ->
                Build.groups(5, 5).setResult(9, 5, value, 20));
        range("Promise 3, others: 0 to 20, told by the higher team", 0, 20, value ->
                Build.groups(5, 5).setResult(9, 5, 0, value));
        Check.test("Promise 3, goals and others: both out of range", () -> {
            GroupTables tables = Build.groups(3);
            Check.throwsDue("below", Check.ARGUMENT, () -> tables.setResult(0, 1, -1, -1));
            Check.throwsDue("above", Check.ARGUMENT, () -> tables.setResult(0, 1, 21, 21));
            Check.throwsDue("far", Check.ARGUMENT, () -> tables.setResult(0, 1, LEAST, MOST));
        });
        Check.test("Promise 3, goals and others: 20:0 and 0:20 are kept", () -> {
            GroupTables tables = Build.groups(3, 3);
            tables.setResult(3, 4, 20, 0);
            resultDue(tables, 3, 4, 20, 0);
            tables.setResult(3, 4, 0, 20);
            resultDue(tables, 3, 4, 0, 20);
        });
        Check.test("Promise 3, goals and others: 0:0 and 20:20 are kept", () -> {
            GroupTables tables = Build.groups(3, 3);
            tables.setResult(5, 4, 0, 0);
            resultDue(tables, 5, 4, 0, 0);
            tables.setResult(5, 4, 20, 20);
            resultDue(tables, 5, 4, 20, 20);
        });
        Check.test("Promise 3, goals and others: every result of one match is kept", () -> {
            GroupTables tables = Build.groups(4);
            for (int goals = 0; goals <= 20; goals += 4) {
                for (int others = 0; others <= 20; others += 5) {
                    tables.setResult(2, 1, goals, others);
                    resultDue(tables, 2, 1, goals, others);
                }
            }
        });
    }

    /** Checks the only result of two teams. */
    private static void resultDue(GroupTables tables, int team, int other, int goals, int others) {
        String result = goals + ":" + others;
        int points = goals > others ? 3 : goals == others ? 1 : 0;
        int otherPoints = goals > others ? 0 : goals == others ? 1 : 3;
        Check.due(result + ", goals", tables.goals(team), goals);
        Check.due(result + ", goals of the other one", tables.goals(other), others);
        Check.due(result + ", difference", tables.difference(team), goals - others);
        Check.due(result + ", that of the other one", tables.difference(other), others - goals);
        Check.due(result + ", points", tables.points(team), points);
        Check.due(result + ", points of the other one", tables.points(other), otherPoints);
    }

    private static void matchesLeftByResults() {
        String title = "Promise 3: returns how many matches of the group have no result then: ";
        for (int size = 3; size <= 5; size++) {
            int teams = size;
            int matches = size * (size - 1) / 2;
            Check.test(title + "the first result of " + size + " teams", () ->
                    Check.due("left", Build.groups(teams).setResult(0, 1, 0, 0), matches - 1));
            Check.test(title + "0 by the last result of " + size + " teams", () -> {
                GroupTables tables = Build.groups(3, teams);
                Build.climb(tables, 3, teams, 1);
                Check.due("left", tables.setResult(3, 4, 2, 2), 0);
            });
            Check.test(title + "as many as before in place of another one of " + size, () -> {
                GroupTables tables = Build.groups(teams);
                Build.climb(tables, 0, teams, 1);
                Check.due("one is left", tables.setResult(0, 2, 4, 0), 1);
                tables.setResult(0, 1, 0, 0);
                Check.due("none is left", tables.setResult(0, 1, 0, 0), 0);
            });
        }
        Check.test(title + "those of other groups are not counted", () -> {
            GroupTables tables = Build.groups(5, 3, 5);
            Check.due("left of 3", tables.setResult(6, 7, 1, 0), 2);
            Check.due("left of 5", tables.setResult(8, 12, 1, 0), 9);
        });
    }

    private static void oneResultOfEachMatch() {
        Check.test("Promise 3: in place of one that it has: only the last one counts", () -> {
            GroupTables tables = Build.groups(3);
            tables.setResult(0, 1, 3, 0);
            tables.setResult(0, 1, 1, 1);
            resultDue(tables, 0, 1, 1, 1);
            tables.setResult(0, 1, 0, 4);
            resultDue(tables, 0, 1, 0, 4);
            Check.due("played", tables.played(0), 1);
        });
        Check.test("Promise 3: in place of one that it has: told from the other side", () -> {
            GroupTables tables = Build.groups(3);
            tables.setResult(0, 2, 3, 0);
            Check.due("left", tables.setResult(2, 0, 2, 1), 2);
            resultDue(tables, 2, 0, 2, 1);
            Check.due("played by 0", tables.played(0), 1);
            Check.due("played by 2", tables.played(2), 1);
        });
        Check.test("Promise 3: each match has a result of its own", () -> {
            GroupTables tables = Build.groups(5);
            for (int lower = 0; lower < 5; lower++) {
                for (int upper = lower + 1; upper < 5; upper++) {
                    tables.setResult(lower, upper, 2 * lower + upper, upper);
                }
            }
            // Of the team k, against a higher one j: 2k + j, against a lower one i: k.
            int[] goals = {10, 16, 19, 19, 16};
            for (int team = 0; team < 5; team++) {
                Check.due("goals of " + team, tables.goals(team), goals[team]);
            }
        });
    }

    // ---- Promise 4

    private static void matchesLeftByStriking() {
        String title = "Promise 4: returns how many matches of the group have no result then: ";
        for (int size = 3; size <= 5; size++) {
            int teams = size;
            int matches = size * (size - 1) / 2;
            Check.test(title + "1 if all " + matches + " had one", () ->
                    Check.due("left", Build.climbed(2, teams).strike(teams, 2 * teams - 1), 1));
            Check.test(title + matches + " if it was the only one of " + size, () -> {
                GroupTables tables = Build.groups(teams, 3);
                tables.setResult(teams - 1, 0, 0, 0);
                Check.due("left", tables.strike(0, teams - 1), matches);
                Check.due("left in the other group", tables.matchesLeft(1), 3);
            });
            Check.test(title + "one more by each match of " + size, () -> {
                GroupTables tables = Build.climbed(1, teams);
                int left = 0;
                for (int lower = 0; lower < teams; lower++) {
                    for (int upper = lower + 1; upper < teams; upper++) {
                        left++;
                        Check.due("left", tables.strike(upper, lower), left);
                    }
                }
                Check.due("all are left", tables.ways(0) > 1 ? left : -1, matches);
            });
        }
        Check.test("Promise 4: the result counts no more", () -> {
            GroupTables tables = Build.groups(3);
            Build.tell(tables, 0, 0, 1, 4, 1, 0, 2, 2, 2);
            tables.strike(1, 0);
            resultDue(tables, 0, 2, 2, 2);
            Check.due("points of 1", tables.points(1), 0);
            Check.due("goals of 1", tables.goals(1), 0);
            Check.due("difference of 1", tables.difference(1), 0);
            Check.due("played by 1", tables.played(1), 0);
        });
        Check.test("Promise 4: the match can have a result again", () -> {
            GroupTables tables = Build.groups(3);
            for (int time = 0; time < 20; time++) {
                Check.due("told", tables.setResult(1, 2, time, 0), 2);
                Check.due("goals", tables.goals(1), time);
                Check.due("struck", tables.strike(2, 1), 3);
            }
        });
    }

    // ---- Promises 5 to 7

    private static void pointsTakenAway() {
        range("Promise 5, points: 0 to 20", 0, 20, value -> Build.groups(3).takeAway(0, value));
        range("Promise 5, points: 0 to 20, of the last team of six groups", 0, 20, value ->
                Build.groups(5, 5, 5, 5, 5, 5).takeAway(29, value));
        Check.test("Promise 5: returns how many it was before: 0 at first", () -> {
            GroupTables tables = Build.groups(3, 5);
            for (int team = 0; team < 8; team++) {
                Check.due("team " + team, tables.takeAway(team, team), 0);
            }
        });
        Check.test("Promise 5: returns how many it was before: every number", () -> {
            GroupTables tables = Build.groups(3);
            for (int points = 1; points <= 20; points++) {
                Check.due("before " + points, tables.takeAway(2, points), points - 1);
            }
            Check.due("before 0", tables.takeAway(2, 0), 20);
            Check.due("before 0 again", tables.takeAway(2, 0), 0);
        });
        Check.test("Promise 5: sets, does not add", () -> {
            GroupTables tables = Build.groups(3);
            tables.takeAway(1, 20);
            tables.takeAway(1, 20);
            Check.due("points", tables.points(1), -20);
            tables.takeAway(1, 1);
            Check.due("points then", tables.points(1), -1);
            tables.takeAway(1, 0);
            Check.due("points at the end", tables.points(1), 0);
        });
        Check.test("Promise 5: of one team alone", () -> {
            GroupTables tables = Build.groups(3, 3);
            tables.takeAway(3, 7);
            for (int team = 0; team < 6; team++) {
                Check.due("points of " + team, tables.points(team), team == 3 ? -7 : 0);
            }
        });
    }

    private static void cardPoints() {
        range("Promise 6, points: 0 to 50", 0, 50, value -> Build.groups(3).setCards(0, value));
        range("Promise 6, points: 0 to 50, of the last team of six groups", 0, 50, value ->
                Build.groups(5, 5, 5, 5, 5, 5).setCards(29, value));
        Check.test("Promise 6: returns how many it had before: 0 at first", () -> {
            GroupTables tables = Build.groups(5, 3);
            for (int team = 0; team < 8; team++) {
                Check.due("team " + team, tables.setCards(team, team), 0);
            }
        });
        Check.test("Promise 6: returns how many it had before: every number", () -> {
            GroupTables tables = Build.groups(3);
            for (int points = 1; points <= 50; points++) {
                Check.due("before " + points, tables.setCards(2, points), points - 1);
            }
            Check.due("before 0", tables.setCards(2, 0), 50);
            Check.due("before 0 again", tables.setCards(2, 0), 0);
        });
        Check.test("Promise 6: fewer are better: 49 before 50, 0 before 1", () -> {
            GroupTables tables = Build.groups(4);
            tables.setCards(0, 50);
            tables.setCards(1, 49);
            tables.setCards(2, 1);
            Build.orderDue("by cards", tables, 0, 3, 2, 1, 0);
        });
        Check.test("Promise 6: they touch no points", () -> {
            GroupTables tables = Build.groups(3);
            tables.setCards(1, 50);
            Check.due("points", tables.points(1), 0);
            Check.due("taken away", tables.takeAway(1, 0), 0);
        });
    }

    private static void lots() {
        range("Promise 7, lot: 0 to 99", 0, 99, value -> Build.groups(3).setLot(0, value));
        range("Promise 7, lot: 0 to 99, of the last team of six groups", 0, 99, value ->
                Build.groups(5, 5, 5, 5, 5, 5).setLot(29, value));
        Check.test("Promise 7: returns the lot before: at first its number", () -> {
            GroupTables tables = Build.groups(5, 5, 5, 5, 5, 5);
            for (int team = 0; team < 30; team++) {
                Check.due("team " + team, tables.setLot(team, 99 - team), team);
            }
            for (int team = 0; team < 30; team++) {
                Check.due("team " + team + " then", tables.setLot(team, 0), 99 - team);
            }
        });
        Check.test("Promise 7: returns the lot before: every number", () -> {
            GroupTables tables = Build.groups(3);
            tables.setLot(2, 0);
            for (int lot = 1; lot <= 99; lot++) {
                Check.due("before " + lot, tables.setLot(2, lot), lot - 1);
            }
            Check.due("before 0", tables.setLot(2, 0), 99);
            Check.due("before 0 again", tables.setLot(2, 0), 0);
        });
        Check.test("Promise 7: a lower one is better: 0, 1, 98, 99", () -> {
            GroupTables tables = Build.groups(4);
            tables.setLot(0, 99);
            tables.setLot(1, 98);
            tables.setLot(2, 1);
            tables.setLot(3, 0);
            Build.orderDue("by lots", tables, 0, 3, 2, 1, 0);
        });
        Check.test("Promise 7: with the same lot the one with the lower number is better", () -> {
            for (int lot : new int[] {0, 3, 99}) {
                GroupTables tables = Build.groups(3, 5);
                for (int team = 7; team >= 3; team--) {
                    tables.setLot(team, lot);
                }
                Build.orderDue("all have " + lot, tables, 1, 3, 4, 5, 6, 7);
            }
        });
        Check.test("Promise 7: a lot may be the number of another team", () -> {
            GroupTables tables = Build.groups(3);
            tables.setLot(0, 2);
            Build.orderDue("0 has the lot of 2", tables, 0, 1, 0, 2);
            tables.setLot(2, 1);
            Build.orderDue("2 has the lot of 1", tables, 0, 1, 2, 0);
        });
    }

    // ---- Promise 8

    private static long through(GroupTables tables, int places, int thirds) {
        tables.setThrough(places, thirds);
        return 0;
    }

    private static void placesThatLeadOn() {
        range("Promise 8, places: 1 or 2", 1, 2, value -> through(Build.groups(3), value, 0));
        range("Promise 8, places: 1 or 2, with no groups and 6 thirds", 1, 2, value ->
                through(new GroupTables(), value, 6));
        Check.test("Promise 8, places: at first 2", () ->
                leadingDue(Build.groups(5), true, true, false, false, false));
        Check.test("Promise 8, places: 1", () -> {
            GroupTables tables = Build.groups(5);
            tables.setThrough(1, 0);
            leadingDue(tables, true, false, false, false, false);
        });
        Check.test("Promise 8, places: 2 again", () -> {
            GroupTables tables = Build.groups(5);
            tables.setThrough(1, 0);
            tables.setThrough(2, 0);
            leadingDue(tables, true, true, false, false, false);
        });
        Check.test("Promise 8, places: of each group, of those too that come later", () -> {
            GroupTables tables = new GroupTables();
            tables.setThrough(1, 0);
            for (int group = 0; group < 6; group++) {
                tables.addGroup(3);
            }
            for (int team = 0; team < 18; team++) {
                Check.due("team " + team, tables.isThrough(team), team % 3 == 0);
            }
        });
        Check.test("Promise 8, places and thirds: both out of range", () -> {
            GroupTables tables = Build.groups(3);
            Check.throwsDue("below", Check.ARGUMENT, () -> through(tables, 0, -1));
            Check.throwsDue("above", Check.ARGUMENT, () -> through(tables, 3, 7));
            Check.throwsDue("far", Check.ARGUMENT, () -> through(tables, LEAST, MOST));
        });
    }

    private static void leadingDue(GroupTables tables, boolean... due) {
        for (int team = 0; team < due.length; team++) {
            Check.due("team " + team, tables.isThrough(team), due[team]);
        }
    }

    private static void thirdsThatLeadOn() {
        range("Promise 8, thirds: 0 to 6", 0, 6, value -> through(Build.groups(3), 2, value));
        range("Promise 8, thirds: 0 to 6, with 1 place", 0, 6, value ->
                through(Build.groups(3), 1, value));
        Check.test("Promise 8, thirds: at first 0", () -> {
            GroupTables tables = Build.groups(3, 3, 3, 3, 3, 3);
            for (int third = 2; third < 18; third += 3) {
                Check.due("third " + third, tables.isThrough(third), false);
            }
        });
        for (int thirds = 0; thirds <= 6; thirds++) {
            int leading = thirds;
            Check.test("Promise 8, thirds: " + thirds + " of six", () -> {
                GroupTables tables = Build.groups(3, 3, 3, 3, 3, 3);
                tables.setThrough(2, leading);
                for (int group = 0; group < 6; group++) {
                    Check.due("third of " + group, tables.isThrough(3 * group + 2),
                            group < leading);
                }
            });
        }
        Check.test("Promise 8, thirds: all thirds, if there are not so many groups", () -> {
            for (int groups = 1; groups < 6; groups++) {
                GroupTables tables = Build.climbed(groups, 4);
                tables.setThrough(2, groups + 1);
                for (int group = 0; group < groups; group++) {
                    Check.due("third of " + group + " of " + groups,
                            tables.isThrough(4 * group + 1), true);
                    Check.due("fourth of " + group + " of " + groups,
                            tables.isThrough(4 * group), false);
                }
            }
        });
    }

    // ---- Terms

    /** An object is used for at most 512 calls. */
    private static void allCallsOfAnObject() {
        Check.test("Terms: the 512th call of an object answers as the document says", () -> {
            GroupTables tables = Build.groups(5, 3, 3, 4, 5, 5);
            Build.climb(tables, 0, 5, 0);
            for (int call = 17; call <= 511; call++) {
                Check.due("call " + call, tables.setResult(20, 24, call % 21, 20), 9);
            }
            Check.due("call 512", tables.goals(20), 511 % 21);
        });
        Check.test("Terms: the 512th call of an object that refused 505 calls", () -> {
            GroupTables tables = Build.groups(5, 3, 3, 4, 5, 5);
            for (int call = 7; call <= 511; call++) {
                Check.throwsDue("call " + call, Check.STATE, () -> tables.scoresThrough(24));
            }
            Check.due("call 512", tables.waysSafe(20), Build.groups(5).waysSafe(0));
        });
    }
}
