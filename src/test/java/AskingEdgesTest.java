/**
 * The boundary cases of the calls that ask for counts and sums, promises 9 to 15, 19 and 23:
 * objects with no groups, one and six; groups with no result, with one match left and with all.
 */
public final class AskingEdgesTest {
    private AskingEdgesTest() {
    }

    public static void main(String[] args) {
        countsOfGroupsAndTeams();
        groupsOfTeams();
        matchesPlayed();
        pointsOfTeams();
        edgesOfPoints();
        differencesOfTeams();
        goalsOfTeams();
        matchesLeft();
        ways();
        Check.end("AskingEdgesTest");
    }

    /** Six groups of all sizes, the last one of five: its first team is 19. */
    private static GroupTables six() {
        return Build.groups(5, 4, 3, 3, 4, 5);
    }

    /** Six groups, in the last one all but the first so many matches have a result. */
    private static GroupTables sixWithLeft(int leftOut) {
        GroupTables tables = six();
        Build.climb(tables, 19, 5, leftOut);
        return tables;
    }

    // ---- Promises 9 to 11

    private static void countsOfGroupsAndTeams() {
        Check.test("Promise 9, groups: no groups", () ->
                Check.due("groups", new GroupTables().groups(), 0));
        Check.test("Promise 9, groups: one group", () ->
                Check.due("groups", Build.groups(5).groups(), 1));
        Check.test("Promise 9, groups: six groups", () -> Check.due("groups", six().groups(), 6));
        Check.test("Promise 10, teams: no groups", () ->
                Check.due("teams", new GroupTables().teams(), 0));
        Check.test("Promise 10, teams: one group", () -> {
            for (int size = 3; size <= 5; size++) {
                Check.due("teams", Build.groups(size).teams(), size);
            }
        });
        Check.test("Promise 10, teams: of all groups, six of 3: 18", () ->
                Check.due("teams", Build.groups(3, 3, 3, 3, 3, 3).teams(), 18));
        Check.test("Promise 10, teams: of all groups, six of 5: 30", () ->
                Check.due("teams", Build.groups(5, 5, 5, 5, 5, 5).teams(), 30));
        Check.test("Promise 10, teams: of all groups, of unlike size", () ->
                Check.due("teams", six().teams(), 24));
        Check.test("Promises 9 and 10: results do not matter", () -> {
            GroupTables tables = Build.climbed(6, 3);
            Check.due("groups", tables.groups(), 6);
            Check.due("teams", tables.teams(), 18);
        });
    }

    private static void groupsOfTeams() {
        Check.test("Promise 11, groupOf: the first and the last team of one group", () -> {
            GroupTables tables = Build.groups(4);
            Check.due("first", tables.groupOf(0), 0);
            Check.due("last", tables.groupOf(3), 0);
        });
        Check.test("Promise 11, groupOf: the first and the last team of each of six groups", () -> {
            GroupTables tables = six();
            int[] firsts = {0, 5, 9, 12, 15, 19};
            int[] lasts = {4, 8, 11, 14, 18, 23};
            for (int group = 0; group < 6; group++) {
                Check.due("first of " + group, tables.groupOf(firsts[group]), group);
                Check.due("last of " + group, tables.groupOf(lasts[group]), group);
            }
        });
        Check.test("Promise 11, groupOf: all 30 teams of six groups of 5", () -> {
            GroupTables tables = Build.groups(5, 5, 5, 5, 5, 5);
            for (int team = 0; team < 30; team++) {
                Check.due("group of " + team, tables.groupOf(team), team / 5);
            }
        });
    }

    // ---- Promise 12

    private static void matchesPlayed() {
        for (int size = 3; size <= 5; size++) {
            int teams = size;
            Check.test("Promise 12, played: no result, " + size + " teams: 0", () -> {
                GroupTables tables = Build.groups(teams);
                for (int team = 0; team < teams; team++) {
                    Check.due("played by " + team, tables.played(team), 0);
                }
            });
            Check.test("Promise 12, played: one match left, " + size + " teams", () -> {
                GroupTables tables = Build.groups(teams);
                Build.climb(tables, 0, teams, 1);
                for (int team = 0; team < teams; team++) {
                    int all = teams - 1;
                    Check.due("played by " + team, tables.played(team), team < 2 ? all - 1 : all);
                }
            });
            Check.test("Promise 12, played: every result, " + size + " teams", () -> {
                GroupTables tables = Build.climbed(1, teams);
                for (int team = 0; team < teams; team++) {
                    Check.due("played by " + team, tables.played(team), teams - 1);
                }
            });
        }
        Check.test("Promise 12, played: in the last of six groups", () -> {
            Check.due("no result", six().played(23), 0);
            Check.due("one left", sixWithLeft(1).played(20), 3);
            Check.due("every result", sixWithLeft(0).played(23), 4);
            Check.due("in the group before", sixWithLeft(0).played(18), 0);
        });
        Check.test("Promise 12, played: a draw without goals is a result", () -> {
            GroupTables tables = Build.groups(3);
            tables.setResult(0, 1, 0, 0);
            Check.due("played by 0", tables.played(0), 1);
            Check.due("played by 1", tables.played(1), 1);
            Check.due("played by 2", tables.played(2), 0);
        });
    }

    // ---- Promise 13

    private static void pointsOfTeams() {
        for (int size = 3; size <= 5; size++) {
            int teams = size;
            Check.test("Promise 13, points: no result, " + size + " teams: 0", () -> {
                GroupTables tables = Build.groups(teams);
                for (int team = 0; team < teams; team++) {
                    Check.due("points of " + team, tables.points(team), 0);
                }
            });
            Check.test("Promise 13, points: one match left, " + size + " teams", () -> {
                GroupTables tables = Build.groups(teams);
                Build.climb(tables, 0, teams, 1);
                for (int team = 0; team < teams; team++) {
                    Check.due("points of " + team, tables.points(team), team < 2 ? 0 : 3 * team);
                }
            });
            Check.test("Promise 13, points: every result, " + size + " teams", () -> {
                GroupTables tables = Build.climbed(1, teams);
                for (int team = 0; team < teams; team++) {
                    Check.due("points of " + team, tables.points(team), 3 * team);
                }
            });
        }
        Check.test("Promise 13, points: a match that is won gives 3, the other one 0", () -> {
            GroupTables tables = Build.groups(3);
            tables.setResult(0, 1, 1, 0);
            Check.due("of the winner", tables.points(0), 3);
            Check.due("of the loser", tables.points(1), 0);
            tables.setResult(0, 1, 19, 20);
            Check.due("of the loser then", tables.points(0), 0);
            Check.due("of the winner then", tables.points(1), 3);
        });
        Check.test("Promise 13, points: a draw gives 1 to each, with whatever goals", () -> {
            GroupTables tables = Build.groups(3);
            for (int goals : new int[] {0, 1, 19, 20}) {
                tables.setResult(2, 0, goals, goals);
                Check.due("of 0, " + goals, tables.points(0), 1);
                Check.due("of 2, " + goals, tables.points(2), 1);
            }
            Check.due("of the third one", tables.points(1), 0);
        });
        Check.test("Promise 13, points: in the last of six groups", () -> {
            Check.due("no result", six().points(23), 0);
            Check.due("one left", sixWithLeft(1).points(21), 6);
            Check.due("every result", sixWithLeft(0).points(23), 12);
            Check.due("in the group before", sixWithLeft(0).points(18), 0);
        });
    }

    private static void edgesOfPoints() {
        Check.test("Promise 13, points: the most by four wins, and by four draws", () -> {
            GroupTables tables = Build.climbed(1, 5);
            Check.due("four wins", tables.points(4), 12);
            for (int other = 0; other < 4; other++) {
                tables.setResult(4, other, 20, 20);
            }
            Check.due("four draws", tables.points(4), 4);
        });
        Check.test("Promise 13, points: less those that were taken away, below 0: -20", () -> {
            GroupTables tables = Build.climbed(1, 5);
            tables.takeAway(0, 20);
            Check.due("four losses less 20", tables.points(0), -20);
            tables.takeAway(4, 20);
            Check.due("four wins less 20", tables.points(4), -8);
            tables.takeAway(4, 12);
            Check.due("four wins less 12", tables.points(4), 0);
            tables.takeAway(4, 13);
            Check.due("four wins less 13", tables.points(4), -1);
        });
        Check.test("Promise 13, points: less those taken away, without a result", () -> {
            GroupTables tables = Build.groups(3);
            tables.takeAway(1, 1);
            Check.due("1 taken away", tables.points(1), -1);
            tables.takeAway(1, 20);
            Check.due("20 taken away", tables.points(1), -20);
        });
        Check.test("Promise 13, points: taken away before a result, and struck", () -> {
            GroupTables tables = Build.groups(3);
            tables.takeAway(1, 2);
            tables.setResult(1, 2, 1, 0);
            Check.due("with the result", tables.points(1), 1);
            tables.strike(1, 2);
            Check.due("without the result", tables.points(1), -2);
        });
    }

    // ---- Promises 14 and 15

    private static void differencesOfTeams() {
        for (int size = 3; size <= 5; size++) {
            int teams = size;
            Check.test("Promise 14, difference: no result, " + size + " teams: 0", () -> {
                GroupTables tables = Build.groups(teams);
                for (int team = 0; team < teams; team++) {
                    Check.due("difference of " + team, tables.difference(team), 0);
                }
            });
            Check.test("Promise 14, difference: one match left, " + size + " teams", () -> {
                GroupTables tables = Build.groups(teams);
                Build.climb(tables, 0, teams, 1);
                for (int team = 0; team < teams; team++) {
                    int due = team < 2 ? 2 - teams : 2 * team - teams + 1;
                    Check.due("difference of " + team, tables.difference(team), due);
                }
            });
            Check.test("Promise 14, difference: every result, " + size + " teams", () -> {
                GroupTables tables = Build.climbed(1, teams);
                for (int team = 0; team < teams; team++) {
                    Check.due("difference of " + team, tables.difference(team),
                            2 * team - teams + 1);
                }
            });
        }
        Check.test("Promise 14, difference: the greatest and the least, 80 and -80", () -> {
            GroupTables tables = Build.groups(3, 5);
            for (int other = 4; other <= 7; other++) {
                tables.setResult(3, other, 20, 0);
            }
            Check.due("four times 20:0", tables.difference(3), 80);
            for (int other = 4; other <= 7; other++) {
                tables.setResult(3, other, 0, 20);
            }
            Check.due("four times 0:20", tables.difference(3), -80);
        });
        Check.test("Promise 14, difference: 0 of draws, and of a win and a loss", () -> {
            GroupTables tables = Build.groups(3);
            Build.tell(tables, 0, 0, 1, 20, 20, 0, 2, 0, 0);
            Check.due("two draws", tables.difference(0), 0);
            Build.tell(tables, 0, 0, 1, 20, 3, 0, 2, 0, 17);
            Check.due("17 and -17", tables.difference(0), 0);
        });
        Check.test("Promise 14, difference: points taken away and cards do not matter", () -> {
            GroupTables tables = Build.groups(3);
            tables.takeAway(0, 20);
            tables.setCards(0, 50);
            tables.setLot(0, 99);
            Check.due("difference", tables.difference(0), 0);
        });
        Check.test("Promise 14, difference: in the last of six groups", () -> {
            Check.due("no result", six().difference(23), 0);
            Check.due("one left", sixWithLeft(1).difference(20), -3);
            Check.due("every result", sixWithLeft(0).difference(23), 4);
        });
    }

    private static void goalsOfTeams() {
        for (int size = 3; size <= 5; size++) {
            int teams = size;
            Check.test("Promise 15, goals: no result, " + size + " teams: 0", () -> {
                GroupTables tables = Build.groups(teams);
                for (int team = 0; team < teams; team++) {
                    Check.due("goals of " + team, tables.goals(team), 0);
                }
            });
            Check.test("Promise 15, goals: one match left, " + size + " teams", () -> {
                GroupTables tables = Build.groups(teams);
                Build.climb(tables, 0, teams, 1);
                for (int team = 0; team < teams; team++) {
                    Check.due("goals of " + team, tables.goals(team), team < 2 ? 0 : team);
                }
            });
            Check.test("Promise 15, goals: every result, " + size + " teams", () -> {
                GroupTables tables = Build.climbed(1, teams);
                for (int team = 0; team < teams; team++) {
                    Check.due("goals of " + team, tables.goals(team), team);
                }
            });
        }
        Check.test("Promise 15, goals: the most, 80, in wins, draws and losses", () -> {
            GroupTables tables = Build.groups(3, 5);
            Build.tell(tables, 3, 4, 0, 20, 0, 4, 1, 20, 20, 4, 2, 20, 19, 3, 4, 0, 20);
            Check.due("of the last team", tables.goals(7), 80);
        });
        Check.test("Promise 15, goals: none of four results", () -> {
            GroupTables tables = Build.groups(5);
            Build.tell(tables, 0, 0, 1, 0, 0, 0, 2, 0, 20, 0, 3, 0, 1, 4, 0, 5, 0);
            Check.due("of the first team", tables.goals(0), 0);
        });
        Check.test("Promise 15, goals: in the last of six groups", () -> {
            Check.due("no result", six().goals(23), 0);
            Check.due("one left", sixWithLeft(1).goals(22), 3);
            Check.due("every result", sixWithLeft(0).goals(20), 1);
        });
    }

    // ---- Promises 19 and 23

    private static void matchesLeft() {
        int[] all = {3, 6, 10};
        for (int size = 3; size <= 5; size++) {
            int teams = size;
            int matches = all[size - 3];
            Check.test("Promise 19, matchesLeft: no result, " + size + " teams: " + matches, () ->
                    Check.due("left", Build.groups(teams).matchesLeft(0), matches));
            Check.test("Promise 19, matchesLeft: one match left, " + size + " teams: 1", () -> {
                GroupTables tables = Build.groups(teams);
                Build.climb(tables, 0, teams, 1);
                Check.due("left", tables.matchesLeft(0), 1);
            });
            Check.test("Promise 19, matchesLeft: every result, " + size + " teams: 0", () ->
                    Check.due("left", Build.climbed(1, teams).matchesLeft(0), 0));
            Check.test("Promise 19, matchesLeft: one result, " + size + " teams", () -> {
                GroupTables tables = Build.groups(teams);
                tables.setResult(teams - 2, teams - 1, 0, 0);
                Check.due("left", tables.matchesLeft(0), matches - 1);
            });
        }
        Check.test("Promise 19, matchesLeft: of each of six groups its own", () -> {
            GroupTables tables = sixWithLeft(1);
            int[] due = {10, 6, 3, 3, 6, 1};
            for (int group = 0; group < 6; group++) {
                Check.due("left in " + group, tables.matchesLeft(group), due[group]);
            }
        });
    }

    private static void ways() {
        int power = 59_049;
        for (int told = 0; told <= 10; told++) {
            int left = 10 - told;
            int due = power;
            Check.test("Promise 23, ways: 3 to the power of " + left + " is " + due, () -> {
                GroupTables tables = Build.groups(3, 5);
                Build.climb(tables, 3, 5, left);
                Check.due("ways", tables.ways(1), due);
                Check.due("ways of the other group", tables.ways(0), 27);
            });
            power /= 3;
        }
        int[] all = {27, 729, 59_049};
        for (int size = 3; size <= 5; size++) {
            int teams = size;
            int due = all[size - 3];
            Check.test("Promise 23, ways: no result, " + size + " teams: " + due, () ->
                    Check.due("ways", Build.groups(teams).ways(0), due));
            Check.test("Promise 23, ways: one match left, " + size + " teams: 3", () -> {
                GroupTables tables = Build.groups(teams);
                Build.climb(tables, 0, teams, 1);
                Check.due("ways", tables.ways(0), 3);
            });
            Check.test("Promise 23, ways: every result, " + size + " teams: 1", () ->
                    Check.due("ways", Build.climbed(1, teams).ways(0), 1));
        }
        Check.test("Promise 23, ways: of each of six groups its own", () -> {
            GroupTables tables = sixWithLeft(0);
            int[] due = {59_049, 729, 27, 27, 729, 1};
            for (int group = 0; group < 6; group++) {
                Check.due("ways of " + group, tables.ways(group), due[group]);
            }
        });
        Check.test("Promise 23, ways: points taken away and places do not matter", () -> {
            GroupTables tables = Build.groups(3);
            tables.takeAway(0, 20);
            tables.setThrough(1, 6);
            Check.due("ways", tables.ways(0), 27);
        });
    }
}
