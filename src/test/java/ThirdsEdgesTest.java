/**
 * The boundary cases of thirds and of who is through, promises 20 to 22: the number n of the teams
 * of the smallest group, each mark by which thirds are compared with all marks behind it speaking
 * for the other one, and the last third that is through with the first one that is not.
 */
public final class ThirdsEdgesTest {
    private ThirdsEdgesTest() {
    }

    public static void main(String[] args) {
        thirdPointsOfOneGroup();
        thirdPointsOfSixGroups();
        edgesOfThirdPoints();
        matchesThatCount();
        thirdRankByNumbers();
        thirdRankByResults();
        thirdRankByCardsAndLots();
        thirdRankByMatchesThatCount();
        throughByPlaces();
        throughByThirds();
        throughAsTablesAreNow();
        Check.end("ThirdsEdgesTest");
    }

    // ---- Promise 20

    private static void thirdPointsOfOneGroup() {
        int[] oneLeft = {0, 0, 6};
        int[] full = {0, 3, 6};
        for (int size = 3; size <= 5; size++) {
            int teams = size;
            int at = size - 3;
            Check.test("Promise 20, thirdPoints: no result, one group of " + size, () ->
                    Check.due("points", Build.groups(teams).thirdPoints(0), 0));
            Check.test("Promise 20, thirdPoints: one match left, one group of " + size, () -> {
                GroupTables tables = Build.groups(teams);
                Build.climb(tables, 0, teams, 1);
                Check.due("points", tables.thirdPoints(0), oneLeft[at]);
            });
            Check.test("Promise 20, thirdPoints: every result, one group of " + size, () ->
                    Check.due("points", Build.climbed(1, teams).thirdPoints(0), full[at]));
        }
    }

    private static void thirdPointsOfSixGroups() {
        Check.test("Promise 20, thirdPoints: no result, six groups", () -> {
            GroupTables tables = Build.groups(5, 4, 3, 5, 4, 3);
            for (int group = 0; group < 6; group++) {
                Check.due("group " + group, tables.thirdPoints(group), 0);
            }
        });
        Check.test("Promise 20, thirdPoints: every result, six groups of 5", () -> {
            GroupTables tables = Build.climbed(6, 5);
            for (int group = 0; group < 6; group++) {
                Check.due("group " + group, tables.thirdPoints(group), 6);
            }
        });
        Check.test("Promise 20, thirdPoints: every result, five groups of 5 and one of 4", () -> {
            GroupTables tables = Build.climbed(5, 5);
            Build.climb(tables, tables.addGroup(4), 4, 0);
            for (int group = 0; group < 6; group++) {
                Check.due("group " + group, tables.thirdPoints(group), 3);
            }
        });
        Check.test("Promise 20, thirdPoints: every result, five groups of 5 and one of 3", () -> {
            GroupTables tables = Build.climbed(5, 5);
            Build.climb(tables, tables.addGroup(3), 3, 0);
            for (int group = 0; group < 6; group++) {
                Check.due("group " + group, tables.thirdPoints(group), 0);
            }
        });
        Check.test("Promise 20, thirdPoints: the smallest group is any of the six", () -> {
            for (int small = 0; small < 6; small++) {
                GroupTables tables = new GroupTables();
                for (int group = 0; group < 6; group++) {
                    int size = group == small ? 4 : 5;
                    Build.climb(tables, tables.addGroup(size), size, 0);
                }
                for (int group = 0; group < 6; group++) {
                    Check.due("group " + group + ", " + small + " is the smallest",
                            tables.thirdPoints(group), 3);
                }
            }
        });
    }

    private static void edgesOfThirdPoints() {
        Check.test("Promise 20, thirdPoints: the least, -20", () -> {
            GroupTables tables = Build.groups(3);
            for (int team = 0; team < 3; team++) {
                tables.takeAway(team, 20);
            }
            Check.due("points", tables.thirdPoints(0), -20);
        });
        Check.test("Promise 20, thirdPoints: points that were taken away count", () -> {
            GroupTables tables = Build.groups(3, 5);
            Build.climb(tables, 3, 5, 0);
            tables.takeAway(5, 1);
            // 5 has 6 points less 1 and stays third; of its matches none counts that it won.
            Check.due("third", tables.teamAt(1, 2), 5);
            Check.due("points", tables.thirdPoints(1), -1);
            tables.takeAway(2, 20);
            Check.due("points of the other third", tables.thirdPoints(0), -20);
        });
        Check.test("Promise 20, thirdPoints: the most: 9 of 5 teams, 6 of 4 and 3 of 3", () -> {
            GroupTables tables = Build.groups(5);
            // A ring of 0, 1 and 2, which all beat 3 and 4.
            Build.tell(tables, 0, 0, 1, 1, 0, 1, 2, 1, 0, 2, 0, 1, 0);
            for (int team = 0; team < 3; team++) {
                Build.tell(tables, 0, team, 3, 1, 0, team, 4, 1, 0);
            }
            Check.due("n is 5", tables.thirdPoints(0), 9);
            tables.addGroup(4);
            Check.due("n is 4", tables.thirdPoints(0), 6);
            tables.addGroup(3);
            Check.due("n is 3", tables.thirdPoints(0), 3);
        });
    }

    private static void matchesThatCount() {
        Check.test("Promise 20, thirdPoints: at the places 0 to n - 1, not at n", () -> {
            GroupTables tables = Build.groups(5);
            // 2 is third: it lost to 0 and 1, drew with 3 and won against 4.
            Build.tell(tables, 0, 0, 1, 1, 0, 0, 2, 1, 0, 0, 3, 1, 0, 0, 4, 1, 0);
            Build.tell(tables, 0, 1, 2, 1, 0, 1, 3, 1, 0, 1, 4, 1, 0);
            Build.tell(tables, 0, 2, 3, 0, 0, 2, 4, 1, 0);
            Build.orderDue("the group", tables, 0, 0, 1, 2, 3, 4);
            Check.due("n is 5: all", tables.thirdPoints(0), 4);
            tables.addGroup(5);
            Check.due("n is 5 still", tables.thirdPoints(0), 4);
            tables.addGroup(4);
            Check.due("n is 4: not the place 4", tables.thirdPoints(0), 1);
            tables.takeAway(3, 5);
            Build.orderDue("3 and 4 change places", tables, 0, 0, 1, 2, 4, 3);
            Check.due("n is 4: 4 counts, 3 does not", tables.thirdPoints(0), 3);
            tables.addGroup(3);
            Check.due("n is 3: neither of them", tables.thirdPoints(0), 0);
        });
        Check.test("Promise 20, thirdPoints: n is that of the smallest group, added last", () -> {
            GroupTables tables = Build.climbed(1, 5);
            Check.due("alone", tables.thirdPoints(0), 6);
            tables.addGroup(4);
            Check.due("with a group of 4", tables.thirdPoints(0), 3);
            tables.addGroup(5);
            Check.due("with one of 5 behind", tables.thirdPoints(0), 3);
            tables.addGroup(3);
            Check.due("with a group of 3", tables.thirdPoints(0), 0);
            tables.addGroup(4);
            Check.due("with one of 4 behind", tables.thirdPoints(0), 0);
        });
        Check.test("Promise 20, thirdPoints: the third is the team at the place 2", () -> {
            GroupTables tables = Build.groups(4);
            Build.tell(tables, 0, 0, 1, 1, 0, 0, 2, 1, 0, 0, 3, 1, 0);
            Build.tell(tables, 0, 1, 2, 1, 0, 1, 3, 1, 0, 2, 3, 0, 0);
            Check.due("2 is third", tables.teamAt(0, 2), 2);
            Check.due("its points", tables.thirdPoints(0), 1);
            tables.setResult(2, 3, 0, 1);
            Check.due("3 is third then", tables.teamAt(0, 2), 3);
            Check.due("its points", tables.thirdPoints(0), 3);
        });
    }

    // ---- Promise 21

    private static void ranksDue(String what, GroupTables tables, int... ranks) {
        for (int group = 0; group < ranks.length; group++) {
            Check.due(what + ", group " + group, tables.thirdRank(group), ranks[group]);
        }
    }

    private static void thirdRankByNumbers() {
        Check.test("Promise 21, thirdRank: one group: 0", () -> {
            for (int size = 3; size <= 5; size++) {
                ranksDue("no result", Build.groups(size), 0);
                ranksDue("every result", Build.climbed(1, size), 0);
            }
        });
        Check.test("Promise 21, thirdRank: no result, six groups: 0 to 5", () -> {
            ranksDue("of 3", Build.groups(3, 3, 3, 3, 3, 3), 0, 1, 2, 3, 4, 5);
            ranksDue("of 5", Build.groups(5, 5, 5, 5, 5, 5), 0, 1, 2, 3, 4, 5);
            ranksDue("of all sizes", Build.groups(5, 4, 3, 5, 4, 3), 0, 1, 2, 3, 4, 5);
        });
        Check.test("Promise 21, thirdRank: one match left, six groups", () -> {
            GroupTables tables = new GroupTables();
            for (int group = 0; group < 6; group++) {
                Build.climb(tables, tables.addGroup(4), 4, 1);
            }
            ranksDue("all alike", tables, 0, 1, 2, 3, 4, 5);
            tables.setResult(0, 1, 1, 0);
            // 0 has 3 points then, the other thirds have none; in group 5 the third draws.
            tables.setResult(20, 21, 0, 0);
            ranksDue("3 points, 1 point", tables, 0, 2, 3, 4, 5, 1);
        });
        Check.test("Promise 21, thirdRank: every result, six groups", () -> {
            ranksDue("of 3", Build.climbed(6, 3), 0, 1, 2, 3, 4, 5);
            ranksDue("of 5", Build.climbed(6, 5), 0, 1, 2, 3, 4, 5);
        });
        Check.test("Promise 21, thirdRank: how many are better: 5 for the worst of six", () -> {
            GroupTables tables = Build.climbed(6, 5);
            tables.setCards(2, 1);
            ranksDue("cards of the first", tables, 5, 0, 1, 2, 3, 4);
        });
    }

    /** Two groups of 3: the thirds 2 and 5 lost to the first teams of theirs by these scores. */
    private static GroupTables thirds(int[] goalsOf2, int[] goalsOf5) {
        GroupTables tables = Build.groups(3, 3);
        Build.tell(tables, 0, 0, 1, 1, 0, 2, 0, goalsOf2[0], goalsOf2[1]);
        Build.tell(tables, 0, 2, 1, goalsOf2[2], goalsOf2[3]);
        Build.tell(tables, 3, 0, 1, 1, 0, 2, 0, goalsOf5[0], goalsOf5[1]);
        Build.tell(tables, 3, 2, 1, goalsOf5[2], goalsOf5[3]);
        Check.due("third of group 0", tables.teamAt(0, 2), 2);
        Check.due("third of group 1", tables.teamAt(1, 2), 5);
        return tables;
    }

    /** Cards and lot that speak against a team, as far as they can. */
    private static void against(GroupTables tables, int team) {
        tables.setCards(team, 50);
        tables.setLot(team, 99);
    }

    private static void thirdRankByResults() {
        Check.test("Promise 21, thirdRank: one point more, all else against it", () -> {
            GroupTables tables = thirds(new int[] {19, 20, 19, 20}, new int[] {0, 0, 0, 20});
            against(tables, 5);
            ranksDue("0 and 1 point", tables, 1, 0);
            tables = thirds(new int[] {0, 0, 0, 20}, new int[] {19, 20, 19, 20});
            against(tables, 2);
            ranksDue("1 and 0 points", tables, 0, 1);
        });
        Check.test("Promise 21, thirdRank: one point less taken away, all else against it", () -> {
            GroupTables tables = thirds(new int[] {19, 20, 19, 20}, new int[] {0, 20, 0, 20});
            tables.takeAway(2, 20);
            tables.takeAway(5, 19);
            against(tables, 5);
            ranksDue("-20 and -19", tables, 1, 0);
        });
        Check.test("Promise 21, thirdRank: one goal of difference, all else against it", () -> {
            GroupTables tables = thirds(new int[] {0, 1, 0, 1}, new int[] {19, 20, 18, 20});
            against(tables, 2);
            ranksDue("-2 and -3", tables, 0, 1);
            tables = thirds(new int[] {19, 20, 18, 20}, new int[] {0, 1, 0, 1});
            against(tables, 5);
            ranksDue("-3 and -2", tables, 1, 0);
        });
        Check.test("Promise 21, thirdRank: one goal more, all else against it", () -> {
            GroupTables tables = thirds(new int[] {1, 2, 0, 1}, new int[] {0, 1, 0, 1});
            against(tables, 2);
            ranksDue("1 and 0", tables, 0, 1);
            tables = thirds(new int[] {18, 20, 18, 19}, new int[] {19, 20, 18, 20});
            against(tables, 5);
            ranksDue("36 and 37", tables, 1, 0);
        });
    }

    private static void thirdRankByCardsAndLots() {
        int[] lost = {0, 1, 0, 1};
        Check.test("Promise 21, thirdRank: cards 0 and 1, 49 and 50, the lots against them", () -> {
            GroupTables tables = thirds(lost, lost);
            tables.setLot(5, 99);
            tables.setCards(2, 1);
            ranksDue("1 and 0", tables, 1, 0);
            tables.setCards(2, 50);
            tables.setCards(5, 49);
            ranksDue("50 and 49", tables, 1, 0);
            tables.setCards(5, 50);
            ranksDue("50 and 50", tables, 0, 1);
        });
        Check.test("Promise 21, thirdRank: lots 0 and 1, 98 and 99", () -> {
            GroupTables tables = thirds(lost, lost);
            tables.setLot(2, 1);
            tables.setLot(5, 0);
            ranksDue("1 and 0", tables, 1, 0);
            tables.setLot(2, 99);
            tables.setLot(5, 98);
            ranksDue("99 and 98", tables, 1, 0);
        });
        Check.test("Promise 21, thirdRank: lots one apart, the numbers far apart", () -> {
            for (int lot : new int[] {1, 30, 50, 99}) {
                GroupTables tables = Build.climbed(6, 5);
                tables.setLot(2, lot);
                tables.setLot(27, lot - 1);
                boolean better = tables.thirdRank(5) < tables.thirdRank(0);
                Check.due("27 with " + (lot - 1) + " before 2 with " + lot, better, true);
            }
        });
        Check.test("Promise 21, thirdRank: at first the lot is the number", () -> {
            GroupTables tables = thirds(lost, lost);
            ranksDue("2 and 5", tables, 0, 1);
            tables.setLot(2, 6);
            ranksDue("6 and 5", tables, 1, 0);
            tables.setLot(2, 4);
            ranksDue("4 and 5", tables, 0, 1);
        });
        Check.test("Promise 21, thirdRank: with the same lot the lower number is better", () -> {
            GroupTables tables = thirds(lost, lost);
            tables.setLot(2, 5);
            ranksDue("5 and 5", tables, 0, 1);
            GroupTables six = Build.groups(5, 5, 5, 5, 5, 5);
            for (int team = 0; team < 30; team++) {
                six.setLot(team, 99);
            }
            ranksDue("all have 99", six, 0, 1, 2, 3, 4, 5);
        });
        Check.test("Promise 21, thirdRank: lots of six groups against their numbers", () -> {
            GroupTables tables = Build.climbed(6, 5);
            for (int group = 0; group < 6; group++) {
                tables.setLot(5 * group + 2, 99 - group);
            }
            ranksDue("99 down to 94", tables, 5, 4, 3, 2, 1, 0);
        });
        Check.test("Promise 21, thirdRank: cards and lots of other teams do not matter", () -> {
            GroupTables tables = thirds(lost, lost);
            against(tables, 0);
            against(tables, 1);
            ranksDue("those of 0 and 1", tables, 0, 1);
        });
    }

    private static void thirdRankByMatchesThatCount() {
        Check.test("Promise 21, thirdRank: of 4 teams and 3 the match against the place 3", () -> {
            GroupTables tables = Build.groups(4, 3);
            Build.tell(tables, 0, 0, 1, 1, 0, 0, 2, 1, 0, 0, 3, 1, 0);
            Build.tell(tables, 0, 1, 2, 1, 0, 1, 3, 1, 0, 2, 3, 20, 0);
            Build.tell(tables, 4, 0, 1, 1, 0, 0, 2, 1, 0, 1, 2, 1, 0);
            ranksDue("all that counts is alike: lots", tables, 0, 1);
            tables.setCards(2, 1);
            ranksDue("cards, neither points nor goals", tables, 1, 0);
            tables.setResult(0, 2, 2, 1);
            ranksDue("a goal that counts", tables, 0, 1);
        });
        Check.test("Promise 21, thirdRank: of 5 teams and 4 the match against the place 4", () -> {
            GroupTables tables = Build.climbed(1, 5);
            Build.climb(tables, tables.addGroup(4), 4, 0);
            // The thirds 2 and 6: each lost to the two before it and won against the one behind.
            tables.setResult(2, 0, 20, 0);
            ranksDue("all that counts is alike: lots", tables, 0, 1);
            tables.setLot(2, 99);
            ranksDue("lots", tables, 1, 0);
            tables.setResult(2, 1, 2, 0);
            ranksDue("the match against the place 3 counts", tables, 0, 1);
        });
        Check.test("Promise 21, thirdRank: all groups of one size: every match counts", () -> {
            GroupTables tables = Build.climbed(6, 5);
            tables.setResult(27, 25, 2, 0);
            ranksDue("the match against the last place", tables, 1, 2, 3, 4, 5, 0);
        });
    }

    // ---- Promise 22

    private static void throughDue(String what, GroupTables tables, int first, boolean... due) {
        for (int seat = 0; seat < due.length; seat++) {
            Check.due(what + ", team " + (first + seat), tables.isThrough(first + seat), due[seat]);
        }
    }

    private static void throughByPlaces() {
        for (int size = 3; size <= 5; size++) {
            int teams = size;
            Check.test("Promise 22, isThrough: no result, 2 places of " + size, () -> {
                GroupTables tables = Build.groups(teams);
                for (int team = 0; team < teams; team++) {
                    Check.due("team " + team, tables.isThrough(team), team < 2);
                }
            });
            Check.test("Promise 22, isThrough: one match left, 2 places of " + size, () -> {
                GroupTables tables = Build.groups(teams);
                Build.climb(tables, 0, teams, 1);
                // Of 3 teams 0 is second, with no points, as long as its match with 1 is left.
                for (int team = 0; team < teams; team++) {
                    boolean due = teams == 3 ? team != 1 : team >= teams - 2;
                    Check.due("team " + team, tables.isThrough(team), due);
                }
            });
            Check.test("Promise 22, isThrough: every result, 2 places of " + size, () -> {
                GroupTables tables = Build.climbed(1, teams);
                for (int team = 0; team < teams; team++) {
                    Check.due("team " + team, tables.isThrough(team), team >= teams - 2);
                }
            });
            Check.test("Promise 22, isThrough: 1 place of " + size, () -> {
                GroupTables tables = Build.climbed(1, teams);
                tables.setThrough(1, 0);
                for (int team = 0; team < teams; team++) {
                    Check.due("team " + team, tables.isThrough(team), team == teams - 1);
                }
            });
        }
        Check.test("Promise 22, isThrough: the places 3 and 4 never, with 6 thirds", () -> {
            GroupTables tables = Build.groups(5, 4);
            tables.setThrough(2, 6);
            throughDue("of 5", tables, 0, true, true, true, false, false);
            throughDue("of 4", tables, 5, true, true, true, false);
        });
        Check.test("Promise 22, isThrough: the place 1 not, with 1 place and 6 thirds", () -> {
            GroupTables tables = Build.groups(5, 3);
            tables.setThrough(1, 6);
            throughDue("of 5", tables, 0, true, false, true, false, false);
            throughDue("of 3", tables, 5, true, false, true);
        });
    }

    private static void throughByThirds() {
        for (int thirds = 0; thirds <= 6; thirds++) {
            int leading = thirds;
            Check.test("Promise 22, isThrough: " + thirds + " of the best thirds of six", () -> {
                GroupTables tables = Build.climbed(6, 5);
                // The cards make the last group's third the best one.
                for (int group = 0; group < 6; group++) {
                    tables.setCards(5 * group + 2, 50 - group);
                }
                tables.setThrough(2, leading);
                for (int group = 0; group < 6; group++) {
                    boolean third = 5 - group < leading;
                    throughDue("group " + group, tables, 5 * group, false, false, third, true,
                            true);
                }
            });
        }
        Check.test("Promise 22, isThrough: all thirds, if there are not so many groups", () -> {
            for (int thirds = 1; thirds <= 6; thirds++) {
                GroupTables tables = Build.groups(3);
                tables.setThrough(2, thirds);
                throughDue(thirds + " thirds", tables, 0, true, true, true);
            }
        });
        Check.test("Promise 22, isThrough: as many thirds as groups, and one less", () -> {
            for (int groups = 1; groups <= 6; groups++) {
                GroupTables tables = Build.climbed(groups, 3);
                int worst = 3 * (groups - 1);
                tables.setThrough(2, groups);
                Check.due("the worst of " + groups, tables.isThrough(worst), true);
                tables.setThrough(2, groups - 1);
                Check.due("one less than " + groups, tables.isThrough(worst), false);
                Check.due("the best of " + groups, tables.isThrough(0), groups > 1);
            }
        });
        Check.test("Promise 22, isThrough: thirds by the matches that count", () -> {
            GroupTables tables = Build.climbed(1, 5);
            Build.climb(tables, tables.addGroup(3), 3, 0);
            tables.setThrough(2, 1);
            // The thirds 2 and 5 both lost what counts by 0:1 twice; 2 has 6 points over all.
            Check.due("2 by its lot", tables.isThrough(2), true);
            tables.setLot(2, 99);
            Check.due("2 with a worse lot", tables.isThrough(2), false);
            Check.due("5 with a better one", tables.isThrough(5), true);
        });
    }

    private static void throughAsTablesAreNow() {
        Check.test("Promise 22, isThrough: whatever matches are left", () -> {
            GroupTables tables = Build.groups(5);
            throughDue("ten are left", tables, 0, true, true, false, false, false);
            tables.setResult(4, 0, 1, 0);
            throughDue("nine are left", tables, 0, false, true, false, false, true);
            tables.strike(4, 0);
            throughDue("ten again", tables, 0, true, true, false, false, false);
        });
        Check.test("Promise 22, isThrough: tied teams by all rules", () -> {
            GroupTables tables = Build.groups(3);
            tables.setThrough(1, 0);
            Build.tell(tables, 0, 0, 1, 1, 1, 0, 2, 1, 0, 1, 2, 2, 1);
            // 0 and 1 have 4 points and difference 1; 1 has a goal more.
            throughDue("by goals", tables, 0, false, true, false);
            tables.setResult(0, 2, 2, 1);
            throughDue("by lots", tables, 0, true, false, false);
            tables.setCards(0, 1);
            throughDue("by cards", tables, 0, false, true, false);
        });
        Check.test("Promise 22, isThrough: one match decides over the best third", () -> {
            GroupTables tables = Build.climbed(6, 4);
            tables.setThrough(2, 1);
            Check.due("the first by its lot", tables.isThrough(1), true);
            tables.setResult(21, 20, 2, 0);
            Check.due("the last by a goal more", tables.isThrough(21), true);
            Check.due("the first then", tables.isThrough(1), false);
            tables.takeAway(21, 1);
            Check.due("the last less a point", tables.isThrough(21), false);
            Check.due("the first again", tables.isThrough(1), true);
        });
    }
}
