/**
 * The boundary cases of ways and small scores, promises 24 to 27: as many points and one more or
 * less, all ways and none, the numbers of matches and ways, no match left, one, three and ten.
 */
public final class WaysEdgesTest {
    private WaysEdgesTest() {
    }

    public static void main(String[] args) {
        noResult();
        oneMatchLeft();
        everyResult();
        lastOfSixGroups();
        safeAtTheEdge();
        lostAtTheEdge();
        byPointsAlone();
        badWaysOfOneMatch();
        numbersOfMatches();
        numbersOfWays();
        scoresOfMatchesLeft();
        smallScores();
        scoresByTheTable();
        Check.end("WaysEdgesTest");
    }

    private static GroupTables withPlaces(int places, int... sizes) {
        GroupTables tables = Build.groups(sizes);
        tables.setThrough(places, 0);
        return tables;
    }

    private static void safeDue(String what, GroupTables tables, int first, int... due) {
        for (int seat = 0; seat < due.length; seat++) {
            Check.due(what + ", safe " + seat, tables.waysSafe(first + seat), due[seat]);
        }
    }

    private static void lostDue(String what, GroupTables tables, int first, int... due) {
        for (int seat = 0; seat < due.length; seat++) {
            Check.due(what + ", lost " + seat, tables.waysLost(first + seat), due[seat]);
        }
    }

    private static void badDue(String what, GroupTables tables, int first, int... due) {
        for (int seat = 0; seat < due.length; seat++) {
            Check.due(what + ", bad way of " + seat, tables.badWay(first + seat), due[seat]);
        }
    }

    // ---- groups with no result, with one match left, with every result

    /** All teams are alike but for their numbers; the ways were counted by a program of its own. */
    private static void noResult() {
        int[][] safe = {{7, 15}, {144, 306}, {9357, 20_353}};
        int[][] lost = {{15, 7}, {500, 308}, {44_395, 31_947}};
        int[][][] bad = {{{1, 0, 0}, {5, 6, 0}}, {{1, 0, 0, 0}, {5, 6, 0, 0}},
            {{1, 0, 0, 0, 0}, {5, 6, 0, 0, 0}}};
        for (int size = 3; size <= 5; size++) {
            for (int places = 1; places <= 2; places++) {
                int teams = size;
                int leading = places;
                String what = "no result, " + places + " of " + size + " lead on";
                Check.test("Promise 24, waysSafe: " + what, () -> {
                    GroupTables tables = withPlaces(leading, 3, teams);
                    for (int team = 3; team < 3 + teams; team++) {
                        Check.due("safe", tables.waysSafe(team), safe[teams - 3][leading - 1]);
                    }
                });
                Check.test("Promise 25, waysLost: " + what, () -> {
                    GroupTables tables = withPlaces(leading, 3, teams);
                    for (int team = 3; team < 3 + teams; team++) {
                        Check.due("lost", tables.waysLost(team), lost[teams - 3][leading - 1]);
                    }
                });
                Check.test("Promise 26, badWay: " + what, () ->
                        badDue("ways", withPlaces(leading, 3, teams), 3,
                                bad[teams - 3][leading - 1]));
            }
        }
    }

    /** The match that is left is that of the first two teams; all others won against them. */
    private static GroupTables oneLeft(int places, int size) {
        GroupTables tables = withPlaces(places, 5, size);
        Build.climb(tables, 5, size, 1);
        return tables;
    }

    private static void oneMatchLeft() {
        for (int size = 3; size <= 5; size++) {
            int teams = size;
            Check.test("Promises 24 to 26: one match left, 1 of " + size + " leads on", () -> {
                GroupTables tables = oneLeft(1, teams);
                for (int seat = 0; seat < teams; seat++) {
                    boolean leads = seat == teams - 1;
                    Check.due("safe", tables.waysSafe(5 + seat), leads ? 3 : 0);
                    Check.due("lost", tables.waysLost(5 + seat), leads ? 0 : 3);
                    Check.due("bad way", tables.badWay(5 + seat), leads ? -1 : 0);
                }
            });
        }
        Check.test("Promise 24, waysSafe: one match left, 2 lead on", () -> {
            // Of 3 teams the winner is safe; at a draw two have as many points as it, or more.
            safeDue("of 3", oneLeft(2, 3), 5, 1, 1, 3);
            safeDue("of 4", oneLeft(2, 4), 5, 0, 0, 3, 3);
            safeDue("of 5", oneLeft(2, 5), 5, 0, 0, 0, 3, 3);
        });
        Check.test("Promise 25, waysLost: one match left, 2 lead on", () -> {
            lostDue("of 3", oneLeft(2, 3), 5, 1, 1, 0);
            lostDue("of 4", oneLeft(2, 4), 5, 3, 3, 0, 0);
            lostDue("of 5", oneLeft(2, 5), 5, 3, 3, 3, 0, 0);
        });
        Check.test("Promise 26, badWay: one match left, 2 lead on", () -> {
            badDue("of 3", oneLeft(2, 3), 5, 1, 0, -1);
            badDue("of 4", oneLeft(2, 4), 5, 0, 0, -1, -1);
            badDue("of 5", oneLeft(2, 5), 5, 0, 0, 0, -1, -1);
        });
    }

    private static void everyResult() {
        for (int size = 3; size <= 5; size++) {
            for (int places = 1; places <= 2; places++) {
                int teams = size;
                int leading = places;
                String what = "every result, " + places + " of " + size + " lead on: ";
                Check.test("Promise 24, waysSafe: " + what + "1 or 0", () -> {
                    GroupTables tables = Build.climbed(2, teams);
                    tables.setThrough(leading, 0);
                    for (int seat = 0; seat < teams; seat++) {
                        boolean leads = seat >= teams - leading;
                        Check.due("safe", tables.waysSafe(teams + seat), leads ? 1 : 0);
                    }
                });
                Check.test("Promise 25, waysLost: " + what + "0 or 1", () -> {
                    GroupTables tables = Build.climbed(2, teams);
                    tables.setThrough(leading, 0);
                    for (int seat = 0; seat < teams; seat++) {
                        boolean leads = seat >= teams - leading;
                        Check.due("lost", tables.waysLost(teams + seat), leads ? 0 : 1);
                    }
                });
                Check.test("Promise 26, badWay: " + what + "-1 or 0", () -> {
                    GroupTables tables = Build.climbed(2, teams);
                    tables.setThrough(leading, 0);
                    for (int seat = 0; seat < teams; seat++) {
                        boolean leads = seat >= teams - leading;
                        Check.due("bad way", tables.badWay(teams + seat), leads ? -1 : 0);
                    }
                });
                Check.test("Promise 27, scoresThrough: " + what + "1 or 0", () -> {
                    GroupTables tables = Build.climbed(2, teams);
                    tables.setThrough(leading, 0);
                    for (int seat = 0; seat < teams; seat++) {
                        boolean leads = seat >= teams - leading;
                        Check.due("scores", tables.scoresThrough(teams + seat), leads ? 1 : 0);
                    }
                });
            }
        }
    }

    private static void lastOfSixGroups() {
        Check.test("Promises 24 to 27: the last of six groups, the others are not asked", () -> {
            GroupTables tables = Build.groups(5, 5, 5, 5, 5, 3);
            Build.climb(tables, 0, 5, 0);
            Build.climb(tables, 25, 3, 1);
            safeDue("of six", tables, 25, 1, 1, 3);
            lostDue("of six", tables, 25, 1, 1, 0);
            badDue("of six", tables, 25, 1, 0, -1);
            // 0 is second by a draw too, by its lot.
            Check.due("scores of 25", tables.scoresThrough(25), 6);
            Check.due("scores of 26", tables.scoresThrough(26), 3);
            Check.due("scores of 27", tables.scoresThrough(27), 9);
            safeDue("group 4", tables, 20, 20_353, 20_353, 20_353, 20_353, 20_353);
        });
    }

    // ---- fewer, as many and more than places lead on

    private static void safeAtTheEdge() {
        Check.test("Promise 24: safe if fewer others have as many points or more: 1 place", () -> {
            GroupTables tables = Build.climbed(1, 3);
            tables.setThrough(1, 0);
            safeDue("6, 3 and 0", tables, 0, 0, 0, 1);
            tables.takeAway(2, 2);
            safeDue("one point more", tables, 0, 0, 0, 1);
            tables.takeAway(2, 3);
            safeDue("as many points", tables, 0, 0, 0, 0);
            tables.takeAway(2, 4);
            safeDue("one point less", tables, 0, 0, 1, 0);
        });
        Check.test("Promise 24: safe if fewer others have as many points or more: 2 places", () -> {
            GroupTables tables = Build.climbed(1, 4);
            safeDue("9, 6, 3 and 0", tables, 0, 0, 0, 1, 1);
            tables.takeAway(2, 2);
            safeDue("the second has one point more", tables, 0, 0, 0, 1, 1);
            tables.takeAway(2, 3);
            safeDue("the second has as many as the third", tables, 0, 0, 0, 0, 1);
            tables.takeAway(3, 3);
            safeDue("the first has more still", tables, 0, 0, 0, 0, 1);
            tables.takeAway(3, 6);
            safeDue("three have as many", tables, 0, 0, 0, 0, 0);
            tables.takeAway(1, 1);
            safeDue("two have as many", tables, 0, 0, 0, 1, 1);
        });
        Check.test("Promise 24: all teams have as many points: none is safe", () -> {
            GroupTables tables = Build.climbed(1, 5);
            for (int team = 0; team < 5; team++) {
                tables.takeAway(team, 3 * team);
            }
            safeDue("2 places", tables, 0, 0, 0, 0, 0, 0);
            tables.setThrough(1, 0);
            safeDue("1 place", tables, 0, 0, 0, 0, 0, 0);
        });
        Check.test("Promise 24: safe in all of 59049 ways, and in none", () -> {
            GroupTables tables = Build.groups(5);
            for (int team = 1; team < 5; team++) {
                tables.takeAway(team, 13);
            }
            safeDue("the others stay below 0", tables, 0, 59_049);
            tables.setThrough(1, 0);
            safeDue("1 place", tables, 0, 59_049, 0);
            Check.due("bad way", tables.badWay(0), -1);
        });
    }

    private static void lostAtTheEdge() {
        Check.test("Promise 25: lost if as many others or more have more points: 1 place", () -> {
            GroupTables tables = Build.climbed(1, 3);
            tables.setThrough(1, 0);
            lostDue("6, 3 and 0", tables, 0, 1, 1, 0);
            tables.takeAway(2, 2);
            lostDue("one point more", tables, 0, 1, 1, 0);
            tables.takeAway(2, 3);
            lostDue("as many points", tables, 0, 1, 0, 0);
            tables.takeAway(2, 4);
            lostDue("one point less", tables, 0, 1, 0, 1);
        });
        Check.test("Promise 25: lost if as many others or more have more points: 2 places", () -> {
            GroupTables tables = Build.climbed(1, 4);
            lostDue("9, 6, 3 and 0", tables, 0, 1, 1, 0, 0);
            tables.takeAway(2, 3);
            lostDue("the second has as many as the third", tables, 0, 1, 0, 0, 0);
            tables.takeAway(3, 6);
            lostDue("three have as many, one less", tables, 0, 1, 0, 0, 0);
            tables.takeAway(3, 7);
            lostDue("two have one more", tables, 0, 1, 0, 0, 1);
            tables.takeAway(3, 9);
            lostDue("two have more than the last two", tables, 0, 1, 0, 0, 1);
        });
        Check.test("Promise 25: all teams have as many points: none is lost", () -> {
            GroupTables tables = Build.climbed(1, 5);
            for (int team = 0; team < 5; team++) {
                tables.takeAway(team, 3 * team);
            }
            lostDue("2 places", tables, 0, 0, 0, 0, 0, 0);
            tables.setThrough(1, 0);
            lostDue("1 place", tables, 0, 0, 0, 0, 0, 0);
        });
        Check.test("Promise 25: lost in all of 59049 ways, and in none", () -> {
            GroupTables tables = Build.groups(5);
            tables.takeAway(0, 13);
            lostDue("it stays below 0", tables, 0, 59_049);
            tables.takeAway(0, 0);
            for (int team = 1; team < 5; team++) {
                tables.takeAway(team, 12);
            }
            tables.setThrough(1, 0);
            lostDue("no other one comes above 0", tables, 0, 0);
            // An other one comes up to it by 4 wins, as long as it loses all its matches: for each
            // of the 4 the three matches of the last three are free.
            safeDue("an other one comes up to 0", tables, 0, 59_049 - 4 * 27);
        });
    }

    private static void byPointsAlone() {
        Check.test("Promises 24 to 26: by points alone, not by the match of the tied", () -> {
            GroupTables tables = Build.groups(3);
            tables.setThrough(1, 0);
            Build.tell(tables, 0, 0, 1, 20, 0, 0, 2, 0, 1, 1, 2, 20, 0);
            tables.takeAway(2, 3);
            // 0 and 1 have 3 points; 0 won their match, and has the better lot.
            tables.setCards(1, 50);
            Check.due("0 is first", tables.place(0), 0);
            safeDue("neither is safe", tables, 0, 0, 0, 0);
            lostDue("neither is lost", tables, 0, 0, 0, 1);
            badDue("both are not safe", tables, 0, 0, 0, 0);
        });
        Check.test("Promises 24 to 26: points that were taken away count", () -> {
            GroupTables tables = Build.groups(3);
            tables.setThrough(1, 0);
            tables.takeAway(0, 20);
            lostDue("0 is lost in all ways", tables, 0, 27);
            safeDue("0 is safe in no way", tables, 0, 0);
            // Of 1 and 2 each is safe where the other one is lost; else both have as many points.
            Check.due("1 and 2", tables.waysSafe(1), tables.waysSafe(2));
            Check.due("safe and lost", tables.waysSafe(1), tables.waysLost(2));
        });
        Check.test("Promises 24 to 26: the best thirds do not matter", () -> {
            GroupTables tables = Build.groups(3);
            tables.setThrough(2, 6);
            safeDue("6 thirds", tables, 0, 15, 15, 15);
            lostDue("6 thirds", tables, 0, 7, 7, 7);
            badDue("6 thirds", tables, 0, 5, 6, 0);
        });
        Check.test("Promises 24 to 26: cards and lots do not matter", () -> {
            GroupTables tables = Build.groups(3);
            tables.setCards(0, 50);
            tables.setLot(0, 99);
            safeDue("all alike", tables, 0, 15, 15, 15);
            lostDue("all alike", tables, 0, 7, 7, 7);
        });
    }

    // ---- Promise 26

    private static void badWaysOfOneMatch() {
        Check.test("Promise 26: the lower team wins it (0)", () -> {
            GroupTables tables = Build.groups(3);
            tables.setThrough(1, 0);
            Build.tell(tables, 0, 0, 2, 1, 0, 1, 2, 1, 0);
            tables.takeAway(0, 1);
            // 0 has 2 points, 1 has 3: 0 is safe only if it wins, 1 if it does not lose.
            badDue("0-1 is left", tables, 0, 1, 0, 0);
            safeDue("0-1 is left", tables, 0, 1, 2, 0);
        });
        Check.test("Promise 26: it is a draw (1)", () -> {
            GroupTables tables = Build.groups(3);
            Build.tell(tables, 0, 2, 0, 1, 1, 2, 1, 1, 1);
            // 2 has 2 points, 0 and 1 have 1: only at a draw two others have as many as 2.
            badDue("0-1 is left", tables, 0, 1, 0, 1);
            safeDue("0-1 is left", tables, 0, 1, 1, 2);
        });
        Check.test("Promise 26: the lower team loses it (2)", () -> {
            GroupTables tables = Build.groups(3);
            tables.setThrough(1, 0);
            tables.setResult(0, 2, 1, 0);
            tables.setResult(1, 2, 0, 0);
            // 0 has 3 points, 1 has 1: 0 is safe if it does not lose, 1 only if it wins.
            badDue("0-1 is left", tables, 0, 2, 0, 0);
            safeDue("0-1 is left", tables, 0, 2, 1, 0);
        });
        Check.test("Promise 26: -1 if only one of two others can come up to it", () -> {
            GroupTables tables = Build.groups(3, 4);
            Build.tell(tables, 0, 2, 0, 1, 1, 2, 1, 1, 1);
            Build.tell(tables, 3, 0, 3, 2, 2, 1, 3, 2, 2);
            // 2 has 2 points, 0 and 1 have 1 less 1: the winner of 0-1 alone has more than 2.
            tables.takeAway(0, 1);
            tables.takeAway(1, 1);
            badDue("0-1 is left", tables, 0, 1, 0, -1);
            safeDue("0-1 is left", tables, 0, 1, 1, 3);
            lostDue("0-1 is left", tables, 0, 1, 1, 0);
        });
        Check.test("Promise 26: -1 if it is safe in all ways, 0 if in none", () -> {
            GroupTables tables = Build.groups(3);
            tables.setThrough(1, 0);
            tables.takeAway(1, 20);
            tables.takeAway(2, 20);
            badDue("27 ways", tables, 0, -1, 0, 0);
            Check.due("safe", tables.waysSafe(0), 27);
        });
    }

    /** A team that is not safe only if it loses one match as the lower team: 2 * 3^number. */
    private static void numbersOfMatches() {
        Check.test("Promise 26: matches are numbered by the lower team first", () -> {
            GroupTables tables = Build.groups(4);
            tables.setThrough(1, 0);
            // Left are 0-3 and 1-2. 1 has 6 points, 2 has 3; the others stay below.
            Build.tell(tables, 0, 0, 1, 0, 1, 1, 3, 1, 0, 0, 2, 0, 1, 2, 3, 0, 1);
            tables.takeAway(0, 20);
            tables.takeAway(3, 20);
            Check.due("1-2 has the number 1", tables.badWay(1), 2 * 3);
            GroupTables other = Build.groups(4);
            other.setThrough(1, 0);
            // 0 has 6 points, 3 has 3.
            Build.tell(other, 0, 0, 1, 1, 0, 0, 2, 1, 0, 1, 3, 0, 1, 2, 3, 1, 0);
            other.takeAway(1, 20);
            other.takeAway(2, 20);
            Check.due("0-3 has the number 0", other.badWay(0), 2);
        });
        Check.test("Promise 26: matches are numbered then by the other one", () -> {
            GroupTables tables = Build.groups(4);
            tables.setThrough(1, 0);
            // Left are 0-2 and 0-3. 0 has 3 points, 2 has 3 and 3 has 20 less.
            Build.tell(tables, 0, 0, 1, 1, 0, 1, 2, 0, 1, 1, 3, 0, 1, 2, 3, 0, 1);
            tables.takeAway(1, 20);
            tables.takeAway(3, 20);
            // 0 loses to 2 (2) and wins against 3 (0): 6 points each.
            Check.due("0-2 has the number 0", tables.badWay(0), 2);
            tables.takeAway(2, 1);
            // 0 loses to 2 (2) and draws with 3 (1 * 3): 4 points and 5.
            Check.due("0-3 has the number 1", tables.badWay(0), 2 + 3);
        });
        Check.test("Promise 26: the lowest number, of a match that is struck last", () -> {
            GroupTables tables = Build.climbed(1, 4);
            tables.setThrough(1, 0);
            tables.strike(2, 3);
            // 3 has 6 points, 2 has 6: 3 is safe only if it wins, 2 only if it wins.
            badDue("one is left", tables, 0, 0, 0, 1, 0);
            tables.strike(0, 1);
            // The match 0-1 has the number 0 now, 2-3 the number 1.
            badDue("two are left", tables, 0, 0, 0, 3, 0);
        });
    }

    private static void numbersOfWays() {
        Check.test("Promise 26: numbers of ten matches: 2 * 3^3", () -> {
            GroupTables tables = Build.groups(5);
            tables.setThrough(1, 0);
            for (int team = 0; team < 3; team++) {
                tables.takeAway(team, 20);
            }
            // 3 wins the match 3-4 as long as that is 0; 4 comes up to it by the match 0-4.
            Check.due("of 3", tables.badWay(3), 2 * 27);
            Check.due("of 4", tables.badWay(4), 0);
        });
        Check.test("Promise 26: numbers of ten matches: the highest one, 2 * 3^9 and more", () -> {
            GroupTables tables = Build.groups(5);
            tables.setThrough(1, 0);
            for (int team = 0; team < 3; team++) {
                tables.takeAway(team, 20);
            }
            tables.takeAway(4, 12);
            // 4 has to win all its matches, with the numbers 3, 6, 8 and 9, and 3 to lose all.
            Check.due("of 3", tables.badWay(3), 2 * (27 + 729 + 6561 + 19_683));
            Check.due("safe in all but the 27 ways of 0-1, 0-2 and 1-2", tables.waysSafe(3),
                    59_049 - 27);
            Check.due("lost in none", tables.waysLost(3), 0);
            tables.takeAway(4, 13);
            Check.due("of 3 then", tables.badWay(3), -1);
            Check.due("safe in all", tables.waysSafe(3), 59_049);
            tables.takeAway(4, 11);
            Check.due("lost in the 27 ways", tables.waysLost(3), 27);
        });
    }

    // ---- Promise 27

    private static void scoresOfMatchesLeft() {
        int power = 1;
        for (int left = 0; left <= 3; left++) {
            int matches = left;
            int due = power;
            Check.test("Promise 27, scoresThrough: 9 to the power of " + left + ", " + due, () -> {
                GroupTables tables = Build.groups(5, 4, 3);
                Build.climb(tables, 0, 5, matches);
                Build.climb(tables, 5, 4, matches);
                Build.climb(tables, 9, 3, matches);
                // The last of 5 and of 4 teams won all its matches, or can't be overtaken.
                Check.due("through in all", tables.scoresThrough(4), due);
                tables.setThrough(1, 0);
                Check.due("the third one in none", tables.scoresThrough(2), 0);
                int sum = 0;
                for (int team = 9; team < 12; team++) {
                    sum += tables.scoresThrough(team);
                }
                Check.due("one of three is through in each", sum, due);
                tables.setThrough(2, 0);
                sum = 0;
                for (int team = 5; team < 9; team++) {
                    sum += tables.scoresThrough(team);
                }
                Check.due("two of four are through in each", sum, 2 * due);
            });
            power *= 9;
        }
        Check.test("Promise 27, scoresThrough: the matches are left as they were", () -> {
            GroupTables tables = Build.groups(3);
            tables.setResult(1, 2, 3, 1);
            tables.scoresThrough(0);
            Check.due("left", tables.matchesLeft(0), 2);
            Check.due("goals of 0", tables.goals(0), 0);
            Check.due("goals of 1", tables.goals(1), 3);
            Check.throwsDue("0-1 has no result", Check.STATE, () -> tables.strike(0, 1));
            Check.throwsDue("0-2 has no result", Check.STATE, () -> tables.strike(0, 2));
            Check.due("1-2 has one", tables.strike(1, 2), 3);
        });
    }

    /** 0 and 1 drew 0:0 and 0 won against 2 by so many to 0; the match 1-2 is left. */
    private static GroupTables needed(int goals) {
        GroupTables tables = Build.groups(3);
        Build.tell(tables, 0, 0, 1, 0, 0, 0, 2, goals, 0);
        tables.setThrough(1, 0);
        tables.setLot(1, 0);
        tables.setLot(0, 99);
        return tables;
    }

    private static void smallScores() {
        Check.test("Promise 27, scoresThrough: 0 to 2 goals: 2:0 is one of the scores", () -> {
            GroupTables tables = needed(2);
            // 1 is first by 2:0 alone, with the same difference and goals and the better lot.
            Check.due("1 needs 2:0", tables.scoresThrough(1), 1);
            Check.due("0 else", tables.scoresThrough(0), 8);
        });
        Check.test("Promise 27, scoresThrough: 0 to 2 goals: 3:0 is none of the scores", () -> {
            GroupTables tables = needed(3);
            Check.due("1 needs 3:0", tables.scoresThrough(1), 0);
            Check.due("0 in all", tables.scoresThrough(0), 9);
        });
        Check.test("Promise 27, scoresThrough: 0 to 2 goals: 1:0, 2:0 and 2:1", () -> {
            GroupTables tables = needed(1);
            Check.due("1 needs a win", tables.scoresThrough(1), 3);
            tables.setLot(0, 0);
            // By 1:0 it has as many goals and the worse number now.
            Check.due("1 needs 2:0 or 2:1", tables.scoresThrough(1), 2);
        });
        Check.test("Promise 27, scoresThrough: 0 to 2 goals for both teams: 0:2 as well", () -> {
            GroupTables tables = Build.groups(3);
            Build.tell(tables, 0, 0, 2, 0, 0, 0, 1, 2, 0);
            tables.setThrough(1, 0);
            tables.setLot(2, 0);
            tables.setLot(0, 99);
            // 2, which plays against 1 as the higher team, needs two goals and none against it.
            Check.due("2 needs 0:2", tables.scoresThrough(2), 1);
            Build.tell(tables, 0, 0, 1, 3, 0);
            Check.due("2 needs 0:3", tables.scoresThrough(2), 0);
        });
        Check.test("Promise 27, scoresThrough: each of the nine scores counts once", () -> {
            GroupTables tables = Build.groups(3);
            Build.tell(tables, 0, 0, 1, 0, 1, 0, 2, 0, 1);
            tables.setThrough(1, 0);
            // 1 and 2 won against 0 by 1:0: 1 is first by its 3 wins and, by its lot, 3 draws.
            Check.due("1", tables.scoresThrough(1), 6);
            Check.due("2", tables.scoresThrough(2), 3);
            tables.setLot(1, 99);
            Check.due("1 with the worse lot", tables.scoresThrough(1), 3);
            Check.due("2 with the better one", tables.scoresThrough(2), 6);
            Check.due("0", tables.scoresThrough(0), 0);
        });
    }

    private static void scoresByTheTable() {
        Check.test("Promise 27, scoresThrough: a place that leads on: 1 or 2", () -> {
            GroupTables tables = Build.climbed(1, 4);
            tables.strike(2, 3);
            // 2 and 3 have 6 points, 1 has 3.
            Check.due("2 places, 2", tables.scoresThrough(2), 9);
            Check.due("2 places, 3", tables.scoresThrough(3), 9);
            Check.due("2 places, 1", tables.scoresThrough(1), 0);
            tables.setThrough(1, 0);
            // At a draw both have 7 points and are alike in all but their lots.
            Check.due("1 place, 2", tables.scoresThrough(2), 6);
            Check.due("1 place, 3", tables.scoresThrough(3), 3);
        });
        Check.test("Promise 27, scoresThrough: the best thirds are left aside", () -> {
            GroupTables tables = Build.climbed(1, 4);
            tables.setThrough(2, 6);
            Check.due("the third is through", tables.isThrough(1), true);
            Check.due("the third by the places alone", tables.scoresThrough(1), 0);
            tables.strike(0, 1);
            Check.due("with one match left", tables.scoresThrough(1), 0);
            Check.due("the second", tables.scoresThrough(2), 9);
        });
        Check.test("Promise 27, scoresThrough: points taken away and cards count", () -> {
            GroupTables tables = Build.groups(3);
            Build.tell(tables, 0, 0, 1, 0, 1, 0, 2, 0, 1);
            tables.setThrough(1, 0);
            tables.setCards(1, 1);
            Check.due("1 at a draw by cards behind", tables.scoresThrough(1), 3);
            tables.takeAway(2, 1);
            Check.due("1 at a draw by points before", tables.scoresThrough(1), 6);
            tables.takeAway(2, 20);
            tables.takeAway(0, 20);
            Check.due("1 in all", tables.scoresThrough(1), 9);
        });
    }
}
