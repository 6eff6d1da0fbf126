/**
 * The boundary cases of places, teams at places and rules, promises 16 to 18. Where a rule decides,
 * all rules behind it speak for the other team.
 */
public final class TablesEdgesTest {
    private TablesEdgesTest() {
    }

    public static void main(String[] args) {
        placesByResults();
        placesOfSixGroups();
        askedFirst();
        rulePoints();
        ruleAmongTheTied();
        ruleOverAllMatches();
        ruleCards();
        ruleLots();
        notMetYet();
        nothingTakenAwayAmongTheTied();
        stillAlikeAmongThemselves();
        allAlikeGoByAllMatches();
        everyOrderOfFive();
        Check.end("TablesEdgesTest");
    }

    /** Cards and lot that speak against a team, as far as they can. */
    private static void against(GroupTables tables, int team) {
        tables.setCards(team, 50);
        tables.setLot(team, 99);
    }

    // ---- places

    private static void placesByResults() {
        int[][] numbers = {{0, 1, 2}, {0, 1, 2, 3}, {0, 1, 2, 3, 4}};
        int[][] oneLeft = {{2, 0, 1}, {3, 2, 0, 1}, {4, 3, 2, 0, 1}};
        int[][] full = {{2, 1, 0}, {3, 2, 1, 0}, {4, 3, 2, 1, 0}};
        for (int size = 3; size <= 5; size++) {
            int teams = size;
            int at = size - 3;
            Check.test("Promise 16, place: 0 for the first one, no result, " + size, () ->
                    Build.orderDue("by lots", Build.groups(teams), 0, numbers[at]));
            Check.test("Promise 16, place: one match left, " + size + " teams", () -> {
                GroupTables tables = Build.groups(teams);
                Build.climb(tables, 0, teams, 1);
                Build.orderDue("those of the match that is left are last", tables, 0, oneLeft[at]);
            });
            Check.test("Promise 16, place: every result, " + size + " teams", () ->
                    Build.orderDue("by points", Build.climbed(1, teams), 0, full[at]));
            Check.test("Promise 17, teamAt: 0 for the first one, of " + size, () -> {
                Check.due("no result", Build.groups(teams).teamAt(0, 0), 0);
                Check.due("every result", Build.climbed(1, teams).teamAt(0, 0), teams - 1);
            });
            Check.test("Promise 17, teamAt: the last place of " + size, () -> {
                Check.due("no result", Build.groups(teams).teamAt(0, teams - 1), teams - 1);
                Check.due("every result", Build.climbed(1, teams).teamAt(0, teams - 1), 0);
            });
            Check.test("Promise 18, rule: no result, " + size + " teams: lots", () -> {
                GroupTables tables = Build.groups(teams);
                for (int team = 1; team < teams; team++) {
                    Build.ruleDue("lots", tables, 0, team, 7);
                }
            });
            Check.test("Promise 18, rule: one match left, " + size + " teams", () -> {
                GroupTables tables = Build.groups(teams);
                Build.climb(tables, 0, teams, 1);
                Build.ruleDue("those of the match that is left", tables, 0, 1, 7);
                for (int team = 2; team < teams; team++) {
                    Build.ruleDue("others", tables, 1, team, 0);
                }
            });
            Check.test("Promise 18, rule: every result, " + size + " teams: points", () -> {
                GroupTables tables = Build.climbed(1, teams);
                for (int team = 1; team < teams; team++) {
                    Build.ruleDue("points", tables, team - 1, team, 0);
                }
            });
        }
    }

    private static void placesOfSixGroups() {
        Check.test("Promises 16 to 18: of each of six groups its own table", () -> {
            GroupTables tables = Build.groups(3, 4, 5, 5, 4, 3);
            Build.climb(tables, 3, 4, 0);
            Build.climb(tables, 12, 5, 1);
            Build.orderDue("group 0", tables, 0, 0, 1, 2);
            Build.orderDue("group 1", tables, 1, 6, 5, 4, 3);
            Build.orderDue("group 2", tables, 2, 7, 8, 9, 10, 11);
            Build.orderDue("group 3", tables, 3, 16, 15, 14, 12, 13);
            Build.orderDue("group 4", tables, 4, 17, 18, 19, 20);
            Build.orderDue("group 5", tables, 5, 21, 22, 23);
            Build.ruleDue("group 1", tables, 3, 6, 0);
            Build.ruleDue("group 3", tables, 12, 13, 7);
            Build.ruleDue("group 5", tables, 22, 23, 7);
        });
        Check.test("Promises 16 to 18: the last of six groups of 5", () -> {
            GroupTables tables = Build.groups(5, 5, 5, 5, 5, 5);
            tables.setLot(29, 24);
            Build.orderDue("by lots", tables, 5, 29, 25, 26, 27, 28);
            Build.ruleDue("by lots", tables, 29, 25, 7);
        });
    }

    /** A table is that of the group and of the moment, whatever was asked before. */
    private static void askedFirst() {
        Check.test("Promise 16, place: asked first, and again after a result", () -> {
            GroupTables tables = Build.groups(3, 4);
            Check.due("no result", tables.place(6), 3);
            tables.setResult(6, 3, 1, 0);
            Check.due("one result", tables.place(6), 0);
            tables.strike(6, 3);
            Check.due("no result again", tables.place(6), 3);
            tables.setLot(6, 0);
            Check.due("another lot", tables.place(6), 0);
        });
        Check.test("Promise 17, teamAt: asked first, and again after a result", () -> {
            GroupTables tables = Build.groups(3, 4);
            Check.due("no result", tables.teamAt(1, 0), 3);
            tables.setResult(6, 3, 1, 0);
            Check.due("one result", tables.teamAt(1, 0), 6);
            tables.takeAway(6, 4);
            Check.due("points taken away", tables.teamAt(1, 0), 4);
        });
        Check.test("Promise 18, rule: asked first, and again after a result", () -> {
            GroupTables tables = Build.groups(3, 4);
            Check.due("no result", tables.rule(6, 3), 7);
            tables.setResult(6, 3, 1, 0);
            Check.due("one result", tables.rule(6, 3), 0);
            tables.takeAway(6, 3);
            Check.due("points taken away", tables.rule(6, 3), 1);
            tables.strike(6, 3);
            tables.takeAway(6, 0);
            tables.setCards(6, 1);
            Check.due("cards", tables.rule(6, 3), 6);
        });
        Check.test("Promises 16 to 18: asked of two groups in turn", () -> {
            GroupTables tables = Build.groups(5, 5);
            Build.climb(tables, 0, 5, 0);
            for (int seat = 0; seat < 5; seat++) {
                Check.due("place in group 0", tables.place(seat), 4 - seat);
                Check.due("place in group 1", tables.place(5 + seat), seat);
            }
            for (int place = 0; place < 5; place++) {
                Check.due("team of group 0", tables.teamAt(0, place), 4 - place);
                Check.due("team of group 1", tables.teamAt(1, place), 5 + place);
            }
            for (int seat = 1; seat < 5; seat++) {
                Check.due("rule in group 0", tables.rule(0, seat), 0);
                Check.due("rule in group 1", tables.rule(5, 5 + seat), 7);
            }
        });
    }

    // ---- rules 0 to 3

    private static void rulePoints() {
        Check.test("Promise 18, rule 0: one point more, all else against it", () -> {
            GroupTables tables = Build.groups(4);
            // 0 lost to 1 by 0:20 and has 4 points; 1 has 3.
            Build.tell(tables, 0, 0, 1, 0, 20, 0, 2, 1, 0, 0, 3, 0, 0, 2, 3, 5, 5);
            against(tables, 0);
            Build.ruleDue("4 and 3 points", tables, 0, 1, 0);
            Check.due("place of 0", tables.place(0), 0);
            Check.due("place of 1", tables.place(1), 1);
        });
        Check.test("Promise 18, rule 0: points below 0: -19 before -20", () -> {
            GroupTables tables = Build.groups(3);
            tables.takeAway(0, 20);
            tables.takeAway(1, 19);
            tables.takeAway(2, 20);
            against(tables, 1);
            Build.orderDue("by points", tables, 0, 1, 0, 2);
            Build.ruleDue("-19 and -20", tables, 1, 0, 0);
            Build.ruleDue("-20 and -20", tables, 0, 2, 7);
        });
        Check.test("Promise 18, rule 0: 0 before -1", () -> {
            GroupTables tables = Build.groups(3);
            tables.takeAway(0, 1);
            against(tables, 2);
            Build.orderDue("by points", tables, 0, 1, 2, 0);
            Build.ruleDue("0 and -1", tables, 0, 2, 0);
        });
    }

    private static void ruleAmongTheTied() {
        Check.test("Promise 18, rule 1: points among the tied, all else against it", () -> {
            GroupTables tables = Build.groups(3);
            Build.tell(tables, 0, 0, 1, 0, 1, 0, 2, 20, 0, 1, 2, 0, 1);
            tables.takeAway(2, 3);
            // 0 and 1 have 3 points; 1 won against 0.
            against(tables, 1);
            Build.orderDue("by their match", tables, 0, 1, 0, 2);
            Build.ruleDue("by their match", tables, 0, 1, 1);
        });
        Check.test("Promise 18, rule 2: one goal of difference among the tied", () -> {
            GroupTables tables = Build.groups(4);
            // A ring of 0, 1 and 2: the differences are 1, -1 and 0. Over all matches, with 3,
            // they are the other way round.
            Build.tell(tables, 0, 0, 1, 2, 0, 1, 2, 5, 4, 2, 0, 1, 0);
            Build.tell(tables, 0, 0, 3, 1, 0, 1, 3, 20, 0, 2, 3, 9, 0);
            against(tables, 0);
            Build.orderDue("by difference", tables, 0, 0, 2, 1, 3);
            Build.ruleDue("1 and -1", tables, 0, 1, 2);
            Build.ruleDue("1 and 0", tables, 0, 2, 2);
            Build.ruleDue("0 and -1", tables, 1, 2, 2);
        });
        Check.test("Promise 18, rule 3: one goal more among the tied", () -> {
            GroupTables tables = Build.groups(4);
            // A ring of 2:3, 1:2 and 0:1: the goals are 3 of 0, 4 of 1 and 2 of 2.
            Build.tell(tables, 0, 1, 0, 3, 2, 2, 1, 2, 1, 0, 2, 1, 0);
            Build.tell(tables, 0, 0, 3, 2, 0, 1, 3, 1, 0, 2, 3, 20, 0);
            against(tables, 1);
            Build.orderDue("by goals", tables, 0, 1, 0, 2, 3);
            Build.ruleDue("4 and 3", tables, 1, 0, 3);
            Build.ruleDue("3 and 2", tables, 0, 2, 3);
            Build.ruleDue("4 and 2", tables, 1, 2, 3);
        });
        Check.test("Promise 16: more goals among the tied do not outdo their difference", () -> {
            GroupTables tables = Build.groups(3);
            // A ring: the differences are 1, -1 and 0, the goals 2, 20 and 20.
            Build.tell(tables, 0, 0, 1, 2, 0, 1, 2, 20, 19, 2, 0, 1, 0);
            Build.orderDue("by difference", tables, 0, 0, 2, 1);
            Build.ruleDue("2 goals and 20", tables, 0, 2, 2);
        });
        Check.test("Promise 16: the match of two tied teams, won by either", () -> {
            GroupTables tables = Build.groups(3);
            Build.tell(tables, 0, 0, 1, 1, 0, 1, 2, 9, 0);
            Build.orderDue("0 won", tables, 0, 0, 1, 2);
            Build.tell(tables, 0, 0, 1, 0, 1, 0, 2, 9, 0);
            tables.strike(1, 2);
            Build.orderDue("1 won", tables, 0, 1, 0, 2);
            Build.ruleDue("1 won", tables, 0, 1, 1);
        });
    }

    // ---- rules 4 to 7

    /** In a group of 4, 0 and 1 drew, and both won against 2 by these scores; 3 has not played. */
    private static GroupTables drawnPair(int goals0, int against0, int goals1, int against1) {
        GroupTables tables = Build.groups(4);
        Build.tell(tables, 0, 0, 1, 3, 3, 0, 2, goals0, against0, 1, 2, goals1, against1);
        return tables;
    }

    private static void ruleOverAllMatches() {
        Check.test("Promise 18, rule 4: one goal of difference", () -> {
            GroupTables tables = drawnPair(20, 18, 1, 0);
            Build.ruleDue("2 and 1", tables, 0, 1, 4);
            tables = drawnPair(2, 0, 20, 19);
            against(tables, 0);
            Build.orderDue("2 before 1", tables, 0, 0, 1, 3, 2);
            Build.ruleDue("2 and 1", tables, 0, 1, 4);
            tables = drawnPair(20, 19, 2, 0);
            against(tables, 1);
            Build.orderDue("the higher team before", tables, 0, 1, 0, 3, 2);
        });
        Check.test("Promise 18, rule 4: differences below 0", () -> {
            GroupTables tables = Build.groups(3);
            Build.tell(tables, 0, 0, 2, 0, 20, 1, 2, 0, 19);
            against(tables, 1);
            Build.orderDue("-19 before -20", tables, 0, 2, 1, 0);
            Build.ruleDue("-19 and -20", tables, 0, 1, 4);
        });
        Check.test("Promise 18, rule 5: one goal more", () -> {
            GroupTables tables = drawnPair(3, 2, 2, 1);
            against(tables, 0);
            Build.orderDue("6 before 5", tables, 0, 0, 1, 3, 2);
            Build.ruleDue("6 and 5", tables, 0, 1, 5);
            tables = drawnPair(19, 18, 20, 19);
            against(tables, 1);
            Build.orderDue("23 before 22", tables, 0, 1, 0, 3, 2);
            Build.ruleDue("23 and 22", tables, 0, 1, 5);
        });
    }

    private static void ruleCards() {
        Check.test("Promise 18, rule 6: cards 0 and 1", () -> {
            GroupTables tables = drawnPair(1, 0, 1, 0);
            tables.setCards(0, 1);
            Build.orderDue("0 before 1", tables, 0, 1, 0, 3, 2);
            Build.ruleDue("0 and 1", tables, 0, 1, 6);
        });
        Check.test("Promise 18, rule 6: cards 49 and 50, the lots against it", () -> {
            GroupTables tables = drawnPair(1, 0, 1, 0);
            tables.setCards(0, 49);
            tables.setCards(1, 50);
            tables.setLot(0, 99);
            tables.setLot(1, 0);
            Build.orderDue("49 before 50", tables, 0, 0, 1, 3, 2);
            Build.ruleDue("49 and 50", tables, 0, 1, 6);
        });
        Check.test("Promise 18, rule 6: cards 0 and 50, without a result", () -> {
            GroupTables tables = Build.groups(3, 5);
            tables.setCards(3, 50);
            Build.orderDue("0 before 50", tables, 1, 4, 5, 6, 7, 3);
            Build.ruleDue("0 and 50", tables, 3, 7, 6);
        });
    }

    private static void ruleLots() {
        Check.test("Promise 18, rule 7: lots 0 and 1, 98 and 99", () -> {
            GroupTables tables = drawnPair(1, 0, 1, 0);
            tables.setLot(0, 1);
            tables.setLot(1, 0);
            Build.orderDue("0 before 1", tables, 0, 1, 0, 3, 2);
            Build.ruleDue("0 and 1", tables, 0, 1, 7);
            tables.setLot(0, 99);
            tables.setLot(1, 98);
            Build.orderDue("98 before 99", tables, 0, 1, 0, 3, 2);
            Build.ruleDue("98 and 99", tables, 0, 1, 7);
        });
        Check.test("Promise 18, rule 7: the same lot", () -> {
            GroupTables tables = drawnPair(1, 0, 1, 0);
            for (int lot : new int[] {0, 50, 99}) {
                tables.setLot(0, lot);
                tables.setLot(1, lot);
                Build.orderDue("the lower number before", tables, 0, 0, 1, 3, 2);
                Build.ruleDue("lot " + lot, tables, 0, 1, 7);
            }
        });
        Check.test("Promise 18, rule 7: every two of five with the same lot", () -> {
            GroupTables tables = Build.groups(5);
            for (int team = 0; team < 5; team++) {
                tables.setLot(team, 99);
            }
            for (int team = 0; team < 5; team++) {
                for (int other = team + 1; other < 5; other++) {
                    Build.ruleDue("lot 99", tables, team, other, 7);
                }
            }
        });
    }

    // ---- the matches of the tied

    private static void notMetYet() {
        Check.test("Promise 18: two tied teams that have not met are alike", () -> {
            GroupTables tables = Build.groups(4);
            Build.tell(tables, 0, 0, 2, 1, 0, 1, 3, 5, 0);
            Build.orderDue("by difference", tables, 0, 1, 0, 2, 3);
            Build.ruleDue("1 and 0", tables, 0, 1, 4);
            Build.ruleDue("2 and 3", tables, 2, 3, 4);
        });
        Check.test("Promise 18: of three tied teams two have met", () -> {
            GroupTables tables = Build.groups(5);
            // 0 drew with 1 by 2:2, 2 drew with 3 by 0:0, so 0, 1, 2 and 3 have 1 point each; among
            // them all have 1 point and difference 0, and the goals are 2, 2, 0 and 0.
            Build.tell(tables, 0, 0, 1, 2, 2, 2, 3, 0, 0);
            Build.orderDue("by goals among the tied", tables, 0, 0, 1, 2, 3, 4);
            Build.ruleDue("2 and 0 goals", tables, 1, 2, 3);
            Build.ruleDue("alike", tables, 0, 1, 7);
            tables.strike(2, 3);
            Build.ruleDue("0 and 1 alone", tables, 0, 1, 7);
            tables.takeAway(0, 1);
            tables.takeAway(1, 1);
            // All five have 0 points; only 0 and 1 have a match, a draw that counts among them.
            Build.orderDue("a draw before no match", tables, 0, 0, 1, 2, 3, 4);
            Build.ruleDue("a draw and no match", tables, 1, 4, 1);
            Build.ruleDue("no match and no match", tables, 2, 4, 7);
        });
    }

    private static void nothingTakenAwayAmongTheTied() {
        Check.test("Promise 16: among the tied nothing is taken away", () -> {
            GroupTables tables = Build.groups(3);
            // 0 won both, less 3: 3 points, as 1 has, which lost to 0.
            Build.tell(tables, 0, 0, 1, 1, 0, 0, 2, 1, 0, 1, 2, 20, 0);
            tables.takeAway(0, 3);
            against(tables, 0);
            Build.orderDue("0 won against 1", tables, 0, 0, 1, 2);
            Build.ruleDue("0 won against 1", tables, 0, 1, 1);
        });
        Check.test("Promise 16: all tied at -20", () -> {
            GroupTables tables = Build.groups(3);
            for (int team = 0; team < 3; team++) {
                tables.takeAway(team, 20);
            }
            Build.orderDue("by lots", tables, 0, 0, 1, 2);
            Build.ruleDue("by lots", tables, 0, 2, 7);
        });
        Check.test("Promise 16: tied only by points that were taken away", () -> {
            GroupTables tables = Build.climbed(1, 4);
            // 9, 6, 3 and 0 points, all taken away: the order among the four is as before.
            for (int team = 0; team < 4; team++) {
                tables.takeAway(team, 3 * team);
            }
            Build.orderDue("by points among the tied", tables, 0, 3, 2, 1, 0);
            Build.ruleDue("by points among the tied", tables, 0, 1, 1);
            Build.ruleDue("by points among the tied", tables, 0, 3, 1);
        });
    }

    private static void stillAlikeAmongThemselves() {
        Check.test("Promise 16: of three tied two still alike: their match alone", () -> {
            GroupTables tables = Build.groups(3);
            // A ring of 2:1, 1:0, 1:0: goals 2, 2 and 1; 0 won against 1.
            Build.tell(tables, 0, 0, 1, 2, 1, 1, 2, 1, 0, 2, 0, 1, 0);
            against(tables, 0);
            Build.orderDue("0 before 1", tables, 0, 0, 1, 2);
            Build.ruleDue("2 and 1 goals", tables, 0, 2, 3);
            Build.ruleDue("2 and 1 goals", tables, 1, 2, 3);
            Build.ruleDue("the match of 0 and 1", tables, 0, 1, 1);
        });
        Check.test("Promise 16: of four tied three still alike: by their matches alone", () -> {
            GroupTables tables = Build.groups(4);
            // 0 beats all and loses 6 points. Of 1, 2 and 3 each has 3 points, difference -2 and 2
            // goals among the four; among the three the differences are 1, -1 and 0.
            Build.tell(tables, 0, 0, 1, 3, 0, 0, 2, 2, 1, 0, 3, 3, 1);
            Build.tell(tables, 0, 1, 2, 2, 0, 2, 3, 1, 0, 3, 1, 1, 0);
            tables.takeAway(0, 6);
            against(tables, 1);
            Build.orderDue("by the three alone", tables, 0, 0, 1, 3, 2);
            Build.ruleDue("among the four", tables, 0, 3, 1);
            Build.ruleDue("among the three", tables, 1, 2, 2);
            Build.ruleDue("among the three", tables, 2, 3, 2);
        });
        Check.test("Promise 16: of four tied three, of these two still alike", () -> {
            GroupTables tables = Build.groups(4);
            // 3 beats 0, 1 and 2, and loses 6 points. These are alike among the four; among the
            // three 2 has a goal less; of the two 0 won against 1.
            Build.tell(tables, 0, 3, 0, 1, 0, 3, 1, 1, 0, 3, 2, 2, 1);
            Build.tell(tables, 0, 0, 1, 2, 1, 1, 2, 1, 0, 2, 0, 1, 0);
            tables.takeAway(3, 6);
            against(tables, 0);
            Build.orderDue("four, three, two", tables, 0, 3, 0, 1, 2);
            Build.ruleDue("among the four", tables, 3, 0, 1);
            Build.ruleDue("among the three", tables, 1, 2, 3);
            Build.ruleDue("among the two", tables, 0, 1, 1);
        });
        Check.test("Promise 16: of five tied four, of these three, of these two", () -> {
            GroupTables tables = Build.groups(5);
            // All have 1 point. Among the five 4 has 1 and the others 4 points, difference 0 and 2
            // goals; among the four 3 has 3 points and the others 4; among the three 2 has a goal
            // less; of the two 0 won against 1.
            Build.tell(tables, 0, 0, 1, 2, 1, 1, 2, 1, 0, 2, 0, 1, 0);
            Build.tell(tables, 0, 0, 3, 0, 0, 1, 3, 0, 0, 2, 3, 1, 1, 3, 4, 1, 1);
            for (int team = 0; team < 4; team++) {
                tables.takeAway(team, 3);
                tables.setCards(team, 50 - team);
            }
            Build.orderDue("five, four, three, two", tables, 0, 0, 1, 2, 3, 4);
            Build.ruleDue("among the five", tables, 0, 4, 1);
            Build.ruleDue("among the five", tables, 3, 4, 1);
            Build.ruleDue("among the four", tables, 2, 3, 1);
            Build.ruleDue("among the three", tables, 0, 2, 3);
            Build.ruleDue("among the three", tables, 1, 2, 3);
            Build.ruleDue("among the two", tables, 0, 1, 1);
        });
        Check.test("Promise 16: of five tied two and three still alike, each by themselves", () -> {
            GroupTables tables = Build.groups(5);
            // 0 and 1 drew, beat the others by the same scores and lose 7 points. Of 2, 3 and 4
            // each has 3 points, difference -4 and 3 goals among the five; among the three the
            // differences are 2, -2 and 0.
            Build.tell(tables, 0, 0, 1, 2, 2, 0, 2, 3, 0, 0, 3, 2, 1, 0, 4, 3, 1);
            Build.tell(tables, 0, 1, 2, 3, 0, 1, 3, 2, 1, 1, 4, 3, 1);
            Build.tell(tables, 0, 2, 3, 3, 0, 3, 4, 1, 0, 4, 2, 1, 0);
            tables.takeAway(0, 7);
            tables.takeAway(1, 7);
            tables.setCards(0, 1);
            against(tables, 2);
            Build.orderDue("two and three", tables, 0, 1, 0, 2, 4, 3);
            Build.ruleDue("the two, alike over all", tables, 0, 1, 6);
            Build.ruleDue("among the five", tables, 0, 4, 1);
            Build.ruleDue("among the three", tables, 2, 3, 2);
            Build.ruleDue("among the three", tables, 3, 4, 2);
        });
    }

    private static void allAlikeGoByAllMatches() {
        Check.test("Promise 16: all alike among themselves: not by a match of two", () -> {
            GroupTables tables = Build.groups(4);
            // A ring of 1:0; against 3 the team 0 has the better difference, 1 and 2 are alike.
            Build.tell(tables, 0, 0, 1, 1, 0, 1, 2, 1, 0, 2, 0, 1, 0);
            Build.tell(tables, 0, 0, 3, 3, 0, 1, 3, 1, 0, 2, 3, 1, 0);
            tables.setCards(1, 1);
            Build.orderDue("1 won against 2", tables, 0, 0, 2, 1, 3);
            Build.ruleDue("by difference", tables, 0, 1, 4);
            Build.ruleDue("by cards", tables, 1, 2, 6);
        });
        Check.test("Promise 16: all alike: difference, goals, cards and lots in this order", () -> {
            GroupTables tables = Build.groups(5);
            // 0 to 3 drew all their matches by 1:1; against 4: 1:0, 2:0, 2:1 and 1:0.
            Build.tell(tables, 0, 0, 1, 1, 1, 0, 2, 1, 1, 0, 3, 1, 1);
            Build.tell(tables, 0, 1, 2, 1, 1, 1, 3, 1, 1, 2, 3, 1, 1);
            Build.tell(tables, 0, 0, 4, 1, 0, 1, 4, 2, 0, 2, 4, 2, 1, 3, 4, 1, 0);
            against(tables, 1);
            tables.setCards(2, 1);
            tables.setCards(0, 1);
            tables.setLot(3, 99);
            Build.orderDue("each rule once", tables, 0, 1, 2, 3, 0, 4);
            Build.ruleDue("difference", tables, 1, 2, 4);
            Build.ruleDue("goals", tables, 2, 3, 5);
            Build.ruleDue("cards", tables, 3, 0, 6);
            Build.ruleDue("points", tables, 4, 0, 0);
        });
        Check.test("Promise 16: all of five alike, by whatever goals", () -> {
            for (int goals : new int[] {0, 20}) {
                GroupTables tables = Build.groups(5);
                for (int lower = 0; lower < 5; lower++) {
                    for (int upper = lower + 1; upper < 5; upper++) {
                        tables.setResult(lower, upper, goals, goals);
                    }
                }
                tables.setLot(4, 0);
                tables.setLot(0, 5);
                Build.orderDue("by lots", tables, 0, 4, 1, 2, 3, 0);
                Build.ruleDue("by lots", tables, 0, 4, 7);
            }
        });
    }

    /** Each of the 120 orders of five teams, by points and by lots. */
    private static void everyOrderOfFive() {
        Check.test("Promises 16 and 17: every order of five teams by points", () -> {
            for (int order = 0; order < 120; order++) {
                int[] teams = ordered(order);
                GroupTables tables = Build.groups(5);
                for (int place = 0; place < 5; place++) {
                    tables.takeAway(teams[place], place);
                }
                Build.orderDue("order " + order, tables, 0, teams);
            }
        });
        Check.test("Promises 16 and 17: every order of five teams by lots", () -> {
            for (int order = 0; order < 120; order++) {
                int[] teams = ordered(order);
                GroupTables tables = Build.groups(5);
                for (int place = 0; place < 5; place++) {
                    tables.setLot(teams[place], 95 + place);
                }
                Build.orderDue("order " + order, tables, 0, teams);
            }
        });
    }

    private static int[] ordered(int order) {
        int[] teams = {0, 1, 2, 3, 4};
        int rest = order;
        for (int place = 0; place < 4; place++) {
            int choices = 5 - place;
            int chosen = place + rest % choices;
            rest /= choices;
            int team = teams[chosen];
            teams[chosen] = teams[place];
            teams[place] = team;
        }
        return teams;
    }
}
