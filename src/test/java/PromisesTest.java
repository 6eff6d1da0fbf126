/**
 * Each promise of the document by itself: ordinary inputs, the edges that it names, wrong inputs.
 * The numbers that are due were worked out by hand from the document's words.
 */
public final class PromisesTest {
    private static final int LEAST = Integer.MIN_VALUE;
    private static final int MOST = Integer.MAX_VALUE;

    private PromisesTest() {
    }

    public static void main(String[] args) {
        promise1NewObject();
        promise2AddGroup();
        promise3SetResult();
        promise4Strike();
        promise5TakeAway();
        promise6SetCards();
        promise7SetLot();
        promise8SetThrough();
        promise9Groups();
        promise10Teams();
        promise11GroupOf();
        promise12Played();
        promise13Points();
        promise14Difference();
        promise15Goals();
        promise16Place();
        promise16PlaceOverAllMatches();
        promise17TeamAt();
        promise18Rule();
        promise18RuleAmongFewer();
        promise18RuleWithMissingMatches();
        promise19MatchesLeft();
        promise20ThirdPoints();
        promise20ThirdPointsOfLikeGroups();
        promise21ThirdRank();
        promise21ThirdRankByCountingMatches();
        promise22IsThrough();
        promise23Ways();
        promise24WaysSafe();
        promise25WaysLost();
        promise26BadWay();
        promise27ScoresThrough();
        thrownCallsChangeNothing();
        Check.end("PromisesTest");
    }

    private static void promise1NewObject() {
        GroupTables tables = new GroupTables();
        Check.due("1: groups", tables.groups(), 0);
        Check.due("1: teams", tables.teams(), 0);
        Check.throwsDue("1: no team", Check.INDEX, () -> tables.points(0));
        Check.throwsDue("1: no group", Check.INDEX, () -> tables.ways(0));
        GroupTables other = new GroupTables();
        tables.addGroup(3);
        Check.due("1: another object has its own groups", other.groups(), 0);
    }

    private static void promise2AddGroup() {
        GroupTables tables = new GroupTables();
        for (int wrong : new int[] {LEAST, -1, 0, 2, 6, MOST}) {
            Check.throwsDue("2: size " + wrong, Check.ARGUMENT, () -> tables.addGroup(wrong));
        }
        int[] sizes = {3, 5, 4, 5, 5, 3};
        int[] firsts = {0, 3, 8, 12, 17, 22};
        for (int group = 0; group < 6; group++) {
            Check.due("2: first of group " + group, tables.addGroup(sizes[group]), firsts[group]);
        }
        Check.throwsDue("2: a seventh group", Check.STATE, () -> tables.addGroup(3));
        Check.throwsDue("2: a seventh group of 2", Check.ARGUMENT, () -> tables.addGroup(2));
        Check.throwsDue("2: a seventh group of 6", Check.ARGUMENT, () -> tables.addGroup(6));
        Check.due("2: groups", tables.groups(), 6);
        Check.due("2: teams", tables.teams(), 25);
        for (int team = 0; team < 25; team++) {
            Check.due("2: points of a new team", tables.points(team), 0);
            Check.due("2: cards of a new team", tables.setCards(team, 0), 0);
            Check.due("2: lot of a new team", tables.setLot(team, team), team);
        }
    }

    private static void promise3SetResult() {
        GroupTables tables = Build.groups(3, 4);
        Check.due("3: first result", tables.setResult(0, 1, 2, 1), 2);
        Check.due("3: in place of another one", tables.setResult(0, 1, 0, 3), 2);
        Check.due("3: points of 0", tables.points(0), 0);
        Check.due("3: points of 1", tables.points(1), 3);
        Check.due("3: told from the other side", tables.setResult(1, 0, 1, 1), 2);
        Check.due("3: points of 0 then", tables.points(0), 1);
        Check.due("3: goals of 1 then", tables.goals(1), 1);
        Check.due("3: higher team first", tables.setResult(6, 3, 20, 0), 5);
        Check.due("3: difference of 6", tables.difference(6), 20);
        Check.due("3: difference of 3", tables.difference(3), -20);
        Check.due("3: 0 to 20", tables.setResult(6, 3, 0, 20), 5);
        for (int wrong : new int[] {LEAST, -1, 7, 30, MOST}) {
            Check.throwsDue("3: team " + wrong, Check.INDEX,
                    () -> tables.setResult(wrong, 0, 0, 0));
            Check.throwsDue("3: other " + wrong, Check.INDEX,
                    () -> tables.setResult(0, wrong, 0, 0));
            Check.throwsDue("3: both " + wrong, Check.INDEX,
                    () -> tables.setResult(wrong, wrong, 21, 0));
        }
        for (int wrong : new int[] {LEAST, -1, 21, MOST}) {
            Check.throwsDue("3: goals " + wrong, Check.ARGUMENT,
                    () -> tables.setResult(0, 1, wrong, 0));
            Check.throwsDue("3: others " + wrong, Check.ARGUMENT,
                    () -> tables.setResult(0, 1, 0, wrong));
            Check.throwsDue("3: no team and goals " + wrong, Check.INDEX,
                    () -> tables.setResult(7, 1, wrong, 0));
        }
        Check.throwsDue("3: the same", Check.ARGUMENT, () -> tables.setResult(2, 2, 0, 0));
        Check.throwsDue("3: not of one group", Check.ARGUMENT, () -> tables.setResult(2, 3, 0, 0));
        Check.due("3: nothing changed", tables.matchesLeft(0), 2);
        Check.due("3: nothing changed in 1", tables.matchesLeft(1), 5);
        Check.due("3: the result is the one before", tables.goals(0), 1);
    }

    private static void promise4Strike() {
        GroupTables tables = Build.groups(5, 3);
        Build.tell(tables, 0, 0, 1, 2, 0, 0, 2, 1, 1, 3, 4, 0, 3);
        Check.due("4: strike", tables.strike(0, 1), 8);
        Check.due("4: points without it", tables.points(0), 1);
        Check.due("4: goals without it", tables.goals(0), 1);
        Check.due("4: played without it", tables.played(1), 0);
        Check.throwsDue("4: twice", Check.STATE, () -> tables.strike(0, 1));
        Check.throwsDue("4: twice, from the other side", Check.STATE, () -> tables.strike(1, 0));
        Check.due("4: from the other side", tables.strike(4, 3), 9);
        Check.due("4: told again", tables.setResult(0, 1, 0, 0), 8);
        Check.due("4: struck again", tables.strike(0, 1), 9);
        for (int wrong : new int[] {LEAST, -1, 8, 30, MOST}) {
            Check.throwsDue("4: team " + wrong, Check.INDEX, () -> tables.strike(wrong, 1));
            Check.throwsDue("4: other " + wrong, Check.INDEX, () -> tables.strike(1, wrong));
        }
        Check.throwsDue("4: the same", Check.ARGUMENT, () -> tables.strike(3, 3));
        Check.throwsDue("4: not of one group", Check.ARGUMENT, () -> tables.strike(4, 5));
        Check.throwsDue("4: no result", Check.STATE, () -> tables.strike(6, 7));
    }

    private static void promise5TakeAway() {
        GroupTables tables = Build.groups(3, 3);
        Build.tell(tables, 3, 0, 1, 1, 0);
        Check.due("5: first", tables.takeAway(3, 20), 0);
        Check.due("5: below 0", tables.points(3), -17);
        Check.due("5: set, not added", tables.takeAway(3, 2), 20);
        Check.due("5: points", tables.points(3), 1);
        Check.due("5: back to 0", tables.takeAway(3, 0), 2);
        Check.due("5: points back", tables.points(3), 3);
        Check.due("5: of another team", tables.takeAway(4, 1), 0);
        for (int wrong : new int[] {LEAST, -1, 6, MOST}) {
            Check.throwsDue("5: team " + wrong, Check.INDEX, () -> tables.takeAway(wrong, 1));
            Check.throwsDue("5: team and points", Check.INDEX, () -> tables.takeAway(wrong, 21));
        }
        for (int wrong : new int[] {LEAST, -1, 21, MOST}) {
            Check.throwsDue("5: points " + wrong, Check.ARGUMENT, () -> tables.takeAway(4, wrong));
        }
        Check.due("5: nothing changed", tables.takeAway(4, 1), 1);
    }

    private static void promise6SetCards() {
        GroupTables tables = Build.groups(3, 3);
        Check.due("6: first", tables.setCards(4, 50), 0);
        Check.due("6: second", tables.setCards(4, 7), 50);
        Check.due("6: back to 0", tables.setCards(4, 0), 7);
        tables.setCards(3, 1);
        Build.orderDue("6: fewer are better", tables, 1, 4, 5, 3);
        Check.due("6: points are as before", tables.points(3), 0);
        for (int wrong : new int[] {LEAST, -1, 6, MOST}) {
            Check.throwsDue("6: team " + wrong, Check.INDEX, () -> tables.setCards(wrong, 1));
            Check.throwsDue("6: team and points", Check.INDEX, () -> tables.setCards(wrong, 51));
        }
        for (int wrong : new int[] {LEAST, -1, 51, MOST}) {
            Check.throwsDue("6: points " + wrong, Check.ARGUMENT, () -> tables.setCards(3, wrong));
        }
        Check.due("6: nothing changed", tables.setCards(3, 0), 1);
    }

    private static void promise7SetLot() {
        GroupTables tables = Build.groups(3, 4);
        Check.due("7: at first its number", tables.setLot(5, 99), 5);
        Check.due("7: second", tables.setLot(5, 0), 99);
        Build.orderDue("7: a lower one is better", tables, 1, 5, 3, 4, 6);
        Check.due("7: third", tables.setLot(5, 3), 0);
        Build.orderDue("7: of the same lot the lower number", tables, 1, 3, 5, 4, 6);
        Check.due("7: of team 0", tables.setLot(0, 2), 0);
        Build.orderDue("7: of the same lot the lower number, group 0", tables, 0, 1, 0, 2);
        for (int wrong : new int[] {LEAST, -1, 7, MOST}) {
            Check.throwsDue("7: team " + wrong, Check.INDEX, () -> tables.setLot(wrong, 1));
            Check.throwsDue("7: team and lot", Check.INDEX, () -> tables.setLot(wrong, 100));
        }
        for (int wrong : new int[] {LEAST, -1, 100, MOST}) {
            Check.throwsDue("7: lot " + wrong, Check.ARGUMENT, () -> tables.setLot(4, wrong));
        }
        Check.due("7: nothing changed", tables.setLot(4, 4), 4);
    }

    private static void promise8SetThrough() {
        GroupTables tables = Build.groups(3);
        Check.due("8: at first 2 places", tables.isThrough(1), true);
        Check.due("8: at first no thirds", tables.isThrough(2), false);
        tables.setThrough(1, 0);
        Check.due("8: 1 place", tables.isThrough(1), false);
        Check.due("8: 1 place, the first", tables.isThrough(0), true);
        tables.setThrough(2, 6);
        Check.due("8: 6 thirds", tables.isThrough(2), true);
        for (int wrong : new int[] {LEAST, -1, 0, 3, MOST}) {
            setThroughThrows(tables, wrong, 0);
        }
        for (int wrong : new int[] {LEAST, -1, 7, MOST}) {
            setThroughThrows(tables, 1, wrong);
        }
        Check.due("8: nothing changed in places", tables.isThrough(1), true);
        Check.due("8: nothing changed in thirds", tables.isThrough(2), true);
        tables.setThrough(1, 0);
        setThroughThrows(tables, 2, 7);
        setThroughThrows(tables, 0, 6);
        Check.due("8: nothing changed in 1 place", tables.isThrough(1), false);
        Check.due("8: nothing changed in no thirds", tables.isThrough(2), false);
    }

    private static void setThroughThrows(GroupTables tables, int places, int thirds) {
        Check.throwsDue("8: " + places + " and " + thirds, Check.ARGUMENT, () -> {
            tables.setThrough(places, thirds);
            return 0;
        });
    }

    private static void promise9Groups() {
        GroupTables tables = new GroupTables();
        for (int group = 0; group < 6; group++) {
            Check.due("9: groups", tables.groups(), group);
            tables.addGroup(3);
        }
        Check.due("9: all groups", tables.groups(), 6);
    }

    private static void promise10Teams() {
        GroupTables tables = Build.groups(4, 5);
        Check.due("10: teams", tables.teams(), 9);
        tables.addGroup(3);
        Check.due("10: teams then", tables.teams(), 12);
        Check.due("10: the most teams", Build.groups(5, 5, 5, 5, 5, 5).teams(), 30);
    }

    private static void promise11GroupOf() {
        GroupTables tables = Build.groups(3, 5, 4);
        int[] groups = {0, 0, 0, 1, 1, 1, 1, 1, 2, 2, 2, 2};
        for (int team = 0; team < groups.length; team++) {
            Check.due("11: group of " + team, tables.groupOf(team), groups[team]);
        }
        for (int wrong : new int[] {LEAST, -1, 12, 30, MOST}) {
            Check.throwsDue("11: team " + wrong, Check.INDEX, () -> tables.groupOf(wrong));
        }
        GroupTables most = Build.groups(5, 5, 5, 5, 5, 5);
        Check.due("11: group of the last team", most.groupOf(29), 5);
        Check.throwsDue("11: behind the last team", Check.INDEX, () -> most.groupOf(30));
    }

    private static void promise12Played() {
        GroupTables tables = Build.groups(3, 5);
        Build.tell(tables, 3, 0, 1, 0, 0, 0, 2, 1, 0, 4, 0, 3, 3);
        Check.due("12: three", tables.played(3), 3);
        Check.due("12: one", tables.played(7), 1);
        Check.due("12: none", tables.played(6), 0);
        Check.due("12: none in another group", tables.played(0), 0);
        tables.strike(3, 4);
        Check.due("12: one less", tables.played(3), 2);
        for (int wrong : new int[] {LEAST, -1, 8, MOST}) {
            Check.throwsDue("12: team " + wrong, Check.INDEX, () -> tables.played(wrong));
        }
    }

    private static void promise13Points() {
        GroupTables tables = Build.groups(3, 4);
        Build.tell(tables, 3, 0, 1, 2, 1, 0, 2, 1, 1, 0, 3, 0, 4, 1, 2, 0, 0);
        Check.due("13: a win, a draw, a loss", tables.points(3), 4);
        Check.due("13: a loss and a draw", tables.points(4), 1);
        Check.due("13: two draws", tables.points(5), 2);
        Check.due("13: a win", tables.points(6), 3);
        Check.due("13: no match", tables.points(0), 0);
        tables.takeAway(4, 5);
        Check.due("13: below 0", tables.points(4), -4);
        for (int wrong : new int[] {LEAST, -1, 7, MOST}) {
            Check.throwsDue("13: team " + wrong, Check.INDEX, () -> tables.points(wrong));
        }
    }

    private static void promise14Difference() {
        GroupTables tables = Build.groups(3, 3);
        Build.tell(tables, 3, 0, 1, 5, 2, 2, 0, 4, 0);
        Check.due("14: of both matches", tables.difference(3), -1);
        Check.due("14: of a loss", tables.difference(4), -3);
        Check.due("14: of a win", tables.difference(5), 4);
        tables.takeAway(5, 20);
        Check.due("14: points taken away do not touch it", tables.difference(5), 4);
        Check.due("14: no match", tables.difference(2), 0);
        for (int wrong : new int[] {LEAST, -1, 6, MOST}) {
            Check.throwsDue("14: team " + wrong, Check.INDEX, () -> tables.difference(wrong));
        }
    }

    private static void promise15Goals() {
        GroupTables tables = Build.groups(3, 5);
        Build.tell(tables, 3, 0, 1, 20, 20, 0, 2, 20, 0, 0, 3, 20, 19, 0, 4, 20, 1);
        Check.due("15: the most", tables.goals(3), 80);
        Check.due("15: of one match", tables.goals(4), 20);
        Check.due("15: none", tables.goals(5), 0);
        Check.due("15: no match", tables.goals(1), 0);
        for (int wrong : new int[] {LEAST, -1, 8, MOST}) {
            Check.throwsDue("15: team " + wrong, Check.INDEX, () -> tables.goals(wrong));
        }
    }

    private static void promise16Place() {
        GroupTables tables = Build.groups(3, 4);
        Build.orderDue("16: by lots alone", tables, 1, 3, 4, 5, 6);
        // 6 beats all; 4 beats 3, 3 beats 5 and 5 beats 4, so that these have 3 points each.
        Build.tell(tables, 3, 0, 1, 0, 1, 0, 2, 5, 0, 1, 2, 0, 1);
        Build.tell(tables, 3, 3, 0, 9, 0, 3, 1, 2, 0, 3, 2, 1, 0);
        // Over all matches 4 has the best difference of the three, among them 3 has.
        Build.orderDue("16: points, then the matches of the tied", tables, 1, 6, 3, 4, 5);
        tables.setResult(4, 6, 1, 0);
        // 4 and 6 have 6 points each: 4 won their match, though 6 has the better difference.
        Build.orderDue("16: the match of two tied before the difference", tables, 1, 4, 6, 3, 5);
        tables.takeAway(4, 3);
        Build.orderDue("16: after points are taken away", tables, 1, 6, 3, 4, 5);
        Check.due("16: in another group", tables.place(2), 2);
        for (int wrong : new int[] {LEAST, -1, 7, MOST}) {
            Check.throwsDue("16: team " + wrong, Check.INDEX, () -> tables.place(wrong));
        }
    }

    /** Tied teams whose own matches are all alike go by all matches, cards and lots. */
    private static void promise16PlaceOverAllMatches() {
        GroupTables tables = Build.groups(4);
        Build.tell(tables, 0, 0, 1, 1, 1, 0, 2, 1, 1, 1, 2, 1, 1);
        Build.tell(tables, 0, 0, 3, 1, 0, 1, 3, 3, 1, 2, 3, 3, 2);
        Build.orderDue("16: difference, then goals", tables, 0, 1, 2, 0, 3);
        tables.setResult(2, 3, 3, 1);
        tables.setCards(1, 1);
        Build.orderDue("16: then cards", tables, 0, 2, 1, 0, 3);
        tables.setCards(2, 1);
        tables.setLot(1, 50);
        Build.orderDue("16: then lots", tables, 0, 2, 1, 0, 3);
        tables.setLot(2, 50);
        Build.orderDue("16: then numbers", tables, 0, 1, 2, 0, 3);
    }

    private static void promise17TeamAt() {
        GroupTables tables = Build.groups(3, 5);
        Build.tell(tables, 3, 4, 0, 1, 0, 3, 0, 1, 1);
        Build.orderDue("17: all places", tables, 1, 7, 6, 3, 4, 5);
        Build.orderDue("17: of group 0", tables, 0, 0, 1, 2);
        for (int wrong : new int[] {LEAST, -1, 2, 6, MOST}) {
            Check.throwsDue("17: group " + wrong, Check.INDEX, () -> tables.teamAt(wrong, 0));
        }
        for (int wrong : new int[] {LEAST, -1, 5, MOST}) {
            Check.throwsDue("17: place " + wrong, Check.INDEX, () -> tables.teamAt(1, wrong));
        }
        Check.throwsDue("17: place 3 of three", Check.INDEX, () -> tables.teamAt(0, 3));
        Check.throwsDue("17: place 4 of three", Check.INDEX, () -> tables.teamAt(0, 4));
    }

    private static void promise18Rule() {
        GroupTables tables = Build.groups(3, 4);
        Build.ruleDue("18: lots", tables, 3, 6, 7);
        tables.setCards(3, 1);
        Build.ruleDue("18: cards", tables, 3, 6, 6);
        // A ring: 3 beats 4, 4 beats 5, 5 beats 3; all beat 6 by other scores.
        Build.tell(tables, 3, 0, 1, 1, 0, 1, 2, 1, 0, 2, 0, 1, 0);
        Build.tell(tables, 3, 0, 3, 1, 0, 1, 3, 2, 1, 2, 3, 4, 2);
        Build.ruleDue("18: points", tables, 3, 6, 0);
        Build.ruleDue("18: difference of all", tables, 3, 5, 4);
        Build.ruleDue("18: goals of all", tables, 3, 4, 5);
        Build.orderDue("18: by them", tables, 1, 5, 4, 3, 6);
        tables.setResult(3, 4, 3, 2);
        // Among the three 3 and 4 have 3 goals each, 5 has one; of 3 and 4 alone 3 won.
        Build.ruleDue("18: goals of the tied", tables, 3, 5, 3);
        Build.ruleDue("18: goals of the tied", tables, 4, 5, 3);
        Build.ruleDue("18: the match of those still alike", tables, 3, 4, 1);
        Build.orderDue("18: by goals of the tied", tables, 1, 3, 4, 5, 6);
        tables.setResult(3, 4, 3, 1);
        Build.ruleDue("18: difference of the tied", tables, 3, 4, 2);
        Build.ruleDue("18: difference of the tied", tables, 4, 5, 2);
        Build.orderDue("18: by difference of the tied", tables, 1, 3, 5, 4, 6);
        tables.setResult(3, 5, 1, 0);
        tables.takeAway(3, 3);
        // 3 has 9 - 3 points, 4 has 6, 5 has 3: 3 won against 4.
        Build.ruleDue("18: points of the tied", tables, 3, 4, 1);
        Build.orderDue("18: by points of the tied", tables, 1, 3, 4, 5, 6);
        for (int wrong : new int[] {LEAST, -1, 7, 30, MOST}) {
            Check.throwsDue("18: team " + wrong, Check.INDEX, () -> tables.rule(wrong, 0));
            Check.throwsDue("18: other " + wrong, Check.INDEX, () -> tables.rule(0, wrong));
        }
        Check.throwsDue("18: the same", Check.ARGUMENT, () -> tables.rule(4, 4));
        Check.throwsDue("18: not of one group", Check.ARGUMENT, () -> tables.rule(2, 3));
    }

    /** Of four tied teams three stay alike, and are ordered by the matches of these three alone. */
    private static void promise18RuleAmongFewer() {
        GroupTables tables = Build.groups(4);
        // All have 4 points, all goals are even but those of 0 and 1 in the match against 3.
        Build.tell(tables, 0, 0, 1, 1, 1, 2, 3, 1, 1, 0, 2, 1, 0);
        Build.tell(tables, 0, 1, 3, 1, 0, 2, 1, 1, 0, 3, 0, 1, 0);
        for (int team = 0; team < 4; team++) {
            Check.due("18: tied points", tables.points(team), 4);
        }
        // Among all four each has 4 points, difference 0 and 2 goals: alike, so lots.
        Build.orderDue("18: all alike", tables, 0, 0, 1, 2, 3);
        Build.ruleDue("18: all alike", tables, 0, 3, 7);
        tables.setResult(2, 3, 2, 2);
        // 2 and 3 have more goals; 0 and 1 drew and are alike, so are 2 and 3: lots.
        Build.orderDue("18: two pairs", tables, 0, 2, 3, 0, 1);
        Build.ruleDue("18: two pairs", tables, 0, 2, 3);
        Build.ruleDue("18: two pairs", tables, 0, 1, 7);
        Build.ruleDue("18: two pairs", tables, 2, 3, 7);
        tables.setCards(0, 1);
        Build.orderDue("18: two pairs, cards in the last one", tables, 0, 2, 3, 1, 0);
        Build.ruleDue("18: two pairs, cards in the last one", tables, 0, 1, 6);
        tables.setCards(0, 0);
        tables.setResult(2, 1, 2, 1);
        tables.setResult(1, 3, 2, 1);
        tables.setResult(2, 3, 1, 1);
        tables.setResult(0, 2, 2, 1);
        tables.setResult(3, 0, 2, 1);
        // Goals: 0 has 4, 1 has 4, 2 has 4, 3 has 4; all alike again.
        Build.orderDue("18: all alike again", tables, 0, 0, 1, 2, 3);
        tables.setResult(0, 1, 3, 3);
        tables.setResult(2, 1, 3, 2);
        // Goals: 0 has 6, 1 has 7, 2 has 5, 3 has 4.
        Build.orderDue("18: by goals", tables, 0, 1, 0, 2, 3);
        tables.setResult(2, 3, 2, 2);
        // Goals: 0 has 6, 1 has 7, 2 has 6, 3 has 5: of 0 and 2 alone 0 won.
        Build.orderDue("18: again by the match of two", tables, 0, 1, 0, 2, 3);
        Build.ruleDue("18: again by the match of two", tables, 0, 2, 1);
        Build.ruleDue("18: by goals of four", tables, 0, 1, 3);
        Build.ruleDue("18: by goals of four", tables, 2, 3, 3);
        tables.setResult(0, 2, 1, 2);
        tables.setResult(1, 0, 2, 3);
        tables.setResult(2, 1, 2, 3);
        tables.setResult(3, 0, 2, 0);
        // Points: 0 has 3, 1 has 6, 2 has 4, 3 has 4: of 2 and 3 alone a draw, so the difference.
        Build.ruleDue("18: difference behind a draw", tables, 2, 3, 4);
        Build.orderDue("18: difference behind a draw", tables, 0, 1, 3, 2, 0);
    }

    /** Matches without a result count nothing among the tied, and nothing is taken away there. */
    private static void promise18RuleWithMissingMatches() {
        GroupTables tables = Build.groups(5);
        Build.tell(tables, 0, 0, 1, 1, 0, 2, 3, 0, 2, 4, 0, 1, 1);
        // 0 has 4, 1 has 0, 2 has 0, 3 has 3, 4 has 1 points.
        Build.orderDue("18: missing matches", tables, 0, 0, 3, 4, 1, 2);
        Build.ruleDue("18: 1 and 2 have not met", tables, 1, 2, 4);
        tables.takeAway(0, 1);
        // 0 and 3 have 3 points and have not met: the differences are 1 and 2.
        Build.orderDue("18: 0 and 3 have not met", tables, 0, 3, 0, 4, 1, 2);
        Build.ruleDue("18: 0 and 3 have not met", tables, 0, 3, 4);
        tables.takeAway(0, 4);
        // 0, 1 and 2 have 0 points; among them 0 has 3, since nothing is taken away there.
        Build.orderDue("18: nothing taken away among the tied", tables, 0, 3, 4, 0, 2, 1);
        Build.ruleDue("18: nothing taken away among the tied", tables, 0, 1, 1);
        Build.ruleDue("18: nothing taken away among the tied", tables, 0, 2, 1);
        Build.ruleDue("18: 2 has played none of the tied", tables, 1, 2, 2);
    }

    private static void promise19MatchesLeft() {
        GroupTables tables = Build.groups(3, 4, 5);
        Check.due("19: of three", tables.matchesLeft(0), 3);
        Check.due("19: of four", tables.matchesLeft(1), 6);
        Check.due("19: of five", tables.matchesLeft(2), 10);
        Build.tell(tables, 3, 0, 1, 0, 0, 2, 3, 0, 0);
        Check.due("19: two less", tables.matchesLeft(1), 4);
        Build.tell(tables, 0, 0, 1, 0, 0, 0, 2, 0, 0, 1, 2, 0, 0);
        Check.due("19: none", tables.matchesLeft(0), 0);
        tables.strike(2, 1);
        Check.due("19: one again", tables.matchesLeft(0), 1);
        for (int wrong : new int[] {LEAST, -1, 3, 6, MOST}) {
            Check.throwsDue("19: group " + wrong, Check.INDEX, () -> tables.matchesLeft(wrong));
        }
    }

    private static void promise20ThirdPoints() {
        GroupTables tables = Build.groups(5);
        // 0 wins all, 1 all but that, 2 wins against 3 and 4, 3 draws with 4.
        Build.tell(tables, 0, 0, 1, 1, 0, 0, 2, 1, 0, 0, 3, 1, 0, 0, 4, 1, 0);
        Build.tell(tables, 0, 1, 2, 1, 0, 1, 3, 1, 0, 1, 4, 1, 0);
        Build.tell(tables, 0, 2, 3, 1, 0, 2, 4, 1, 0, 3, 4, 0, 0);
        Check.due("20: the only group counts whole", tables.thirdPoints(0), 6);
        tables.addGroup(4);
        Check.due("20: without the last one", tables.thirdPoints(0), 3);
        Check.due("20: no match", tables.thirdPoints(1), 0);
        tables.addGroup(3);
        Check.due("20: without the last two", tables.thirdPoints(0), 0);
        tables.takeAway(2, 2);
        Check.due("20: points taken away count", tables.thirdPoints(0), -2);
        tables.takeAway(2, 0);
        tables.setResult(1, 2, 0, 0);
        Check.due("20: a draw with the second", tables.thirdPoints(0), 1);
        for (int wrong : new int[] {LEAST, -1, 3, 6, MOST}) {
            Check.throwsDue("20: group " + wrong, Check.INDEX, () -> tables.thirdPoints(wrong));
        }
    }

    private static void promise20ThirdPointsOfLikeGroups() {
        GroupTables tables = Build.groups(4, 4);
        Build.tell(tables, 4, 0, 1, 1, 0, 0, 2, 1, 0, 1, 2, 2, 2, 1, 3, 2, 0, 2, 3, 1, 0);
        // 4 has 6, 5 has 4, 6 has 4, 7 has 0: 6 is third with all of its matches.
        Check.due("20: third", tables.teamAt(1, 2), 6);
        Check.due("20: of groups of the same size all counts", tables.thirdPoints(1), 4);
        tables.setResult(6, 7, 3, 0);
        Check.due("20: third then", tables.teamAt(1, 2), 5);
        Check.due("20: points of the other third", tables.thirdPoints(1), 4);
        GroupTables smallFirst = Build.groups(3, 5, 5, 5, 5, 5);
        Build.tell(smallFirst, 23, 2, 3, 1, 0, 2, 4, 1, 0, 0, 3, 9, 0, 1, 4, 1, 0, 0, 2, 1, 0);
        Build.tell(smallFirst, 23, 1, 2, 0, 0, 0, 4, 1, 0, 1, 3, 8, 0);
        // 23 has 9 points, 24 has 7, 25 has 7; of these two 24 has the better difference.
        Check.due("20: third of the last of six groups", smallFirst.teamAt(5, 2), 25);
        Check.due("20: the smallest group is the first", smallFirst.thirdPoints(5), 1);
    }

    private static void promise21ThirdRank() {
        GroupTables tables = Build.groups(3, 3, 3);
        Check.due("21: by numbers", tables.thirdRank(0), 0);
        Check.due("21: by numbers", tables.thirdRank(2), 2);
        tables.setLot(2, 50);
        tables.setLot(5, 50);
        tables.setLot(8, 49);
        Check.due("21: by lots", tables.thirdRank(2), 0);
        Check.due("21: same lots, by numbers", tables.thirdRank(0), 1);
        Check.due("21: same lots, by numbers", tables.thirdRank(1), 2);
        Build.tell(tables, 0, 0, 2, 1, 0, 0, 1, 1, 0);
        Build.tell(tables, 3, 0, 2, 2, 1, 0, 1, 1, 0);
        // The thirds are 2, 5 and 8; 8 has no match and difference 0.
        Check.due("21: third of 0", tables.teamAt(0, 2), 2);
        Check.due("21: third of 1", tables.teamAt(1, 2), 4);
        tables.setResult(3, 4, 2, 0);
        Check.due("21: third of 1 then", tables.teamAt(1, 2), 4);
        tables.setResult(3, 4, 1, 0);
        tables.setResult(3, 5, 3, 2);
        tables.setCards(4, 0);
        Check.due("21: by difference", tables.thirdRank(2), 0);
        // 2 and 4 have difference -1 and no goal; lots 50 and 4.
        Check.due("21: behind by difference, before by lots", tables.thirdRank(1), 1);
        Check.due("21: behind by difference and lots", tables.thirdRank(0), 2);
        Build.tell(tables, 0, 1, 2, 0, 0);
        Build.tell(tables, 3, 1, 2, 0, 0);
        // Thirds: 2 with 1 point, -1 and 0 goals; 4 with 1 point, -1 and 0 goals; lots 50 and 4.
        Check.due("21: by points before group 2", tables.thirdRank(2), 2);
        Check.due("21: by lots behind", tables.thirdRank(0), 1);
        Check.due("21: by lots before", tables.thirdRank(1), 0);
        tables.setCards(4, 1);
        Check.due("21: third of 1 with cards", tables.teamAt(1, 2), 4);
        Check.due("21: by cards before", tables.thirdRank(0), 0);
        Check.due("21: by cards behind", tables.thirdRank(1), 1);
        tables.setResult(3, 4, 2, 1);
        tables.setResult(3, 5, 4, 3);
        Check.due("21: third of 1 with a goal", tables.teamAt(1, 2), 4);
        Check.due("21: by goals before", tables.thirdRank(1), 0);
        Check.due("21: by goals behind", tables.thirdRank(0), 1);
        tables.takeAway(4, 2);
        Check.due("21: by points taken away", tables.thirdRank(1), 2);
        for (int wrong : new int[] {LEAST, -1, 3, 6, MOST}) {
            Check.throwsDue("21: group " + wrong, Check.INDEX, () -> tables.thirdRank(wrong));
        }
    }

    /** Of a larger group only the matches against its first teams count, for goals too. */
    private static void promise21ThirdRankByCountingMatches() {
        GroupTables tables = Build.groups(4, 3);
        Build.tell(tables, 0, 0, 1, 1, 0, 0, 2, 2, 0, 0, 3, 1, 0);
        Build.tell(tables, 0, 1, 2, 2, 0, 1, 3, 1, 0, 2, 3, 20, 0);
        Build.tell(tables, 4, 0, 1, 1, 0, 0, 2, 2, 0, 1, 2, 2, 1);
        Check.due("21: third of four", tables.teamAt(0, 2), 2);
        Check.due("21: its points", tables.thirdPoints(0), 0);
        Check.due("21: behind by the difference that counts", tables.thirdRank(0), 1);
        Check.due("21: before by the difference that counts", tables.thirdRank(1), 0);
        tables.setResult(5, 6, 3, 1);
        // Both have difference -4 then; the third of group 1 has a goal, the other one none.
        Check.due("21: behind by the goals that count", tables.thirdRank(0), 1);
        tables.setResult(5, 6, 4, 1);
        Check.due("21: before by the difference that counts", tables.thirdRank(0), 0);
    }

    private static void promise22IsThrough() {
        GroupTables tables = Build.groups(3, 4, 5);
        boolean[] two =
            {true, true, false, true, true, false, false, true, true, false, false, false};
        for (int team = 0; team < two.length; team++) {
            Check.due("22: two places, " + team, tables.isThrough(team), two[team]);
        }
        tables.setThrough(1, 2);
        // The thirds are 2, 5 and 9, by numbers alone in this order.
        boolean[] mixed =
            {true, false, true, true, false, true, false, true, false, false, false, false};
        for (int team = 0; team < mixed.length; team++) {
            Check.due("22: one place and two thirds, " + team, tables.isThrough(team), mixed[team]);
        }
        tables.setThrough(2, 3);
        Check.due("22: all thirds", tables.isThrough(9), true);
        tables.setThrough(2, 6);
        Check.due("22: more thirds than groups", tables.isThrough(9), true);
        Check.due("22: not the fourth", tables.isThrough(10), false);
        Check.due("22: not the last", tables.isThrough(11), false);
        tables.setThrough(2, 1);
        tables.takeAway(2, 1);
        Check.due("22: the best third by points", tables.isThrough(5), true);
        Check.due("22: the worst third by points", tables.isThrough(2), false);
        tables.setResult(11, 7, 1, 0);
        Check.due("22: by the tables as they are now", tables.isThrough(11), true);
        for (int wrong : new int[] {LEAST, -1, 12, MOST}) {
            Check.throwsDue("22: team " + wrong, Check.INDEX,
                    () -> tables.isThrough(wrong) ? 1 : 0);
        }
    }

    private static void promise23Ways() {
        GroupTables tables = Build.groups(3, 4, 5);
        Check.due("23: of three", tables.ways(0), 27);
        Check.due("23: of four", tables.ways(1), 729);
        Check.due("23: of five", tables.ways(2), 59049);
        Build.tell(tables, 0, 0, 1, 0, 0, 0, 2, 0, 0);
        Check.due("23: one match", tables.ways(0), 3);
        Build.tell(tables, 0, 1, 2, 0, 0);
        Check.due("23: no match", tables.ways(0), 1);
        for (int wrong : new int[] {LEAST, -1, 3, 6, MOST}) {
            Check.throwsDue("23: group " + wrong, Check.INDEX, () -> tables.ways(wrong));
        }
    }

    private static void promise24WaysSafe() {
        GroupTables tables = Build.groups(4, 3);
        tables.setThrough(1, 0);
        // With two wins in all 3 ways of the other match; with a win and a draw, in either order,
        // unless the one that it drew with wins that match and has 4 points too.
        Check.due("24: of three, one place", tables.waysSafe(4), 3 + 2 + 2);
        tables.setThrough(2, 0);
        Build.tell(tables, 4, 0, 1, 1, 0, 0, 2, 1, 0);
        Check.due("24: first in all", tables.waysSafe(4), 3);
        Check.due("24: second if it wins", tables.waysSafe(5), 1);
        Check.due("24: second if it wins", tables.waysSafe(6), 1);
        tables.setThrough(1, 0);
        Check.due("24: one place, first in all", tables.waysSafe(4), 3);
        Check.due("24: one place, the second", tables.waysSafe(5), 0);
        tables.takeAway(4, 3);
        Check.due("24: points taken away", tables.waysSafe(4), 1);
        tables.setResult(5, 6, 0, 0);
        Check.due("24: no match left, safe", tables.waysSafe(4), 1);
        Check.due("24: no match left, not safe", tables.waysSafe(5), 0);
        Check.due("24: four without a result, one place", tables.waysSafe(0), 144);
        for (int wrong : new int[] {LEAST, -1, 7, MOST}) {
            Check.throwsDue("24: team " + wrong, Check.INDEX, () -> tables.waysSafe(wrong));
        }
    }

    private static void promise25WaysLost() {
        GroupTables tables = Build.groups(3);
        Build.tell(tables, 0, 0, 1, 1, 0, 0, 2, 1, 0);
        Check.due("25: never", tables.waysLost(0), 0);
        Check.due("25: if it loses", tables.waysLost(1), 1);
        Check.due("25: if it loses", tables.waysLost(2), 1);
        tables.setThrough(1, 0);
        Check.due("25: one place", tables.waysLost(1), 3);
        tables.takeAway(0, 3);
        // 0 has 3 points: as many as the winner of the last match, more than after a draw.
        Check.due("25: as many are not more", tables.waysLost(0), 0);
        Check.due("25: not if it wins", tables.waysLost(1), 2);
        tables.takeAway(0, 4);
        Check.due("25: two of three ways", tables.waysLost(0), 2);
        tables.setResult(1, 2, 0, 0);
        Check.due("25: no match left", tables.waysLost(0), 0);
        tables.takeAway(0, 6);
        Check.due("25: no match left, lost", tables.waysLost(0), 1);
        tables.setThrough(2, 0);
        Check.due("25: two have more than it", tables.waysLost(0), 1);
        Check.due("25: nobody has more", tables.waysLost(1), 0);
        for (int wrong : new int[] {LEAST, -1, 3, MOST}) {
            Check.throwsDue("25: team " + wrong, Check.INDEX, () -> tables.waysLost(wrong));
        }
    }

    private static void promise26BadWay() {
        GroupTables tables = Build.groups(3, 5);
        // The matches are 0: 0-1, 1: 0-2, 2: 1-2. In the way 2 + 3 * 1 team 0 loses to 1 and draws
        // with 2, and 1 beats 2: 1 has 6 points, 2 has 1 as 0 has.
        Check.due("26: of three", tables.badWay(0), 5);
        Check.due("26: of three", tables.badWay(2), 0);
        tables.setThrough(1, 0);
        Check.due("26: of three, one place", tables.badWay(0), 1);
        Check.due("26: of three, one place", tables.badWay(1), 0);
        Build.tell(tables, 0, 0, 1, 1, 0, 0, 2, 1, 0);
        Check.due("26: safe in all ways", tables.badWay(0), -1);
        tables.takeAway(0, 3);
        // The only match is 1-2 now, with the number 0.
        Check.due("26: not safe if the lower one wins", tables.badWay(0), 0);
        tables.takeAway(0, 5);
        tables.setThrough(2, 0);
        Check.due("26: not safe at a draw", tables.badWay(0), 1);
        tables.takeAway(0, 6);
        Check.due("26: never safe", tables.badWay(0), 0);
        tables.takeAway(0, 0);
        tables.setResult(1, 2, 2, 1);
        Check.due("26: no match left, safe", tables.badWay(1), -1);
        Check.due("26: no match left, not safe", tables.badWay(2), 0);
        Check.due("26: of five, the first", tables.badWay(3), 5);
        Check.due("26: of five, the last", tables.badWay(7), 0);
        for (int wrong : new int[] {LEAST, -1, 8, MOST}) {
            Check.throwsDue("26: team " + wrong, Check.INDEX, () -> tables.badWay(wrong));
        }
    }

    private static void promise27ScoresThrough() {
        GroupTables tables = Build.groups(3, 4);
        Build.tell(tables, 0, 0, 1, 1, 0, 0, 2, 1, 0);
        // Left is 1-2: 1 is second if it wins (3 scores) or draws (3, by its lot).
        Check.due("27: first in all", tables.scoresThrough(0), 9);
        Check.due("27: second by a win or its lot", tables.scoresThrough(1), 6);
        Check.due("27: second by a win", tables.scoresThrough(2), 3);
        tables.setCards(1, 1);
        Check.due("27: cards against it", tables.scoresThrough(1), 3);
        Check.due("27: cards for it", tables.scoresThrough(2), 6);
        tables.setThrough(1, 6);
        Check.due("27: one place, thirds left aside", tables.scoresThrough(2), 0);
        tables.setResult(1, 2, 0, 0);
        Check.due("27: no match left", tables.scoresThrough(0), 1);
        Check.due("27: no match left, not through", tables.scoresThrough(2), 0);
        Check.throwsDue("27: six are left", Check.STATE, () -> tables.scoresThrough(3));
        Build.tell(tables, 3, 0, 1, 1, 0, 0, 2, 1, 0);
        Check.throwsDue("27: four are left", Check.STATE, () -> tables.scoresThrough(3));
        Build.tell(tables, 3, 0, 3, 1, 0);
        Check.due("27: three are left", tables.scoresThrough(3), 729);
        Check.due("27: three are left, one place", tables.scoresThrough(4), 0);
        tables.setThrough(2, 0);
        int sum = 0;
        for (int team = 3; team < 7; team++) {
            sum += tables.scoresThrough(team);
        }
        Check.due("27: two are through in all scores", sum, 2 * 729);
        Check.due("27: the matches are left as before", tables.matchesLeft(1), 3);
        Check.due("27: nothing is played", tables.played(4), 1);
        for (int wrong : new int[] {LEAST, -1, 7, MOST}) {
            Check.throwsDue("27: team " + wrong, Check.INDEX, () -> tables.scoresThrough(wrong));
        }
    }

    private static void thrownCallsChangeNothing() {
        GroupTables tables = Build.groups(3, 4);
        Build.tell(tables, 3, 0, 1, 2, 1);
        String before = state(tables);
        Check.outcome(() -> tables.addGroup(6));
        Check.outcome(() -> tables.setResult(3, 4, 5, 21));
        Check.outcome(() -> tables.setResult(3, 4, 21, 5));
        Check.outcome(() -> tables.setResult(2, 3, 1, 0));
        Check.outcome(() -> tables.setResult(4, 4, 1, 0));
        Check.outcome(() -> tables.strike(3, 5));
        Check.outcome(() -> tables.strike(2, 3));
        Check.outcome(() -> tables.takeAway(3, 21));
        Check.outcome(() -> tables.setCards(3, 51));
        Check.outcome(() -> tables.setLot(3, 100));
        Check.outcome(() -> tables.scoresThrough(3));
        Check.due("a call that throws changes nothing", state(tables), before);
    }

    private static String state(GroupTables tables) {
        StringBuilder state = new StringBuilder();
        state.append(tables.groups()).append(' ').append(tables.teams());
        for (int team = 0; team < tables.teams(); team++) {
            state.append(' ').append(tables.points(team)).append(' ').append(tables.goals(team));
            state.append(' ').append(tables.played(team)).append(' ').append(tables.place(team));
            state.append(' ').append(tables.difference(team));
            state.append(' ').append(tables.badWay(team));
        }
        return state.toString();
    }
}
