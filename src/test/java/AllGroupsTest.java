import java.util.List;
import java.util.Random;

/**
 * Every group of a size, each of its matches with every one of some results, and with settings
 * drawn by a fixed seed, compared with the plain model: places and rules (promises 16 to 18), ways
 * and small scores (23 to 27). The thirds (20 to 22) are compared over groups that are drawn, since
 * there are too many sets of groups.
 */
public final class AllGroupsTest {
    private static final int[][] RESULTS = {null, {0, 0}, {1, 0}, {0, 1}, {1, 1}, {2, 1}};
    private static final int DRAWN_SETS = 10_000;
    private static final int FEW_LEFT = 2;

    private final Random random;
    private final GroupTables tables = new GroupTables();
    private final PlainModel model = new PlainModel();
    private final String run;

    private AllGroupsTest(Random random, String run) {
        this.random = random;
        this.run = run;
    }

    public static void main(String[] args) {
        everyGroup(3, 6, true);
        everyGroup(4, 4, true);
        everyGroup(4, 6, false);
        everyGroup(5, 3, false);
        Random random = new Random(11);
        for (int set = 0; set < DRAWN_SETS; set++) {
            new AllGroupsTest(random, "set of groups " + set).compareThirds();
        }
        Check.end("AllGroupsTest");
    }

    /** The digits of a group's number, to the base of the kinds of results, are its results. */
    private static void everyGroup(int size, int kinds, boolean withWays) {
        Random random = new Random(7);
        int count = 1;
        for (int match = 0; match < size * (size - 1) / 2; match++) {
            count *= kinds;
        }
        for (int number = 0; number < count; number++) {
            String run = size + " teams, " + kinds + " kinds, group " + number;
            AllGroupsTest test = new AllGroupsTest(random, run);
            test.tellGroup(size, kinds, number);
            test.tellSettings();
            test.compareTable();
            if (withWays) {
                test.compareWays();
            }
        }
    }

    private void tellGroup(int size, int kinds, int number) {
        addGroup(size);
        int rest = number;
        for (int lower = 0; lower < size; lower++) {
            for (int upper = lower + 1; upper < size; upper++) {
                int[] result = RESULTS[rest % kinds];
                rest /= kinds;
                if (result != null) {
                    setResult(lower, upper, result[0], result[1]);
                }
            }
        }
    }

    private void addGroup(int size) {
        tables.addGroup(size);
        model.addGroup(size);
    }

    private void setResult(int team, int other, int goals, int others) {
        if (random.nextBoolean()) {
            tables.setResult(team, other, goals, others);
        } else {
            tables.setResult(other, team, others, goals);
        }
        model.setResult(team, other, goals, others);
    }

    /** Small numbers, and none for many groups, so that there are ties enough. */
    private void tellSettings() {
        int mode = random.nextInt(4);
        for (int team = 0; team < model.teams(); team++) {
            if (mode == 1 || mode == 3) {
                int points = random.nextInt(3);
                tables.takeAway(team, points);
                model.takeAway(team, points);
            }
            if (mode >= 2) {
                int cards = random.nextInt(2);
                tables.setCards(team, cards);
                model.setCards(team, cards);
                int lot = random.nextInt(3);
                tables.setLot(team, lot);
                model.setLot(team, lot);
            }
        }
        int places = 1 + random.nextInt(2);
        int thirds = random.nextInt(7);
        tables.setThrough(places, thirds);
        model.setThrough(places, thirds);
    }

    private void compareTable() {
        List<Integer> order = model.order(0);
        for (int team = 0; team < order.size(); team++) {
            due("place", team, tables.place(team), order.indexOf(team));
            due("teamAt", team, tables.teamAt(0, team), order.get(team));
            for (int other = 0; other < order.size(); other++) {
                if (other != team) {
                    due("rule to " + other, team, tables.rule(team, other),
                            model.rule(team, other));
                }
            }
        }
    }

    private void compareWays() {
        due("ways", 0, tables.ways(0), model.ways(0));
        for (int team = 0; team < model.teams(); team++) {
            due("waysSafe", team, tables.waysSafe(team), model.waysSafe(team));
            due("waysLost", team, tables.waysLost(team), model.waysLost(team));
            due("badWay", team, tables.badWay(team), model.badWay(team));
            if (model.matchesLeft(0) <= FEW_LEFT) {
                due("scoresThrough", team, tables.scoresThrough(team), model.scoresThrough(team));
            }
        }
    }

    private void compareThirds() {
        drawGroups();
        tellSettings();
        for (int group = 0; group < model.groups.size(); group++) {
            due("thirdPoints", group, tables.thirdPoints(group), model.thirdPoints(group));
            due("thirdRank", group, tables.thirdRank(group), model.thirdRank(group));
        }
        for (int team = 0; team < model.teams(); team++) {
            due("isThrough", team, tables.isThrough(team) ? 1 : 0, model.isThrough(team) ? 1 : 0);
        }
    }

    private void drawGroups() {
        int groups = 1 + random.nextInt(6);
        int smallest = 3 + random.nextInt(3);
        int mostGoals = random.nextInt(3);
        int outOfSix = 4 + random.nextInt(3);
        for (int group = 0; group < groups; group++) {
            int first = model.teams();
            int size = smallest + random.nextInt(6 - smallest);
            addGroup(size);
            for (int lower = first; lower < first + size; lower++) {
                for (int upper = lower + 1; upper < first + size; upper++) {
                    if (random.nextInt(6) < outOfSix) {
                        setResult(lower, upper, random.nextInt(mostGoals + 1),
                                random.nextInt(mostGoals + 1));
                    }
                }
            }
        }
    }

    /** A label is made for wrong answers only, since there are millions of checks. */
    private void due(String what, int number, int got, int want) {
        if (got == want) {
            Check.due(run, got, want);
        } else {
            Check.due(run + ", " + what + " " + number, got, want);
        }
    }
}
