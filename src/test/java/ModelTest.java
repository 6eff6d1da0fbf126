import java.util.Random;

/**
 * Random runs of calls, each compared with the plain model. The seeds are fixed, so that every run
 * of the test makes the same calls. No object gets more than 512 calls.
 */
public final class ModelTest {
    private static final String[] TELLING = {
        "setResult", "setResult", "setResult", "setResult", "setResult", "setResult", "strike",
        "takeAway", "setCards", "setLot", "setThrough", "addGroup",
    };
    private static final String[] ASKING = {
        "groups", "teams", "groupOf", "played", "points", "difference", "goals", "place", "teamAt",
        "rule", "matchesLeft", "thirdPoints", "thirdRank", "isThrough", "ways", "badWay",
    };
    private static final String[] COUNTING = {"waysSafe", "waysLost", "scoresThrough"};
    private static final int[] ODD = {-1, Integer.MIN_VALUE, Integer.MAX_VALUE, 30, 31, 32, 100};
    private static final int MOST_CALLS = 512;

    private final Random random;
    private final int mostGoals;
    private final int oddOneIn;
    private final int mostGroups;
    private final PlainModel model = new PlainModel();
    private final GroupTables tables = new GroupTables();
    private final String run;
    private int calls;
    private int lastTeam;

    private ModelTest(int seed) {
        random = new Random(seed);
        run = "run " + seed;
        mostGoals = new int[] {0, 1, 1, 2, 3, 20}[seed % 6];
        oddOneIn = seed % 4 == 0 ? 8 : 60;
        mostGroups = 1 + seed % 6;
    }

    public static void main(String[] args) {
        for (int seed = 0; seed < 600; seed++) {
            new ModelTest(seed).play();
        }
        Check.end("ModelTest");
    }

    private void play() {
        int first = 1 + random.nextInt(mostGroups);
        for (int group = 0; group < first; group++) {
            call("addGroup", 3 + random.nextInt(3), 0, 0, 0);
        }
        fill(random.nextInt(11));
        while (calls < MOST_CALLS) {
            int kind = random.nextInt(100);
            if (kind < 30) {
                callAny(TELLING);
            } else if (kind < 96 || calls % 32 != 0) {
                callAny(ASKING);
            } else {
                callAny(COUNTING);
            }
        }
    }

    /** Results for most matches at first, so that there are whole tables with ties. */
    private void fill(int outOfTen) {
        for (int team = 0; team < model.teams(); team++) {
            for (int other : model.groups.get(model.groupOf(team))) {
                if (team < other && random.nextInt(10) < outOfTen) {
                    call("setResult", team, other, goals(), goals());
                }
            }
        }
    }

    private int mostlySmall(int most) {
        return random.nextInt(random.nextInt(most + 1) + 1);
    }

    private int goals() {
        return random.nextInt(mostGoals + 1);
    }

    private void callAny(String[] names) {
        String name = names[random.nextInt(names.length)];
        switch (name) {
            case "setResult" -> call(name, team(), mate(), odd(goals()), odd(goals()));
            case "strike", "rule" -> call(name, team(), mate(), 0, 0);
            case "takeAway" -> call(name, team(), odd(mostlySmall(20)), 0, 0);
            case "setCards" -> call(name, team(), odd(mostlySmall(50)), 0, 0);
            case "setLot" -> call(name, team(), odd(mostlySmall(99)), 0, 0);
            case "setThrough" -> call(name, odd(1 + random.nextInt(2)), odd(mostlySmall(6)), 0, 0);
            case "addGroup" -> {
                if (model.groups.size() < mostGroups || random.nextInt(3) == 0) {
                    call(name, odd(3 + random.nextInt(3)), 0, 0, 0);
                }
            }
            case "teamAt" -> call(name, group(), odd(random.nextInt(6)), 0, 0);
            case "matchesLeft", "thirdPoints", "thirdRank", "ways" -> call(name, group(), 0, 0, 0);
            default -> call(name, team(), 0, 0, 0);
        }
    }

    private int team() {
        lastTeam = odd(random.nextInt(Math.max(1, model.teams())));
        return lastTeam;
    }

    /** Mostly another team of the group of the team that was drawn last. */
    private int mate() {
        if (lastTeam < 0 || lastTeam >= model.teams() || random.nextInt(oddOneIn) == 0) {
            return odd(random.nextInt(Math.max(1, model.teams())));
        }
        var mates = model.groups.get(model.groupOf(lastTeam));
        int at = mates.indexOf(lastTeam) + 1 + random.nextInt(mates.size() - 1);
        return mates.get(at % mates.size());
    }

    private int group() {
        return odd(random.nextInt(Math.max(1, model.groups.size())));
    }

    /** Now and then another number, wrong for most calls. */
    private int odd(int plain) {
        if (random.nextInt(oddOneIn) > 0) {
            return plain;
        }
        return random.nextBoolean() ? ODD[random.nextInt(ODD.length)] : random.nextInt(110) - 5;
    }

    private void call(String name, int a, int b, int c, int d) {
        if (calls >= MOST_CALLS) {
            return;
        }
        calls++;
        String what = run + ", call " + calls + ": " + name
                + "(" + a + ", " + b + ", " + c + ", " + d + ")";
        String thrown = exceptionDue(name, a, b, c, d);
        String got = Check.outcome(() -> asked(name, a, b, c, d));
        Check.due(what, got, thrown.isEmpty() ? String.valueOf(dueOf(name, a, b, c, d)) : thrown);
    }

    private boolean isTeam(int team) {
        return team >= 0 && team < model.teams();
    }

    private boolean isGroup(int group) {
        return group >= 0 && group < model.groups.size();
    }

    private static boolean isIn(int value, int least, int most) {
        return value >= least && value <= most;
    }

    private String exceptionDue(String name, int a, int b, int c, int d) {
        switch (name) {
            case "groups", "teams":
                return "";
            case "addGroup":
                if (!isIn(a, 3, 5)) {
                    return Check.ARGUMENT;
                }
                return model.groups.size() == 6 ? Check.STATE : "";
            case "setThrough":
                return isIn(a, 1, 2) && isIn(b, 0, 6) ? "" : Check.ARGUMENT;
            case "teamAt":
                return isGroup(a) && isIn(b, 0, model.groups.get(a).size() - 1) ? "" : Check.INDEX;
            case "matchesLeft", "thirdPoints", "thirdRank", "ways":
                return isGroup(a) ? "" : Check.INDEX;
            case "setResult", "strike", "rule":
                return pairException(name, a, b, c, d);
            default:
                return !isTeam(a) ? Check.INDEX : teamException(name, a, b);
        }
    }

    private String pairException(String name, int a, int b, int c, int d) {
        if (!isTeam(a) || !isTeam(b)) {
            return Check.INDEX;
        }
        if (a == b || model.groupOf(a) != model.groupOf(b)) {
            return Check.ARGUMENT;
        }
        if (name.equals("setResult") && !(isIn(c, 0, 20) && isIn(d, 0, 20))) {
            return Check.ARGUMENT;
        }
        return name.equals("strike") && !model.hasResult(a, b) ? Check.STATE : "";
    }

    private String teamException(String name, int a, int b) {
        switch (name) {
            case "takeAway":
                return isIn(b, 0, 20) ? "" : Check.ARGUMENT;
            case "setCards":
                return isIn(b, 0, 50) ? "" : Check.ARGUMENT;
            case "setLot":
                return isIn(b, 0, 99) ? "" : Check.ARGUMENT;
            case "scoresThrough":
                return model.matchesLeft(model.groupOf(a)) > 3 ? Check.STATE : "";
            default:
                return "";
        }
    }

    private long asked(String name, int a, int b, int c, int d) {
        switch (name) {
            case "addGroup": return tables.addGroup(a);
            case "setResult": return tables.setResult(a, b, c, d);
            case "strike": return tables.strike(a, b);
            case "takeAway": return tables.takeAway(a, b);
            case "setCards": return tables.setCards(a, b);
            case "setLot": return tables.setLot(a, b);
            case "setThrough": tables.setThrough(a, b); return 0;
            case "groups": return tables.groups();
            case "teams": return tables.teams();
            case "groupOf": return tables.groupOf(a);
            case "played": return tables.played(a);
            case "points": return tables.points(a);
            case "difference": return tables.difference(a);
            case "goals": return tables.goals(a);
            case "place": return tables.place(a);
            case "teamAt": return tables.teamAt(a, b);
            case "rule": return tables.rule(a, b);
            case "matchesLeft": return tables.matchesLeft(a);
            case "thirdPoints": return tables.thirdPoints(a);
            case "thirdRank": return tables.thirdRank(a);
            case "isThrough": return tables.isThrough(a) ? 1 : 0;
            case "ways": return tables.ways(a);
            case "waysSafe": return tables.waysSafe(a);
            case "waysLost": return tables.waysLost(a);
            case "badWay": return tables.badWay(a);
            case "scoresThrough": return tables.scoresThrough(a);
            default: throw new AssertionError(name);
        }
    }

    private long dueOf(String name, int a, int b, int c, int d) {
        switch (name) {
            case "addGroup": return model.addGroup(a);
            case "setResult": return model.setResult(a, b, c, d);
            case "strike": return model.strike(a, b);
            case "takeAway": return model.takeAway(a, b);
            case "setCards": return model.setCards(a, b);
            case "setLot": return model.setLot(a, b);
            case "setThrough": model.setThrough(a, b); return 0;
            case "groups": return model.groups.size();
            case "teams": return model.teams();
            case "groupOf": return model.groupOf(a);
            case "played": return model.played(a);
            case "points": return model.points(a);
            case "difference": return model.difference(a);
            case "goals": return model.goals(a);
            case "place": return model.place(a);
            case "teamAt": return model.teamAt(a, b);
            case "rule": return model.rule(a, b);
            case "matchesLeft": return model.matchesLeft(a);
            case "thirdPoints": return model.thirdPoints(a);
            case "thirdRank": return model.thirdRank(a);
            case "isThrough": return model.isThrough(a) ? 1 : 0;
            case "ways": return model.ways(a);
            case "waysSafe": return model.waysSafe(a);
            case "waysLost": return model.waysLost(a);
            case "badWay": return model.badWay(a);
            case "scoresThrough": return model.scoresThrough(a);
            default: throw new AssertionError(name);
        }
    }
}
