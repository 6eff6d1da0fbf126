import java.util.ArrayList;
import java.util.Arrays;
import java.util.Comparator;
import java.util.HashMap;
import java.util.List;
import java.util.Map;
import java.util.TreeMap;

/**
 * The document once more, in the plainest way and with the Java library, to be compared with the
 * class: sorted buckets for the tables, every number of a way taken apart digit by digit. It is
 * asked for nothing wrong: which exceptions are due is told by ModelTest.
 */
final class PlainModel {
    final List<List<Integer>> groups = new ArrayList<>();
    private final Map<String, int[]> results = new HashMap<>();
    private final Map<Integer, Integer> taken = new HashMap<>();
    private final Map<Integer, Integer> cards = new HashMap<>();
    private final Map<Integer, Integer> lots = new HashMap<>();
    private int places = 2;
    private int thirds = 0;

    int teams() {
        return groups.stream().mapToInt(List::size).sum();
    }

    int addGroup(int size) {
        int first = teams();
        List<Integer> group = new ArrayList<>();
        for (int team = first; team < first + size; team++) {
            group.add(team);
        }
        groups.add(group);
        return first;
    }

    int groupOf(int team) {
        for (int group = 0; group < groups.size(); group++) {
            if (groups.get(group).contains(team)) {
                return group;
            }
        }
        return -1;
    }

    private List<Integer> mates(int team) {
        return groups.get(groupOf(team));
    }

    private static String match(int team, int other) {
        return Math.min(team, other) + "-" + Math.max(team, other);
    }

    boolean hasResult(int team, int other) {
        return results.containsKey(match(team, other));
    }

    private int scored(int team, int other) {
        return results.get(match(team, other))[team < other ? 0 : 1];
    }

    int setResult(int team, int other, int goals, int others) {
        int[] result = team < other ? new int[] {goals, others} : new int[] {others, goals};
        results.put(match(team, other), result);
        return matchesLeft(groupOf(team));
    }

    int strike(int team, int other) {
        results.remove(match(team, other));
        return matchesLeft(groupOf(team));
    }

    int takeAway(int team, int points) {
        Integer before = taken.put(team, points);
        return before == null ? 0 : before;
    }

    int setCards(int team, int points) {
        Integer before = cards.put(team, points);
        return before == null ? 0 : before;
    }

    int setLot(int team, int lot) {
        Integer before = lots.put(team, lot);
        return before == null ? team : before;
    }

    void setThrough(int newPlaces, int newThirds) {
        places = newPlaces;
        thirds = newThirds;
    }

    /** Points, difference, goals and the number of matches of a team against some others. */
    private int[] sums(int team, List<Integer> others) {
        int[] sums = new int[4];
        for (int other : others) {
            if (other != team && hasResult(team, other)) {
                int mine = scored(team, other);
                int theirs = scored(other, team);
                sums[0] += mine > theirs ? 3 : mine == theirs ? 1 : 0;
                sums[1] += mine - theirs;
                sums[2] += mine;
                sums[3]++;
            }
        }
        return sums;
    }

    int points(int team) {
        return sums(team, mates(team))[0] - taken.getOrDefault(team, 0);
    }

    int difference(int team) {
        return sums(team, mates(team))[1];
    }

    int goals(int team) {
        return sums(team, mates(team))[2];
    }

    int played(int team) {
        return sums(team, mates(team))[3];
    }

    int matchesLeft(int group) {
        return free(group).size();
    }

    private List<int[]> free(int group) {
        List<int[]> free = new ArrayList<>();
        for (int lower : groups.get(group)) {
            for (int upper : groups.get(group)) {
                if (lower < upper && !hasResult(lower, upper)) {
                    free.add(new int[] {lower, upper});
                }
            }
        }
        return free;
    }

    // What comes first in one of these lists of numbers is the smallest one.

    private List<Integer> amongTied(int team, List<Integer> tied) {
        int[] sums = sums(team, tied);
        return List.of(-sums[0], -sums[1], -sums[2]);
    }

    private List<Integer> overAll(int team) {
        return List.of(-difference(team), -goals(team), cards.getOrDefault(team, 0),
                lots.getOrDefault(team, team), team);
    }

    private static int compare(List<Integer> one, List<Integer> two) {
        int at = firstApart(one, two);
        return at == one.size() ? 0 : Integer.compare(one.get(at), two.get(at));
    }

    private static int firstApart(List<Integer> one, List<Integer> two) {
        int at = 0;
        while (at < one.size() && one.get(at).equals(two.get(at))) {
            at++;
        }
        return at;
    }

    List<Integer> order(int group) {
        TreeMap<Integer, List<Integer>> byPoints = new TreeMap<>(Comparator.reverseOrder());
        for (int team : groups.get(group)) {
            byPoints.computeIfAbsent(points(team), key -> new ArrayList<>()).add(team);
        }
        List<Integer> order = new ArrayList<>();
        for (List<Integer> tied : byPoints.values()) {
            order.addAll(settle(tied));
        }
        return order;
    }

    private List<Integer> settle(List<Integer> tied) {
        TreeMap<List<Integer>, List<Integer>> buckets = new TreeMap<>(PlainModel::compare);
        for (int team : tied) {
            buckets.computeIfAbsent(amongTied(team, tied), key -> new ArrayList<>()).add(team);
        }
        List<Integer> order = new ArrayList<>();
        if (buckets.size() > 1) {
            for (List<Integer> alike : buckets.values()) {
                order.addAll(settle(alike));
            }
        } else {
            order.addAll(tied);
            order.sort((one, two) -> compare(overAll(one), overAll(two)));
        }
        return order;
    }

    int rule(int team, int other) {
        if (points(team) != points(other)) {
            return 0;
        }
        List<Integer> tied = new ArrayList<>(mates(team));
        tied.removeIf(each -> points(each) != points(team));
        while (true) {
            List<Integer> all = List.copyOf(tied);
            int apart = firstApart(amongTied(team, all), amongTied(other, all));
            if (apart < 3) {
                return 1 + apart;
            }
            tied.removeIf(each -> compare(amongTied(each, all), amongTied(team, all)) != 0);
            if (tied.size() == all.size()) {
                return 4 + Math.min(3, firstApart(overAll(team), overAll(other)));
            }
        }
    }

    int place(int team) {
        return order(groupOf(team)).indexOf(team);
    }

    int teamAt(int group, int place) {
        return order(group).get(place);
    }

    private List<Integer> thirdMarks(int group) {
        int smallest = groups.stream().mapToInt(List::size).min().orElse(0);
        List<Integer> order = order(group);
        int third = order.get(2);
        int[] sums = sums(third, order.subList(0, smallest));
        return List.of(-(sums[0] - taken.getOrDefault(third, 0)), -sums[1], -sums[2],
                cards.getOrDefault(third, 0), lots.getOrDefault(third, third), third);
    }

    int thirdPoints(int group) {
        return -thirdMarks(group).get(0);
    }

    int thirdRank(int group) {
        int better = 0;
        for (int other = 0; other < groups.size(); other++) {
            if (other != group && compare(thirdMarks(other), thirdMarks(group)) < 0) {
                better++;
            }
        }
        return better;
    }

    boolean isThrough(int team) {
        int place = place(team);
        return place < places || place == 2 && thirdRank(groupOf(team)) < thirds;
    }

    int ways(int group) {
        int ways = 1;
        for (int match = 0; match < matchesLeft(group); match++) {
            ways *= 3;
        }
        return ways;
    }

    /** How many others of its group have as many points as a team, or more, and how many more. */
    private int[] ahead(int team, int way) {
        List<Integer> mates = mates(team);
        int first = mates.get(0);
        int[] gained = new int[mates.size()];
        for (int mate : mates) {
            gained[mate - first] = points(mate);
        }
        int rest = way;
        for (int[] match : free(groupOf(team))) {
            int outcome = rest % 3;
            rest /= 3;
            gained[match[0] - first] += outcome == 0 ? 3 : outcome == 1 ? 1 : 0;
            gained[match[1] - first] += outcome == 2 ? 3 : outcome == 1 ? 1 : 0;
        }
        int mine = gained[team - first];
        int asMany = (int) Arrays.stream(gained).filter(each -> each >= mine).count() - 1;
        int more = (int) Arrays.stream(gained).filter(each -> each > mine).count();
        return new int[] {asMany, more};
    }

    int waysSafe(int team) {
        int count = 0;
        for (int way = 0; way < ways(groupOf(team)); way++) {
            count += ahead(team, way)[0] < places ? 1 : 0;
        }
        return count;
    }

    int waysLost(int team) {
        int count = 0;
        for (int way = 0; way < ways(groupOf(team)); way++) {
            count += ahead(team, way)[1] >= places ? 1 : 0;
        }
        return count;
    }

    int badWay(int team) {
        for (int way = 0; way < ways(groupOf(team)); way++) {
            if (ahead(team, way)[0] >= places) {
                return way;
            }
        }
        return -1;
    }

    int scoresThrough(int team) {
        List<int[]> free = free(groupOf(team));
        int all = 1;
        for (int match = 0; match < free.size(); match++) {
            all *= 9;
        }
        int count = 0;
        for (int scores = 0; scores < all; scores++) {
            int rest = scores;
            for (int[] match : free) {
                setResult(match[0], match[1], rest % 9 / 3, rest % 3);
                rest /= 9;
            }
            count += place(team) < places ? 1 : 0;
        }
        for (int[] match : free) {
            strike(match[0], match[1]);
        }
        return count;
    }
}
