/**
 * The tables of football groups: results, points and goals, ties that are settled among the tied
 * teams alone and then by further rules, points taken away, cards, lots, the best thirds over
 * groups of unlike size, and who is through or out, over all ways in which the rest may end.
 *
 * <p>Inside a group a team is known by its seat, which is its number less the number of the first
 * team of the group; a set of teams of a group is an int with one bit a seat.
 */
public final class GroupTables {
    private static final int MOST_GROUPS = 6;
    private static final int LEAST_SIZE = 3;
    private static final int MOST_SIZE = 5;
    private static final int MOST_MATCHES = 10;
    private static final int MOST_GOALS = 20;
    private static final int MOST_TAKEN = 20;
    private static final int MOST_CARDS = 50;
    private static final int MOST_LOT = 99;
    private static final int MOST_PLACES = 2;
    private static final int THIRD_PLACE = 2;
    private static final int MOST_LEFT_FOR_SCORES = 3;
    private static final int OUTCOMES = 3;

    private final Group[] groupRow = new Group[MOST_GROUPS];
    private final Table table = new Table();
    private final Thirds bestThirds = new Thirds();
    private final Outlook outlook = new Outlook();
    private final Scores scores = new Scores();
    private int groupCount;
    private int teamCount;
    private int leadingPlaces = 2;
    private int leadingThirds;

    public GroupTables() {
        for (int group = 0; group < MOST_GROUPS; group++) {
            groupRow[group] = new Group();
        }
    }

    // ---- groups, results, rules

    public int addGroup(int teams) throws IllegalArgumentException, IllegalStateException {
        needInRange(teams, LEAST_SIZE, MOST_SIZE);
        if (groupCount >= MOST_GROUPS) {
            throw new IllegalStateException("there are 6 groups");
        }
        int first = teamCount;
        groupRow[groupCount].open(first, teams);
        groupCount++;
        teamCount += teams;
        return first;
    }

    public int setResult(int team, int other, int goals, int others)
            throws IndexOutOfBoundsException, IllegalArgumentException {
        Group group = groupOfPair(team, other);
        needInRange(goals, 0, MOST_GOALS);
        needInRange(others, 0, MOST_GOALS);
        group.tell(group.seatOf(team), group.seatOf(other), goals, others);
        return group.left();
    }

    public int strike(int team, int other)
            throws IndexOutOfBoundsException, IllegalArgumentException, IllegalStateException {
        Group group = groupOfPair(team, other);
        int seat = group.seatOf(team);
        int otherSeat = group.seatOf(other);
        if (!group.hasResult(seat, otherSeat)) {
            throw new IllegalStateException("the match has no result");
        }
        group.untell(seat, otherSeat);
        return group.left();
    }

    public int takeAway(int team, int points)
            throws IndexOutOfBoundsException, IllegalArgumentException {
        Group group = groupWith(team);
        needInRange(points, 0, MOST_TAKEN);
        return group.putTaken(group.seatOf(team), points);
    }

    public int setCards(int team, int points)
            throws IndexOutOfBoundsException, IllegalArgumentException {
        Group group = groupWith(team);
        needInRange(points, 0, MOST_CARDS);
        return group.putCards(group.seatOf(team), points);
    }

    public int setLot(int team, int lot)
            throws IndexOutOfBoundsException, IllegalArgumentException {
        Group group = groupWith(team);
        needInRange(lot, 0, MOST_LOT);
        return group.putLot(group.seatOf(team), lot);
    }

    public void setThrough(int places, int thirds) throws IllegalArgumentException {
        needInRange(places, 1, MOST_PLACES);
        needInRange(thirds, 0, MOST_GROUPS);
        leadingPlaces = places;
        leadingThirds = thirds;
    }

    // ---- teams; nothing from here on changes anything

    public int groups() {
        return groupCount;
    }

    public int teams() {
        return teamCount;
    }

    public int groupOf(int team) throws IndexOutOfBoundsException {
        return groupNumber(team);
    }

    public int played(int team) throws IndexOutOfBoundsException {
        Group group = groupWith(team);
        return group.playedBy(group.seatOf(team));
    }

    public int points(int team) throws IndexOutOfBoundsException {
        Group group = groupWith(team);
        return group.pointsOf(group.seatOf(team));
    }

    public int difference(int team) throws IndexOutOfBoundsException {
        Group group = groupWith(team);
        return group.differenceFrom(group.seatOf(team), group.everyone());
    }

    public int goals(int team) throws IndexOutOfBoundsException {
        Group group = groupWith(team);
        return group.goalsFrom(group.seatOf(team), group.everyone());
    }

    // ---- tables

    public int place(int team) throws IndexOutOfBoundsException {
        Group group = groupWith(team);
        table.draw(group);
        return table.placeOf(group.seatOf(team));
    }

    public int teamAt(int group, int place) throws IndexOutOfBoundsException {
        needGroup(group);
        Group asked = groupRow[group];
        if (place < 0 || place >= asked.size()) {
            throw new IndexOutOfBoundsException("no such place");
        }
        table.draw(asked);
        return asked.teamOn(table.seatAt(place));
    }

    public int rule(int team, int other)
            throws IndexOutOfBoundsException, IllegalArgumentException {
        Group group = groupOfPair(team, other);
        table.draw(group);
        return table.ruleBetween(group.seatOf(team), group.seatOf(other));
    }

    public int matchesLeft(int group) throws IndexOutOfBoundsException {
        needGroup(group);
        return groupRow[group].left();
    }

    public int thirdPoints(int group) throws IndexOutOfBoundsException {
        needGroup(group);
        bestThirds.measure(groupRow, groupCount, table);
        return bestThirds.pointsOfThird(group);
    }

    public int thirdRank(int group) throws IndexOutOfBoundsException {
        needGroup(group);
        bestThirds.measure(groupRow, groupCount, table);
        return bestThirds.betterThan(group, groupCount);
    }

    public boolean isThrough(int team) throws IndexOutOfBoundsException {
        int number = groupNumber(team);
        Group group = groupRow[number];
        table.draw(group);
        int reached = table.placeOf(group.seatOf(team));
        if (reached != THIRD_PLACE) {
            return reached < leadingPlaces;
        }
        bestThirds.measure(groupRow, groupCount, table);
        return bestThirds.betterThan(number, groupCount) < leadingThirds;
    }

    // ---- ways

    public int ways(int group) throws IndexOutOfBoundsException {
        needGroup(group);
        return waysOf(groupRow[group].left());
    }

    public int waysSafe(int team) throws IndexOutOfBoundsException {
        Group group = groupWith(team);
        int unsafe = outlook.countPassed(group, group.seatOf(team), leadingPlaces, 0);
        return waysOf(group.left()) - unsafe;
    }

    public int waysLost(int team) throws IndexOutOfBoundsException {
        Group group = groupWith(team);
        return outlook.countPassed(group, group.seatOf(team), leadingPlaces, 1);
    }

    public int badWay(int team) throws IndexOutOfBoundsException {
        Group group = groupWith(team);
        return outlook.firstPassed(group, group.seatOf(team), leadingPlaces, 0);
    }

    public int scoresThrough(int team) throws IndexOutOfBoundsException, IllegalStateException {
        Group group = groupWith(team);
        if (group.left() > MOST_LEFT_FOR_SCORES) {
            throw new IllegalStateException("more than 3 matches are left");
        }
        return scores.countThrough(group, group.seatOf(team), leadingPlaces, table);
    }

    // ---- what the calls have in common

    private static void needInRange(int value, int least, int most)
            throws IllegalArgumentException {
        if (value < least || value > most) {
            throw new IllegalArgumentException("out of range");
        }
    }

    private void needGroup(int group) throws IndexOutOfBoundsException {
        if (group < 0 || group >= groupCount) {
            throw new IndexOutOfBoundsException("no such group");
        }
    }

    private int groupNumber(int team) throws IndexOutOfBoundsException {
        if (team < 0 || team >= teamCount) {
            throw new IndexOutOfBoundsException("no such team");
        }
        int number = 0;
        while (number < groupCount - 1 && !groupRow[number].hasTeam(team)) {
            number++;
        }
        return number;
    }

    private Group groupWith(int team) throws IndexOutOfBoundsException {
        return groupRow[groupNumber(team)];
    }

    private Group groupOfPair(int team, int other)
            throws IndexOutOfBoundsException, IllegalArgumentException {
        int number = groupNumber(team);
        int otherNumber = groupNumber(other);
        if (team == other || number != otherNumber) {
            throw new IllegalArgumentException("not two teams of one group");
        }
        return groupRow[number];
    }

    private static int waysOf(int matches) {
        int ways = 1;
        for (int match = 0; match < matches; match++) {
            ways *= OUTCOMES;
        }
        return ways;
    }

    /** What is known of the teams of a group and of their matches. */
    private static final class Group {
        private static final int NO_RESULT = -1;

        /** The goals that the team of the row scored against the team of the column. */
        private final int[][] scored = new int[MOST_SIZE][MOST_SIZE];
        private final int[] taken = new int[MOST_SIZE];
        private final int[] cards = new int[MOST_SIZE];
        private final int[] lots = new int[MOST_SIZE];
        private int firstTeam;
        private int teamsHere;

        void open(int first, int size) {
            firstTeam = first;
            teamsHere = size;
            for (int seat = 0; seat < size; seat++) {
                lots[seat] = first + seat;
                for (int other = 0; other < size; other++) {
                    scored[seat][other] = NO_RESULT;
                }
            }
        }

        int size() {
            return teamsHere;
        }

        boolean hasTeam(int team) {
            return team >= firstTeam && team < firstTeam + teamsHere;
        }

        int seatOf(int team) {
            return team - firstTeam;
        }

        int teamOn(int seat) {
            return firstTeam + seat;
        }

        int everyone() {
            return (1 << teamsHere) - 1;
        }

        void tell(int seat, int other, int goalsOfSeat, int goalsOfOther) {
            scored[seat][other] = goalsOfSeat;
            scored[other][seat] = goalsOfOther;
        }

        void untell(int seat, int other) {
            tell(seat, other, NO_RESULT, NO_RESULT);
        }

        boolean hasResult(int seat, int other) {
            return scored[seat][other] != NO_RESULT;
        }

        int putTaken(int seat, int value) {
            int before = taken[seat];
            taken[seat] = value;
            return before;
        }

        int putCards(int seat, int value) {
            int before = cards[seat];
            cards[seat] = value;
            return before;
        }

        int putLot(int seat, int value) {
            int before = lots[seat];
            lots[seat] = value;
            return before;
        }

        int playedBy(int seat) {
            int count = 0;
            for (int other = 0; other < teamsHere; other++) {
                if (hasResult(seat, other)) {
                    count++;
                }
            }
            return count;
        }

        int left() {
            int count = 0;
            for (int seat = 0; seat < teamsHere; seat++) {
                for (int other = seat + 1; other < teamsHere; other++) {
                    if (!hasResult(seat, other)) {
                        count++;
                    }
                }
            }
            return count;
        }

        int pointsOf(int seat) {
            return pointsFrom(seat, everyone()) - taken[seat];
        }

        int takenFrom(int seat) {
            return taken[seat];
        }

        // Sums go over a set of opponents: the whole table, the table of the tied and the thirds
        // differ in nothing but the matches that count.

        int pointsFrom(int seat, int set) {
            int sum = 0;
            for (int other = 0; other < teamsHere; other++) {
                if (counts(seat, other, set)) {
                    sum += pointsFor(scored[seat][other], scored[other][seat]);
                }
            }
            return sum;
        }

        int differenceFrom(int seat, int set) {
            int sum = 0;
            for (int other = 0; other < teamsHere; other++) {
                if (counts(seat, other, set)) {
                    sum += scored[seat][other] - scored[other][seat];
                }
            }
            return sum;
        }

        int goalsFrom(int seat, int set) {
            int sum = 0;
            for (int other = 0; other < teamsHere; other++) {
                if (counts(seat, other, set)) {
                    sum += scored[seat][other];
                }
            }
            return sum;
        }

        // Marks are better the greater they are, so what is better if lower is turned round.

        int cardMark(int seat) {
            return -cards[seat];
        }

        /** Takes the number in, so that no two teams, of whatever groups, have the same mark. */
        int lotMark(int seat) {
            return -(lots[seat] * MOST_GROUPS * MOST_SIZE + firstTeam + seat);
        }

        private boolean counts(int seat, int other, int set) {
            return (set >> other & 1) != 0 && scored[seat][other] != NO_RESULT;
        }

        private static int pointsFor(int goalsOfSeat, int goalsOfOther) {
            if (goalsOfSeat == goalsOfOther) {
                return 1;
            }
            return goalsOfSeat > goalsOfOther ? 3 : 0;
        }
    }

    /**
     * Rows of marks, by which teams are compared: of two rows that one is better which has the
     * greater mark in the first column in which they are apart.
     */
    private static final class Marks {
        private final int[][] rows;

        Marks(int rowCount, int columnCount) {
            rows = new int[rowCount][columnCount];
        }

        void put(int row, int column, int mark) {
            rows[row][column] = mark;
        }

        int at(int row, int column) {
            return rows[row][column];
        }

        /** The first of so many columns in which two rows are apart; so many if there is none. */
        int firstApart(int row, int other, int columns) {
            int column = 0;
            while (column < columns && rows[row][column] == rows[other][column]) {
                column++;
            }
            return column;
        }

        boolean isBetter(int row, int other, int columns) {
            int column = firstApart(row, other, columns);
            return column < columns && rows[row][column] > rows[other][column];
        }
    }

    /** The order of the teams of a group, and the rules by which they are told apart. */
    private static final class Table {
        private static final int RULE_POINTS = 0;
        private static final int RULE_AMONG_TIED = 1;
        private static final int RULE_ALL_MATCHES = 4;
        private static final int BY_POINTS = 1;
        private static final int BY_TIED = 3;
        private static final int BY_ALL = 4;

        private final Marks marks = new Marks(MOST_SIZE, BY_ALL);
        private final int[] order = new int[MOST_SIZE];
        private final int[][] rules = new int[MOST_SIZE][MOST_SIZE];

        void draw(Group group) {
            int size = group.size();
            for (int seat = 0; seat < size; seat++) {
                order[seat] = seat;
                marks.put(seat, 0, group.pointsOf(seat));
            }
            arrange(0, size, BY_POINTS, RULE_POINTS);
            int start = 0;
            for (int end = 1; end <= size; end++) {
                if (alikeEnd(start, end, size, BY_POINTS)) {
                    settle(group, start, end, 0);
                    start = end;
                }
            }
        }

        int seatAt(int place) {
            return order[place];
        }

        int placeOf(int seat) {
            int place = 0;
            while (place < MOST_SIZE - 1 && order[place] != seat) {
                place++;
            }
            return place;
        }

        int ruleBetween(int seat, int other) {
            return rules[seat][other];
        }

        int setOf(int start, int end) {
            int set = 0;
            for (int place = start; place < end; place++) {
                set |= 1 << order[place];
            }
            return set;
        }

        /**
         * Orders the tied teams at the places from start on to before end. The depth stays below
         * the size of a group, since each deeper call has fewer teams.
         */
        private void settle(Group group, int start, int end, int depth) {
            if (end - start < 2 || depth >= MOST_SIZE) {
                return;
            }
            markTied(group, start, end);
            arrange(start, end, BY_TIED, RULE_AMONG_TIED);
            if (marks.firstApart(order[start], order[end - 1], BY_TIED) == BY_TIED) {
                markAll(group, start, end);
                arrange(start, end, BY_ALL, RULE_ALL_MATCHES);
                return;
            }
            int from = start;
            for (int next = start + 1; next <= end; next++) {
                if (alikeEnd(from, next, end, BY_TIED)) {
                    settle(group, from, next, depth + 1);
                    from = next;
                }
            }
        }

        private void markTied(Group group, int start, int end) {
            int tied = setOf(start, end);
            for (int place = start; place < end; place++) {
                int seat = order[place];
                marks.put(seat, 0, group.pointsFrom(seat, tied));
                marks.put(seat, 1, group.differenceFrom(seat, tied));
                marks.put(seat, 2, group.goalsFrom(seat, tied));
            }
        }

        private void markAll(Group group, int start, int end) {
            int everyone = group.everyone();
            for (int place = start; place < end; place++) {
                int seat = order[place];
                marks.put(seat, 0, group.differenceFrom(seat, everyone));
                marks.put(seat, 1, group.goalsFrom(seat, everyone));
                marks.put(seat, 2, group.cardMark(seat));
                marks.put(seat, 3, group.lotMark(seat));
            }
        }

        private void arrange(int start, int end, int columns, int firstRule) {
            for (int place = start + 1; place < end; place++) {
                int to = place;
                while (to > start && marks.isBetter(order[to], order[to - 1], columns)) {
                    int seat = order[to];
                    order[to] = order[to - 1];
                    order[to - 1] = seat;
                    to--;
                }
            }
            for (int place = start; place < end; place++) {
                for (int below = place + 1; below < end; below++) {
                    noteRule(order[place], order[below], columns, firstRule);
                }
            }
        }

        private void noteRule(int seat, int other, int columns, int firstRule) {
            int column = marks.firstApart(seat, other, columns);
            if (column < columns) {
                rules[seat][other] = firstRule + column;
                rules[other][seat] = firstRule + column;
            }
        }

        /** Whether the teams alike to that at the place start end before next, at most at end. */
        private boolean alikeEnd(int start, int next, int end, int columns) {
            return next >= end || marks.firstApart(order[start], order[next], columns) < columns;
        }
    }

    /** The thirds of all groups, as far as their matches count for comparing them. */
    private static final class Thirds {
        private static final int COLUMNS = 5;

        private final Marks marks = new Marks(MOST_GROUPS, COLUMNS);

        void measure(Group[] groupRow, int groupCount, Table table) {
            int size = smallestSize(groupRow, groupCount);
            for (int number = 0; number < groupCount; number++) {
                Group group = groupRow[number];
                table.draw(group);
                int seat = table.seatAt(THIRD_PLACE);
                int counting = table.setOf(0, size);
                int gained = group.pointsFrom(seat, counting);
                marks.put(number, 0, gained - group.takenFrom(seat));
                marks.put(number, 1, group.differenceFrom(seat, counting));
                marks.put(number, 2, group.goalsFrom(seat, counting));
                marks.put(number, 3, group.cardMark(seat));
                marks.put(number, 4, group.lotMark(seat));
            }
        }

        int pointsOfThird(int number) {
            return marks.at(number, 0);
        }

        int betterThan(int number, int groupCount) {
            int count = 0;
            for (int other = 0; other < groupCount; other++) {
                if (marks.isBetter(other, number, COLUMNS)) {
                    count++;
                }
            }
            return count;
        }

        private static int smallestSize(Group[] groupRow, int groupCount) {
            int size = MOST_SIZE;
            for (int number = 0; number < groupCount; number++) {
                size = Math.min(size, groupRow[number].size());
            }
            return size;
        }
    }

    /** The matches of a group without a result. */
    private static final class LeftMatches {
        private static final int NOBODY = -1;

        private final int[] lowerSeats = new int[MOST_MATCHES];
        private final int[] upperSeats = new int[MOST_MATCHES];

        /** Lists them in the order of their numbers, and answers how many there are. */
        int list(Group group) {
            return listOwnLast(group, NOBODY);
        }

        int listOwnLast(Group group, int seat) {
            int others = add(group, seat, false, 0);
            return add(group, seat, true, others);
        }

        private int add(Group group, int seat, boolean own, int countBefore) {
            int count = countBefore;
            int size = group.size();
            for (int lower = 0; lower < size; lower++) {
                for (int upper = lower + 1; upper < size; upper++) {
                    boolean ofSeat = lower == seat || upper == seat;
                    if (ofSeat == own && count < MOST_MATCHES && !group.hasResult(lower, upper)) {
                        lowerSeats[count] = lower;
                        upperSeats[count] = upper;
                        count++;
                    }
                }
            }
            return count;
        }

        int lowerOf(int match) {
            return lowerSeats[match];
        }

        int upperOf(int match) {
            return upperSeats[match];
        }
    }

    /**
     * The ways of a group, seen for one team. The team is passed in a way if as many others as
     * places lead on, or more, have at least its points and a margin: with the margin 0 it is not
     * safe then, with the margin 1 it is lost.
     *
     * <p>The matches are played from the last one of their list down.
     */
    private static final class Outlook {
        private static final int[] LOWER_GAINS = {3, 1, 0};
        private static final int[] UPPER_GAINS = {0, 1, 3};
        private static final int WIN = 3;
        private static final int NONE = -1;

        private final LeftMatches matches = new LeftMatches();
        private final int[] gained = new int[MOST_SIZE];
        private final int[] toPlay = new int[MOST_SIZE];
        private int size;
        private int watched;
        private int places;
        private int margin;

        int countPassed(Group group, int seat, int leadingPlaces, int marginToPass) {
            open(group, seat, leadingPlaces, marginToPass);
            // The order is free here; with its own matches known first most ways are cut short.
            return waysPassed(matches.listOwnLast(group, seat));
        }

        int firstPassed(Group group, int seat, int leadingPlaces, int marginToPass) {
            open(group, seat, leadingPlaces, marginToPass);
            // The match with the highest number weighs most in a way's number: it is played first.
            return lowestPassed(matches.list(group));
        }

        private void open(Group group, int seat, int leadingPlaces, int marginToPass) {
            size = group.size();
            watched = seat;
            places = leadingPlaces;
            margin = marginToPass;
            for (int each = 0; each < size; each++) {
                gained[each] = group.pointsOf(each);
                toPlay[each] = size - 1 - group.playedBy(each);
            }
        }

        /** Counts the ways of the first so many matches in which the team is passed. */
        private int waysPassed(int left) {
            if (isPassedAnyhow()) {
                return waysOf(left);
            }
            if (left <= 0 || !canBePassed()) {
                return 0;
            }
            int count = 0;
            for (int outcome = 0; outcome < OUTCOMES; outcome++) {
                play(left - 1, outcome);
                count += waysPassed(left - 1);
                takeBack(left - 1, outcome);
            }
            return count;
        }

        /** The lowest way of the first so many matches in which the team is passed, or NONE. */
        private int lowestPassed(int left) {
            if (isPassedAnyhow()) {
                return 0;
            }
            if (left <= 0 || !canBePassed()) {
                return NONE;
            }
            int lowest = NONE;
            for (int outcome = 0; outcome < OUTCOMES && lowest == NONE; outcome++) {
                play(left - 1, outcome);
                int way = lowestPassed(left - 1);
                takeBack(left - 1, outcome);
                if (way != NONE) {
                    lowest = outcome * waysOf(left - 1) + way;
                }
            }
            return lowest;
        }

        private void play(int match, int outcome) {
            int lower = matches.lowerOf(match);
            int upper = matches.upperOf(match);
            gained[lower] += LOWER_GAINS[outcome];
            gained[upper] += UPPER_GAINS[outcome];
            toPlay[lower]--;
            toPlay[upper]--;
        }

        private void takeBack(int match, int outcome) {
            int lower = matches.lowerOf(match);
            int upper = matches.upperOf(match);
            gained[lower] -= LOWER_GAINS[outcome];
            gained[upper] -= UPPER_GAINS[outcome];
            toPlay[lower]++;
            toPlay[upper]++;
        }

        /** Whether the team is passed even if it wins all the rest and the others none of it. */
        private boolean isPassedAnyhow() {
            int bar = gained[watched] + WIN * toPlay[watched] + margin;
            int count = 0;
            for (int seat = 0; seat < size; seat++) {
                if (seat != watched && gained[seat] >= bar) {
                    count++;
                }
            }
            return count >= places;
        }

        /** Whether the team is passed if the others win all the rest and it wins none of it. */
        private boolean canBePassed() {
            int bar = gained[watched] + margin;
            int count = 0;
            for (int seat = 0; seat < size; seat++) {
                if (seat != watched && gained[seat] + WIN * toPlay[seat] >= bar) {
                    count++;
                }
            }
            return count >= places;
        }
    }

    /** All small scores of the matches of a group that are left. */
    private static final class Scores {
        private static final int MOST_SMALL = 2;

        private final LeftMatches matches = new LeftMatches();

        int countThrough(Group group, int seat, int places, Table table) {
            return countFrom(group, seat, places, table, matches.list(group));
        }

        /**
         * Plays the first so many matches in the group itself, so that its table is drawn as ever,
         * and strikes them again, since a question changes nothing.
         */
        private int countFrom(Group group, int seat, int places, Table table, int left) {
            if (left <= 0) {
                table.draw(group);
                return table.placeOf(seat) < places ? 1 : 0;
            }
            int lower = matches.lowerOf(left - 1);
            int upper = matches.upperOf(left - 1);
            int count = 0;
            for (int lowerGoals = 0; lowerGoals <= MOST_SMALL; lowerGoals++) {
                for (int upperGoals = 0; upperGoals <= MOST_SMALL; upperGoals++) {
                    group.tell(lower, upper, lowerGoals, upperGoals);
                    count += countFrom(group, seat, places, table, left - 1);
                }
            }
            group.untell(lower, upper);
            return count;
        }
    }
}
