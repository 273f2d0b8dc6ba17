import java.util.ArrayDeque;
import java.util.ArrayList;
import java.util.Arrays;
import java.util.Comparator;
import java.util.Deque;
import java.util.List;
import java.util.NoSuchElementException;
import java.util.regex.Matcher;
import java.util.regex.Pattern;

/**
 * The document told a second time, as plainly as the Java library lets it be told: lists that are copied
 * whole before each change, a regular expression for the orders, and their calls carried out as calls.
 * RandomRunsTest asks it and the program the same things.
 */
public final class Reference {
    private static final Pattern ORDER = Pattern.compile(
            "door\\d[oig][sd]\\d\\d|sill[OSAL]|govern\\d[OSAL]|set\\d@[\\d-]|end\\d[OSAL][sd]=[a-z]"
            + "|key\\d[oig]|knock\\d:[oig][sd][OSAL]|shut\\d|free\\d>\\d");
    private static final Pattern TEXT = Pattern.compile("(?:" + ORDER + ")(?:;(?:" + ORDER + "))*");

    private static final class State {
        final List<int[]> doors = new ArrayList<>(); // as doorOf tells them
        final List<Integer> thresholds = new ArrayList<>();
        final List<List<Integer>> keys = new ArrayList<>();
        final char[][][] endings = new char[3][4][2];
        final int[] counts = new int[13];

        State() {
            for (int d = 0; d < 3; d++) {
                for (int c = 0; c < 4; c++) {
                    for (int n = 0; n < 2; n++) {
                        endings[d][c][n] = "aeiou".charAt((d + 2 * c + n) % 5);
                    }
                }
            }
        }

        State(State from) {
            for (int[] door : from.doors) {
                doors.add(door.clone());
            }
            thresholds.addAll(from.thresholds);
            keys.addAll(from.keys);
            for (int d = 0; d < 3; d++) {
                for (int c = 0; c < 4; c++) {
                    endings[d][c] = from.endings[d][c].clone();
                }
            }
            System.arraycopy(from.counts, 0, counts, 0, 13);
        }

        int caseOf(int[] door) {
            return door[3] == -1 ? 0 : thresholds.get(door[3]);
        }

        char endingOf(int[] door) {
            return endings[door[0]][caseOf(door)][door[2]];
        }

        String form(int door) {
            int[] d = doors.get(door);
            return "" + "oig".charAt(d[1]) + "sd".charAt(d[2]) + endingOf(d);
        }

        int having(int what, int value) {
            return (int) doors.stream().filter(d -> d[what] == value).count();
        }
    }

    private State state = new State();
    private State saved = null;
    private final Deque<State> undos = new ArrayDeque<>();
    private boolean isReading = false;
    private String line = "";
    private String buffer = "";
    private int[] refusal = null;
    private Integer position = null;
    private Integer item = null;

    private static void illegalIf(boolean is) {
        if (is) {
            throw new IllegalArgumentException();
        }
    }

    private static void outsideIf(boolean is) {
        if (is) {
            throw new IndexOutOfBoundsException();
        }
    }

    private static void nothingIf(boolean is) {
        if (is) {
            throw new NoSuchElementException();
        }
    }

    private static void stateIf(boolean is) {
        if (is) {
            throw new IllegalStateException();
        }
    }

    private void refuseIf(boolean is, int reason, int detail) {
        if (is) {
            refusal = new int[] {reason, detail};
            throw new UnsupportedOperationException();
        }
    }

    private static boolean no(int number, int bound) {
        return number < 0 || number >= bound;
    }

    private void change() {
        if (!isReading) {
            push(new State(state));
        }
    }

    private void push(State before) {
        undos.addLast(before);
        if (undos.size() > 8) {
            undos.removeFirst();
        }
    }

    public int clear() {
        int doors = state.doors.size();
        state = new State();
        undos.clear();
        return doors;
    }

    public int door(int declension, int gender, boolean isDouble, int one, int other) {
        illegalIf(no(declension, 3) || no(gender, 3) || one == other);
        outsideIf(no(one, 6) || no(other, 6));
        refuseIf(state.doors.size() == 8, 1, 8);
        change();
        state.doors.add(new int[] {declension, gender, isDouble ? 1 : 0, -1, 0, 0, 0, 0, one, other, 0});
        return state.doors.size() - 1;
    }

    public int threshold(int governed) {
        illegalIf(no(governed, 4));
        refuseIf(state.thresholds.size() == 6, 1, 6);
        change();
        state.thresholds.add(governed);
        return state.thresholds.size() - 1;
    }

    public int govern(int threshold, int governed) {
        outsideIf(no(threshold, state.thresholds.size()));
        illegalIf(no(governed, 4));
        refuseIf(state.thresholds.get(threshold) == governed, 2, governed);
        change();
        return state.thresholds.set(threshold, governed);
    }

    public int set(int door, int threshold) {
        outsideIf(no(door, state.doors.size()));
        outsideIf(threshold != -1 && no(threshold, state.thresholds.size()));
        refuseIf(state.doors.get(door)[3] == threshold, 2, threshold);
        change();
        state.doors.get(door)[3] = threshold;
        return state.caseOf(state.doors.get(door));
    }

    public int tellEnding(int declension, int inCase, boolean isDouble, int letter) {
        illegalIf(no(declension, 3) || no(inCase, 4) || no(letter, 26));
        char[] both = state.endings[declension][inCase];
        int n = isDouble ? 1 : 0;
        refuseIf(both[n] == 'a' + letter, 2, letter);
        change();
        int before = both[n] - 'a';
        both[n] = (char) ('a' + letter);
        return before;
    }

    public int key(int declension, int gender) {
        illegalIf(no(declension, 3) || no(gender, 3));
        int same = state.keys.indexOf(List.of(declension, gender));
        refuseIf(same >= 0, 2, same);
        refuseIf(state.keys.size() == 5, 1, 5);
        change();
        state.keys.add(List.of(declension, gender));
        return state.keys.size() - 1;
    }

    public int doorOf(int door, int what) {
        outsideIf(no(door, state.doors.size()));
        illegalIf(no(what, 11));
        int[] d = state.doors.get(door);
        return what == 4 ? state.caseOf(d) : d[what];
    }

    public int thresholdOf(int threshold, int what) {
        outsideIf(no(threshold, state.thresholds.size()));
        illegalIf(no(what, 2));
        return what == 0 ? state.thresholds.get(threshold) : state.having(3, threshold);
    }

    public char ending(int declension, int inCase, boolean isDouble) {
        illegalIf(no(declension, 3) || no(inCase, 4));
        return state.endings[declension][inCase][isDouble ? 1 : 0];
    }

    public boolean areAlike(int one, int other, boolean isAgain) {
        outsideIf(no(one, state.doors.size()) || no(other, state.doors.size()));
        return state.form(one).equals(state.form(other));
    }

    public int couldBe(int door) {
        outsideIf(no(door, state.doors.size()));
        int[] d = state.doors.get(door);
        int set = 0;
        for (int c = 3; c >= 0; c--) {
            set = 2 * set + (state.endings[d[0]][c][d[2]] == state.endingOf(d) ? 1 : 0);
        }
        return set;
    }

    public int twins(int door) {
        outsideIf(no(door, state.doors.size()));
        int set = 0;
        for (int other = state.doors.size() - 1; other >= 0; other--) {
            set = 2 * set + (state.form(door).equals(state.form(other)) ? 1 : 0);
        }
        return set;
    }

    public int syncretic(int declension) {
        illegalIf(no(declension, 3));
        int twice = 0;
        for (int one = 0; one < 4; one++) {
            for (int other = 0; other < 4; other++) {
                for (int n = 0; n < 2; n++) {
                    char[][] of = state.endings[declension];
                    twice += one != other && of[one][n] == of[other][n] ? 1 : 0;
                }
            }
        }
        return twice / 2;
    }

    private String allEndings() {
        StringBuilder all = new StringBuilder();
        for (char[][] declension : state.endings) {
            for (char[] both : declension) {
                all.append(both);
            }
        }
        return all.toString();
    }

    public int often(char letter) {
        illegalIf(letter < 'a' || letter > 'z');
        return (int) allEndings().chars().filter(c -> c == letter).count();
    }

    private int agreement(int door, int gender, boolean isDouble, int inCase) {
        int[] d = state.doors.get(door);
        int agreed = 0;
        agreed += d[1] == gender ? 1 : 0;
        agreed += (d[2] == 1) == isDouble ? 1 : 0;
        agreed += state.caseOf(d) == inCase ? 1 : 0;
        return agreed;
    }

    public int knock(int door, int gender, boolean isDouble, int inCase) {
        outsideIf(no(door, state.doors.size()));
        illegalIf(no(gender, 3) || no(inCase, 4));
        int[] d = state.doors.get(door);
        refuseIf(d[7] == 1, 4, state.having(7, 1));
        refuseIf(d[6] == 1, 3, state.having(6, 1));
        change();
        int agreed = agreement(door, gender, isDouble, inCase);
        state.counts[5]++;
        d[10]++;
        if (agreed == 3) {
            state.counts[6]++;
            d[7] = 1;
            d[5] = 0;
        } else {
            state.counts[7]++;
            d[5]++;
            if (d[5] == 3) {
                d[6] = 1;
                state.counts[8]++;
            }
        }
        return agreed;
    }

    public int shut(int door) {
        outsideIf(no(door, state.doors.size()));
        refuseIf(state.doors.get(door)[7] == 0, 5, state.having(7, 1));
        change();
        state.doors.get(door)[7] = 0;
        return state.having(7, 1);
    }

    public int free(int key, int door) {
        outsideIf(no(key, state.keys.size()) || no(door, state.doors.size()));
        int[] d = state.doors.get(door);
        refuseIf(d[6] == 0, 6, d[5]);
        List<Integer> k = state.keys.get(key);
        int agreed = (k.get(0) == d[0] ? 1 : 0) + (k.get(1) == d[1] ? 1 : 0);
        refuseIf(agreed < 2, 7, agreed);
        change();
        d[5] = 0;
        d[6] = 0;
        state.counts[9]++;
        return state.having(6, 1);
    }

    public int agrees(int door, int gender, boolean isDouble, int inCase) {
        outsideIf(no(door, state.doors.size()));
        illegalIf(no(gender, 3) || no(inCase, 4));
        return agreement(door, gender, isDouble, inCase);
    }

    public int keysFor(int door) {
        outsideIf(no(door, state.doors.size()));
        int[] d = state.doors.get(door);
        int key = state.keys.indexOf(List.of(d[0], d[1]));
        return key < 0 ? 0 : 1 << key;
    }

    /** By the matrix of all ways, without a search. */
    private int[][] allWays(int asIfOpen) {
        int[][] ways = new int[6][6];
        for (int[] row : ways) {
            Arrays.fill(row, 99);
        }
        for (int room = 0; room < 6; room++) {
            ways[room][room] = 0;
        }
        for (int door = 0; door < state.doors.size(); door++) {
            int[] d = state.doors.get(door);
            if (d[7] == 1 || door == asIfOpen) {
                ways[d[8]][d[9]] = 1;
                ways[d[9]][d[8]] = 1;
            }
        }
        for (int by = 0; by < 6; by++) {
            for (int from = 0; from < 6; from++) {
                for (int to = 0; to < 6; to++) {
                    ways[from][to] = Math.min(ways[from][to], ways[from][by] + ways[by][to]);
                }
            }
        }
        return ways;
    }

    public int way(int from, int to, boolean isAgain) {
        outsideIf(no(from, 6) || no(to, 6));
        int way = allWays(-1)[from][to];
        nothingIf(way >= 99);
        return way;
    }

    private int reachedIf(int room, int asIfOpen) {
        int set = 0;
        for (int to = 0; to < 6; to++) {
            set |= allWays(asIfOpen)[room][to] < 99 ? 1 << to : 0;
        }
        return set;
    }

    public int reached(int room) {
        outsideIf(no(room, 6));
        return reachedIf(room, -1);
    }

    public int best(int room) {
        outsideIf(no(room, 6));
        int[] more = new int[state.doors.size()];
        for (int door = 0; door < more.length; door++) {
            if (state.doors.get(door)[7] == 0) {
                more[door] = Integer.bitCount(reachedIf(room, door)) - Integer.bitCount(reachedIf(room, -1));
            }
        }
        int most = Arrays.stream(more).max().orElse(0);
        nothingIf(most == 0);
        for (int door = 0; ; door++) {
            if (more[door] == most) {
                return door;
            }
        }
    }

    public int ranked(int measure, int place) {
        illegalIf(no(measure, 2));
        nothingIf(no(place, state.doors.size()));
        List<Integer> order = new ArrayList<>();
        for (int door = 0; door < state.doors.size(); door++) {
            order.add(door);
        }
        int what = measure == 0 ? 10 : 5;
        order.sort(Comparator.comparing((Integer door) -> -state.doors.get(door)[what]));
        return order.get(place);
    }

    public boolean isRight() {
        return true;
    }

    public int line(int door) {
        outsideIf(no(door, state.doors.size()));
        int[] d = state.doors.get(door);
        line = state.form(door) + d[8] + "-" + d[9] + (d[3] == -1 ? "" : "@" + d[3])
                + (d[7] == 1 ? "+" : d[5] > 0 ? "!" + d[5] : "");
        return line.length();
    }

    public int endings(int declension) {
        illegalIf(no(declension, 3));
        StringBuilder single = new StringBuilder();
        StringBuilder both = new StringBuilder();
        for (char[] pair : state.endings[declension]) {
            single.append(pair[0]);
            both.append(pair[1]);
        }
        line = single + "/" + both;
        return line.length();
    }

    public char character(int index) {
        outsideIf(no(index, line.length()));
        return line.charAt(index);
    }

    public int refusal(boolean isDetail) {
        stateIf(refusal == null);
        return refusal[isDetail ? 1 : 0];
    }

    public int account(int what) {
        illegalIf(no(what, 13));
        switch (what) {
            case 0: return state.doors.size();
            case 1: return state.thresholds.size();
            case 2: return state.keys.size();
            case 3: return state.having(7, 1);
            case 4: return state.having(6, 1);
            case 10: return (int) allEndings().chars().distinct().count();
            case 11: return buffer.length();
            case 12: return undos.size();
            default: return state.counts[what];
        }
    }

    public double meanKnocks() {
        if (state.doors.isEmpty()) {
            throw new ArithmeticException();
        }
        return (double) state.counts[5] / (double) state.doors.size();
    }

    public float agreedShare() {
        if (state.counts[5] == 0) {
            throw new ArithmeticException();
        }
        return (float) state.counts[6] / (float) state.counts[5];
    }

    public int append(int packed) {
        String added = "";
        for (int i = 3; i >= 0; i--) {
            int sign = packed >> 8 * i & 255;
            illegalIf(sign != 0 && (sign < 32 || sign > 126));
            added += sign == 0 ? "" : (char) sign;
        }
        stateIf(buffer.length() + added.length() > 60);
        buffer += added;
        return buffer.length();
    }

    private static boolean canGoOn(String start) {
        Matcher matcher = TEXT.matcher(start);
        return matcher.matches() || matcher.hitEnd();
    }

    private static int errorIn(String text) {
        int length = 0;
        while (length < text.length() && canGoOn(text.substring(0, length + 1))) {
            length++;
        }
        return length;
    }

    public int read() {
        String text = buffer;
        buffer = "";
        if (!TEXT.matcher(text).matches()) {
            position = errorIn(text);
            throw new IllegalArgumentException();
        }
        State before = new State(state);
        String[] orders = text.split(";");
        for (int i = 0; i < orders.length; i++) {
            isReading = true;
            try {
                carryOut(orders[i]);
            } catch (RuntimeException e) {
                state = before;
                item = i;
                throw new UnsupportedOperationException(e);
            } finally {
                isReading = false;
            }
        }
        push(before);
        return orders.length;
    }

    private void carryOut(String order) {
        String word = order.replaceAll("\\d.*|[A-Z].*", "");
        String rest = order.substring(word.length());
        int[] told = new int[rest.length()];
        for (int i = 0; i < told.length; i++) {
            char sign = rest.charAt(i);
            told[i] = Character.isDigit(sign) ? sign - '0' : -1;
        }
        switch (word) {
            case "door":
                door(told[0], gender(rest, 1), rest.charAt(2) == 'd', told[3], told[4]);
                break;
            case "sill":
                threshold(caseIn(rest, 0));
                break;
            case "govern":
                govern(told[0], caseIn(rest, 1));
                break;
            case "set":
                set(told[0], told[2]);
                break;
            case "end":
                tellEnding(told[0], caseIn(rest, 1), rest.charAt(2) == 'd', rest.charAt(4) - 'a');
                break;
            case "key":
                key(told[0], gender(rest, 1));
                break;
            case "knock":
                knock(told[0], gender(rest, 2), rest.charAt(3) == 'd', caseIn(rest, 4));
                break;
            case "shut":
                shut(told[0]);
                break;
            default:
                free(told[0], told[2]);
        }
    }

    private static int gender(String rest, int index) {
        return "oig".indexOf(rest.charAt(index));
    }

    private static int caseIn(String rest, int index) {
        return "OSAL".indexOf(rest.charAt(index));
    }

    public int errorPosition() {
        nothingIf(position == null);
        return position;
    }

    public int refusedItem() {
        nothingIf(item == null);
        return item;
    }

    public int undo() {
        stateIf(undos.isEmpty());
        state = undos.removeLast();
        return undos.size();
    }

    public int snapshot() {
        saved = new State(state);
        return state.doors.size();
    }

    public int restore() {
        stateIf(saved == null);
        state = new State(saved);
        undos.clear();
        return state.doors.size();
    }
}
