import java.util.ArrayList;
import java.util.Collections;
import java.util.List;
import java.util.NoSuchElementException;
import java.util.TreeMap;

/**
 * The document once more, by trying all ways instead of clever ones: all breaks of a cue, all ways of an alignment,
 * and all codes from the first one on for each answer.
 */
final class Model {
    static final class ModelCue {
        int start;
        int end;
        int region;
        boolean isGone;
        List<Integer> words = new ArrayList<>();
        List<Integer> times = new ArrayList<>();
    }

    static final class Picture {
        int[][][] shown = emptyMemory();
        int[][][] hidden = emptyMemory();
        char mode = 'o';
        int row = 7;
        int column;
        int rolled;
        int colour;
    }

    private final TreeMap<Integer, int[]> codes = new TreeMap<>();
    private final int[][] regions = {{0, 8, 20}, {0, 8, 20}, {0, 8, 20}};
    private final List<ModelCue> cues = new ArrayList<>();
    private final List<Integer> cuts = new ArrayList<>();
    private final List<int[]> anchors = new ArrayList<>();
    private final List<int[]> heard = new ArrayList<>();

    static int[][][] emptyMemory() {
        int[][][] memory = new int[8][20][];
        for (int[][] row : memory) {
            for (int column = 0; column < 20; column++) {
                row[column] = new int[] {-1, -1};
            }
        }
        return memory;
    }

    private static void argument(boolean isRight) {
        if (!isRight) {
            throw new IllegalArgumentException();
        }
    }

    private static void state(boolean isRight) {
        if (!isRight) {
            throw new IllegalStateException();
        }
    }

    private static void frame(int frame) {
        argument(frame >= 0 && frame <= 99999);
    }

    private ModelCue cue(int number) {
        if (number < 0 || number >= cues.size() || cues.get(number).isGone) {
            throw new NoSuchElementException();
        }
        return cues.get(number);
    }

    boolean code(int frame, char kind, int value) {
        frame(frame);
        switch (kind) {
            case 't': argument(value >= 0 && value <= 26); break;
            case 'r': argument(value >= 2 && value <= 4); break;
            case 'm': argument(value >= 0 && value < 160); break;
            case 'k': argument(value >= 0 && value <= 7); break;
            default: argument("dpecxnb".indexOf(kind) >= 0); break;
        }
        state(codes.size() < 200 || codes.containsKey(frame));
        return codes.put(frame, new int[] {kind, "trmk".indexOf(kind) >= 0 ? value : 0}) != null;
    }

    boolean dropCode(int frame) {
        frame(frame);
        return codes.remove(frame) != null;
    }

    private boolean hasEffect(int frame) {
        int[] code = codes.get(frame);
        int[] ahead = codes.get(frame - 1);
        boolean isTwin = ahead != null && code[0] != 't' && ahead[0] == code[0] && ahead[1] == code[1];
        return !isTwin || !hasEffect(frame - 1);
    }

    Picture picture(int frame) {
        frame(frame);
        Picture p = new Picture();
        for (int at : codes.headMap(frame, true).keySet()) {
            if (hasEffect(at)) {
                apply(p, (char) codes.get(at)[0], codes.get(at)[1]);
            }
        }
        return p;
    }

    private static void apply(Picture p, char kind, int value) {
        int[][][] target = p.mode == 'p' ? p.hidden : p.shown;
        if (kind == 't' && p.mode != 'o') {
            target[p.row][p.column] = new int[] {value, p.colour};
            p.column = p.column == 19 ? 19 : p.column + 1;
        } else if (kind == 'r') {
            if (p.mode != 'r') {
                int colour = p.colour;
                p.shown = emptyMemory();
                p.hidden = emptyMemory();
                p.row = 7;
                p.column = 0;
                p.colour = colour;
            }
            p.mode = 'r';
            p.rolled = value;
        } else if (kind == 'd' || kind == 'p') {
            p.mode = kind;
        } else if (kind == 'e') {
            int[][][] other = p.shown;
            p.shown = p.hidden;
            p.hidden = other;
            p.mode = 'p';
        } else if (kind == 'c' && p.mode == 'r') {
            int[][][] rolled = emptyMemory();
            for (int row = 0; row < 8; row++) {
                if (row > p.row) {
                    rolled[row] = p.shown[row];
                } else if (row < p.row && row > p.row - p.rolled) {
                    rolled[row] = p.shown[row + 1];
                }
            }
            p.shown = rolled;
            p.column = 0;
        } else if (kind == 'x') {
            p.shown = emptyMemory();
        } else if (kind == 'n') {
            p.hidden = emptyMemory();
        } else if (kind == 'b' && p.mode != 'o' && p.column > 0) {
            p.column--;
            target[p.row][p.column] = new int[] {-1, -1};
        } else if (kind == 'm') {
            if (p.mode == 'r' && value / 20 != p.row) {
                p.shown = emptyMemory();
            }
            p.row = value / 20;
            p.column = value % 20;
        } else if (kind == 'k') {
            p.colour = value;
        }
    }

    int[] cell(int frame, int row, int column) {
        frame(frame);
        argument(row >= 0 && row < 8 && column >= 0 && column < 20);
        return picture(frame).shown[row][column];
    }

    int shown(int frame) {
        int count = 0;
        for (int[][] row : picture(frame).shown) {
            for (int[] cell : row) {
                count += cell[0] >= 0 ? 1 : 0;
            }
        }
        return count;
    }

    int setRegion(int region, int top, int rows, int columns) {
        argument(region >= 0 && region < 3 && top >= 0 && rows >= 1 && rows <= 8 && (long) top + rows <= 8);
        argument(columns >= 5 && columns <= 40);
        int before = regions[region][2];
        regions[region] = new int[] {top, rows, columns};
        return before;
    }

    int addCue(int start, int end, int region) {
        frame(start);
        frame(end);
        argument(end > start && region >= 0 && region < 3);
        state(cues.size() < 24);
        ModelCue made = new ModelCue();
        made.start = start;
        made.end = end;
        made.region = region;
        cues.add(made);
        return cues.size() - 1;
    }

    private static void forget(ModelCue cue) {
        cue.times = new ArrayList<>(Collections.nCopies(cue.words.size(), -1));
    }

    int addWord(int number, int word) {
        ModelCue cue = cue(number);
        argument(word >= 1 && word <= 99);
        state(cue.words.size() < 12);
        cue.words.add(word);
        forget(cue);
        return cue.words.size();
    }

    int dropCue(int number) {
        ModelCue cue = cue(number);
        cue.isGone = true;
        return cue.words.size();
    }

    int cues() {
        return order(-1).size();
    }

    int startOf(int number) {
        return cue(number).start;
    }

    int endOf(int number) {
        return cue(number).end;
    }

    private static int letters(List<Integer> words) {
        int sum = 0;
        for (int word : words) {
            sum += word % 9 + 1;
        }
        return sum;
    }

    /** Each set bit of a way is a break behind a word. */
    private List<Integer> breaks(ModelCue cue) {
        int count = cue.words.size();
        List<Integer> best = new ArrayList<>();
        long bestCost = Long.MAX_VALUE;
        if (count == 0) {
            return best;
        }
        for (int way = 0; way < 1 << (count - 1); way++) {
            List<Integer> sizes = new ArrayList<>();
            int size = 0;
            for (int word = 0; word < count; word++) {
                size++;
                if (word == count - 1 || (way >> word & 1) == 1) {
                    sizes.add(size);
                    size = 0;
                }
            }
            long cost = cost(cue, sizes);
            if (cost < bestCost || cost == bestCost && cost != Long.MAX_VALUE && isAhead(sizes, best)) {
                best = sizes;
                bestCost = cost;
            }
        }
        return best;
    }

    private static boolean isAhead(List<Integer> sizes, List<Integer> others) {
        for (int line = 0; line < sizes.size(); line++) {
            int compared = Integer.compare(sizes.get(line), others.get(line));
            if (compared != 0) {
                return compared < 0;
            }
        }
        return false;
    }

    private long cost(ModelCue cue, List<Integer> sizes) {
        int columns = regions[cue.region][2];
        long cost = 1000000L * sizes.size();
        int from = 0;
        for (int size : sizes) {
            int length = letters(cue.words.subList(from, from + size)) + size - 1;
            if (length > columns && size > 1) {
                return Long.MAX_VALUE;
            }
            cost += length > columns ? 0 : (long) (columns - length) * (columns - length);
            from += size;
        }
        return cost;
    }

    int lines(int number) {
        return breaks(cue(number)).size();
    }

    int wordsIn(int number, int line) {
        List<Integer> sizes = breaks(cue(number));
        if (line < 0 || line >= sizes.size()) {
            throw new IndexOutOfBoundsException();
        }
        return sizes.get(line);
    }

    private List<Integer> order(int region) {
        List<Integer> order = new ArrayList<>();
        for (int number = 0; number < cues.size(); number++) {
            if (!cues.get(number).isGone && (region < 0 || cues.get(number).region == region)) {
                order.add(number);
            }
        }
        order.sort((a, b) -> cues.get(a).start != cues.get(b).start
                ? Integer.compare(cues.get(a).start, cues.get(b).start) : Integer.compare(a, b));
        return order;
    }

    private int[] rows() {
        int[] rows = new int[24];
        int[] heights = new int[24];
        List<Integer> done = new ArrayList<>();
        for (int number : order(-1)) {
            ModelCue cue = cues.get(number);
            heights[number] = breaks(cue).size();
            rows[number] = -1;
            int last = regions[cue.region][0] + regions[cue.region][1] - heights[number];
            for (int top = regions[cue.region][0]; top <= last && heights[number] > 0; top++) {
                boolean isFree = true;
                for (int other : done) {
                    isFree &= rows[other] < 0 || cues.get(other).end <= cue.start
                            || rows[other] >= top + heights[number] || rows[other] + heights[other] <= top;
                }
                rows[number] = isFree ? top : rows[number];
            }
            done.add(number);
        }
        return rows;
    }

    int rowOf(int number) {
        cue(number);
        return rows()[number];
    }

    int cueAt(int frame, int row) {
        frame(frame);
        argument(row >= 0 && row < 8);
        int[] rows = rows();
        for (int number : order(-1)) {
            ModelCue cue = cues.get(number);
            if (rows[number] >= 0 && rows[number] <= row && row < rows[number] + breaks(cue).size()
                    && cue.start <= frame && frame < cue.end) {
                return number;
            }
        }
        return -1;
    }

    int addCut(int frame) {
        frame(frame);
        state(cuts.size() < 20 && !cuts.contains(frame));
        cuts.add(frame);
        return cuts.size();
    }

    private int cutFor(int frame, int reach) {
        for (int far = 0; far <= reach; far++) {
            if (cuts.contains(frame - far)) {
                return frame - far;
            }
            if (cuts.contains(frame + far)) {
                return frame + far;
            }
        }
        return frame;
    }

    int snap(int reach) {
        argument(reach >= 0 && reach <= 99);
        int changes = 0;
        for (int number : order(-1)) {
            ModelCue cue = cues.get(number);
            int start = cutFor(cue.start, reach);
            if (start < cue.end && start != cue.start) {
                cue.start = start;
                changes++;
            }
            int end = cutFor(cue.end, reach);
            if (end > cue.start && end != cue.end) {
                cue.end = end;
                changes++;
            }
        }
        return changes;
    }

    int stretch(int least, int gap) {
        argument(least >= 1 && least <= 999 && gap >= 0 && gap <= 99);
        int changes = 0;
        for (int region = 0; region < 3; region++) {
            List<Integer> order = order(region);
            for (int place = 0; place < order.size(); place++) {
                ModelCue cue = cues.get(order.get(place));
                int end = cue.end;
                if (end < cue.start + least) {
                    end = cue.start + least;
                }
                if (end > 99999) {
                    end = 99999;
                }
                if (place + 1 < order.size() && end > cues.get(order.get(place + 1)).start - gap) {
                    end = cues.get(order.get(place + 1)).start - gap;
                }
                if (end < cue.start + 1) {
                    end = cue.start + 1;
                }
                changes += end != cue.end ? 1 : 0;
                cue.end = end;
            }
        }
        return changes;
    }

    int merge(int number, int other) {
        ModelCue cue = cue(number);
        ModelCue gone = cue(other);
        argument(number != other && cue.region == gone.region);
        state(cue.words.size() + gone.words.size() <= 12);
        if (!gone.words.isEmpty()) {
            cue.words.addAll(gone.words);
            forget(cue);
        }
        cue.start = Math.min(cue.start, gone.start);
        cue.end = Math.max(cue.end, gone.end);
        gone.isGone = true;
        return cue.words.size();
    }

    int split(int number, int words) {
        ModelCue cue = cue(number);
        argument(words >= 1 && cue.words.size() > words);
        if (cue.end - cue.start < 2) {
            throw new UnsupportedOperationException();
        }
        state(cues.size() < 24);
        int parting = cue.start
                + (cue.end - cue.start) * letters(cue.words.subList(0, words)) / letters(cue.words);
        parting = parting < cue.start + 1 ? cue.start + 1 : parting;
        parting = parting > cue.end - 1 ? cue.end - 1 : parting;
        int made = addCue(parting, cue.end, cue.region);
        cues.get(made).words.addAll(cue.words.subList(words, cue.words.size()));
        cue.words = new ArrayList<>(cue.words.subList(0, words));
        cue.end = parting;
        forget(cue);
        forget(cues.get(made));
        return made;
    }

    int convert(int n, int d) {
        argument(n >= 1 && n <= 1001 && d >= 1 && d <= 1001);
        List<Integer> all = new ArrayList<>(cuts);
        for (int number : order(-1)) {
            all.add(cues.get(number).start);
            all.add(cues.get(number).end);
        }
        for (int[] word : heard) {
            all.add(word[0]);
        }
        for (int frame : all) {
            if ((long) frame * n / d > 99999) {
                throw new UnsupportedOperationException();
            }
        }
        for (int number : order(-1)) {
            ModelCue cue = cues.get(number);
            cue.start = (int) ((long) cue.start * n / d);
            cue.end = Math.max(cue.start + 1, (int) ((long) cue.end * n / d));
        }
        cuts.replaceAll(cut -> (int) ((long) cut * n / d));
        for (int[] word : heard) {
            word[0] = (int) ((long) word[0] * n / d);
        }
        return cues();
    }

    int addAnchor(int frame, int to) {
        frame(frame);
        frame(to);
        if (!anchors.isEmpty()) {
            int[] last = anchors.get(anchors.size() - 1);
            argument(frame > last[0] && to > last[1]);
        }
        state(anchors.size() < 8);
        anchors.add(new int[] {frame, to});
        return anchors.size();
    }

    private long moved(int frame) {
        int[] first = anchors.get(0);
        if (frame < first[0]) {
            return (long) frame + first[1] - first[0];
        }
        for (int place = 0; place + 1 < anchors.size(); place++) {
            int[] a = anchors.get(place);
            int[] b = anchors.get(place + 1);
            if (a[0] <= frame && frame < b[0]) {
                return a[1] + (long) (frame - a[0]) * (b[1] - a[1]) / (b[0] - a[0]);
            }
        }
        int[] last = anchors.get(anchors.size() - 1);
        return (long) frame + last[1] - last[0];
    }

    int drift() {
        state(!anchors.isEmpty());
        int changes = 0;
        for (int number : order(-1)) {
            ModelCue cue = cues.get(number);
            int start = (int) Math.max(0, Math.min(99998, moved(cue.start)));
            int end = (int) Math.max(start + 1, Math.min(99999, moved(cue.end)));
            changes += (start != cue.start ? 1 : 0) + (end != cue.end ? 1 : 0);
            cue.start = start;
            cue.end = end;
        }
        anchors.clear();
        return changes;
    }

    int addHeard(int frame, int word) {
        frame(frame);
        argument(word >= 1 && word <= 99);
        state(heard.size() < 30);
        heard.add(new int[] {frame, word});
        return heard.size();
    }

    /** A way is a text of 'a' for a pair, 'b' for a first one alone and 'c' for a second one alone. */
    private static final class Way {
        int cost;
        String steps = "";

        Way() {
        }

        Way(Way rest, int cost, char step) {
            this.cost = rest.cost + cost;
            this.steps = step + rest.steps;
        }

        static Way better(Way one, Way other) {
            boolean isOne = other == null || one != null
                    && (one.cost < other.cost || one.cost == other.cost && one.steps.compareTo(other.steps) < 0);
            return isOne ? one : other;
        }
    }

    private static Way align(int[][] prices, int firsts, int seconds, int firstAlone, int secondAlone) {
        Way[][] ways = new Way[firsts + 1][seconds + 1];
        for (int first = firsts; first >= 0; first--) {
            for (int second = seconds; second >= 0; second--) {
                Way best = first == firsts && second == seconds ? new Way() : null;
                if (second < seconds) {
                    best = Way.better(new Way(ways[first][second + 1], secondAlone, 'c'), best);
                }
                if (first < firsts) {
                    best = Way.better(new Way(ways[first + 1][second], firstAlone, 'b'), best);
                }
                if (first < firsts && second < seconds) {
                    best = Way.better(new Way(ways[first + 1][second + 1], prices[first][second], 'a'), best);
                }
                ways[first][second] = best;
            }
        }
        return ways[0][0];
    }

    private static int[] partners(Way way, int firsts) {
        int[] partners = new int[firsts];
        int first = 0;
        int second = 0;
        for (char step : way.steps.toCharArray()) {
            if (step != 'c') {
                partners[first] = step == 'a' ? second : -1;
                first++;
            }
            second += step != 'b' ? 1 : 0;
        }
        return partners;
    }

    int hear(int number) {
        ModelCue cue = cue(number);
        List<int[]> near = new ArrayList<>();
        for (int[] word : heard) {
            if (word[0] >= cue.start - 30 && word[0] <= cue.end + 30) {
                near.add(word);
            }
        }
        near.sort((a, b) -> Integer.compare(a[0], b[0]));
        int[][] prices = new int[cue.words.size()][near.size()];
        for (int word = 0; word < cue.words.size(); word++) {
            for (int place = 0; place < near.size(); place++) {
                prices[word][place] = cue.words.get(word) == near.get(place)[1] ? 0 : 3;
            }
        }
        Way way = align(prices, cue.words.size(), near.size(), 2, 1);
        int[] partners = partners(way, cue.words.size());
        for (int word = 0; word < cue.words.size(); word++) {
            cue.times.set(word, partners[word] < 0 ? -1 : near.get(partners[word])[0]);
        }
        return way.cost;
    }

    int timeOf(int number, int word) {
        ModelCue cue = cue(number);
        if (word < 0 || word >= cue.words.size()) {
            throw new IndexOutOfBoundsException();
        }
        return cue.times.get(word);
    }

    int sung(int number, int frame) {
        ModelCue cue = cue(number);
        frame(frame);
        int count = 0;
        for (int time : cue.times) {
            count += time >= 0 && time <= frame ? 1 : 0;
        }
        return count;
    }

    private Way pairs() {
        List<Integer> firsts = order(1);
        List<Integer> seconds = order(2);
        int[][] prices = new int[firsts.size()][seconds.size()];
        for (int first = 0; first < firsts.size(); first++) {
            for (int second = 0; second < seconds.size(); second++) {
                ModelCue a = cues.get(firsts.get(first));
                ModelCue b = cues.get(seconds.get(second));
                prices[first][second] = Math.abs(a.start - b.start) + 5 * Math.abs(a.words.size() - b.words.size());
            }
        }
        return align(prices, firsts.size(), seconds.size(), 40, 40);
    }

    int pairOf(int number) {
        ModelCue cue = cue(number);
        if (cue.region == 0) {
            throw new UnsupportedOperationException();
        }
        List<Integer> firsts = order(1);
        List<Integer> seconds = order(2);
        int[] partners = partners(pairs(), firsts.size());
        for (int first = 0; first < firsts.size(); first++) {
            if (partners[first] >= 0 && firsts.get(first) == number) {
                return seconds.get(partners[first]);
            }
            if (partners[first] >= 0 && seconds.get(partners[first]) == number) {
                return firsts.get(first);
            }
        }
        return -1;
    }

    int pairCost() {
        return pairs().cost;
    }

    long readingTime(int number) {
        ModelCue cue = cue(number);
        int count = cue.words.size();
        return count == 0 ? 0 : (letters(cue.words) + count - 1) * 2000L + count * 300L;
    }

    float speed(int number) {
        ModelCue cue = cue(number);
        return (float) letters(cue.words) / (float) (cue.end - cue.start) * 30.0f;
    }

    double meanLength() {
        if (cues() == 0) {
            throw new ArithmeticException();
        }
        int sum = 0;
        for (int number : order(-1)) {
            sum += cues.get(number).end - cues.get(number).start;
        }
        return (double) sum / (double) cues();
    }
}
