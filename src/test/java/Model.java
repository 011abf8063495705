import java.util.ArrayList;
import java.util.Arrays;
import java.util.List;

/** The document in its plainest form, by lists and recursion, to compare the class with. */
final class Model {
    private int sheetWidth = 100;
    private final List<int[]> orders = new ArrayList<>();
    private List<int[]> design = null;
    private boolean designedSince = false;
    private boolean spent = false;
    private int steps = 0;
    private int allowed = 0;
    private final List<int[]> keptPatterns = new ArrayList<>();
    private final List<int[]> keptTimesAndDay = new ArrayList<>();

    void sheet(int width) {
        if (width < 1 || width > 1000) throw new IllegalArgumentException();
        sheetWidth = width;
        told();
    }

    int order(int width, int pieces) {
        if (orders.size() == 5) throw new IllegalStateException();
        if (width < 1 || width > 1000 || pieces < 0 || pieces > 6) throw new IllegalArgumentException();
        orders.add(new int[] {width, pieces, 0});
        told();
        return orders.size() - 1;
    }

    void pieces(int order, int pieces) {
        if (order < 0 || order >= orders.size()) throw new IndexOutOfBoundsException();
        if (pieces < 0 || pieces > 6) throw new IllegalArgumentException();
        orders.get(order)[1] = pieces;
        told();
    }

    void price(int order, int price) {
        if (order < 0 || order >= orders.size()) throw new IndexOutOfBoundsException();
        if (price < 0 || price > 1000) throw new IllegalArgumentException();
        orders.get(order)[2] = price;
    }

    int column() {
        return sum(columnRow(), 2);
    }

    int columnOf(int order) {
        if (order < 0 || order >= orders.size()) throw new IndexOutOfBoundsException();
        return columnRow()[order];
    }

    int bound() {
        int one = column();
        return one == 0 ? 0 : (int) Math.ceil((double) sum(all(), 2) / one);
    }

    int design(int steps) {
        if (steps < 0 || steps > 100000) throw new IllegalArgumentException();
        for (int[] order : orders) {
            if (order[1] > 0 && order[0] > sheetWidth) throw new UnsupportedOperationException();
        }
        design = null;
        designedSince = true;
        spent = false;
        this.steps = 0;
        allowed = steps;
        look(new ArrayList<>(), all());
        return design == null ? -1 : design.size();
    }

    int designed(int what) {
        if (what != 0 && what != 1) throw new IndexOutOfBoundsException();
        if (!designedSince) throw new IllegalStateException();
        return what == 1 ? steps : spent ? 1 : 0;
    }

    int gap() {
        if (design == null) throw new IllegalStateException();
        return design.size() - Math.max(sheetsFor(all()), bound());
    }

    int cut(int sheet, int order) {
        if (design == null) throw new IllegalStateException();
        if (sheet < 0 || sheet >= design.size()) throw new IndexOutOfBoundsException();
        if (order < 0 || order >= orders.size()) throw new IndexOutOfBoundsException();
        return design.get(sheet)[order];
    }

    int over(int sheet) {
        if (design == null) throw new IllegalStateException();
        if (sheet < 0 || sheet >= design.size()) throw new IndexOutOfBoundsException();
        return sheetWidth - sum(design.get(sheet), 0);
    }

    int keep(int sheet, int day) {
        if (design == null) throw new IllegalStateException();
        if (sheet < 0 || sheet >= design.size()) throw new IndexOutOfBoundsException();
        if (day < 0 || day > 9999) throw new IllegalArgumentException();
        int[] pattern = Arrays.copyOf(design.get(sheet), 5);
        for (int i = 0; i < keptPatterns.size(); i++) {
            if (Arrays.equals(keptPatterns.get(i), pattern)) {
                int[] timesAndDay = keptTimesAndDay.get(i);
                timesAndDay[0]++;
                timesAndDay[1] = Math.max(timesAndDay[1], day);
                return i;
            }
        }
        if (keptPatterns.size() == 40) throw new UnsupportedOperationException();
        keptPatterns.add(pattern);
        keptTimesAndDay.add(new int[] {1, day});
        return keptPatterns.size() - 1;
    }

    int kept(int i, int what) {
        if (i < 0 || i >= keptPatterns.size() || what < 0 || what > 6) throw new IndexOutOfBoundsException();
        return what < 5 ? keptPatterns.get(i)[what] : keptTimesAndDay.get(i)[what - 5];
    }

    int fitting(int i) {
        if (i < 0) throw new IndexOutOfBoundsException();
        List<Integer> fit = new ArrayList<>();
        for (int at = 0; at < keptPatterns.size(); at++) {
            boolean enough = true;
            for (int o = 0; o < orders.size(); o++) {
                enough &= keptPatterns.get(at)[o] <= orders.get(o)[1];
            }
            if (enough && sum(keptPatterns.get(at), 0) <= sheetWidth) fit.add(at);
        }
        return i < fit.size() ? fit.get(i) : -1;
    }

    private void told() {
        design = null;
        designedSince = false;
    }

    private int[] all() {
        int[] row = new int[orders.size()];
        for (int i = 0; i < row.length; i++) row[i] = orders.get(i)[1];
        return row;
    }

    /** Of a row of pieces the sum of widths (which 0) or of prices (which 2). */
    private int sum(int[] row, int which) {
        int sum = 0;
        for (int i = 0; i < orders.size(); i++) sum += row[i] * orders.get(i)[which];
        return sum;
    }

    private int sheetsFor(int[] row) {
        return (int) Math.ceil((double) sum(row, 0) / sheetWidth);
    }

    private int[] columnRow() {
        int[] best = null;
        for (int[] row : patterns(all())) {
            if (best == null || sum(row, 2) > sum(best, 2)) best = row;
        }
        return best;
    }

    /** All patterns of the pieces that are there, the empty one too, in the document's order. */
    private List<int[]> patterns(int[] there) {
        List<int[]> found = new ArrayList<>();
        extend(new int[there.length], 0, there, found);
        return found;
    }

    private void extend(int[] row, int at, int[] there, List<int[]> found) {
        if (sum(row, 0) > sheetWidth) return;
        if (at == row.length) {
            found.add(row.clone());
            return;
        }
        for (int n = there[at]; n >= 0; n--) {
            row[at] = n;
            extend(row, at + 1, there, found);
        }
        row[at] = 0;
    }

    private void look(List<int[]> soFar, int[] left) {
        if (design != null && soFar.size() + sheetsFor(left) >= design.size()) return;
        int lowest = 0;
        while (lowest < left.length && left[lowest] == 0) lowest++;
        if (lowest == left.length) {
            design = new ArrayList<>(soFar);
            return;
        }
        for (int[] pattern : patterns(left)) {
            if (pattern[lowest] == 0) continue;
            if (steps == allowed) {
                spent = true;
                return;
            }
            steps++;
            int[] behind = left.clone();
            for (int i = 0; i < behind.length; i++) behind[i] -= pattern[i];
            soFar.add(pattern);
            look(soFar, behind);
            soFar.remove(soFar.size() - 1);
            if (spent) return;
        }
    }
}
