import java.util.ArrayList;
import java.util.Arrays;
import java.util.HashSet;
import java.util.List;
import java.util.Set;
import java.util.function.ToIntFunction;

/**
 * The document once more, as plainly as it can be said and with no care for speed, so that the program can be
 * held against it. It shares no code and no ways with the program.
 */
final class PlainVillage {
    static final int OUT = -1;

    /** What was told. */
    static final class Told {
        int clauses;
        final List<String> houses = new ArrayList<>();
        final List<String> people = new ArrayList<>();
        final List<int[]> houseNumbers = new ArrayList<>();
        final List<Integer> homes = new ArrayList<>();
        int[] work = new int[5];
        Integer[][] ties = new Integer[5][5];
        Integer[] rules = new Integer[6];
        boolean last;

        int rule(int i) {
            return rules[i] != null ? rules[i] : new int[] {2, 12, 2, 1, 1, 0}[i];
        }

        int ownerOf(int h) {
            return homes.indexOf(h);
        }

        int tie(int p, int q) {
            return ties[p][q] == null ? 0 : ties[p][q];
        }

        boolean works(int p, int quarter) {
            return (work[p] & (1 << (quarter % 4))) != 0;
        }

        Told with(int rule, int number) {
            Told t = new Told();
            t.clauses = clauses;
            t.houses.addAll(houses);
            t.people.addAll(people);
            for (int[] n : houseNumbers) {
                t.houseNumbers.add(n.clone());
            }
            t.homes.addAll(homes);
            t.work = work.clone();
            t.ties = ties;
            t.rules = rules.clone();
            t.last = last;
            if (rule >= 0) {
                t.rules[rule] = number;
            }
            return t;
        }
    }

    /** How things are. */
    static final class Now {
        int quarters;
        int[] where = new int[5];
        int[] stayed = new int[5];
        int[] latest = new int[5];
        int[] all = new int[5];
        int[] store = new int[5];
        int[] state = new int[5];
        int[][] plans = new int[5][4];
        int[] lets = new int[5];
        long seed;

        static Now first(Told t, long seed) {
            Now n = new Now();
            n.seed = seed;
            for (int p = 0; p < t.people.size(); p++) {
                n.where[p] = t.homes.get(p);
                Arrays.fill(n.plans[p], t.homes.get(p));
                n.lets[p] = 31;
            }
            for (int h = 0; h < t.houses.size(); h++) {
                n.store[h] = t.houseNumbers.get(h)[0];
                n.state[h] = t.houseNumbers.get(h)[2];
            }
            return n;
        }

        Now copy() {
            Now n = new Now();
            n.quarters = quarters;
            n.where = where.clone();
            n.stayed = stayed.clone();
            n.latest = latest.clone();
            n.all = all.clone();
            n.store = store.clone();
            n.state = state.clone();
            for (int p = 0; p < 5; p++) {
                n.plans[p] = plans[p].clone();
            }
            n.lets = lets.clone();
            n.seed = seed;
            return n;
        }

        int draw(int n) {
            seed = (1103515245L * seed + 12345L) % 2147483648L;
            return (int) (seed / 65536 % n);
        }
    }

    StringBuilder tape = new StringBuilder();
    Told told = new Told();
    Now now = Now.first(told, 1);
    Now[] slots = new Now[3];
    String feastRow;
    int kind;
    int place = -1;

    // ---- texts

    private record Token(char sort, String text, int at) { }

    private static List<Token> tokens(String text) {
        List<Token> all = new ArrayList<>();
        int i = 0;
        while (i < text.length()) {
            char c = text.charAt(i);
            int from = i;
            if (c == ' ' || c == '\n') {
                i++;
            } else if (c >= 'a' && c <= 'z') {
                while (i < text.length() && text.charAt(i) >= 'a' && text.charAt(i) <= 'z') {
                    i++;
                }
                all.add(new Token(i - from > 8 ? '?' : 'W', text.substring(from, i), from));
            } else if (c >= '0' && c <= '9') {
                while (i < text.length() && text.charAt(i) >= '0' && text.charAt(i) <= '9') {
                    i++;
                }
                all.add(new Token(i - from > 3 ? '?' : 'N', text.substring(from, i), from));
            } else {
                i++;
                all.add(new Token(c == ';' ? ';' : '?', String.valueOf(c), from));
            }
        }
        all.add(new Token('$', "", text.length()));
        return all;
    }

    private static final class Fault extends Exception {
        private static final long serialVersionUID = 1L;
        final int kind;
        final int at;

        Fault(int kind, int at) {
            this.kind = kind;
            this.at = at;
        }
    }

    private static Token need(Token t, char sort) throws Fault {
        if (t.sort != sort) {
            throw new Fault(1, t.at);
        }
        return t;
    }

    private static int number(Token t, int least, int most) throws Fault {
        int n = Integer.parseInt(need(t, 'N').text);
        if (n < least || n > most) {
            throw new Fault(2, t.at);
        }
        return n;
    }

    private static Told tell(String text) throws Fault {
        Told v = new Told();
        List<Token> ts = tokens(text);
        List<String> rules = List.of("chairs", "after", "wear", "mend", "take", "stroll");
        int[][] bounds = {{1, 4}, {0, 28}, {0, 20}, {0, 20}, {0, 9}, {0, 100}};
        int i = 0;
        while (ts.get(i).sort != '$') {
            Token head = need(ts.get(i++), 'W');
            if (head.text.equals("house")) {
                if (v.houses.size() == 5) {
                    throw new Fault(4, head.at);
                }
                Token name = need(ts.get(i++), 'W');
                if (v.houses.contains(name.text)) {
                    throw new Fault(3, name.at);
                }
                int[] n = {number(ts.get(i++), 0, 99), number(ts.get(i++), 0, 20), number(ts.get(i++), 0, 100)};
                v.houses.add(name.text);
                v.houseNumbers.add(n);
            } else if (head.text.equals("person")) {
                if (v.people.size() == 5) {
                    throw new Fault(4, head.at);
                }
                Token name = need(ts.get(i++), 'W');
                if (v.people.contains(name.text)) {
                    throw new Fault(3, name.at);
                }
                int home = OUT;
                if (ts.get(i).sort == 'W' && ts.get(i).text.equals("of")) {
                    i++;
                    Token of = need(ts.get(i++), 'W');
                    home = v.houses.indexOf(of.text);
                    if (home >= 0 && v.homes.contains(home)) {
                        throw new Fault(3, of.at);
                    }
                    if (home < 0) {
                        throw new Fault(5, of.at);
                    }
                }
                v.people.add(name.text);
                v.homes.add(home);
            } else if (head.text.equals("tie")) {
                Token a = need(ts.get(i++), 'W');
                int p = v.people.indexOf(a.text);
                if (p < 0) {
                    throw new Fault(5, a.at);
                }
                Token b = need(ts.get(i++), 'W');
                int q = v.people.indexOf(b.text);
                if (q == p || q >= 0 && v.ties[p][q] != null) {
                    throw new Fault(3, b.at);
                }
                if (q < 0) {
                    throw new Fault(5, b.at);
                }
                v.ties[p][q] = number(ts.get(i++), 0, 20) - 10;
            } else if (head.text.equals("work")) {
                Token a = need(ts.get(i++), 'W');
                int p = v.people.indexOf(a.text);
                if (p >= 0 && v.work[p] != 0) {
                    throw new Fault(3, a.at);
                }
                if (p < 0) {
                    throw new Fault(5, a.at);
                }
                v.work[p] = number(ts.get(i++), 1, 15);
            } else if (head.text.equals("last")) {
                if (v.last) {
                    throw new Fault(3, head.at);
                }
                v.last = true;
            } else {
                int r = rules.indexOf(head.text);
                if (r < 0) {
                    throw new Fault(1, head.at);
                }
                if (v.rules[r] != null) {
                    throw new Fault(3, head.at);
                }
                v.rules[r] = number(ts.get(i++), bounds[r][0], bounds[r][1]);
            }
            need(ts.get(i++), ';');
            v.clauses++;
        }
        return v;
    }

    private String readTape() {
        String text = tape.toString();
        tape.setLength(0);
        return text;
    }

    int village() {
        try {
            told = tell(readTape());
            kind = 0;
            place = -1;
            now = Now.first(told, now.seed);
            slots = new Now[3];
            feastRow = null;
            return told.clauses;
        } catch (Fault f) {
            kind = f.kind;
            place = f.at;
            return -1;
        }
    }

    int told(int what) {
        int h = what % 10;
        boolean isHouse = h >= 0 && h < told.houses.size();
        boolean isPerson = h >= 0 && h < told.people.size();
        if (what >= 10) {
            return switch (what / 10) {
                case 1 -> isHouse ? told.houseNumbers.get(h)[0] : -1;
                case 2 -> isHouse ? told.houseNumbers.get(h)[1] : -1;
                case 3 -> isHouse ? told.houseNumbers.get(h)[2] : -1;
                case 4 -> isHouse ? told.ownerOf(h) : -1;
                case 5 -> isPerson ? told.homes.get(h) : -1;
                case 6 -> isPerson ? told.work[h] : -1;
                default -> -1;
            };
        }
        return switch (what) {
            case 0 -> told.houses.size();
            case 1 -> told.people.size();
            case 2, 3, 4, 5, 6, 7 -> told.rule(what - 2);
            case 8 -> told.last ? 1 : 0;
            default -> -1;
        };
    }

    boolean isPerson(int p) {
        return p >= 0 && p < told.people.size();
    }

    boolean isHouse(int h) {
        return h >= 0 && h < told.houses.size();
    }

    int plan(int p) {
        String row = readTape();
        if (!isPerson(p)) {
            return -2;
        }
        if (row.length() != 4) {
            return -1;
        }
        int[] places = new int[4];
        for (int i = 0; i < 4; i++) {
            int h = row.charAt(i) - 48;
            if (row.charAt(i) == 'o') {
                places[i] = OUT;
            } else if (isHouse(h)) {
                places[i] = h;
            } else {
                return -1;
            }
        }
        now.plans[p] = places;
        return 1;
    }

    // ---- quarters

    static List<Integer> counting(Told t, Now n, int h) {
        List<Integer> found = new ArrayList<>();
        for (int p = 0; p < t.people.size(); p++) {
            if (n.where[p] == h && t.homes.get(p) != h && n.stayed[p] < t.rule(1)) {
                found.add(p);
            }
        }
        return found;
    }

    static int guests(Told t, Now n, int h) {
        int c = 0;
        for (int p = 0; p < t.people.size(); p++) {
            c += n.where[p] == h && t.homes.get(p) != h ? 1 : 0;
        }
        return c;
    }

    static int has(Told t, Now n, int h) {
        List<Integer> some = counting(t, n, h);
        if (some.isEmpty()) {
            int owner = t.ownerOf(h);
            return owner >= 0 && n.where[owner] == h ? owner : -1;
        }
        some.sort((a, b) -> {
            int byStay = t.last ? n.stayed[a] - n.stayed[b] : n.stayed[b] - n.stayed[a];
            return byStay != 0 ? byStay : t.last ? b - a : a - b;
        });
        return some.get(0);
    }

    int word(int h) {
        int p = has(told, now, h);
        if (p < 0) {
            return 0;
        }
        if (told.homes.get(p) == h) {
            return 1;
        }
        List<Integer> some = counting(told, now, h);
        if (some.size() == 1) {
            return 2;
        }
        long alike = some.stream().filter(q -> now.stayed[q] == now.stayed[p]).count();
        return alike == 1 ? 3 : 4;
    }

    static void quarter(Told t, Now n, int[] wishes) {
        int people = t.people.size();
        boolean[] left = new boolean[people];
        for (int p = 0; p < people; p++) {
            left[p] = wishes[p] != n.where[p];
            if (left[p]) {
                n.where[p] = OUT;
                n.stayed[p] = 0;
            } else if (n.where[p] != OUT) {
                n.stayed[p] += 1;
            }
        }
        for (int p = 0; p < people; p++) {
            if (left[p] && wishes[p] != OUT) {
                int h = wishes[p];
                int haver = has(t, n, h);
                boolean own = t.homes.get(p) == h;
                boolean in = guests(t, n, h) < t.rule(0) && (haver < 0 || (n.lets[haver] & 1 << p) != 0);
                if (own || in) {
                    n.where[p] = h;
                }
            }
        }
        int[] gain = new int[5];
        int[] takes = new int[5];
        int[] havers = new int[5];
        for (int h = 0; h < t.houses.size(); h++) {
            havers[h] = has(t, n, h);
            if (havers[h] >= 0) {
                takes[h] = Math.min(t.rule(4), n.store[h]);
                gain[havers[h]] += t.houseNumbers.get(h)[1] * n.state[h] / 100 + takes[h];
            }
        }
        for (int p = 0; p < people; p++) {
            for (int q = 0; q < people; q++) {
                if (p != q && n.where[p] >= 0 && n.where[p] == n.where[q]) {
                    gain[p] += t.tie(p, q);
                }
            }
        }
        for (int h = 0; h < t.houses.size(); h++) {
            n.store[h] -= takes[h];
            if (havers[h] >= 0 && t.homes.get(havers[h]) == h) {
                n.state[h] = Math.min(100, n.state[h] + t.rule(3));
            } else if (havers[h] >= 0) {
                n.state[h] = Math.max(0, n.state[h] - t.rule(2));
            }
        }
        n.latest = gain;
        for (int p = 0; p < people; p++) {
            n.all[p] += gain[p];
        }
        n.quarters++;
    }

    static int[] planned(Told t, Now n) {
        int[] wishes = new int[t.people.size()];
        for (int p = 0; p < wishes.length; p++) {
            wishes[p] = t.works(p, n.quarters) ? OUT : n.plans[p][n.quarters % 4];
        }
        return wishes;
    }

    int pass(int count) {
        for (int i = 0; i < count; i++) {
            int[] wishes = planned(told, now);
            if (told.rule(5) > 0) {
                for (int p = 0; p < wishes.length; p++) {
                    int drawn = now.draw(100);
                    if (!told.works(p, now.quarters) && drawn < told.rule(5)) {
                        int at = now.draw(told.houses.size() + 1);
                        wishes[p] = at == told.houses.size() ? OUT : at;
                    }
                }
            }
            quarter(told, now, wishes);
        }
        return now.quarters;
    }

    // ---- trials

    static Now trial(Told t, Now from, int quarters) {
        Now n = from.copy();
        for (int i = 0; i < quarters; i++) {
            quarter(t, n, planned(t, n));
        }
        return n;
    }

    static int sum(Told t, Now from, int p) {
        return trial(t, from, 4).all[p] - from.all[p];
    }

    static int sumBy(Told t, Now from, int p, int[] plan) {
        Now n = from.copy();
        n.plans[p] = plan;
        return sum(t, n, p);
    }

    /** Places 0 .. 3, then the sum. */
    static int[] best(Told t, Now from, int p) {
        int n = t.houses.size() + 1;
        int[] found = null;
        for (int c = 0; c < n * n * n * n; c++) {
            int[] plan = {c / (n * n * n), c / (n * n) % n, c / n % n, c % n};
            for (int i = 0; i < 4; i++) {
                plan[i] = plan[i] == n - 1 ? OUT : plan[i];
            }
            int s = sumBy(t, from, p, plan);
            if (found == null || s > found[4]) {
                found = new int[] {plan[0], plan[1], plan[2], plan[3], s};
            }
        }
        return found;
    }

    static int gainBy(Told t, Now from, int[] wishes, int p) {
        Now n = from.copy();
        quarter(t, n, wishes);
        return n.latest[p];
    }

    static boolean wouldGo(Told t, Now from, int[] wishes, int p) {
        int has = gainBy(t, from, wishes, p);
        int[] other = wishes.clone();
        for (int h = OUT; h < t.houses.size(); h++) {
            other[p] = h;
            if (gainBy(t, from, other, p) > has) {
                return true;
            }
        }
        return false;
    }

    List<int[]> rests() {
        List<int[]> rows = new ArrayList<>();
        rows.add(new int[0]);
        for (int p = 0; p < told.people.size(); p++) {
            List<int[]> more = new ArrayList<>();
            for (int[] row : rows) {
                for (int h = 0; h <= told.houses.size(); h++) {
                    boolean isOut = h == told.houses.size();
                    if (isOut || !told.works(p, now.quarters)) {
                        int[] next = Arrays.copyOf(row, p + 1);
                        next[p] = isOut ? OUT : h;
                        more.add(next);
                    }
                }
            }
            rows = more;
        }
        List<int[]> found = new ArrayList<>();
        for (int[] row : rows) {
            boolean isRest = true;
            for (int p = 0; p < row.length && isRest; p++) {
                isRest = told.works(p, now.quarters) || !wouldGo(told, now, row, p);
            }
            if (isRest) {
                found.add(row);
            }
        }
        return found;
    }

    int settle() {
        for (int round = 1; round <= 9; round++) {
            boolean changed = false;
            for (int p = 0; p < told.people.size(); p++) {
                int[] b = best(told, now, p);
                if (b[4] > sum(told, now, p)) {
                    now.plans[p] = Arrays.copyOf(b, 4);
                    changed = true;
                }
            }
            if (!changed) {
                return round;
            }
        }
        return -1;
    }

    int guard(int p, int f) {
        if (!isPerson(p) || !isPerson(f) || p == f) {
            return -2;
        }
        int h = told.homes.get(p);
        if (h < 0) {
            return -1;
        }
        return sumBy(told, now, f, new int[] {h, h, h, h}) >= sum(told, now, f) ? 1 : 0;
    }

    int rings(int what) {
        if (what != 0 && what != 1) {
            return -2;
        }
        List<Integer> owners = new ArrayList<>();
        boolean works = false;
        for (int p = 0; p < told.people.size(); p++) {
            if (told.homes.get(p) >= 0) {
                owners.add(p);
                works |= told.works(p, now.quarters);
            }
        }
        List<Integer> numbers = new ArrayList<>();
        if (owners.size() >= 2 && !works) {
            round(owners, 0, planned(told, now), new HashSet<>(), numbers);
        }
        if (what == 0) {
            return numbers.size();
        }
        return numbers.stream().mapToInt(i -> i).min().orElse(-1);
    }

    private void round(List<Integer> owners, int i, int[] wishes, Set<Integer> taken, List<Integer> numbers) {
        if (i == owners.size()) {
            for (int p : owners) {
                if (wouldGo(told, now, wishes, p)) {
                    return;
                }
            }
            StringBuilder digits = new StringBuilder();
            for (int p = 0; p < wishes.length; p++) {
                digits.append(told.homes.get(p) < 0 ? 9 : wishes[p]);
            }
            numbers.add(Integer.parseInt(digits.toString()));
            return;
        }
        for (int q : owners) {
            if (q != owners.get(i) && taken.add(q)) {
                int[] next = wishes.clone();
                next[owners.get(i)] = told.homes.get(q);
                round(owners, i + 1, next, taken, numbers);
                taken.remove(q);
            }
        }
    }

    private static int firstGreatest(int from, int to, ToIntFunction<Integer> value) {
        int found = from;
        for (int i = from; i <= to; i++) {
            if (value.applyAsInt(i) > value.applyAsInt(found)) {
                found = i;
            }
        }
        return found;
    }

    int when(int p) {
        return firstGreatest(0, 3, i -> {
            int[] plan = now.plans[p].clone();
            plan[i] = OUT;
            return sumBy(told, now, p, plan);
        });
    }

    int bound(int p, int most) {
        for (int after = 0; after <= 28; after++) {
            if (best(told.with(1, after), now, p)[4] <= most) {
                return after;
            }
        }
        return -1;
    }

    int law(boolean last, int after, int d, int what) {
        Told t = told.with(1, after);
        t.last = last;
        Now n = trial(t, now, 4 * d);
        int gain = 0;
        int lost = 0;
        for (int i = 0; i < 5; i++) {
            gain += n.all[i] - now.all[i];
            lost += now.state[i] - n.state[i];
        }
        return what == 0 ? gain : lost;
    }

    int bestLaw(int d) {
        int i = firstGreatest(0, 57, k -> law(k >= 29, k % 29, d, 0));
        return i >= 29 ? 100 + i - 29 : i;
    }

    // ---- feasts, doors, books

    int feast() {
        String row = readTape();
        Set<Integer> seen = new HashSet<>();
        for (char c : row.toCharArray()) {
            if (!isPerson(c - 48) || !seen.add(c - 48)) {
                return -1;
            }
        }
        if (seen.size() != told.people.size()) {
            return -1;
        }
        feastRow = row;
        int[] at = new int[row.length()];
        Arrays.setAll(at, p -> p);
        int[] first = at.clone();
        int turns = 0;
        do {
            for (int p = 0; p < at.length; p++) {
                at[p] = row.charAt(at[p]) - 48;
            }
            turns++;
        } while (!Arrays.equals(at, first));
        return turns;
    }

    int turned(int p, int turns) {
        if (!isPerson(p) || turns < 0 || turns > 999) {
            return -2;
        }
        if (feastRow == null) {
            return -1;
        }
        int at = p;
        for (int i = 0; i < turns; i++) {
            at = feastRow.charAt(at) - 48;
        }
        return at;
    }

    int whom(int p) {
        int found = -1;
        int greatest = 0;
        for (int bits = 0; bits < 32; bits++) {
            if ((bits & 1 << p) == 0 && bits >> told.people.size() == 0) {
                Now n = now.copy();
                n.lets[p] = bits;
                int s = sum(told, n, p);
                if (found < 0 || s > greatest) {
                    found = bits;
                    greatest = s;
                }
            }
        }
        return found;
    }

    int edge(int p, int other) {
        if (!isPerson(p) || !isPerson(other) || p == other) {
            return -2;
        }
        if (told.homes.get(p) < 0) {
            return -4;
        }
        for (int worth = 0; worth <= 20; worth++) {
            Told t = told.with(-1, 0);
            t.houseNumbers.get(told.homes.get(p))[1] = worth;
            Now with = now.copy();
            with.lets[p] |= 1 << other;
            Now without = now.copy();
            without.lets[p] &= ~(1 << other);
            if (sum(t, without, p) > sum(t, with, p)) {
                return worth;
            }
        }
        return -1;
    }

    int show(int p) {
        return firstGreatest(1, 4, chairs -> sum(told.with(0, chairs), now, p));
    }

    int book() {
        List<int[]> rows = new ArrayList<>();
        try {
            List<Token> ts = tokens(readTape());
            int i = 0;
            while (ts.get(i).sort != '$') {
                rows.add(new int[] {number(ts.get(i++), 0, 99), number(ts.get(i++), 0, 4), number(ts.get(i++), 0, 5)});
                need(ts.get(i++), ';');
            }
        } catch (Fault f) {
            return -1000;
        }
        int good = 0;
        Set<List<Integer>> seen = new HashSet<>();
        while (good < rows.size()) {
            int[] r = rows.get(good);
            boolean falls = good > 0 && rows.get(good - 1)[0] > r[0];
            if (falls || !isPerson(r[1]) || r[2] != 5 && !isHouse(r[2]) || !seen.add(List.of(r[0], r[1]))) {
                break;
            }
            good++;
        }
        Now n = Now.first(told, 0);
        n.lets = now.lets;
        for (int q = 0; q < 100; q++) {
            int[] wishes = Arrays.copyOf(n.where, told.people.size());
            for (int[] r : rows.subList(0, good)) {
                if (r[0] == q) {
                    wishes[r[1]] = r[2] == 5 ? OUT : r[2];
                }
            }
            for (int p = 0; p < wishes.length; p++) {
                wishes[p] = told.works(p, q) ? OUT : wishes[p];
            }
            quarter(told, n, wishes);
            for (int i = 0; i < good; i++) {
                int[] r = rows.get(i);
                if (r[0] == q && n.where[r[1]] != (r[2] == 5 ? OUT : r[2])) {
                    return -1 - i;
                }
            }
        }
        return good < rows.size() ? -1 - good : rows.size();
    }
}
