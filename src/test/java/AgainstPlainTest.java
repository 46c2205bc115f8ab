import java.util.ArrayList;
import java.util.List;
import java.util.Random;

/** Runs of calls by seeds, the program's answers held against PlainVillage's. */
public final class AgainstPlainTest {
    private final Due due = new Due();
    private final Random random;
    private final OwnedByGuests x = new OwnedByGuests();
    private final PlainVillage plain = new PlainVillage();
    private final int run;

    private AgainstPlainTest(int run) {
        this.run = run;
        this.random = new Random(run);
    }

    public static void main(String[] args) {
        int runs = args.length > 0 ? Integer.parseInt(args[0]) : 400;
        int from = args.length > 1 ? Integer.parseInt(args[1]) : 0;
        Due all = new Due();
        for (int i = from; i < from + runs && all.wrong() < 5; i++) {
            AgainstPlainTest test = new AgainstPlainTest(i);
            test.goThrough();
            all.due("run " + i + ": wrong answers", test.due.wrong(), 0);
        }
        all.close();
    }

    private void goThrough() {
        villages();
        for (int i = 0; i < 30 && due.wrong() == 0; i++) {
            change();
            look();
            if (random.nextInt(12) == 0) {
                villages();
            }
        }
    }

    private void same(String call, int got, int want) {
        due.due("run " + run + ": " + call, got, want);
    }

    private int upTo(int n) {
        return random.nextInt(n + 1);
    }

    /** A number of a person or house, mostly one that there is. */
    private int one() {
        return random.nextInt(12) == 0 ? random.nextInt(9) - 2 : random.nextInt(5);
    }

    private void put(String text) {
        Due.put(x, text);
        plain.tape.setLength(0);
        plain.tape.append(text);
        same("count(2)", x.count(2), text.length());
    }

    // ---- villages

    private void villages() {
        if (random.nextInt(3) == 0) {
            village(spoilt(villageText()));
        }
        village(villageText());
    }

    private void village(String text) {
        put(text);
        same("village() of " + text, x.village(), plain.village());
        same("fault(0) of " + text, x.fault(0), plain.kind);
        same("fault(1) of " + text, x.fault(1), plain.place);
        same("count(2)", x.count(2), 0);
        same("count(0)", x.count(0), plain.told.clauses);
        for (int what = -2; what < 72; what++) {
            same("told(" + what + ") of " + text, x.told(what), plain.told(what));
        }
        for (int p = -1; p < 6; p++) {
            for (int q = -1; q < 6; q++) {
                boolean isTie = plain.isPerson(p) && plain.isPerson(q) && p != q;
                same("tie(" + p + ", " + q + ")", x.tie(p, q), isTie ? plain.told.tie(p, q) : -1000);
            }
        }
        everything();
    }

    private String villageText() {
        List<String> clauses = new ArrayList<>();
        int houses = random.nextInt(10) == 0 ? upTo(5) : 1 + upTo(2);
        int people = random.nextInt(10) == 0 ? upTo(5) : 1 + upTo(3);
        String[] names = {"a", "of", "house", "tie", "abcdefgh"};
        for (int h = 0; h < houses; h++) {
            clauses.add("house " + names[h] + " " + upTo(20) + " " + upTo(20) + " " + upTo(100));
        }
        List<Integer> free = new ArrayList<>();
        for (int h = 0; h < houses; h++) {
            free.add(h);
        }
        for (int p = 0; p < people; p++) {
            boolean hasHouse = !free.isEmpty() && random.nextInt(3) > 0;
            String home = hasHouse ? " of " + names[free.remove(random.nextInt(free.size()))] : "";
            clauses.add("person " + names[4 - p] + home);
        }
        for (int p = 0; p < people; p++) {
            for (int q = 0; q < people; q++) {
                if (p != q && random.nextInt(3) == 0) {
                    clauses.add("tie " + names[4 - p] + " " + names[4 - q] + " " + upTo(20));
                }
            }
            if (random.nextInt(4) == 0) {
                clauses.add("work " + names[4 - p] + " " + (1 + upTo(14)));
            }
        }
        rules(clauses);
        StringBuilder text = new StringBuilder();
        for (String clause : clauses) {
            text.append(clause).append(random.nextBoolean() ? ";" : " ;\n ");
        }
        return text.toString();
    }

    private void rules(List<String> clauses) {
        if (random.nextInt(2) == 0) {
            clauses.add(upTo(clauses.size()), "chairs " + (1 + upTo(3)));
        }
        if (random.nextInt(2) == 0) {
            clauses.add("after " + (random.nextBoolean() ? upTo(5) : upTo(28)));
        }
        if (random.nextInt(2) == 0) {
            clauses.add("wear " + upTo(20));
        }
        if (random.nextInt(2) == 0) {
            clauses.add("mend " + upTo(20));
        }
        if (random.nextInt(2) == 0) {
            clauses.add("take " + upTo(9));
        }
        if (random.nextInt(3) == 0) {
            clauses.add("stroll " + upTo(100));
        }
        if (random.nextInt(2) == 0) {
            clauses.add(upTo(clauses.size()), "last");
        }
    }

    private String spoilt(String text) {
        String[] bits = {";", " ", "a", "z", "of", "0", "9", "999", "last;", "chairs 2;", "chairs 3;", "person q;",
            "house q 1 1 1;", "house r 1 1 1;", "person r;", "person s;", "person t of a;", "tie a of 3;",
            "work a 3;", "work of 3;", "A", "\t", "\u0000", "\u00ff", "wear 21;", "abcdefghi", "1234"};
        StringBuilder s = new StringBuilder(text);
        int times = 1 + upTo(3);
        for (int i = 0; i < times; i++) {
            int at = upTo(s.length());
            if (random.nextInt(3) == 0) {
                int behind = s.indexOf(";", at);
                at = behind < 0 ? at : behind + 1;
            }
            if (random.nextInt(3) == 0 && at < s.length()) {
                s.deleteCharAt(at);
            } else {
                s.insert(at, bits[random.nextInt(bits.length)]);
            }
        }
        return s.substring(0, Math.min(900, s.length()));
    }

    // ---- changes

    private void change() {
        int p = one();
        switch (random.nextInt(8)) {
            case 0, 1, 2 -> plan(p);
            case 3 -> {
                int bits = random.nextInt(12) == 0 ? random.nextInt(100) - 40 : random.nextInt(32);
                boolean fits = plain.isPerson(p) && bits >= 0 && bits <= 31;
                same("lets(" + p + ", " + bits + ")", x.lets(p, bits), fits ? plain.now.lets[p] : -2);
                if (fits) {
                    plain.now.lets[p] = bits;
                }
            }
            case 4 -> {
                int seed = random.nextInt();
                same("chance(" + seed + ")", x.chance(seed), seed < 0 ? -2 : 1);
                plain.now.seed = seed < 0 ? plain.now.seed : seed;
            }
            case 5 -> keepOrTake();
            default -> {
                int n = upTo(9);
                same("pass(" + n + ")", x.pass(n), plain.pass(n));
            }
        }
        everything();
    }

    private void plan(int p) {
        StringBuilder row = new StringBuilder();
        int length = random.nextInt(15) == 0 ? upTo(6) : 4;
        for (int i = 0; i < length; i++) {
            int h = random.nextInt(Math.max(1, plain.told.houses.size()) + 1);
            row.append(h == plain.told.houses.size() || random.nextInt(8) == 0 ? 'o' : (char) (48 + h));
        }
        put(row.toString());
        same("plan(" + p + ") of " + row, x.plan(p), plain.plan(p));
        same("count(2)", x.count(2), 0);
    }

    private void keepOrTake() {
        int slot = random.nextInt(5) - 1;
        boolean isSlot = slot >= 0 && slot < 3;
        if (random.nextBoolean()) {
            same("keep(" + slot + ")", x.keep(slot), isSlot ? plain.now.quarters : -2);
            if (isSlot) {
                plain.slots[slot] = plain.now.copy();
            }
            return;
        }
        int want = !isSlot ? -2 : plain.slots[slot] == null ? -4 : plain.slots[slot].quarters;
        same("take(" + slot + ")", x.take(slot), want);
        if (want >= 0) {
            plain.now = plain.slots[slot].copy();
        }
    }

    /** All that can be seen of how things are. */
    private void everything() {
        PlainVillage.Now n = plain.now;
        same("count(1)", x.count(1), n.quarters);
        for (int p = -1; p < 6; p++) {
            boolean is = plain.isPerson(p);
            for (int i = -1; i < 5; i++) {
                same("planned(" + p + ", " + i + ")", x.planned(p, i), is && i >= 0 && i < 4 ? n.plans[p][i] : -2);
            }
            same("who(" + p + ", 0)", x.who(p, 0), is ? n.where[p] : -1000000);
            same("who(" + p + ", 1)", x.who(p, 1), is ? n.stayed[p] : -1000000);
            same("who(" + p + ", 2)", x.who(p, 2), is ? n.latest[p] : -1000000);
            same("who(" + p + ", 3)", x.who(p, 3), is ? n.all[p] : -1000000);
            same("who(" + p + ", 4)", x.who(p, 4), -1000000);
        }
        for (int h = -1; h < 6; h++) {
            boolean is = plain.isHouse(h);
            same("house(" + h + ", 0)", x.house(h, 0), is ? PlainVillage.has(plain.told, n, h) : -2);
            same("house(" + h + ", 1)", x.house(h, 1), is ? n.store[h] : -2);
            same("house(" + h + ", 2)", x.house(h, 2), is ? n.state[h] : -2);
            same("house(" + h + ", 3)", x.house(h, 3), is ? PlainVillage.guests(plain.told, n, h) : -2);
            same("word(" + h + ")", x.word(h), is ? plain.word(h) : -2);
        }
    }

    // ---- what is asked

    private void look() {
        int p = one();
        int q = one();
        boolean is = plain.isPerson(p);
        same("sum(" + p + ")", x.sum(p), is ? PlainVillage.sum(plain.told, plain.now, p) : -1000000);
        best(p);
        same("guard(" + p + ", " + q + ")", x.guard(p, q), plain.guard(p, q));
        same("when(" + p + ")", x.when(p), is ? plain.when(p) : -2);
        same("whom(" + p + ")", x.whom(p), is ? plain.whom(p) : -2);
        same("edge(" + p + ", " + q + ")", x.edge(p, q), plain.edge(p, q));
        same("show(" + p + ")", x.show(p), is ? plain.show(p) : -2);
        same("rings(0)", x.rings(0), plain.rings(0));
        same("rings(1)", x.rings(1), plain.rings(1));
        longer();
        laws();
        feasts();
        books();
        if (plain.told.people.size() < 5 || random.nextInt(20) == 0) {
            rests();
        }
        if (random.nextInt(6) == 0) {
            int most = upTo(60) - 10;
            same("bound(" + p + ", " + most + ")", x.bound(p, most), is ? plain.bound(p, most) : -2);
        }
        if (random.nextInt(10) == 0) {
            same("settle()", x.settle(), plain.settle());
        }
        everything();
    }

    private void best(int p) {
        int[] want = plain.isPerson(p) ? PlainVillage.best(plain.told, plain.now, p) : null;
        for (int what = -1; what < 6; what++) {
            int due = want == null || what < 0 || what > 4 ? -1000000 : want[what];
            same("best(" + p + ", " + what + ")", x.best(p, what), due);
        }
    }

    private void rests() {
        List<int[]> rests = plain.rests();
        same("rests()", x.rests(), rests.size());
        int i = random.nextInt(rests.size() + 2) - 1;
        for (int p = -1; p < 6; p++) {
            boolean is = plain.isPerson(p) && i >= 0 && i < rests.size();
            same("rest(" + i + ", " + p + ")", x.rest(i, p), is ? rests.get(i)[p] : -2);
        }
    }

    private void longer() {
        int h = one();
        int d = upTo(61);
        int what = random.nextInt(4) - 1;
        int want = -2;
        if (plain.isHouse(h) && d >= 1 && d <= 60 && (what == 0 || what == 1)) {
            PlainVillage.Now n = PlainVillage.trial(plain.told, plain.now, 4 * d);
            want = what == 0 ? n.store[h] : n.state[h];
        }
        same("longer(" + h + ", " + d + ", " + what + ")", x.longer(h, d, what), want);
    }

    private void laws() {
        boolean last = random.nextBoolean();
        int after = random.nextInt(31) - 1;
        int d = random.nextInt(22);
        int what = random.nextInt(12) == 0 ? 2 : random.nextInt(2);
        boolean is = after >= 0 && after <= 28 && d >= 1 && d <= 20 && what < 2;
        same("law(" + last + ", " + after + ", " + d + ", " + what + ")", x.law(last, after, d, what),
            is ? plain.law(last, after, d, what) : -1000000);
        if (random.nextInt(4) == 0) {
            same("bestLaw(" + d + ")", x.bestLaw(d), d >= 1 && d <= 20 ? plain.bestLaw(d) : -2);
        }
    }

    private void feasts() {
        if (random.nextInt(3) == 0) {
            List<Integer> row = new ArrayList<>();
            for (int p = 0; p < plain.told.people.size(); p++) {
                row.add(upTo(row.size()), p);
            }
            if (random.nextInt(5) == 0) {
                row.add(upTo(5));
            }
            StringBuilder text = new StringBuilder();
            row.forEach(text::append);
            put(text.toString());
            same("feast() of " + text, x.feast(), plain.feast());
        }
        int p = one();
        int turns = random.nextInt(9) == 0 ? 990 + upTo(20) : upTo(8) - 1;
        same("turned(" + p + ", " + turns + ")", x.turned(p, turns), plain.turned(p, turns));
    }

    private void books() {
        StringBuilder text = new StringBuilder();
        int rows = upTo(6);
        int quarter = upTo(3);
        int people = Math.max(1, plain.told.people.size());
        int houses = Math.max(1, plain.told.houses.size());
        for (int i = 0; i < rows; i++) {
            int p = random.nextInt(25) == 0 ? upTo(5) : random.nextInt(people);
            int h = random.nextInt(25) == 0 ? upTo(6) : random.nextInt(3) == 0 ? 5 : random.nextInt(houses);
            text.append(quarter).append(' ').append(p).append(random.nextBoolean() ? " " : "\n 0").append(h);
            text.append(random.nextInt(40) == 0 ? " " : ";");
            quarter += random.nextInt(30) == 0 ? -1 : random.nextInt(3);
        }
        put(text.toString());
        same("book() of " + text, x.book(), plain.book());
    }
}
