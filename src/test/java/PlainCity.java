import java.math.BigInteger;
import java.util.ArrayList;
import java.util.Comparator;
import java.util.List;
import java.util.regex.Pattern;

/** The document once more, written for plainness and by other means than the class: a yardstick for tests. */
final class PlainCity {
    private static final Pattern CONTRACTS = Pattern.compile("X(,X){0,7}".replace("X", "[sbhm]?(?!00|11|22|33|44|55|66|77)[0-7][0-7][0-9]"));
    private static final String[] ENDINGS = {"", "0", "00", "10", "010"};

    private static final class Man {
        int kind, payer, robbed, fee, tenths = 10;
        boolean paid = true;
    }

    private static final class Piece {
        int number, worth, owner, house, seen = -1;
    }

    private static final class World {
        List<Man> men = new ArrayList<>();
        List<Piece> pieces = new ArrayList<>();
        int[] locks = new int[8];
        boolean[] dogs = new boolean[8];
        int months, fees;

        World copy() {
            World w = new World();
            for (Man m : men) {
                Man n = new Man();
                n.kind = m.kind;
                n.payer = m.payer;
                n.robbed = m.robbed;
                n.fee = m.fee;
                n.tenths = m.tenths;
                n.paid = m.paid;
                w.men.add(n);
            }
            for (Piece p : pieces) {
                Piece q = new Piece();
                q.number = p.number;
                q.worth = p.worth;
                q.owner = p.owner;
                q.house = p.house;
                q.seen = p.seen;
                w.pieces.add(q);
            }
            w.locks = locks.clone();
            w.dogs = dogs.clone();
            w.months = months;
            w.fees = fees;
            return w;
        }

        int visit(Man m) {
            int from = m.paid ? m.robbed : m.payer;
            int to = m.paid ? m.payer : m.robbed;
            if (m.kind == 3 || dogs[from] || (locks[from] > 0 && m.kind != 4)) {
                return 0;
            }
            List<Piece> there = new ArrayList<>();
            for (Piece p : pieces) {
                if (p.house == from) {
                    there.add(p);
                }
            }
            Comparator<Piece> byWorth = Comparator.comparingInt(p -> m.kind == 2 ? p.worth : -p.worth);
            there.sort(byWorth.thenComparingInt(p -> p.number));
            int wants = m.kind == 1 || m.kind == 4 ? 2 : 1;
            List<Piece> taken = there.subList(0, Math.min(wants, there.size()));
            taken.forEach(p -> p.house = to);
            return taken.size();
        }

        void lapse() {
            for (int h = 0; h < 8; h++) {
                if (locks[h] > 0) {
                    locks[h]--;
                }
            }
        }

        int month(Man absent) {
            int taken = 0;
            for (Man m : men) {
                if (m != absent) {
                    taken += visit(m);
                }
            }
            lapse();
            return taken;
        }

        World after(int times) {
            World w = copy();
            for (int i = 0; i < times; i++) {
                w.month(null);
            }
            return w;
        }

        int worth(int house) {
            return pieces.stream().filter(p -> p.house == house).mapToInt(p -> p.worth).sum();
        }
    }

    private String page = "";
    private World now = new World();
    private World kept = null;
    private int reads = 0, keptReads = 0;

    private static boolean in(int v, int low, int high) {
        return low <= v && v <= high;
    }

    int letters(long w) {
        StringBuilder b = new StringBuilder();
        boolean ended = false;
        for (int i = 0; i < 8; i++) {
            int code = (int) (w & 0xff);
            w >>>= 8;
            if (code > 126 || (ended && code != 0)) {
                return -102;
            }
            if (code == 0) {
                ended = true;
            } else {
                b.append((char) code);
            }
        }
        if (page.length() + b.length() > 40) {
            return -104;
        }
        page += b;
        return page.length();
    }

    int blank() {
        int had = page.length();
        page = "";
        return had;
    }

    int fault() {
        for (int n = 1; n <= page.length(); n++) {
            boolean could = false;
            for (String ending : ENDINGS) {
                could |= CONTRACTS.matcher(page.substring(0, n) + ending).matches();
            }
            if (!could) {
                return n - 1;
            }
        }
        return page.length();
    }

    int contracts() {
        if (!CONTRACTS.matcher(page).matches()) {
            return -103;
        }
        now.men.clear();
        for (String text : page.split(",")) {
            Man m = new Man();
            m.kind = text.length() == 4 ? 1 + "sbhm".indexOf(text.charAt(0)) : 0;
            String digits = text.substring(text.length() - 3);
            m.payer = digits.charAt(0) - '0';
            m.robbed = digits.charAt(1) - '0';
            m.fee = digits.charAt(2) - '0';
            now.men.add(m);
        }
        reads++;
        page = "";
        return now.men.size();
    }

    private boolean man(int thief) {
        return in(thief, 0, now.men.size() - 1);
    }

    private boolean piece(int spoon) {
        return in(spoon, 0, now.pieces.size() - 1);
    }

    int about(int thief, int what) {
        if (!man(thief)) {
            return -101;
        }
        if (!in(what, 0, 5)) {
            return -102;
        }
        Man m = now.men.get(thief);
        return new int[] {m.kind, m.payer, m.robbed, m.fee, m.paid ? 1 : 0, m.tenths}[what];
    }

    int as(int thief, int kind) {
        if (!man(thief)) {
            return -101;
        }
        if (!in(kind, 0, 4)) {
            return -102;
        }
        int own = now.men.get(thief).kind;
        return kind == 0 || kind == own || (kind == 1 && own == 4) ? thief : -1;
    }

    int paid(int thief, boolean is) {
        if (!man(thief)) {
            return -101;
        }
        int was = about(thief, 4);
        now.men.get(thief).paid = is;
        return was;
    }

    int tenths(int thief, int v) {
        if (!man(thief)) {
            return -101;
        }
        if (!in(v, 0, 10)) {
            return -102;
        }
        int was = about(thief, 5);
        now.men.get(thief).tenths = v;
        return was;
    }

    int lock(int house, int months) {
        if (!in(house, 0, 7)) {
            return -101;
        }
        if (!in(months, 0, 9)) {
            return -102;
        }
        int was = now.locks[house];
        now.locks[house] = months;
        return was;
    }

    int dog(int house, boolean is) {
        if (!in(house, 0, 7)) {
            return -101;
        }
        int was = now.dogs[house] ? 1 : 0;
        now.dogs[house] = is;
        return was;
    }

    int spoon(int house, int worth) {
        if (!in(house, 0, 7)) {
            return -101;
        }
        if (!in(worth, 1, 99)) {
            return -102;
        }
        if (now.pieces.size() == 8) {
            return -104;
        }
        Piece p = new Piece();
        p.number = now.pieces.size();
        p.worth = worth;
        p.owner = house;
        p.house = house;
        now.pieces.add(p);
        return p.number;
    }

    int silver(int spoon, int what) {
        if (!piece(spoon)) {
            return -101;
        }
        if (!in(what, 0, 3)) {
            return -102;
        }
        Piece p = now.pieces.get(spoon);
        return new int[] {p.worth, p.owner, p.house, p.seen}[what];
    }

    int worth(int house) {
        return in(house, 0, 7) ? now.worth(house) : -101;
    }

    int month() {
        if (now.men.isEmpty()) {
            return -103;
        }
        now.months++;
        now.fees += now.men.stream().filter(m -> m.paid).mapToInt(m -> m.fee).sum();
        return now.month(null);
    }

    int where(int spoon, int months) {
        if (!piece(spoon)) {
            return -101;
        }
        if (!in(months, 0, 60)) {
            return -102;
        }
        return now.men.isEmpty() ? -103 : now.after(months).pieces.get(spoon).house;
    }

    /** The chance that the only spoon, being in a house ahead of a thief's visit, ends where it is asked for. */
    private BigInteger ways(World w, int house, int thief, int monthsLeft, int asked) {
        if (thief == w.men.size()) {
            World next = w.copy();
            next.lapse();
            return monthsLeft == 1
                ? (house == asked ? BigInteger.ONE : BigInteger.ZERO)
                : ways(next, house, 0, monthsLeft - 1, asked);
        }
        World only = w.copy();
        only.pieces.clear();
        Piece p = new Piece();
        p.house = house;
        only.pieces.add(p);
        Man m = only.men.get(thief);
        only.visit(m);
        BigInteger stays = ways(w, house, thief + 1, monthsLeft, asked);
        BigInteger comes = p.house == house ? stays : ways(w, p.house, thief + 1, monthsLeft, asked);
        return comes.multiply(BigInteger.valueOf(m.tenths)).add(stays.multiply(BigInteger.valueOf(10 - m.tenths)));
    }

    long chance(int spoon, int months, int house, int part) {
        if (!piece(spoon) || !in(house, 0, 7)) {
            return -101;
        }
        if (!in(months, 1, 2) || !in(part, 0, 1)) {
            return -102;
        }
        if (now.men.isEmpty()) {
            return -103;
        }
        BigInteger above = ways(now, now.pieces.get(spoon).house, 0, months, house);
        BigInteger below = BigInteger.TEN.pow(months * now.men.size());
        return (part == 0 ? above : below).divide(above.gcd(below)).longValueExact();
    }

    int whom(int house, int months, int what) {
        if (!in(house, 0, 7)) {
            return -100101;
        }
        if (!in(months, 0, 12) || !in(what, 0, 1)) {
            return -100102;
        }
        if (now.men.isEmpty()) {
            return -100103;
        }
        List<int[]> found = new ArrayList<>();
        for (int set = 0; set < 1 << now.men.size(); set++) {
            World w = now.copy();
            int fees = 0;
            boolean could = true;
            for (int t = 0; t < w.men.size(); t++) {
                Man m = w.men.get(t);
                boolean isIn = (set & 1 << t) != 0;
                could &= !isIn || m.payer == house;
                m.paid = m.payer == house ? isIn : m.paid;
                fees += isIn ? m.fee : 0;
            }
            if (could) {
                found.add(new int[] {w.after(months).worth(house) - fees * months, set});
            }
        }
        found.sort(Comparator.<int[]>comparingInt(f -> -f[0])
            .thenComparingInt(f -> Integer.bitCount(f[1])).thenComparingInt(f -> f[1]));
        return found.get(0)[what];
    }

    int still() {
        if (now.men.isEmpty()) {
            return -103;
        }
        for (int k = 0; k <= 60; k++) {
            if (now.after(k).month(null) == 0) {
                return k;
            }
        }
        return -1;
    }

    int seen(int spoon, int house) {
        if (!piece(spoon) || !in(house, -1, 7)) {
            return -101;
        }
        int was = now.pieces.get(spoon).seen;
        now.pieces.get(spoon).seen = house;
        return was;
    }

    int who() {
        if (now.men.isEmpty()) {
            return -103;
        }
        int bits = 0;
        for (int t = 0; t <= 8; t++) {
            if (t < now.men.size() || t == 8) {
                World w = now.copy();
                w.month(t == 8 ? null : w.men.get(t));
                bits |= w.pieces.stream().allMatch(p -> p.seen == -1 || p.seen == p.house) ? 1 << t : 0;
            }
        }
        return bits;
    }

    int owes(int a, int b) {
        if (!in(a, 0, 7) || !in(b, 0, 7) || a == b) {
            return -101;
        }
        return now.pieces.stream().filter(p -> p.house == a && p.owner == b).mapToInt(p -> p.worth).sum();
    }

    /** Puts house after house into one of the groups, or a new one: the most groups that are even in the end. */
    private int mostGroups(int house, List<Integer> groups) {
        if (house == 8) {
            return groups.stream().allMatch(g -> g == 0) ? groups.size() : 0;
        }
        int net = 0;
        for (int other = 0; other < 8; other++) {
            net += other == house ? 0 : owes(other, house) - owes(house, other);
        }
        int most = 0;
        for (int g = 0; g <= groups.size(); g++) {
            List<Integer> more = new ArrayList<>(groups);
            if (g == groups.size()) {
                more.add(net);
            } else {
                more.set(g, more.get(g) + net);
            }
            most = Math.max(most, mostGroups(house + 1, more));
        }
        return most;
    }

    int fewest() {
        return 8 - mostGroups(0, new ArrayList<>());
    }

    int months(int times, int seed, int what) {
        if (!in(times, 1, 60) || seed < 0 || !in(what, 0, 2)) {
            return -102;
        }
        if (now.men.isEmpty()) {
            return -103;
        }
        World w = now.copy();
        BigInteger s = BigInteger.valueOf(seed);
        int taken = 0;
        for (int i = 0; i < times; i++) {
            for (Man m : w.men) {
                s = s.multiply(BigInteger.valueOf(1103515245)).add(BigInteger.valueOf(12345)).mod(BigInteger.TWO.pow(31));
                if (s.divide(BigInteger.valueOf(65536)).mod(BigInteger.TEN).intValue() < m.tenths) {
                    taken += w.visit(m);
                }
            }
            w.lapse();
        }
        int home = w.pieces.stream().filter(p -> p.house == p.owner).mapToInt(p -> p.worth).sum();
        return new int[] {home, taken, s.intValueExact()}[what];
    }

    int image() {
        kept = now.copy();
        keptReads = reads;
        return now.pieces.size();
    }

    int restore() {
        if (kept == null || keptReads != reads || kept.pieces.size() != now.pieces.size()) {
            return -103;
        }
        now = kept.copy();
        return now.pieces.size();
    }

    int count(int what) {
        if (!in(what, 0, 6)) {
            return -102;
        }
        int away = (int) now.pieces.stream().filter(p -> p.house != p.owner).count();
        return new int[] {now.men.size(), now.pieces.size(), now.months, now.fees, page.length(), away, reads}[what];
    }

    long digest() {
        List<Integer> numbers = new ArrayList<>();
        for (int t = 0; t < now.men.size(); t++) {
            for (int what = 0; what <= 5; what++) {
                numbers.add(about(t, what));
            }
        }
        for (int h = 0; h < 8; h++) {
            numbers.add(now.locks[h]);
            numbers.add(now.dogs[h] ? 1 : 0);
            numbers.add(worth(h));
        }
        for (int s = 0; s < now.pieces.size(); s++) {
            for (int what = 0; what <= 3; what++) {
                numbers.add(silver(s, what));
            }
        }
        numbers.add(fewest());
        if (!now.men.isEmpty()) {
            numbers.add(still());
            numbers.add(who());
            for (int h = 0; h < 8; h++) {
                numbers.add(whom(h, 3, 0));
                numbers.add(whom(h, 3, 1));
            }
        }
        page.chars().forEach(numbers::add);
        for (int what = 0; what <= 6; what++) {
            numbers.add(count(what));
        }
        long h = 673;
        for (int number : numbers) {
            h = 31 * h + number;
        }
        return h;
    }
}
