import java.math.BigDecimal;
import java.math.BigInteger;
import java.util.ArrayList;
import java.util.Arrays;
import java.util.HashSet;
import java.util.List;
import java.util.Set;

/**
 * The document once more, as slowly and as near to its words as can be: every CHOICE is tried, every YEAR looked at,
 * every LINE written down, and to undo is to do all again but the last call. RandomTest compares it with the class.
 */
final class Reference {
    static final class Work {
        int year, home, floor;
        Integer shown;
        int[] makers = new int[8];
        Integer[] how = new Integer[7];
        int[] part = new int[7];
        String words = "";
        Set<Integer> offered = new HashSet<>();
        int[] listed = new int[3];
    }

    static final class Licence {
        int rights, duties, bans;
        boolean alike;
    }

    static final class Entry {
        int work, from, to, part, first, last;
    }

    interface Call {
        int go();
    }

    private static final Set<String> LINES = new HashSet<>();
    private static final Set<String> STARTS = new HashSet<>();

    static {
        for (int k = 0; k < 64 * 16 * 4 * 2; k++) {
            Licence one = new Licence();
            one.rights = k % 64;
            one.duties = k / 64 % 16;
            one.bans = k / 1024 % 4;
            one.alike = k / 4096 == 1;
            String line = lineOf(one);
            LINES.add(line);
            for (int n = 0; n <= line.length(); n++) {
                STARTS.add(line.substring(0, n));
            }
        }
    }

    private List<Work> works;
    private int[] life, show, quote;
    private boolean[] shorter;
    private List<Licence> licences;
    private List<Entry> entries;
    private Integer[] died, caps;
    private int[] open, earned, paid;
    private int behind, sold;
    private String typed;

    private final List<Call> done = new ArrayList<>();
    private int steps;
    private int refused;

    Reference() {
        begin();
    }

    private void begin() {
        works = new ArrayList<>();
        life = new int[] {70, 70, 70};
        show = new int[] {50, 50, 50};
        quote = new int[] {5, 5, 5};
        shorter = new boolean[3];
        licences = new ArrayList<>();
        entries = new ArrayList<>();
        died = new Integer[8];
        caps = new Integer[8];
        open = new int[8];
        earned = new int[9];
        paid = new int[8];
        behind = 35;
        sold = 0;
        typed = "";
    }

    private int step(Call call) {
        done.add(call);
        steps = Math.min(8, steps + 1);
        return call.go();
    }

    private static void index(boolean is) {
        if (!is) {
            throw new IndexOutOfBoundsException();
        }
    }

    private static void argument(boolean is) {
        if (!is) {
            throw new IllegalArgumentException();
        }
    }

    private static void state(boolean is) {
        if (!is) {
            throw new IllegalStateException();
        }
    }

    private boolean isWork(int k) {
        return 0 <= k && k < works.size();
    }

    private static boolean isLand(int k) {
        return 0 <= k && k <= 2;
    }

    private static boolean isPerson(int k) {
        return 0 <= k && k <= 7;
    }

    private boolean isLicence(int k) {
        return 0 <= k && k < licences.size();
    }

    private static boolean isYear(int k) {
        return 0 <= k && k <= 300;
    }

    private static int told(Integer value) {
        return value == null ? -1 : value;
    }

    private static Integer orNone(int value) {
        return value == -1 ? null : value;
    }

    int work(int year, int home) {
        index(isLand(home));
        argument(isYear(year));
        state(works.size() < 7);
        return step(() -> {
            Work one = new Work();
            one.year = year;
            one.home = home;
            works.add(one);
            return works.size() - 1;
        });
    }

    int maker(int work, int person, int part) {
        index(isWork(work) && isPerson(person));
        argument(1 <= part && part <= 100);
        int sum = Arrays.stream(works.get(work).makers).sum() + part;
        state(works.get(work).makers[person] == 0 && sum <= 100);
        state(entries.stream().noneMatch(e -> e.work == work));
        return step(() -> {
            works.get(work).makers[person] = part;
            return sum;
        });
    }

    int shown(int work, int year) {
        index(isWork(work));
        argument(year == -1 || isYear(year) && year >= works.get(work).year);
        return step(() -> {
            Integer before = works.get(work).shown;
            works.get(work).shown = orNone(year);
            return told(before);
        });
    }

    int death(int person, int year) {
        index(isPerson(person));
        argument(year == -1 || isYear(year));
        return step(() -> {
            Integer before = died[person];
            died[person] = orNone(year);
            return told(before);
        });
    }

    private boolean leads(int from, int to) {
        if (from == to) {
            return true;
        }
        for (int k = 0; k < works.size(); k++) {
            if (works.get(from).how[k] != null && leads(k, to)) {
                return true;
            }
        }
        return false;
    }

    int use(int work, int of, int how, int part) {
        index(isWork(work) && isWork(of));
        argument(0 <= how && how <= 3 && 0 <= part && part <= 100 && works.get(of).year <= works.get(work).year);
        int sum = Arrays.stream(works.get(work).part).sum() + part;
        state(works.get(work).how[of] == null && !leads(of, work) && sum <= 100);
        return step(() -> {
            works.get(work).how[of] = how;
            works.get(work).part[of] = part;
            return sum;
        });
    }

    int words(int work, int a, int b, int c, int d, int e) {
        index(isWork(work));
        StringBuilder more = new StringBuilder();
        for (int k : new int[] {a, b, c, d, e}) {
            argument(-1 <= k && k <= 5);
            more.append(k == -1 ? "" : "abcdef".substring(k, k + 1));
        }
        String all = works.get(work).words + more;
        state(all.length() <= 20);
        return step(() -> {
            works.get(work).words = all;
            return all.length();
        });
    }

    int land(int land, int aLife, int aShow, int aQuote, boolean isShorter) {
        index(isLand(land));
        argument(0 <= aLife && aLife <= 100 && 0 <= aShow && aShow <= 100 && 0 <= aQuote && aQuote <= 100);
        return step(() -> {
            int before = life[land];
            life[land] = aLife;
            show[land] = aShow;
            quote[land] = aQuote;
            shorter[land] = isShorter;
            return before;
        });
    }

    int list(int land, int work, int what) {
        index(isLand(land) && isWork(work));
        argument(0 <= what && what <= 2);
        return step(() -> {
            int before = works.get(work).listed[land];
            works.get(work).listed[land] = what;
            return before;
        });
    }

    int licence(int rights, int duties, int bans, boolean isAlike) {
        argument(0 <= rights && rights <= 63 && 0 <= duties && duties <= 15 && 0 <= bans && bans <= 3);
        state(licences.size() < 8);
        return step(() -> addLicence(rights, duties, bans, isAlike));
    }

    private int addLicence(int rights, int duties, int bans, boolean isAlike) {
        Licence one = new Licence();
        one.rights = rights;
        one.duties = duties;
        one.bans = bans;
        one.alike = isAlike;
        licences.add(one);
        return licences.size() - 1;
    }

    int offer(int work, int licence, boolean is) {
        index(isWork(work) && isLicence(licence));
        state(!is || works.get(work).offered.contains(licence) || works.get(work).offered.size() < 3);
        return step(() -> {
            if (is) {
                works.get(work).offered.add(licence);
            } else {
                works.get(work).offered.remove(licence);
            }
            return works.get(work).offered.size();
        });
    }

    int say(int a, int b, int c, int d, int e, int f) {
        int[] all = {a, b, c, d, e, f};
        for (int k : all) {
            argument(-1 <= k && k <= 13);
        }
        String text = typed;
        for (int k : all) {
            if (k == 13) {
                text = "";
            } else if (k == 12) {
                text = text.isEmpty() ? "" : text.substring(0, text.length() - 1);
            } else if (k >= 0) {
                text += "cxgsvhntom/+".charAt(k);
            }
            state(text.length() <= 20);
        }
        String then = text;
        return step(() -> {
            typed = then;
            return typed.length();
        });
    }

    int learn() {
        state(licences.size() < 8);
        if (fault() != -1) {
            return -2 - fault();
        }
        String[] kinds = typed.replace("+", "").split("/", -1);
        boolean isAlike = typed.endsWith("+");
        return step(() -> {
            typed = "";
            return addLicence(setOf(kinds[0], "cxgsvh"), setOf(kinds[1], "ntom"), setOf(kinds[2], "sx"), isAlike);
        });
    }

    private static int setOf(String letters, String kind) {
        int set = 0;
        for (char c : letters.toCharArray()) {
            set += 1 << kind.indexOf(c);
        }
        return set;
    }

    int hand(int work, int from, int to, int part, int first, int last) {
        index(isWork(work) && isPerson(from) && isPerson(to));
        argument(from != to && 1 <= part && part <= 100 && isYear(first) && isYear(last) && first <= last);
        state(entries.size() < 16);
        return step(() -> {
            Entry one = new Entry();
            one.work = work;
            one.from = from;
            one.to = to;
            one.part = part;
            one.first = first;
            one.last = last;
            entries.add(one);
            return entries.size() - 1;
        });
    }

    int back(int entry, int year) {
        index(0 <= entry && entry < entries.size());
        argument(entries.get(entry).first <= year && year <= entries.get(entry).last);
        return step(() -> {
            int before = entries.get(entry).last;
            entries.get(entry).last = year - 1;
            return before;
        });
    }

    int takeBack(int work, int person, int year) {
        index(isWork(work) && isPerson(person));
        argument(isYear(year));
        state(works.get(work).makers[person] > 0);
        return step(() -> {
            boolean[] valid = valid();
            int count = 0;
            for (int k = 0; k < entries.size(); k++) {
                Entry e = entries.get(k);
                if (valid[k] && e.work == work && e.from == person && e.first + behind <= year && year <= e.last) {
                    e.last = year - 1;
                    count++;
                }
            }
            return count;
        });
    }

    int behind(int years) {
        argument(0 <= years && years <= 100);
        return step(() -> {
            int before = behind;
            behind = years;
            return before;
        });
    }

    int advance(int person, int coins) {
        index(isPerson(person));
        argument(0 <= coins && coins <= 9999);
        return step(() -> open[person] += coins);
    }

    int cap(int person, int coins) {
        index(isPerson(person));
        argument(-1 <= coins && coins <= 99999);
        return step(() -> {
            Integer before = caps[person];
            caps[person] = orNone(coins);
            return told(before);
        });
    }

    int floor(int work, int coins) {
        index(isWork(work));
        argument(0 <= coins && coins <= 9999);
        return step(() -> {
            int before = works.get(work).floor;
            works.get(work).floor = coins;
            return before;
        });
    }

    int sale(int work, int land, int year, int coins) {
        index(isWork(work) && isLand(land));
        argument(isYear(year) && year >= works.get(work).year && 0 <= coins && coins <= 9999);
        return step(() -> sell(work, land, year, coins));
    }

    private int sell(int work, int land, int year, int coins) {
        BigDecimal[] due = shares(work, land, year, coins);
        int[] got = new int[9];
        int left = coins;
        List<Integer> hands = new ArrayList<>();
        for (int k = 0; k < 9; k++) {
            due[k] = due[k].multiply(BigDecimal.valueOf(coins));
            got[k] = due[k].toBigInteger().intValueExact();
            due[k] = due[k].subtract(BigDecimal.valueOf(got[k]));
            left -= got[k];
            hands.add(k);
        }
        hands.sort((a, b) -> due[b].compareTo(due[a]));
        for (int k = 0; k < left; k++) {
            got[hands.get(k)]++;
        }
        int all = 0;
        for (int k = 0; k < 8; k++) {
            int earns = caps[k] == null ? got[k] : Math.min(got[k], Math.max(0, caps[k] - earned[k]));
            got[8] += got[k] - earns;
            earned[k] += earns;
            int off = Math.min(open[k], earns);
            open[k] -= off;
            paid[k] += earns - off;
            all += earns - off;
        }
        earned[8] += got[8];
        sold += coins;
        return all;
    }

    int undo() {
        state(steps > 0);
        steps--;
        done.remove(done.size() - 1);
        begin();
        for (Call call : done) {
            call.go();
        }
        return steps;
    }

    int knock() {
        return ++refused;
    }

    int ofWork(int work, int what) {
        index(isWork(work));
        argument(0 <= what && what <= 9);
        Work one = works.get(work);
        int makers = 0;
        int uses = 0;
        int offers = 0;
        for (int k = 0; k < 8; k++) {
            makers += one.makers[k] > 0 ? 1 << k : 0;
            uses += k < 7 && one.how[k] != null ? 1 << k : 0;
            offers += one.offered.contains(k) ? 1 << k : 0;
        }
        return new int[] {one.year, one.home, told(one.shown), makers, Arrays.stream(one.makers).sum(), uses,
            Arrays.stream(one.part).sum(), offers, one.floor, one.words.length()}[what];
    }

    int ofHand(int hand, int what) {
        index(0 <= hand && hand <= 8);
        argument(0 <= what && what <= 4);
        if (hand == 8) {
            return new int[] {-1, -1, 0, earned[8], 0}[what];
        }
        return new int[] {told(died[hand]), told(caps[hand]), open[hand], earned[hand], paid[hand]}[what];
    }

    private Integer term(int work, int land) {
        Work one = works.get(work);
        List<Integer> deaths = new ArrayList<>();
        for (int k = 0; k < 8; k++) {
            if (one.makers[k] > 0) {
                if (died[k] == null) {
                    return null;
                }
                deaths.add(died[k]);
            }
        }
        if (!deaths.isEmpty()) {
            return deaths.stream().max(Integer::compare).get() + life[land];
        }
        return one.shown == null ? null : Integer.valueOf(one.shown + show[land]);
    }

    private Integer endOf(int work, int land) {
        Integer own = term(work, land);
        Integer there = term(work, works.get(work).home);
        if (shorter[land] && there != null && (own == null || there < own)) {
            return there;
        }
        return own;
    }

    int end(int work, int land) {
        index(isWork(work) && isLand(land));
        return told(endOf(work, land));
    }

    boolean isFree(int work, int land, int year) {
        index(isWork(work) && isLand(land));
        argument(isYear(year));
        int listed = works.get(work).listed[land];
        if (listed != 0) {
            return listed == 1;
        }
        Integer end = endOf(work, land);
        return end != null && year > end;
    }

    private boolean isSmall(int work, int of, int land) {
        return works.get(work).how[of] == 3 && works.get(work).part[of] <= quote[land];
    }

    private boolean isBigUse(int work, int of, int land) {
        return works.get(work).how[of] != null && !isSmall(work, of, land);
    }

    private void addParts(int work, int land, Set<Integer> set) {
        set.add(work);
        for (int k = 0; k < works.size(); k++) {
            if (isBigUse(work, k, land)) {
                addParts(k, land, set);
            }
        }
    }

    private List<Integer> partsOf(int work, int land) {
        Set<Integer> set = new HashSet<>();
        addParts(work, land, set);
        List<Integer> all = new ArrayList<>(set);
        all.sort(Integer::compare);
        return all;
    }

    private List<Integer> boundOf(int work, int land, int year) {
        List<Integer> all = partsOf(work, land);
        all.removeIf(k -> isFree(k, land, year));
        return all;
    }

    int next(int work, int land, int year) {
        index(isWork(work) && isLand(land));
        argument(isYear(year));
        for (int k = year + 1; k <= 300; k++) {
            if (boundOf(work, land, k).size() != boundOf(work, land, year).size()) {
                return k;
            }
        }
        return -1;
    }

    private static String letters(int set, String all) {
        StringBuilder text = new StringBuilder();
        for (int k = 0; k < all.length(); k++) {
            text.append((set >> k & 1) != 0 ? all.substring(k, k + 1) : "");
        }
        return text.toString();
    }

    private static String lineOf(Licence one) {
        return letters(one.rights, "cxgsvh") + "/" + letters(one.duties, "ntom") + "/" + letters(one.bans, "sx")
            + (one.alike ? "+" : "");
    }

    String line(int licence) {
        index(isLicence(licence));
        return lineOf(licences.get(licence));
    }

    String typed() {
        return typed;
    }

    int fault() {
        if (LINES.contains(typed)) {
            return -1;
        }
        for (int k = 0; k < typed.length(); k++) {
            if (!STARTS.contains(typed.substring(0, k + 1))) {
                return k;
            }
        }
        return typed.length();
    }

    private static boolean hasAll(int set, int some) {
        return (set & some) == some;
    }

    boolean fits(int licence, int other) {
        index(isLicence(licence) && isLicence(other));
        Licence one = licences.get(licence);
        Licence two = licences.get(other);
        return licence == other || !one.alike && hasAll(one.rights, two.rights) && hasAll(two.duties, one.duties)
            && hasAll(two.bans, one.bans);
    }

    int joined(int licence, int other) {
        index(isLicence(licence) && isLicence(other));
        for (int k = 0; k < licences.size(); k++) {
            if (fits(licence, k) && fits(other, k)) {
                return k;
            }
        }
        return -1;
    }

    int parts(int work, int land, int year, boolean isBound) {
        index(isWork(work) && isLand(land));
        argument(isYear(year));
        int set = 0;
        for (int k : isBound ? boundOf(work, land, year) : partsOf(work, land)) {
            set += 1 << k;
        }
        return set;
    }

    private static int given(Licence one) {
        return one.rights & ~((one.bans & 1) != 0 ? 8 : 0) & ~((one.bans & 2) != 0 ? 2 : 0);
    }

    private void choices(List<Integer> bound, List<Set<Integer>> offers, List<Integer> ahead, List<List<Integer>> all) {
        if (ahead.size() == bound.size()) {
            all.add(new ArrayList<>(ahead));
            return;
        }
        for (int k = 0; k < 8; k++) {
            if (offers.get(ahead.size()).contains(k)) {
                ahead.add(k);
                choices(bound, offers, ahead, all);
                ahead.remove(ahead.size() - 1);
            }
        }
    }

    private boolean holdsChoice(List<Integer> parts, List<Integer> bound, List<Integer> choice, int land) {
        for (int user : parts) {
            for (int k = 0; k < bound.size(); k++) {
                if (isBigUse(user, bound.get(k), land)) {
                    int needed = new int[] {1, 2, 4, 1}[works.get(user).how[bound.get(k)]];
                    if (!hasAll(given(licences.get(choice.get(k))), needed)) {
                        return false;
                    }
                }
            }
        }
        for (int into = 0; into < licences.size(); into++) {
            int target = into;
            if (choice.stream().allMatch(k -> fits(k, target))) {
                return true;
            }
        }
        return choice.isEmpty();
    }

    private int meet(List<Integer> choice) {
        int set = 63;
        int bans = 0;
        for (int k : choice) {
            set &= licences.get(k).rights;
            bans |= licences.get(k).bans;
        }
        set &= (bans & 1) != 0 ? ~8 : ~0;
        return set & ((bans & 2) != 0 ? ~2 : ~0);
    }

    private int duties(List<Integer> choice) {
        int set = 0;
        for (int k : choice) {
            set |= licences.get(k).duties;
        }
        return set;
    }

    /** The CHOICES stand by rising LICENCES already, so the first one of the best is the best. */
    private List<Integer> best(int work, int land, int year, Integer wanted, int part, int alone) {
        List<Integer> parts = partsOf(work, land);
        List<Integer> bound = boundOf(work, land, year);
        List<Set<Integer>> offers = new ArrayList<>();
        for (int k : bound) {
            offers.add(k == part ? Set.of(alone) : works.get(k).offered);
        }
        List<List<Integer>> all = new ArrayList<>();
        choices(bound, offers, new ArrayList<>(), all);
        List<Integer> best = null;
        for (List<Integer> one : all) {
            if (!holdsChoice(parts, bound, one, land) || wanted != null && !hasAll(meet(one), wanted)) {
                continue;
            }
            int more = best == null || wanted != null ? 0 : Integer.bitCount(meet(one)) - Integer.bitCount(meet(best));
            boolean fewer = best != null && Integer.bitCount(duties(one)) < Integer.bitCount(duties(best));
            if (best == null || more > 0 || more == 0 && fewer) {
                best = one;
            }
        }
        return best;
    }

    int may(int work, int land, int year, boolean isDuties) {
        index(isWork(work) && isLand(land));
        argument(isYear(year));
        List<Integer> best = best(work, land, year, null, -1, -1);
        return best == null ? -1 : isDuties ? duties(best) : meet(best);
    }

    String choice(int work, int land, int year, int wanted) {
        index(isWork(work) && isLand(land));
        argument(isYear(year) && 0 <= wanted && wanted <= 63);
        List<Integer> best = best(work, land, year, wanted, -1, -1);
        if (best == null) {
            return "-";
        }
        List<Integer> bound = boundOf(work, land, year);
        List<String> texts = new ArrayList<>();
        for (int k = 0; k < bound.size(); k++) {
            texts.add(bound.get(k) + "=" + best.get(k));
        }
        return String.join(" ", texts);
    }

    String clash(int work, int land, int year) {
        index(isWork(work) && isLand(land));
        argument(isYear(year));
        List<Integer> bound = boundOf(work, land, year);
        for (int a = 0; a < bound.size(); a++) {
            for (int b = a; b < bound.size(); b++) {
                boolean is = false;
                for (int k : works.get(bound.get(a)).offered) {
                    for (int m : works.get(bound.get(b)).offered) {
                        is |= joined(k, m) != -1;
                    }
                }
                if (!is) {
                    return bound.get(a) + " " + bound.get(b);
                }
            }
        }
        return "-";
    }

    String notices(int work, int land, int year) {
        index(isWork(work) && isLand(land));
        argument(isYear(year));
        List<Integer> best = best(work, land, year, null, -1, -1);
        if (best == null) {
            return "-";
        }
        List<Integer> bound = boundOf(work, land, year);
        Set<String> texts = new HashSet<>();
        for (int k = 0; k < bound.size(); k++) {
            int part = bound.get(k);
            String duties = letters(licences.get(best.get(k)).duties, "ntom");
            for (int person = 0; person < 8; person++) {
                if (duties.contains("n") && works.get(part).makers[person] > 0) {
                    texts.add("n" + person);
                }
            }
            if (duties.contains("t")) {
                texts.add("t" + best.get(k));
            }
            if (duties.contains("o")) {
                texts.add("o" + part);
            }
            for (int user : partsOf(work, land)) {
                if (duties.contains("m") && works.get(user).how[part] != null && works.get(user).how[part] == 1) {
                    texts.add("m" + part);
                }
            }
        }
        List<String> sorted = new ArrayList<>(texts);
        sorted.sort((a, b) -> a.charAt(0) != b.charAt(0) ? "ntom".indexOf(a.charAt(0)) - "ntom".indexOf(b.charAt(0))
            : a.charAt(1) - b.charAt(1));
        return String.join(" ", sorted);
    }

    private int[] held(int work, int year, int ahead, boolean[] valid) {
        int[] held = works.get(work).makers.clone();
        for (int k = 0; k < ahead; k++) {
            Entry e = entries.get(k);
            if (valid[k] && e.work == work && e.first <= year && year <= e.last) {
                held[e.from] -= e.part;
                held[e.to] += e.part;
            }
        }
        return held;
    }

    private boolean[] valid() {
        boolean[] valid = new boolean[entries.size()];
        for (int k = 0; k < valid.length; k++) {
            Entry e = entries.get(k);
            boolean is = true;
            for (int year = e.first; year <= e.last; year++) {
                is &= held(e.work, year, k, valid)[e.from] >= e.part;
            }
            valid[k] = is;
        }
        return valid;
    }

    int holds(int work, int person, int year) {
        index(isWork(work) && isPerson(person));
        argument(isYear(year));
        return held(work, year, entries.size(), valid())[person];
    }

    private int twice(int entry) {
        boolean[] valid = valid();
        Entry e = entries.get(entry);
        for (int k = 0; k < entry && !valid[entry]; k++) {
            Entry other = entries.get(k);
            for (int year = 0; year <= 300; year++) {
                boolean both = e.first <= year && year <= e.last && other.first <= year && year <= other.last;
                if (both && valid[k] && e.work == other.work && e.from == other.from) {
                    return k;
                }
            }
        }
        return -1;
    }

    int ofEntry(int entry, int what) {
        index(0 <= entry && entry < entries.size());
        argument(0 <= what && what <= 7);
        Entry e = entries.get(entry);
        return new int[] {e.work, e.from, e.to, e.part, e.first, e.last, valid()[entry] ? 1 : 0, twice(entry)}[what];
    }

    String chain(int work, int person, int year) {
        index(isWork(work) && isPerson(person));
        argument(isYear(year));
        if (holds(work, person, year) == 0) {
            return "-";
        }
        return person + chainAhead(work, person, year, entries.size(), valid());
    }

    private String chainAhead(int work, int person, int year, int ahead, boolean[] valid) {
        for (int k = ahead - 1; k >= 0; k--) {
            Entry e = entries.get(k);
            if (e.work == work && valid[k] && e.to == person && e.first <= year && year <= e.last) {
                return "<" + e.from + chainAhead(work, e.from, year, k, valid);
            }
        }
        return "";
    }

    private BigDecimal[] shares(int work, int land, int year, int price) {
        BigDecimal[] all = new BigDecimal[9];
        Arrays.fill(all, BigDecimal.ZERO);
        flow(work, land, year, price, BigDecimal.ONE, all);
        return all;
    }

    private void flow(int work, int land, int year, int price, BigDecimal amount, BigDecimal[] all) {
        BigDecimal hundredth = amount.movePointLeft(2);
        BigDecimal rest = amount;
        for (int k = 0; k < works.size(); k++) {
            if (isBigUse(work, k, land) && !isFree(k, land, year) && price >= works.get(k).floor) {
                BigDecimal part = hundredth.multiply(BigDecimal.valueOf(works.get(work).part[k]));
                rest = rest.subtract(part);
                flow(k, land, year, price, part, all);
            }
        }
        int[] held = held(work, year, entries.size(), valid());
        int left = 100;
        for (int k = 0; k < 8; k++) {
            all[k] = all[k].add(rest.movePointLeft(2).multiply(BigDecimal.valueOf(held[k])));
            left -= held[k];
        }
        all[8] = all[8].add(rest.movePointLeft(2).multiply(BigDecimal.valueOf(left)));
    }

    String share(int work, int land, int year, int hand) {
        index(isWork(work) && isLand(land) && 0 <= hand && hand <= 8);
        argument(isYear(year));
        BigDecimal share = shares(work, land, year, Integer.MAX_VALUE)[hand];
        BigInteger below = BigInteger.TEN.pow(40);
        BigInteger above = share.movePointRight(40).toBigIntegerExact();
        BigInteger most = above.gcd(below);
        above = above.divide(most);
        below = below.divide(most);
        return below.equals(BigInteger.ONE) ? above.toString() : above + "/" + below;
    }

    int likeness(int work, int other, int run) {
        index(isWork(work) && isWork(other));
        argument(1 <= run && run <= 20);
        String one = works.get(work).words;
        Set<Integer> places = new HashSet<>();
        for (int k = 0; k + run <= one.length(); k++) {
            for (int m = k; m < k + run && works.get(other).words.contains(one.substring(k, k + run)); m++) {
                places.add(m);
            }
        }
        return places.size();
    }

    int wouldMay(int work, int land, int year, int part, int licence) {
        index(isWork(work) && isWork(part) && isLand(land) && isLicence(licence));
        argument(isYear(year));
        List<Integer> best = best(work, land, year, null, part, licence);
        return best == null ? -1 : meet(best);
    }

    int wouldEnd(int work, int land, int person, int death) {
        index(isWork(work) && isLand(land) && isPerson(person));
        argument(death == -1 || isYear(death));
        Integer before = died[person];
        died[person] = orNone(death);
        int end = end(work, land);
        died[person] = before;
        return end;
    }

    int house(int what) {
        argument(0 <= what && what <= 8);
        int count = 0;
        for (boolean is : valid()) {
            count += is ? 1 : 0;
        }
        return new int[] {works.size(), licences.size(), entries.size(), count, behind, sold, steps, typed.length(),
            refused}[what];
    }

    boolean isSound() {
        boolean is = Arrays.stream(earned).sum() == sold;
        for (int k = 0; k < works.size(); k++) {
            for (int year = 0; year <= 300; year += 100) {
                is &= Arrays.stream(held(k, year, entries.size(), valid())).sum() == ofWork(k, 4);
            }
            for (int land = 0; land < 3; land++) {
                is &= !isFree(k, land, 100) || isFree(k, land, 200) && isFree(k, land, 300);
                int own = may(k, land, 100, false);
                for (int of = 0; of < works.size(); of++) {
                    int there = may(of, land, 100, false);
                    boolean both = isBigUse(k, of, land) && own != -1 && there != -1;
                    is &= !both || Integer.bitCount(own) <= Integer.bitCount(there);
                }
                BigDecimal sum = BigDecimal.ZERO;
                for (BigDecimal one : shares(k, land, 100, Integer.MAX_VALUE)) {
                    sum = sum.add(one);
                }
                is &= sum.compareTo(BigDecimal.ONE) == 0;
            }
        }
        for (int a = 0; a < licences.size(); a++) {
            is &= LINES.contains(line(a));
            for (int b = 0; b < licences.size(); b++) {
                is &= joined(a, b) == joined(b, a);
            }
        }
        return is;
    }

    long digest() {
        List<Integer> all = new ArrayList<>();
        for (int k = 0; k <= 8; k++) {
            all.add(house(k));
        }
        for (int k = 0; k < works.size(); k++) {
            for (int what = 0; what <= 9; what++) {
                all.add(ofWork(k, what));
            }
            for (int land = 0; land < 3; land++) {
                all.add(end(k, land));
                all.add(parts(k, land, 100, false));
                all.add(parts(k, land, 100, true));
                all.add(may(k, land, 100, false));
                all.add(may(k, land, 100, true));
                all.add(clash(k, land, 100).length());
                all.add(notices(k, land, 100).length());
                all.add(next(k, land, 100));
            }
        }
        for (int k = 0; k < 9; k++) {
            for (int what = 0; what <= 4; what++) {
                all.add(ofHand(k, what));
            }
        }
        for (int k = 0; k < works.size(); k++) {
            for (int person = 0; person < 8; person++) {
                all.add(holds(k, person, 100));
            }
        }
        for (int k = 0; k < licences.size(); k++) {
            all.add(line(k).length());
            for (int m = 0; m < licences.size(); m++) {
                all.add(joined(k, m));
            }
        }
        for (int k = 0; k < entries.size(); k++) {
            for (int what = 0; what <= 7; what++) {
                all.add(ofEntry(k, what));
            }
        }
        all.add(fault());
        all.add(isSound() ? 1 : 0);
        long d = 6143;
        for (int v : all) {
            d = d * 31 + v;
        }
        return d;
    }
}
