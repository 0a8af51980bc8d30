/** The boundary cases of promises 34 to 38 and 44, sentence by sentence. */
public final class EdgeOfWholesTest {
    private static final Edge edge = new Edge("EdgeOfWholesTest");
    private static final Edge.Start SEVEN = () -> Starts.works(7);
    private static final Edge.Start ROW = EdgeOfWholesTest::row;

    public static void main(String[] args) {
        promise34();
        promise34Small();
        promise34Bound();
        promise35();
        promise35Holds();
        promise35Needed();
        promise35Best();
        promise36();
        promise36Wanted();
        promise37();
        promise37Joined();
        promise38();
        promise38Each();
        promise38Makers();
        promise44();
        promise44Would();
        edge.end(34, 35, 36, 37, 38, 44);
    }

    /** Seven WORKS in a row, each of which copies the one ahead of it; 0 is OFFERED by 7, 1 by 6, and so on. */
    private static Licenceweave row() {
        Licenceweave x = Starts.licences(8, 7);
        for (int k = 0; k < 7; k++) {
            x.offer(k, 7 - k, true);
            if (k > 0) {
                x.use(k, k - 1, 0, 10);
            }
        }
        return x;
    }

    /** What the exceptions of a call on a WHOLE are, when there are four WORKS (SOME), or seven, or none. */
    private static void wholes(int promise, Asked call, Object ofFirst, Object ofLast) {
        edge.says(promise, "Throws IndexOutOfBoundsException if there is no such WORK or LAND");
        edge.out(Starts.EMPTY, Edge.INDEX, "without WORKS", x -> call.of(x, 0, 0, 0));
        edge.range(ROW, Edge.INDEX, "work", 0, 6, (x, v) -> call.of(x, v, 0, 0), ofFirst, ofLast);
        edge.range(ROW, Edge.INDEX, "land", 0, 2, (x, v) -> call.of(x, 0, v, 0), ofFirst, ofFirst);
        edge.out(Starts.SOME, Edge.INDEX, "work 4", x -> call.of(x, 4, 0, 0));
        edge.out(Starts.FULL, Edge.INDEX, "land 3", x -> call.of(x, 6, 3, 0));
    }

    private static void years(Asked call, Object ofLast) {
        edge.range(ROW, Edge.ARGUMENT, "year", 0, 300, (x, v) -> call.of(x, 6, 0, v), ofLast, ofLast);
        edge.out(Starts.SOME, Edge.ARGUMENT, "year 301", x -> call.of(x, 3, 2, 301));
        edge.out(Starts.FULL, Edge.ARGUMENT, "year -1", x -> call.of(x, 6, 2, -1));
    }

    private static void both(int promise, Asked call) {
        edge.several(promise);
        edge.out(Starts.SOME, Edge.INDEX, "no WORK, no YEAR", x -> call.of(x, 4, 0, 301));
        edge.out(Starts.FULL, Edge.INDEX, "no WORK, no YEAR", x -> call.of(x, -1, 2, -1));
        edge.out(Starts.SOME, Edge.INDEX, "no LAND, no YEAR", x -> call.of(x, 0, 3, -1));
        edge.out(Starts.FULL, Edge.INDEX, "no LAND, no YEAR", x -> call.of(x, 6, -1, 301));
    }

    private interface Asked {
        Object of(Licenceweave x, int work, int land, int year);
    }

    /** The whole row, when 0 is FREE from 61 on in the LAND 0, from 11 on in 1, from 111 on in 2. */
    private static Licenceweave landed() {
        Licenceweave x = row();
        x.shown(0, 10);
        x.land(1, 0, 0, 0, false);
        x.land(2, 0, 100, 0, false);
        return x;
    }

    private static void promise34() {
        Asked call = (x, work, land, year) -> x.parts(work, land, year, false);
        edge.says(34, "work: a WORK");
        edge.in(ROW, "the first one", x -> x.parts(0, 0, 0, false), 1);
        edge.in(ROW, "the last one", x -> x.parts(6, 0, 0, false), 127);
        edge.says(34, "land: a LAND");
        int[] ends = {60, 10, 110};
        for (int k = 0; k <= 2; k++) {
            int land = k;
            edge.in(() -> landed(), "in the END in " + k, x -> x.parts(1, land, ends[land], true), 3);
            edge.in(() -> landed(), "behind the END in " + k, x -> x.parts(1, land, ends[land] + 1, true), 2);
        }
        edge.says(34, "year: a YEAR");
        edge.in(() -> landed(), "0", x -> x.parts(1, 0, 0, true), 3);
        edge.in(() -> landed(), "300", x -> x.parts(1, 0, 300, true), 2);
        edge.says(34, "isBound: whether the BOUND ones alone");
        edge.in(() -> landed(), "they alone", x -> x.parts(6, 0, 300, true), 126);
        edge.in(() -> landed(), "all", x -> x.parts(6, 0, 300, false), 127);
        edge.says(34, "Returns the set of its PARTS there then.");
        for (int k = 0; k < 7; k++) {
            int work = k;
            edge.in(ROW, "those ahead of " + k, x -> x.parts(work, 0, 0, false), (2 << work) - 1);
            edge.in(SEVEN, k + " alone", x -> x.parts(work, 2, 300, true), 1 << work);
        }
        wholes(34, call, 1, 127);
        edge.says(34, "Throws IllegalArgumentException if year is no YEAR");
        years(call, 127);
        both(34, call);
    }

    /** Whether 0 is a PART of 1, that makes USE of it so, by that QUOTE. */
    private static boolean isPart(int how, int part, int quote) {
        Licenceweave x = Starts.works(2);
        x.use(1, 0, how, part);
        x.land(1, 70, 50, quote, false);
        return x.parts(1, 1, 0, false) == 3;
    }

    private static void promise34Small() {
        edge.says(0, "A USE is SMALL in a LAND, if it is quoted, and its part is QUOTE or less.");
        int[] quotes = {0, 1, 5, 50, 99, 100};
        for (int quote : quotes) {
            edge.is("just QUOTE " + quote, isPart(3, quote, quote), false);
            edge.is("nothing, by " + quote, isPart(3, 0, quote), false);
            for (int how = 0; how <= 2; how++) {
                edge.is("not quoted, just QUOTE " + quote, isPart(how, quote, quote), true);
                edge.is("not quoted, nothing, by " + quote, isPart(how, 0, quote), true);
            }
            if (quote < 100) {
                edge.is("one more than QUOTE " + quote, isPart(3, quote + 1, quote), true);
                edge.is("100 and QUOTE " + quote, isPart(3, 100, quote), true);
            }
        }
        edge.says(0, "it itself, and what its PARTS make USE of, but by SMALL ones.");
        for (int k = 1; k < 7; k++) {
            Licenceweave x = Starts.works(7);
            for (int m = 1; m < 7; m++) {
                x.use(m, m - 1, m == k ? 3 : 0, 5);
            }
            edge.is("a SMALL one cuts the row ahead of " + k, x.parts(6, 0, 0, false), 127 & ~((1 << k) - 1));
            x.land(0, 70, 50, 4, false);
            edge.is("it is not SMALL", x.parts(6, 0, 0, false), 127);
            x.land(0, 70, 50, 5, false);
            if (k < 6) {
                x.use(6, k - 1, 1, 0);
                edge.is("by another way", x.parts(6, 0, 0, false), 127);
            }
        }
    }

    private static void promise34Bound() {
        edge.says(0, "those that are not FREE there then.");
        Licenceweave x = row();
        for (int k = 0; k < 7; k++) {
            x.list(0, k, 1);
            edge.is("FREE up to " + k, x.parts(6, 0, 0, true), 127 & ~((2 << k) - 1));
            edge.is("in another LAND", x.parts(6, 1, 0, true), 127);
        }
        edge.is("all its PARTS", x.parts(6, 0, 0, false), 127);
        edge.is("without BOUND PARTS", x.parts(6, 0, 300, true), 0);
        x.list(0, 0, 2);
        edge.is("never FREE, in the last YEAR", x.parts(6, 0, 300, true), 1);
    }

    private static void promise35() {
        Asked call = (x, work, land, year) -> x.may(work, land, year, false);
        Edge.Start start = () -> free();
        edge.says(35, "work: a WORK");
        edge.in(start, "the first one", x -> x.may(0, 0, 0, false), 7);
        edge.in(start, "the last one", x -> x.may(2, 0, 0, false), 1);
        edge.says(35, "land: a LAND");
        edge.in(start, "the first one", x -> x.may(1, 0, 50, false), 7);
        edge.in(start, "the last one", x -> x.may(1, 2, 50, false), 15);
        edge.says(35, "year: a YEAR");
        edge.in(start, "0", x -> x.may(1, 0, 0, false), 7);
        edge.in(start, "60", x -> x.may(1, 0, 60, false), 7);
        edge.in(start, "61", x -> x.may(1, 0, 61, false), 15);
        edge.in(start, "300", x -> x.may(1, 0, 300, false), 15);
        edge.says(35, "isDuties: whether the DUTIES, otherwise the MEET");
        edge.in(start, "the DUTIES", x -> x.may(1, 0, 60, true), 3);
        edge.in(start, "the DUTIES, less", x -> x.may(1, 0, 61, true), 2);
        edge.says(35, "Returns that set of the best CHOICE; NONE, if none HOLDS.");
        edge.in(SEVEN, "without LICENCES", x -> x.may(6, 0, 0, false), -1);
        edge.in(SEVEN, "without LICENCES, DUTIES", x -> x.may(6, 0, 0, true), -1);
        edge.in(() -> Starts.licences(8, 1), "OFFERED by none of 8", x -> x.may(0, 0, 0, false), -1);
        edge.in(ROW, "seven BOUND PARTS", x -> x.may(6, 0, 0, false), 63);
        edge.in(ROW, "their DUTIES", x -> x.may(6, 0, 0, true), 0);
        edge.in(() -> one(0, 0, 0), "no RIGHTS at all",
            x -> Edge.all(x.may(0, 0, 0, false), x.may(0, 0, 0, true)), "0 0");
        edge.in(() -> one(63, 15, 0), "all", x -> Edge.all(x.may(0, 0, 0, false), x.may(0, 0, 0, true)), "63 15");
        edge.says(0, "but 3, if one has the BAN 0, and 1, if one has the BAN 1 (all six without BOUND PARTS)");
        edge.in(() -> one(63, 0, 1), "the BAN 0", x -> x.may(0, 0, 0, false), 55);
        edge.in(() -> one(63, 0, 2), "the BAN 1", x -> x.may(0, 0, 0, false), 61);
        edge.in(() -> one(63, 0, 3), "both", x -> x.may(0, 0, 0, false), 53);
        edge.in(() -> one(53, 0, 3), "what they take is not there", x -> x.may(0, 0, 0, false), 53);
        edge.in(() -> one(0, 15, 3), "without BOUND PARTS",
            x -> Edge.all(x.list(0, 0, 1), x.may(0, 0, 0, false), x.may(0, 0, 0, true)), "0 63 0");
        edge.in(SEVEN, "without BOUND PARTS and LICENCES",
            x -> Edge.all(x.list(0, 0, 1), x.may(0, 0, 0, false), x.may(0, 0, 0, true)), "0 63 0");
        wholes(35, call, 63, 63);
        edge.says(35, "Throws IllegalArgumentException if year is no YEAR");
        years(call, 63);
        edge.range(ROW, Edge.ARGUMENT, "year, DUTIES", 0, 300, (x, v) -> x.may(6, 0, v, true), 0, 0);
        both(35, call);
    }

    /** 1 copies 0, that is FREE from 61 on in the LAND 0; 2 stands alone. */
    private static Licenceweave free() {
        Licenceweave x = Starts.works(3);
        x.licence(7, 1, 0, false);
        x.licence(15, 2, 0, false);
        x.licence(1, 3, 0, false);
        x.use(1, 0, 0, 10);
        x.offer(0, 0, true);
        x.offer(1, 1, true);
        x.offer(2, 2, true);
        x.shown(0, 10);
        x.land(2, 0, 0, 5, false);
        return x;
    }

    /** A WORK that is OFFERED by one LICENCE. */
    private static Licenceweave one(int rights, int duties, int bans) {
        Licenceweave x = Starts.works(1);
        x.licence(rights, duties, bans, false);
        x.offer(0, 0, true);
        return x;
    }

    /** What may be done with 1, that makes USE of 0, OFFERED with these RIGHTS and BANS alone. */
    private static int used(int how, int part, int rights, int bans, int freeOnes) {
        Licenceweave x = Starts.works(2);
        x.licence(rights, 0, bans, false);
        x.licence(0, 15, 3, true);
        x.use(1, 0, how, part);
        x.offer(0, 0, true);
        x.offer(1, 1, true);
        for (int k = 0; k < 2; k++) {
            x.list(0, k, freeOnes >> k & 1);
        }
        return x.may(1, 0, 0, false);
    }

    private static void promise35Holds() {
        edge.says(0, "the LICENCE of the latter GIVES what is needed (0 for copied and quoted, 1 for changed,"
            + " 2 for gathered), and all its LICENCES FIT into one LICENCE of all (without BOUND PARTS it HOLDS).");
        int[] needed = {1, 2, 4, 1};
        for (int how = 0; how <= 3; how++) {
            edge.is("it alone is GIVEN", used(how, 6, needed[how], 0, 0), 0);
            edge.is("all but it is GIVEN", used(how, 6, 63 - needed[how], 0, 0), -1);
            edge.is("not of a FREE one", used(how, 6, 0, 0, 1), 0);
            edge.is("by a FREE one, too", used(how, 6, 63 - needed[how], 0, 2), -1);
            edge.is("both are FREE", used(how, 6, 0, 0, 3), 63);
            edge.is("the BAN 1", used(how, 6, 63, 2, 0), how == 1 ? -1 : 0);
            edge.is("the BAN 0", used(how, 6, 63, 1, 0), 0);
        }
        edge.is("quoted, SMALL: nothing is needed", used(3, 5, 0, 0, 0), 0);
        edge.is("copied by 0", used(0, 0, 62, 0, 0), -1);
        edge.in(() -> alike(8), "two that FIT into the last of 8", x -> x.may(1, 0, 0, false), 1);
        edge.in(() -> alike(7), "without it", x -> x.may(1, 0, 0, false), -1);
        edge.in(() -> alike(7), "when it comes", x -> Edge.all(x.licence(1, 3, 0, true), x.may(1, 0, 0, true)), "7 3");
    }

    /** What may be done with that WORK, when the last one is copied by 0, changed by 1, gathered by 2, quoted by 3. */
    private static int shared(int work, int rights) {
        Licenceweave x = Starts.works(7);
        x.licence(rights, 0, 0, false);
        x.licence(63, 0, 0, false);
        x.licence(0, 15, 3, true);
        x.offer(6, 0, true);
        for (int k = 0; k < 4; k++) {
            x.use(k, 6, k, 50);
            x.offer(k, 1, true);
            x.offer(k + 1, 1, true);
        }
        x.use(1, 0, 0, 1);
        x.use(4, 1, 0, 1);
        x.use(4, 2, 0, 1);
        return x.may(work, 0, 0, false);
    }

    private static void promise35Needed() {
        edge.says(0, "It HOLDS, if for each USE, not SMALL, by a PART of another PART that is BOUND, the LICENCE of the"
            + " latter GIVES what is needed");
        int[] needed = {1, 3, 4, 1, 7};
        for (int work = 0; work <= 4; work++) {
            for (int rights = 0; rights <= 7; rights++) {
                boolean is = (needed[work] & ~rights) == 0;
                edge.is("the WHOLE " + work + ", RIGHTS " + rights, shared(work, rights), is ? rights : -1);
            }
        }
        edge.is("the one that is USED, alone", shared(6, 0), 0);
        edge.is("one that makes no USE", shared(5, 0), -1);
        Licenceweave x = Starts.licences(1, 7);
        x.licence(61, 0, 0, false);
        x.offer(0, 0, true);
        x.offer(6, 1, true);
        x.use(0, 6, 1, 0);
        edge.is("changed by the first one", x.may(0, 0, 0, false), -1);
        x.offer(6, 0, true);
        edge.is("by another LICENCE", x.choice(0, 0, 0, 0), "0=0 6=0");
    }

    /** Two LICENCES that FIT into none but the eighth one, OFFERING 0 and 1; 1 copies 0. */
    private static Licenceweave alike(int count) {
        Licenceweave x = Starts.works(2);
        x.licence(1, 1, 0, false);
        for (int k = 1; k < 6; k++) {
            x.licence(33, 8, 3, true);
        }
        x.licence(3, 2, 0, false);
        if (count == 8) {
            x.licence(1, 3, 0, true);
        }
        x.offer(0, 0, true);
        x.offer(1, 6, true);
        x.use(1, 0, 0, 1);
        return x;
    }

    private static void promise35Best() {
        edge.says(0, "with the most RIGHTS in the MEET, of these with the fewest DUTIES, of these with the smallest"
            + " LICENCE for the BOUND PART with the smallest number, then for the one with the next number, and so"
            + " on.");
        Licenceweave x = Starts.works(1);
        x.licence(3, 0, 0, false);
        x.licence(7, 15, 0, false);
        x.licence(15, 0, 3, false);
        x.offer(0, 0, true);
        x.offer(0, 1, true);
        x.offer(0, 2, true);
        edge.is("one RIGHT more, four DUTIES more", Edge.all(x.may(0, 0, 0, false), x.may(0, 0, 0, true)), "7 15");
        Licenceweave y = Starts.works(1);
        y.licence(7, 7, 0, false);
        y.licence(56, 8, 0, false);
        y.licence(3, 0, 0, false);
        y.offer(0, 0, true);
        y.offer(0, 1, true);
        y.offer(0, 2, true);
        edge.is("as many RIGHTS, fewer DUTIES", Edge.all(y.may(0, 0, 0, false), y.may(0, 0, 0, true)), "56 8");
        Licenceweave z = Starts.licences(8, 7);
        for (int k = 0; k < 7; k++) {
            for (int m = 0; m < 3; m++) {
                z.offer(k, 7 - m - k / 2, true);
            }
            if (k > 0) {
                z.use(k, k - 1, k % 3, 1);
            }
        }
        edge.is("three LICENCES for each of seven", z.choice(6, 0, 0, 63), "0=5 1=5 2=4 3=4 4=3 5=3 6=2");
        edge.is("all of them are the same", z.may(6, 0, 0, false), 63);
        Licenceweave v = Starts.works(2);
        v.licence(7, 0, 0, false);
        v.licence(57, 0, 0, false);
        v.licence(1, 0, 0, true);
        v.use(1, 0, 0, 1);
        v.offer(0, 0, true);
        v.offer(1, 0, true);
        v.offer(1, 1, true);
        edge.is("more RIGHTS of one alone count nothing", Edge.all(v.may(1, 0, 0, false), v.choice(1, 0, 0, 0)),
            "7 0=0 1=0");
        Licenceweave w = Starts.works(2);
        w.licence(63, 2, 0, false);
        w.licence(63, 1, 0, false);
        w.licence(63, 4, 0, false);
        w.licence(0, 15, 0, true);
        w.use(1, 0, 0, 1);
        w.offer(0, 0, true);
        w.offer(0, 1, true);
        w.offer(0, 2, true);
        w.offer(1, 1, true);
        w.offer(1, 2, true);
        edge.is("the same DUTY for both", Edge.all(w.may(1, 0, 0, true), w.choice(1, 0, 0, 0)), "1 0=1 1=1");
    }

    private static void promise36() {
        Asked call = (x, work, land, year) -> x.choice(work, land, year, 0);
        edge.says(36, "work: a WORK");
        edge.in(() -> free(), "the first one", x -> x.choice(0, 0, 0, 0), "0=0");
        edge.in(() -> free(), "the last one", x -> x.choice(2, 0, 0, 0), "2=2");
        edge.says(36, "land: a LAND");
        edge.in(() -> free(), "the first one", x -> x.choice(1, 0, 50, 0), "0=0 1=1");
        edge.in(() -> free(), "the last one", x -> x.choice(1, 2, 50, 0), "1=1");
        edge.says(36, "year: a YEAR");
        edge.in(() -> free(), "0", x -> x.choice(1, 0, 0, 0), "0=0 1=1");
        edge.in(() -> free(), "60", x -> x.choice(1, 0, 60, 0), "0=0 1=1");
        edge.in(() -> free(), "61", x -> x.choice(1, 0, 61, 0), "1=1");
        edge.in(() -> free(), "300", x -> x.choice(1, 0, 300, 0), "1=1");
        wholes(36, call, "0=7", "0=7 1=6 2=5 3=4 4=3 5=2 6=1");
        edge.says(36, "Throws IllegalArgumentException if year is no YEAR, or wanted is not 0 to 63");
        years(call, "0=7 1=6 2=5 3=4 4=3 5=2 6=1");
        edge.range(ROW, Edge.ARGUMENT, "wanted", 0, 63, (x, v) -> x.choice(0, 0, 0, v), "0=7", "0=7");
        edge.range(Starts.SOME, Edge.ARGUMENT, "wanted", 0, 63, (x, v) -> x.choice(0, 0, 0, v), "0=2", "0=0");
        both(36, call);
        edge.out(Starts.SOME, Edge.INDEX, "no WORK, nothing to be wanted", x -> x.choice(4, 0, 0, 64));
        edge.out(Starts.SOME, Edge.INDEX, "no LAND, nothing to be wanted", x -> x.choice(0, 3, 0, -1));
    }

    private static void promise36Wanted() {
        edge.says(36, "wanted: a set of RIGHTS");
        for (int k = 0; k < 64; k++) {
            int set = k;
            edge.in(() -> one(set, 0, 0), "just that: " + k, x -> x.choice(0, 0, 0, set), "0=0");
            edge.in(() -> one(63 - set, 0, 0), "all but that: " + k, x -> x.choice(0, 0, 0, set), k == 0 ? "0=0" : "-");
        }
        for (int k = 0; k < 6; k++) {
            int right = 1 << k;
            edge.in(() -> one(63 - right, 0, 0), "all but one are wanted", x -> x.choice(0, 0, 0, 63 - right), "0=0");
            edge.in(() -> one(63 - right, 0, 0), "all are wanted", x -> x.choice(0, 0, 0, 63), "-");
            edge.in(() -> one(63, 0, 3), "with both BANS", x -> x.choice(0, 0, 0, right),
                right == 2 || right == 8 ? "-" : "0=0");
        }
        edge.says(36, "Returns of the CHOICES that HOLD, and have all these in their MEET, the one with the fewest"
            + " DUTIES, of these that with the smallest LICENCES (as with the best one): for each BOUND PART, by rising"
            + " numbers, its number, \"=\" and its LICENCE, with a blank between two; \"\" without BOUND PARTS; \"-\","
            + " if there is none.");
        edge.in(SEVEN, "OFFERED by none", x -> x.choice(0, 0, 0, 0), "-");
        edge.in(SEVEN, "without BOUND PARTS",
            x -> Edge.all(x.list(0, 0, 1), "[" + x.choice(0, 0, 0, 63) + "]"), "0 []");
        edge.in(() -> alike(7), "none HOLDS", x -> x.choice(1, 0, 0, 0), "-");
        edge.in(() -> alike(8), "one HOLDS", x -> x.choice(1, 0, 0, 0), "0=0 1=6");
        edge.in(() -> alike(8), "what both have is wanted", x -> x.choice(1, 0, 0, 1), "0=0 1=6");
        edge.in(() -> alike(8), "what one of them has is wanted", x -> x.choice(1, 0, 0, 2), "-");
        Licenceweave y = Starts.works(1);
        y.licence(63, 15, 0, false);
        y.licence(31, 7, 0, false);
        y.licence(1, 0, 0, false);
        for (int k = 0; k < 3; k++) {
            y.offer(0, k, true);
        }
        edge.is("the fewest DUTIES", y.choice(0, 0, 0, 1), "0=2");
        edge.is("of those with what is wanted", y.choice(0, 0, 0, 2), "0=1");
        edge.is("the only one with it", y.choice(0, 0, 0, 32), "0=0");
        Licenceweave z = Starts.works(2);
        z.licence(63, 3, 0, false);
        z.licence(63, 1, 0, false);
        z.licence(63, 2, 0, false);
        z.licence(1, 3, 0, true);
        z.use(1, 0, 0, 1);
        z.offer(0, 2, true);
        z.offer(0, 1, true);
        z.offer(1, 2, true);
        z.offer(1, 1, true);
        z.offer(1, 0, true);
        edge.is("the smallest ones of those with one DUTY", z.choice(1, 0, 0, 63), "0=1 1=1");
        edge.is("that MEET is the best one, too", Edge.all(z.may(1, 0, 0, false), z.may(1, 0, 0, true)), "63 1");
        z.offer(1, 1, false);
        edge.is("without it", z.choice(1, 0, 0, 63), "0=2 1=2");
        z.offer(0, 2, false);
        edge.is("two DUTIES, by the smallest LICENCES", z.choice(1, 0, 0, 63), "0=1 1=0");
    }

    private static void promise37() {
        Asked call = (x, work, land, year) -> x.clash(work, land, year);
        edge.says(37, "work: a WORK");
        edge.in(() -> clashing(), "the first one", x -> x.clash(0, 0, 0), "-");
        edge.in(() -> clashing(), "the last one", x -> x.clash(6, 0, 0), "0 6");
        edge.says(37, "land: a LAND");
        edge.in(() -> clashing(), "the first one", x -> x.clash(6, 0, 61), "-");
        edge.in(() -> clashing(), "the last one", x -> x.clash(6, 2, 61), "0 6");
        edge.says(37, "year: a YEAR");
        edge.in(() -> clashing(), "0", x -> x.clash(6, 0, 0), "0 6");
        edge.in(() -> clashing(), "60", x -> x.clash(6, 0, 60), "0 6");
        edge.in(() -> clashing(), "300", x -> x.clash(6, 0, 300), "-");
        edge.says(37, "Returns the first two BOUND PARTS (by the smaller one, then by the greater one; both may be"
            + " the same) that CLASH, with a blank between; \"-\" without any.");
        edge.in(ROW, "none", x -> x.clash(6, 0, 0), "-");
        edge.in(SEVEN, "OFFERED by none", x -> x.clash(6, 0, 0), "6 6");
        edge.in(SEVEN, "without BOUND PARTS", x -> Edge.all(x.list(0, 6, 1), x.clash(6, 0, 0)), "0 -");
        edge.in(() -> clashing(), "one goes of one that is FREE",
            x -> Edge.all(x.offer(0, 0, false), x.clash(6, 0, 61)),
            "0 -");
        edge.in(() -> clashing(), "the first one with itself", x -> Edge.all(x.offer(0, 0, false), x.clash(6, 0, 0)),
            "0 0 0");
        edge.in(() -> clashing(), "the last one, with the first one",
            x -> Edge.all(x.offer(6, 1, false), x.clash(6, 0, 0)),
            "0 0 6");
        edge.in(() -> clashing(), "one in between", x -> Edge.all(x.offer(3, 2, false), x.clash(6, 0, 0)), "0 0 3");
        edge.in(() -> clashing(), "the smaller one first",
            x -> Edge.all(x.offer(3, 2, false), x.clash(6, 0, 61)), "0 1 3");
        wholes(37, call, "-", "-");
        edge.says(37, "Throws IllegalArgumentException if year is no YEAR");
        years(call, "-");
        both(37, call);
    }

    /** 6 makes USE of all others; its LICENCE and that of 0, that is FREE from 61 on in the LAND 0, are not JOINED. */
    private static Licenceweave clashing() {
        Licenceweave x = Starts.works(7);
        x.licence(63, 1, 0, true);
        x.licence(63, 2, 0, true);
        x.licence(63, 0, 0, false);
        for (int k = 0; k < 7; k++) {
            x.offer(k, k == 0 ? 0 : k == 6 ? 1 : 2, true);
            if (k < 6) {
                x.use(6, k, 0, 0);
            }
        }
        x.shown(0, 10);
        x.land(2, 70, 100, 5, false);
        return x;
    }

    private static void promise37Joined() {
        edge.says(0, "Two BOUND PARTS CLASH, if there are no two LICENCES, of the one and of the other, that are JOINED"
            + " (one that is OFFERED by none CLASHES with itself, too).");
        edge.in(() -> alike(8), "JOINED by the last of 8", x -> x.clash(1, 0, 0), "-");
        edge.in(() -> alike(7), "not JOINED", x -> x.clash(1, 0, 0), "0 1");
        edge.in(() -> alike(8), "by the same one",
            x -> Edge.all(x.offer(1, 6, false), x.offer(1, 0, true), x.clash(1, 0, 0)), "0 1 -");
        for (int k = 0; k < 9; k++) {
            Licenceweave x = Starts.works(2);
            x.use(1, 0, 0, 1);
            for (int m = 0; m < 7; m++) {
                x.licence(63, 1 + m, 0, true);
            }
            x.licence(63, 0, 0, false);
            for (int m = 0; m < 3; m++) {
                x.offer(0, k / 3 == m ? 6 : m, true);
                x.offer(1, k % 3 == m ? 6 : m + 3, true);
            }
            edge.is("one of three and one of three, the same one", x.clash(1, 0, 0), "-");
            x.offer(1, 6, false);
            edge.is("three and two, none of them JOINED", x.clash(1, 0, 0), "0 1");
            x.offer(1, 7, true);
            edge.is("one that FITS into that of the other one", x.clash(1, 0, 0), "-");
        }
    }

    /** 6 changes all others; each has all DUTIES, 0 all MAKERS, 0 is OFFERED by 7, 1 by 6, and so on. */
    private static Licenceweave marked() {
        Licenceweave x = Starts.works(7);
        for (int k = 0; k < 8; k++) {
            x.licence(63, 15, 0, false);
            x.maker(0, k, 12);
        }
        for (int k = 0; k < 7; k++) {
            x.offer(k, 7 - k, true);
            if (k < 6) {
                x.use(6, k, 1, 1);
            }
        }
        return x;
    }

    private static void promise38() {
        Asked call = (x, work, land, year) -> x.notices(work, land, year);
        String all = "n0 n1 n2 n3 n4 n5 n6 n7 t1 t2 t3 t4 t5 t6 t7 o0 o1 o2 o3 o4 o5 o6 m0 m1 m2 m3 m4 m5";
        edge.says(38, "work: a WORK");
        edge.in(() -> marked(), "the first one", x -> x.notices(0, 0, 0), "n0 n1 n2 n3 n4 n5 n6 n7 t7 o0");
        edge.in(() -> marked(), "the last one", x -> x.notices(6, 0, 0), all);
        edge.says(38, "land: a LAND");
        edge.in(() -> marked(), "the first one", x -> Edge.all(x.list(0, 1, 1), x.notices(1, 0, 0) + "."), "0 .");
        edge.in(() -> marked(), "the last one", x -> Edge.all(x.list(2, 1, 1), x.notices(1, 2, 0) + "."), "0 .");
        edge.in(() -> marked(), "another one", x -> Edge.all(x.list(2, 1, 1), x.notices(1, 1, 0)), "0 t6 o1");
        edge.says(38, "year: a YEAR");
        edge.in(() -> marked(), "0", x -> Edge.all(x.shown(1, 10), x.notices(1, 0, 0)), "-1 t6 o1");
        edge.in(() -> marked(), "60", x -> Edge.all(x.shown(1, 10), x.notices(1, 0, 60)), "-1 t6 o1");
        edge.in(() -> marked(), "61", x -> Edge.all(x.shown(1, 10), x.notices(1, 0, 61) + "."), "-1 .");
        edge.in(() -> marked(), "300", x -> Edge.all(x.shown(1, 10), x.notices(1, 0, 300) + "."), "-1 .");
        edge.says(38, "Returns what is to be SHOWN, with a blank between two; \"\" if there is nothing; \"-\","
            + " if no CHOICE HOLDS.");
        edge.in(SEVEN, "OFFERED by none", x -> x.notices(0, 0, 0), "-");
        edge.in(ROW, "nothing", x -> x.notices(6, 0, 0), "");
        edge.in(SEVEN, "without BOUND PARTS", x -> Edge.all(x.list(0, 0, 1), x.notices(0, 0, 0) + "."), "0 .");
        edge.in(() -> alike(7), "no CHOICE HOLDS", x -> x.notices(1, 0, 0), "-");
        edge.in(() -> alike(8), "one HOLDS", x -> x.notices(1, 0, 0), "t6");
        wholes(38, call, "", "");
        edge.says(38, "Throws IllegalArgumentException if year is no YEAR");
        years(call, "");
        both(38, call);
    }

    private static void promise38Each() {
        edge.says(0, "\"n\" and each MAKER of BOUND PARTS whose LICENCE has the DUTY 0; \"t\" and each LICENCE with the"
            + " DUTY 1; \"o\" and each BOUND PART whose LICENCE has the DUTY 2; \"m\" and each BOUND PART whose LICENCE"
            + " has the DUTY 3, and that is changed by a PART (a FREE one, too) that makes USE of it.");
        String[] due = {"n0 n7", "t0", "o0 o6", "m0"};
        for (int k = 0; k < 4; k++) {
            int duty = k;
            edge.in(() -> shownBy(duty), "the DUTY " + k, x -> x.notices(6, 0, 0), due[k]);
            edge.in(() -> shownBy(duty), "by a FREE one, the DUTY " + k,
                x -> Edge.all(x.list(0, 6, 1), x.notices(6, 0, 0)), "0 " + (k == 2 ? "o0" : k == 0 ? "n0" : due[k]));
            edge.in(() -> shownBy(duty), "of a FREE one, the DUTY " + k,
                x -> Edge.all(x.list(0, 0, 1), x.notices(6, 0, 0) + "."), "0 " + (k == 0 ? "n7" : k == 1 ? "t0"
                    : k == 2 ? "o6" : "") + ".");
        }
        for (int how = 0; how <= 3; how++) {
            Licenceweave x = Starts.works(2);
            x.licence(63, 8, 0, false);
            x.offer(0, 0, true);
            x.offer(1, 0, true);
            x.use(1, 0, how, 100);
            edge.is("HOW " + how, x.notices(1, 0, 0), how == 1 ? "m0" : "");
            edge.is("the one that is changed, alone", x.notices(0, 0, 0), "");
            Licenceweave y = Starts.works(7);
            y.licence(63, 8, 0, false);
            y.offer(0, 0, true);
            y.offer(6, 0, true);
            y.use(0, 6, how, 100);
            edge.is("by the first one, HOW " + how, y.notices(0, 0, 0), how == 1 ? "m6" : "");
        }
    }

    private static void promise38Makers() {
        edge.says(0, "\"n\" and each MAKER of BOUND PARTS whose LICENCE has the DUTY 0");
        edge.in(() -> shownBy(0), "who HOLDS nothing any more",
            x -> Edge.all(x.hand(6, 7, 5, 1, 0, 300), x.holds(6, 7, 0), x.notices(6, 0, 0)), "0 0 n0 n7");
        edge.in(() -> shownBy(0), "who died", x -> Edge.all(x.death(7, 299), x.notices(6, 0, 0)), "-1 n0 n7");
        edge.in(() -> shownBy(0), "of both, told once",
            x -> Edge.all(x.maker(6, 0, 99), x.notices(6, 0, 0)), "100 n0 n7");
    }

    /** 6, that 7 made, changes 0, that 0 made; both are OFFERED by the LICENCE 0, that has one DUTY. */
    private static Licenceweave shownBy(int duty) {
        Licenceweave x = Starts.works(7);
        x.licence(63, 1 << duty, 0, false);
        x.maker(0, 0, 1);
        x.maker(6, 7, 1);
        x.offer(0, 0, true);
        x.offer(6, 0, true);
        x.use(6, 0, 1, 0);
        return x;
    }

    private static void promise44() {
        edge.says(44, "work: a WORK");
        edge.in(() -> free(), "the first one", x -> x.wouldMay(0, 0, 0, 0, 2), 1);
        edge.in(() -> free(), "the last one", x -> x.wouldMay(2, 0, 0, 2, 0), 7);
        edge.says(44, "land: a LAND");
        edge.in(() -> free(), "the first one", x -> x.wouldMay(1, 0, 50, 0, 2), 1);
        edge.in(() -> free(), "the last one", x -> x.wouldMay(1, 2, 50, 0, 2), 15);
        edge.says(44, "year: a YEAR");
        edge.in(() -> free(), "0", x -> x.wouldMay(1, 0, 0, 0, 1), 15);
        edge.in(() -> free(), "60", x -> x.wouldMay(1, 0, 60, 0, 2), 1);
        edge.in(() -> free(), "61", x -> x.wouldMay(1, 0, 61, 0, 2), 15);
        edge.in(() -> free(), "300", x -> x.wouldMay(1, 0, 300, 0, 2), 15);
        edge.says(44, "part: a WORK");
        edge.in(() -> free(), "the first one", x -> x.wouldMay(1, 0, 0, 0, 1), 15);
        edge.in(() -> free(), "the last one, that is no PART", x -> x.wouldMay(1, 0, 0, 2, 1), 7);
        edge.says(44, "licence: a LICENCE");
        edge.in(() -> free(), "the first one", x -> x.wouldMay(0, 0, 0, 0, 0), 7);
        edge.in(() -> free(), "the last one", x -> x.wouldMay(0, 0, 0, 0, 2), 1);
        edge.says(44, "Throws IndexOutOfBoundsException if there is no such WORK as work or part, LAND or LICENCE");
        edge.out(Starts.EMPTY, Edge.INDEX, "without WORKS and LICENCES", x -> x.wouldMay(0, 0, 0, 0, 0));
        edge.out(SEVEN, Edge.INDEX, "without LICENCES", x -> x.wouldMay(0, 0, 0, 0, 0));
        edge.out(() -> Starts.licences(8, 0), Edge.INDEX, "without WORKS", x -> x.wouldMay(0, 0, 0, 0, 0));
        edge.range(ROW, Edge.INDEX, "work", 0, 6, (x, v) -> x.wouldMay(v, 0, 0, 0, 0), 63, 63);
        edge.range(ROW, Edge.INDEX, "part", 0, 6, (x, v) -> x.wouldMay(0, 0, 0, v, 0), 63, 63);
        edge.range(ROW, Edge.INDEX, "land", 0, 2, (x, v) -> x.wouldMay(0, v, 0, 0, 0), 63, 63);
        edge.range(ROW, Edge.INDEX, "licence", 0, 7, (x, v) -> x.wouldMay(0, 0, 0, 0, v), 63, 63);
        edge.range(Starts.SOME, Edge.INDEX, "licence", 0, 2, (x, v) -> x.wouldMay(2, 0, 0, 2, v), 63, 7);
        edge.says(44, "Throws IllegalArgumentException if year is no YEAR");
        years((x, work, land, year) -> x.wouldMay(work, land, year, 0, 0), 63);
        both(44, (x, work, land, year) -> x.wouldMay(work, land, year, 0, 0));
        edge.out(Starts.SOME, Edge.INDEX, "no PART, no YEAR", x -> x.wouldMay(0, 0, 301, 4, 0));
        edge.out(Starts.SOME, Edge.INDEX, "no LICENCE, no YEAR", x -> x.wouldMay(0, 0, -1, 0, 3));
    }

    private static void promise44Would() {
        edge.says(44, "Returns the MEET of the best CHOICE, if that WORK were OFFERED by that LICENCE alone; NONE,"
            + " if none would HOLD.");
        edge.in(() -> Starts.licences(8, 7), "one that is OFFERED by none", x -> x.wouldMay(6, 0, 0, 6, 7), 63);
        edge.in(() -> Starts.licences(8, 7), "another one OFFERED by none", x -> x.wouldMay(6, 0, 0, 5, 7), -1);
        edge.in(() -> three(), "by it alone, of three", x -> x.wouldMay(0, 0, 0, 0, 1), 3);
        edge.in(() -> three(), "by a fourth one", x -> x.wouldMay(0, 0, 0, 0, 3), 0);
        edge.in(() -> three(), "nothing is changed",
            x -> Edge.all(x.wouldMay(0, 0, 0, 0, 3), x.may(0, 0, 0, false), x.ofWork(0, 7)), "0 63 7");
        edge.in(() -> three(), "a FREE one", x -> Edge.all(x.list(0, 0, 1), x.wouldMay(0, 0, 0, 0, 3)), "0 63");
        edge.in(() -> alike(8), "JOINED by the last of 8", x -> x.wouldMay(1, 0, 0, 1, 6), 1);
        edge.in(() -> alike(8), "none would HOLD", x -> x.wouldMay(1, 0, 0, 1, 1), -1);
        edge.in(() -> alike(7), "both by the same one", x -> x.wouldMay(1, 0, 0, 1, 0), 1);
        edge.in(ROW, "in a row of seven", x -> x.wouldMay(6, 0, 0, 3, 0), 63);
        Licenceweave x = Starts.works(2);
        x.licence(63, 15, 0, false);
        x.licence(1, 0, 0, false);
        x.licence(63, 0, 0, false);
        x.licence(1, 15, 0, true);
        x.use(1, 0, 0, 1);
        x.offer(1, 0, true);
        x.offer(1, 1, true);
        edge.is("the most RIGHTS, although with all DUTIES", x.wouldMay(1, 0, 0, 0, 2), 63);
        edge.is("the most RIGHTS of both", x.wouldMay(1, 0, 0, 0, 1), 1);
        x.offer(0, 1, true);
        edge.is("the one that it is OFFERED by counts nothing", x.wouldMay(1, 0, 0, 0, 2), 63);
    }

    /** A WORK that is OFFERED by three of four LICENCES. */
    private static Licenceweave three() {
        Licenceweave x = Starts.works(1);
        x.licence(1, 0, 0, false);
        x.licence(3, 0, 0, false);
        x.licence(63, 0, 0, false);
        x.licence(0, 0, 0, false);
        for (int k = 0; k < 3; k++) {
            x.offer(0, k, true);
        }
        return x;
    }
}
