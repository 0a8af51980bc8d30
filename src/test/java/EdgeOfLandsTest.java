/** The boundary cases of promises 8, 9, 26 to 28 and 45, sentence by sentence. */
public final class EdgeOfLandsTest {
    private static final Edge edge = new Edge("EdgeOfLandsTest");
    private static final Edge.Start SEVEN = () -> Starts.works(7);

    public static void main(String[] args) {
        promise8();
        promise9();
        promise26();
        promise26Shorter();
        promise27();
        promise28();
        promise45();
        edge.end(8, 9, 26, 27, 28, 45);
    }

    private static void promise8() {
        Edge.Start start = () -> landed();
        edge.says(8, "land: the LAND");
        for (int k = 0; k <= 2; k++) {
            int land = k;
            edge.in(start, "LAND " + k, x -> Edge.all(x.land(land, 1, 2, 3, false), x.end(0, land)), "70 22");
            edge.in(start, "another LAND",
                x -> Edge.all(x.land(land, 1, 2, 3, false), x.end(0, (land + 1) % 3)), "70 70");
        }
        edge.says(8, "life: LIFE");
        edge.in(start, "0", x -> Edge.all(x.land(1, 0, 9, 9, false), x.end(1, 1)), "70 30");
        edge.in(start, "100", x -> Edge.all(x.land(1, 100, 9, 9, false), x.end(1, 1)), "70 130");
        edge.says(8, "show: SHOW");
        edge.in(start, "0", x -> Edge.all(x.land(1, 9, 0, 9, false), x.end(0, 1)), "70 20");
        edge.in(start, "100", x -> Edge.all(x.land(1, 9, 100, 9, false), x.end(0, 1)), "70 120");
        edge.says(8, "quote: QUOTE");
        edge.in(start, "0", x -> Edge.all(x.land(1, 9, 9, 0, false), x.parts(2, 1, 0, false)), "70 6");
        edge.in(start, "1", x -> Edge.all(x.land(1, 9, 9, 1, false), x.parts(2, 1, 0, false)), "70 4");
        edge.in(start, "99", x -> Edge.all(x.land(1, 9, 9, 99, false), x.parts(0, 1, 0, false)), "70 3");
        edge.in(start, "100", x -> Edge.all(x.land(1, 9, 9, 100, false), x.parts(0, 1, 0, false)), "70 1");
        edge.says(8, "isShorter: whether it takes the SHORTER term");
        edge.in(start, "it does", x -> Edge.all(x.land(0, 1, 1, 0, false), x.land(1, 99, 99, 9, true), x.end(0, 1)),
            "70 70 21");
        edge.in(start, "it does not",
            x -> Edge.all(x.land(0, 1, 1, 0, false), x.land(1, 99, 99, 9, false), x.end(0, 1)),
            "70 70 119");
        edge.says(8, "Returns LIFE before.");
        Licenceweave one = landed();
        int[] lives = {0, 100, 0, 70};
        int[] before = {70, 0, 100, 0};
        for (int k = 0; k < 4; k++) {
            edge.is("before " + lives[k], one.land(2, lives[k], 50, 5, false), before[k]);
        }
        edge.says(8, "Throws IndexOutOfBoundsException if there is no such LAND");
        edge.range(Starts.EMPTY, Edge.INDEX, "land", 0, 2, (x, v) -> x.land(v, 1, 1, 1, true), 70, 70);
        edge.range(Starts.SOME, Edge.INDEX, "land", 0, 2, (x, v) -> x.land(v, 1, 1, 1, true), 60, 99);
        edge.says(8, "Throws IllegalArgumentException if life, show or quote is not 0 to 100");
        edge.range(Starts.SOME, Edge.ARGUMENT, "life", 0, 100, (x, v) -> x.land(0, v, 1, 1, true), 60, 60);
        edge.range(Starts.SOME, Edge.ARGUMENT, "show", 0, 100, (x, v) -> x.land(1, 1, v, 1, true), 80, 80);
        edge.range(Starts.SOME, Edge.ARGUMENT, "quote", 0, 100, (x, v) -> x.land(2, 1, 1, v, false), 99, 99);
        edge.several(8);
        edge.out(Starts.SOME, Edge.INDEX, "no LAND, no LIFE", x -> x.land(3, 101, 1, 1, true));
        edge.out(Starts.SOME, Edge.INDEX, "no LAND, no SHOW", x -> x.land(-1, 1, -1, 1, true));
        edge.out(Starts.SOME, Edge.INDEX, "no LAND, no QUOTE", x -> x.land(3, 1, 1, 101, true));
    }

    /** One SHOWN in 20 that quotes all of 1, one that a PERSON made who died in 30, one that quotes 1 hundredth. */
    private static Licenceweave landed() {
        Licenceweave x = Starts.works(3);
        x.shown(0, 20);
        x.maker(1, 0, 1);
        x.death(0, 30);
        x.use(0, 1, 3, 100);
        x.use(2, 1, 3, 1);
        return x;
    }

    private static void promise9() {
        Edge.Start start = () -> Starts.works(7);
        edge.says(9, "land: the LAND");
        edge.says(9, "work: the WORK");
        for (int land = 0; land <= 2; land++) {
            for (int work = 0; work <= 6; work += 6) {
                int l = land;
                int w = work;
                edge.says(9, "land: the LAND");
                edge.in(start, "LAND " + l, x -> Edge.all(x.list(l, w, 1), free(x, w)), "0 " + (1 << l));
                edge.says(9, "work: the WORK");
                edge.in(start, "WORK " + w, x -> Edge.all(x.list(l, w, 1), x.isFree(6 - w, l, 0)), "0 false");
            }
        }
        edge.says(9, "what: 0, 1 or 2");
        edge.in(() -> endless(), "0", x -> Edge.all(x.list(1, 0, 0), x.isFree(0, 1, 60), x.isFree(0, 1, 61)),
            "0 false true");
        edge.in(() -> endless(), "1", x -> Edge.all(x.list(1, 0, 1), x.isFree(0, 1, 0), x.isFree(0, 1, 300)),
            "0 true true");
        edge.in(() -> endless(), "2", x -> Edge.all(x.list(1, 0, 2), x.isFree(0, 1, 61), x.isFree(0, 1, 300)),
            "0 false false");
        edge.says(9, "Returns that before.");
        Licenceweave one = Starts.works(1);
        int[] whats = {1, 2, 0, 0, 2, 1, 1};
        int[] before = {0, 1, 2, 0, 0, 2, 1};
        for (int k = 0; k < whats.length; k++) {
            edge.is("before " + whats[k], one.list(2, 0, whats[k]), before[k]);
        }
        edge.says(9, "Throws IndexOutOfBoundsException if there is no such LAND or WORK");
        edge.out(Starts.EMPTY, Edge.INDEX, "without WORKS", x -> x.list(0, 0, 1));
        edge.range(Starts.SOME, Edge.INDEX, "land", 0, 2, (x, v) -> x.list(v, 1, 1), 0, 2);
        edge.range(Starts.SOME, Edge.INDEX, "work", 0, 3, (x, v) -> x.list(1, v, 0), 0, 1);
        edge.range(Starts.FULL, Edge.INDEX, "work", 0, 6, (x, v) -> x.list(2, v, 0), 0, 0);
        edge.says(9, "Throws IllegalArgumentException if what is not 0 to 2");
        edge.range(Starts.SOME, Edge.ARGUMENT, "what", 0, 2, (x, v) -> x.list(2, 1, v), 2, 2);
        edge.several(9);
        edge.out(Starts.SOME, Edge.INDEX, "no LAND, no such thing", x -> x.list(3, 0, 3));
        edge.out(Starts.SOME, Edge.INDEX, "no WORK, no such thing", x -> x.list(0, 4, -1));
    }

    /** In which LANDS it is FREE. */
    private static int free(Licenceweave x, int work) {
        return (x.isFree(work, 0, 0) ? 1 : 0) + (x.isFree(work, 1, 0) ? 2 : 0) + (x.isFree(work, 2, 0) ? 4 : 0);
    }

    /** A WORK that is FREE from the YEAR 61 on. */
    private static Licenceweave endless() {
        Licenceweave x = Starts.works(1);
        x.shown(0, 10);
        return x;
    }

    /** Eight MAKERS who died in the YEARS 0 to 7, but for one who died in that YEAR (or lives). */
    private static Licenceweave dead(int person, int year) {
        Licenceweave x = Starts.made(0, 0, 0);
        for (int k = 0; k < 8; k++) {
            x.maker(0, k, 12);
            x.death(k, k == person ? year : k);
        }
        return x;
    }

    private static void promise26() {
        edge.says(26, "work: a WORK");
        edge.in(() -> ends(), "the first one", x -> x.end(0, 0), 50);
        edge.in(() -> ends(), "the last one", x -> x.end(2, 0), 350);
        edge.says(26, "land: a LAND");
        edge.in(() -> ends(), "the first one", x -> x.end(1, 0), 70);
        edge.in(() -> ends(), "the last one", x -> x.end(1, 2), 120);
        edge.says(26, "Returns its END there; NONE without one.");
        edge.in(() -> Starts.works(1), "not SHOWN, without MAKERS", x -> x.end(0, 0), -1);
        edge.in(() -> ends(), "in the YEAR of the SHOWING", x -> x.end(0, 1), 0);
        edge.in(() -> ends(), "behind all YEARS", x -> x.end(2, 2), 400);
        edge.in(() -> ends(), "behind all YEARS by one",
            x -> Edge.all(x.land(0, 0, 1, 0, false), x.end(2, 0)), "70 301");
        edge.says(0, "with MAKERS: none, if one of them lives, otherwise the YEAR in which the last one died and LIFE");
        for (int k = 0; k < 8; k++) {
            int person = k;
            edge.in(() -> dead(person, -1), "it lives: " + k, x -> x.end(0, 0), -1);
            edge.in(() -> dead(person, 300), "it died last: " + k, x -> x.end(0, 0), 370);
            edge.in(() -> dead(person, 0), "it died first: " + k, x -> x.end(0, 0), k == 7 ? 76 : 77);
        }
        edge.in(() -> dead(7, 300), "the greatest END",
            x -> Edge.all(x.land(0, 100, 0, 0, false), x.end(0, 0)), "70 400");
        edge.in(() -> dead(7, 0), "LIFE 0", x -> Edge.all(x.land(0, 0, 0, 0, false), x.end(0, 0)), "70 6");
        edge.in(() -> oneDead(0), "dead in the YEAR 0", x -> Edge.all(x.land(0, 0, 9, 9, false), x.end(0, 0)), "70 0");
        edge.in(() -> oneDead(0), "a MAKER, although it was SHOWN",
            x -> Edge.all(x.shown(0, 20), x.end(0, 0)), "-1 70");
        edge.says(0, "without MAKERS: none, if it was not SHOWN, otherwise that YEAR and SHOW");
        edge.in(() -> ends(), "no more SHOWN", x -> Edge.all(x.shown(0, -1), x.end(0, 0)), "0 -1");
        edge.says(26, "Throws IndexOutOfBoundsException if there is no such WORK or LAND");
        edge.out(Starts.EMPTY, Edge.INDEX, "without WORKS", x -> x.end(0, 0));
        edge.range(() -> ends(), Edge.INDEX, "work", 0, 2, (x, v) -> x.end(v, 1), 0, 300);
        edge.range(() -> ends(), Edge.INDEX, "land", 0, 2, (x, v) -> x.end(1, v), 70, 120);
        edge.range(SEVEN, Edge.INDEX, "work", 0, 6, (x, v) -> x.end(v, 1), -1, -1);
    }

    private static Licenceweave oneDead(int year) {
        Licenceweave x = Starts.made(0);
        x.maker(0, 0, 1);
        x.death(0, year);
        return x;
    }

    /** WORKS that were SHOWN in the YEARS 0, 20 and 300, LANDS in which SHOW is 50, 0 and 100. */
    private static Licenceweave ends() {
        Licenceweave x = Starts.made(0, 20, 300);
        x.shown(0, 0);
        x.shown(1, 20);
        x.shown(2, 300);
        x.land(1, 0, 0, 5, false);
        x.land(2, 100, 100, 5, false);
        return x;
    }

    /** By the LAND 0, that takes the SHORTER term, END of a WORK whose HOME is 1. */
    private static int shorter(int life, int show, int homeLife, int homeShow, boolean isMade) {
        Licenceweave x = Starts.made(10, 10);
        x.shown(1, 20);
        if (isMade) {
            x.maker(1, 0, 10);
            x.death(0, 30);
        }
        x.land(0, life, show, 0, true);
        x.land(1, homeLife, homeShow, 0, false);
        return x.end(1, 0);
    }

    /** By the SHORTER term, END of a WORK that was SHOWN in the YEAR 0. */
    private static int zero(int show, int homeShow) {
        Licenceweave x = Starts.made(0, 0);
        x.shown(1, 0);
        x.land(0, 0, show, 0, true);
        x.land(1, 0, homeShow, 0, false);
        return x.end(1, 0);
    }

    private static void promise26Shorter() {
        edge.says(0, "if it takes the SHORTER one, and TERM by those of its HOME is less (none is more than all),"
            + " that.");
        edge.is("LIFE less by one", shorter(50, 1, 49, 99, true), 79);
        edge.is("the same LIFE", shorter(50, 1, 50, 99, true), 80);
        edge.is("LIFE more by one", shorter(50, 1, 51, 99, true), 80);
        edge.is("no LIFE", shorter(100, 1, 0, 99, true), 30);
        edge.is("no LIFE here", shorter(0, 1, 100, 99, true), 30);
        edge.is("SHOW less by one", shorter(1, 50, 99, 49, false), 69);
        edge.is("the same SHOW", shorter(1, 50, 99, 50, false), 70);
        edge.is("SHOW more by one", shorter(1, 50, 99, 51, false), 70);
        edge.is("no SHOW", shorter(1, 100, 99, 0, false), 20);
        edge.is("0 at HOME", zero(9, 0), 0);
        edge.is("0 here", zero(0, 9), 0);
        edge.is("0 here and at HOME", zero(0, 0), 0);
        edge.is("1 at HOME", zero(9, 1), 1);
        Licenceweave x = Starts.made(10, 10);
        x.land(0, 100, 100, 0, true);
        edge.is("no END here and at HOME", x.end(1, 0), -1);
        x.land(1, 0, 0, 0, true);
        edge.is("none at HOME is not less", x.end(1, 0), -1);
        x.shown(1, 10);
        x.land(0, 5, 5, 0, false);
        edge.is("its HOME alone takes the SHORTER one", x.end(1, 0), 15);
        x.shown(0, 10);
        x.land(0, 5, 5, 0, true);
        edge.is("at HOME", x.end(0, 0), 15);
    }

    private static void promise27() {
        edge.says(27, "work: a WORK");
        edge.in(() -> ends(), "the first one", x -> x.isFree(0, 0, 51), true);
        edge.in(() -> ends(), "the last one", x -> x.isFree(2, 1, 300), false);
        edge.says(27, "land: a LAND");
        edge.in(() -> ends(), "the first one", x -> x.isFree(1, 0, 71), true);
        edge.in(() -> ends(), "the last one", x -> x.isFree(1, 2, 71), false);
        edge.says(27, "year: a YEAR");
        edge.in(() -> ends(), "0", x -> x.isFree(0, 1, 0), false);
        edge.in(() -> ends(), "300", x -> x.isFree(0, 1, 300), true);
        edge.says(27, "Returns whether it is FREE there then.");
        edge.in(() -> ends(), "in the END", x -> x.isFree(0, 0, 50), false);
        edge.in(() -> ends(), "a YEAR behind it", x -> x.isFree(0, 0, 51), true);
        edge.in(() -> ends(), "END 0", x -> x.isFree(0, 1, 0), false);
        edge.in(() -> ends(), "END 0, then", x -> x.isFree(0, 1, 1), true);
        edge.in(() -> lastEnd(299), "END 299", x -> x.isFree(0, 0, 299), false);
        edge.in(() -> lastEnd(299), "END 299, then", x -> x.isFree(0, 0, 300), true);
        edge.in(() -> lastEnd(300), "END 300", x -> x.isFree(0, 0, 300), false);
        edge.in(() -> Starts.works(1), "without an END", x -> x.isFree(0, 0, 300), false);
        edge.says(0, "by the LIST, if that is 1 or 2; otherwise if there is an END, and the YEAR is above it.");
        edge.in(() -> ends(), "1, in the YEAR 0", x -> Edge.all(x.list(1, 0, 1), x.isFree(0, 1, 0)), "0 true");
        edge.in(() -> Starts.works(1), "1, without an END",
            x -> Edge.all(x.list(2, 0, 1), x.isFree(0, 2, 0)), "0 true");
        edge.in(() -> ends(), "2, in the YEAR 300", x -> Edge.all(x.list(1, 0, 2), x.isFree(0, 1, 300)), "0 false");
        edge.says(27, "Throws IndexOutOfBoundsException if there is no such WORK or LAND");
        edge.out(Starts.EMPTY, Edge.INDEX, "without WORKS", x -> x.isFree(0, 0, 0));
        edge.range(() -> ends(), Edge.INDEX, "work", 0, 2, (x, v) -> x.isFree(v, 0, 60), true, false);
        edge.range(() -> ends(), Edge.INDEX, "land", 0, 2, (x, v) -> x.isFree(1, v, 110), true, false);
        edge.range(SEVEN, Edge.INDEX, "work", 0, 6, (x, v) -> x.isFree(v, 1, 0), false, false);
        edge.says(27, "Throws IllegalArgumentException if year is no YEAR");
        edge.range(() -> ends(), Edge.ARGUMENT, "year", 0, 300, (x, v) -> x.isFree(1, 0, v), false, true);
        edge.several(27);
        edge.out(Starts.SOME, Edge.INDEX, "no WORK, no YEAR", x -> x.isFree(4, 0, 301));
        edge.out(Starts.SOME, Edge.INDEX, "no LAND, no YEAR", x -> x.isFree(0, -1, -1));
    }

    private static Licenceweave lastEnd(int year) {
        Licenceweave x = Starts.made(0);
        x.shown(0, year - 50);
        return x;
    }

    /** 1 makes USE of 0, and 2 of 1: END is 100, 100 and 120. */
    private static Licenceweave layers() {
        Licenceweave x = Starts.works(3);
        x.shown(0, 50);
        x.shown(1, 50);
        x.shown(2, 70);
        x.use(1, 0, 0, 10);
        x.use(2, 1, 0, 10);
        return x;
    }

    private static void promise28() {
        edge.says(28, "work: a WORK");
        edge.in(() -> layers(), "the first one", x -> x.next(0, 0, 100), 101);
        edge.in(() -> layers(), "the last one", x -> x.next(2, 0, 101), 121);
        edge.says(28, "land: a LAND");
        edge.in(() -> layers(), "the first one", x -> Edge.all(x.land(1, 0, 0, 0, false), x.next(2, 0, 0)), "70 101");
        edge.in(() -> layers(), "the last one", x -> Edge.all(x.land(2, 0, 0, 0, false), x.next(2, 2, 0)), "70 51");
        edge.says(28, "year: a YEAR");
        edge.in(() -> layers(), "0", x -> x.next(2, 0, 0), 101);
        edge.in(() -> layers(), "300", x -> x.next(2, 0, 300), -1);
        edge.says(28, "Returns the first YEAR behind that one in which its STATE is another one than then;"
            + " NONE without one.");
        edge.in(() -> layers(), "in the last YEAR ahead of it", x -> x.next(2, 0, 100), 101);
        edge.in(() -> layers(), "in that YEAR", x -> x.next(2, 0, 101), 121);
        edge.in(() -> layers(), "then", x -> x.next(2, 0, 120), 121);
        edge.in(() -> layers(), "all are FREE", x -> x.next(2, 0, 121), -1);
        edge.in(() -> lastEnd(299), "END 299", x -> x.next(0, 0, 0), 300);
        edge.in(() -> lastEnd(299), "END 299, in 299", x -> x.next(0, 0, 299), 300);
        edge.in(() -> lastEnd(299), "END 299, in 300", x -> x.next(0, 0, 300), -1);
        edge.in(() -> lastEnd(300), "END 300", x -> x.next(0, 0, 0), -1);
        edge.in(() -> lastEnd(300), "END 300, in 300", x -> x.next(0, 0, 300), -1);
        edge.in(() -> ends(), "END 0", x -> x.next(0, 1, 0), 1);
        edge.in(() -> ends(), "behind END 0", x -> x.next(0, 1, 1), -1);
        edge.in(() -> Starts.works(1), "without an END", x -> x.next(0, 0, 0), -1);
        edge.in(() -> lastEnd(200), "always FREE", x -> Edge.all(x.list(0, 0, 1), x.next(0, 0, 0)), "0 -1");
        edge.in(() -> lastEnd(200), "never FREE", x -> Edge.all(x.list(0, 0, 2), x.next(0, 0, 0)), "0 -1");
        edge.says(28, "Throws IndexOutOfBoundsException if there is no such WORK or LAND");
        edge.out(Starts.EMPTY, Edge.INDEX, "without WORKS", x -> x.next(0, 0, 0));
        edge.range(() -> layers(), Edge.INDEX, "work", 0, 2, (x, v) -> x.next(v, 0, 101), -1, 121);
        edge.range(() -> layers(), Edge.INDEX, "land", 0, 2, (x, v) -> x.next(0, v, 99), 101, 101);
        edge.range(SEVEN, Edge.INDEX, "work", 0, 6, (x, v) -> x.next(v, 1, 0), -1, -1);
        edge.says(28, "Throws IllegalArgumentException if year is no YEAR");
        edge.range(() -> layers(), Edge.ARGUMENT, "year", 0, 300, (x, v) -> x.next(1, 0, v), 101, -1);
        edge.several(28);
        edge.out(Starts.SOME, Edge.INDEX, "no WORK, no YEAR", x -> x.next(4, 0, -1));
        edge.out(Starts.SOME, Edge.INDEX, "no LAND, no YEAR", x -> x.next(0, 3, 301));
    }

    private static void promise45() {
        edge.says(45, "work: a WORK");
        edge.in(() -> dead(0, -1), "the first one", x -> x.wouldEnd(0, 0, 0, 9), 79);
        edge.in(() -> dead(0, -1), "the last one", x -> x.wouldEnd(2, 0, 0, 9), -1);
        edge.says(45, "land: a LAND");
        edge.in(() -> dead(0, -1), "the first one",
            x -> Edge.all(x.land(0, 1, 0, 0, false), x.wouldEnd(0, 0, 0, 9)), "70 10");
        edge.in(() -> dead(0, -1), "the last one",
            x -> Edge.all(x.land(2, 1, 0, 0, false), x.wouldEnd(0, 2, 0, 9)), "70 10");
        edge.says(45, "person: a PERSON");
        edge.says(45, "death: a YEAR, or NONE");
        edge.says(45, "Returns its END there, if that PERSON had died then (or lived); NONE without one.");
        for (int k = 0; k < 8; k++) {
            int person = k;
            edge.says(45, "person: a PERSON");
            edge.in(() -> dead(person, -1), "it alone lives: " + k, x -> x.wouldEnd(0, 0, person, 9), 79);
            edge.in(() -> dead(person, -1), "another one: " + k, x -> x.wouldEnd(0, 0, (person + 1) % 8, 9), -1);
            edge.says(45, "death: a YEAR, or NONE");
            edge.in(() -> dead(person, 40), "300: " + k, x -> x.wouldEnd(0, 0, person, 300), 370);
            edge.in(() -> dead(person, 40), "0: " + k, x -> x.wouldEnd(0, 0, person, 0), k == 7 ? 76 : 77);
            edge.in(() -> dead(person, 40), "NONE: " + k, x -> x.wouldEnd(0, 0, person, -1), -1);
            edge.says(45, "Returns its END there, if that PERSON had died then (or lived); NONE without one.");
            edge.in(() -> dead(person, 40), "nothing is changed: " + k,
                x -> Edge.all(x.wouldEnd(0, 0, person, 300), x.end(0, 0)), "370 110");
        }
        edge.in(() -> oneDead(5), "no MAKER", x -> x.wouldEnd(0, 0, 1, 300), 75);
        edge.in(() -> oneDead(5), "no MAKER who lives", x -> x.wouldEnd(0, 0, 1, -1), 75);
        edge.in(() -> ends(), "without MAKERS", x -> x.wouldEnd(0, 0, 0, 300), 50);
        edge.in(() -> oneDead(5), "LIFE 0", x -> Edge.all(x.land(0, 0, 0, 0, false), x.wouldEnd(0, 0, 0, 0)), "70 0");
        edge.in(() -> oneDead(5), "LIFE 100",
            x -> Edge.all(x.land(0, 100, 0, 0, false), x.wouldEnd(0, 0, 0, 300)), "70 400");
        edge.says(45, "Throws IndexOutOfBoundsException if there is no such WORK, LAND or PERSON");
        edge.out(Starts.EMPTY, Edge.INDEX, "without WORKS", x -> x.wouldEnd(0, 0, 0, 0));
        edge.range(() -> layers(), Edge.INDEX, "work", 0, 2, (x, v) -> x.wouldEnd(v, 0, 0, 0), 100, 120);
        edge.range(() -> layers(), Edge.INDEX, "land", 0, 2, (x, v) -> x.wouldEnd(0, v, 0, 0), 100, 100);
        edge.range(() -> dead(7, 9), Edge.INDEX, "person", 0, 7, (x, v) -> x.wouldEnd(0, 0, v, 3), 79, 76);
        edge.range(SEVEN, Edge.INDEX, "work", 0, 6, (x, v) -> x.wouldEnd(v, 1, 0, 0), -1, -1);
        edge.says(45, "Throws IllegalArgumentException if death is not NONE, nor a YEAR");
        edge.range(() -> oneDead(5), Edge.ARGUMENT, "death", -1, 300, (x, v) -> x.wouldEnd(0, 0, 0, v), -1, 370);
        edge.several(45);
        edge.out(Starts.SOME, Edge.INDEX, "no WORK, no YEAR", x -> x.wouldEnd(4, 0, 0, 301));
        edge.out(Starts.SOME, Edge.INDEX, "no LAND, no YEAR", x -> x.wouldEnd(0, 3, 0, -2));
        edge.out(Starts.SOME, Edge.INDEX, "no PERSON, no YEAR", x -> x.wouldEnd(0, 0, 8, 301));
    }
}
