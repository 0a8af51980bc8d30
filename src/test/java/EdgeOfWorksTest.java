/** The boundary cases of promises 1 to 7 and 24, sentence by sentence. */
public final class EdgeOfWorksTest {
    private static final Edge edge = new Edge("EdgeOfWorksTest");
    private static final Edge.Start FOUR = () -> Starts.made(0, 20, 300, 20);
    private static final Edge.Start SEVEN = () -> Starts.works(7);

    public static void main(String[] args) {
        promise1();
        promise1Lands();
        promise2();
        promise3();
        promise3Full();
        promise4();
        promise5();
        promise6();
        promise6Full();
        promise6Rings();
        promise7();
        promise7Full();
        promise24();
        edge.end(1, 2, 3, 4, 5, 6, 7, 24);
    }

    private static void promise1() {
        edge.says(1, "Creates an empty registry.");
        int[] house = {0, 0, 0, 0, 35, 0, 0, 0, 0};
        for (int k = 0; k <= 8; k++) {
            int what = k;
            edge.in(Starts.EMPTY, "house " + what, x -> x.house(what), house[what]);
            edge.out(Starts.EMPTY, Edge.INDEX, "ofWork " + what, x -> x.ofWork(0, what));
            edge.out(Starts.EMPTY, Edge.INDEX, "ofEntry " + what, x -> x.ofEntry(0, what));
        }
        edge.in(Starts.EMPTY, "TYPED", x -> x.typed(), "");
        edge.in(Starts.EMPTY, "its FAULT", x -> x.fault(), 0);
        edge.in(Starts.EMPTY, "isSound", x -> x.isSound(), true);
        edge.out(Starts.EMPTY, Edge.STATE, "to undo", x -> x.undo());
        edge.out(Starts.EMPTY, Edge.INDEX, "a LICENCE", x -> x.line(0));
        edge.out(Starts.EMPTY, Edge.INDEX, "a MAKER of no WORK", x -> x.maker(0, 0, 1));
        edge.out(Starts.EMPTY, Edge.INDEX, "a WORK that is OFFERED", x -> x.offer(0, 0, true));
        edge.says(0, "each lives, or died in a YEAR (all live at first)");
        for (int k = 0; k <= 7; k++) {
            int person = k;
            edge.in(Starts.EMPTY, "person " + person, x -> x.ofHand(person, 0), -1);
        }
        edge.says(0, "none at first");
        for (int k = 3; k <= 9; k++) {
            int what = k;
            edge.in(SEVEN, "ofWork " + what, x -> x.ofWork(6, what), 0);
        }
        edge.in(SEVEN, "was SHOWN", x -> x.ofWork(6, 2), -1);
    }

    private static void promise1Lands() {
        edge.says(0, "LANDS have each LIFE (70 at first), SHOW (50), QUOTE (5), all 0 to 100, whether it takes the"
            + " SHORTER term (no), and a LIST: for each WORK 0 nothing (at first), 1 always FREE, 2 never.");
        for (int k = 0; k <= 2; k++) {
            int land = k;
            Licenceweave x = Starts.works(3);
            x.shown(0, 10);
            edge.is("SHOW in " + land, x.end(0, land), 60);
            x.maker(0, 0, 1);
            x.death(0, 30);
            edge.is("LIFE in " + land, x.end(0, land), 100);
            x.use(1, 0, 3, 5);
            x.use(2, 0, 3, 6);
            edge.is("5 is SMALL in " + land, x.parts(1, land, 0, false), 2);
            edge.is("6 is not in " + land, x.parts(2, land, 0, false), 5);
            edge.is("LIST of " + land, x.list(land, 0, 0), 0);
            edge.is("LIFE told by " + land, x.land(land, 70, 50, 5, false), 70);
            Licenceweave y = Starts.made(10, 10, 10);
            y.land((land + 1) % 3, 0, 0, 0, false);
            y.shown((land + 1) % 3, 10);
            edge.is("not the SHORTER term in " + land, y.end((land + 1) % 3, land), 60);
        }
    }

    private static void promise2() {
        edge.says(2, "year: its YEAR");
        for (int year : new int[] {0, 1, 299, 300}) {
            edge.in(() -> Starts.made(year), "YEAR " + year, x -> x.ofWork(0, 0), year);
        }
        edge.says(2, "home: its HOME");
        for (int k = 0; k <= 2; k++) {
            edge.in(() -> Starts.made(10, 10, 10), "HOME " + k, atWork(k, 1), k);
        }
        edge.says(2, "Returns its number.");
        Licenceweave one = new Licenceweave();
        for (int k = 0; k < 7; k++) {
            edge.is("number", one.work(300 - k, k % 3), k);
        }
        edge.says(2, "Throws IndexOutOfBoundsException if there is no such LAND");
        edge.range(Starts.EMPTY, Edge.INDEX, "home", 0, 2, (x, v) -> x.work(5, v), 0, 0);
        edge.range(Starts.SOME, Edge.INDEX, "home", 0, 2, (x, v) -> x.work(5, v), 4, 4);
        edge.says(2, "Throws IllegalArgumentException if year is no YEAR");
        edge.range(Starts.EMPTY, Edge.ARGUMENT, "year", 0, 300, (x, v) -> x.work(v, 0), 0, 0);
        edge.range(Starts.SOME, Edge.ARGUMENT, "year", 0, 300, (x, v) -> x.work(v, 2), 4, 4);
        edge.says(2, "Throws IllegalStateException if there are 7");
        edge.in(() -> Starts.works(6), "a seventh", x -> x.work(0, 0), 6);
        edge.out(SEVEN, Edge.STATE, "an eighth", x -> x.work(0, 0));
        edge.out(Starts.FULL, Edge.STATE, "an eighth", x -> x.work(300, 2));
        edge.in(SEVEN, "a seventh, when one is undone", x -> Edge.all(x.undo(), x.work(0, 0)), "6 6");
        edge.says(0, "WORKS, at most 7, numbered from 0");
        edge.in(SEVEN, "how many", x -> x.house(0), 7);
        edge.several(2);
        edge.out(Starts.SOME, Edge.INDEX, "no LAND, no YEAR", x -> x.work(-1, 3));
        edge.out(Starts.SOME, Edge.INDEX, "no LAND, no YEAR", x -> x.work(301, -1));
        edge.out(Starts.FULL, Edge.INDEX, "no LAND, 7", x -> x.work(5, 3));
        edge.out(Starts.FULL, Edge.ARGUMENT, "no YEAR, 7", x -> x.work(301, 0));
        edge.out(Starts.FULL, Edge.INDEX, "no LAND, no YEAR, 7", x -> x.work(-1, -1));
    }

    private static Edge.Call atWork(int work, int what) {
        return x -> x.ofWork(work, what);
    }

    /** Of the WORK 0 two made 90, of the WORK 3 one made 50. */
    private static Licenceweave someMakers() {
        Licenceweave x = FOUR.make();
        x.maker(0, 0, 60);
        x.maker(0, 1, 30);
        x.maker(3, 2, 50);
        return x;
    }

    private static void promise3() {
        Edge.Start start = EdgeOfWorksTest::someMakers;
        edge.says(3, "work: the WORK");
        edge.in(start, "the first one", x -> Edge.all(x.maker(0, 7, 10), x.ofWork(0, 4)), "100 100");
        edge.in(start, "the last one", x -> Edge.all(x.maker(3, 7, 10), x.ofWork(3, 4)), "60 60");
        edge.says(3, "person: the MAKER");
        for (int k = 0; k <= 7; k++) {
            int person = k;
            edge.in(start, "MAKER " + k, x -> Edge.all(x.maker(1, person, 10), x.ofWork(1, 3)), "10 " + (1 << person));
        }
        edge.says(3, "part: its part");
        edge.in(start, "the smallest one", x -> Edge.all(x.maker(1, 7, 1), x.holds(1, 7, 0)), "1 1");
        edge.in(start, "the greatest one", x -> Edge.all(x.maker(1, 7, 100), x.holds(1, 7, 300)), "100 100");
        edge.says(3, "Returns what the parts of its MAKERS are together.");
        Licenceweave one = Starts.works(1);
        for (int k = 0; k < 8; k++) {
            edge.is("all PERSONS", one.maker(0, k, k == 7 ? 16 : 12), k == 7 ? 100 : 12 * k + 12);
        }
        edge.says(3, "Throws IndexOutOfBoundsException if there is no such WORK or PERSON");
        edge.out(Starts.EMPTY, Edge.INDEX, "without WORKS", x -> x.maker(0, 0, 1));
        edge.range(start, Edge.INDEX, "work", 0, 3, (x, v) -> x.maker(v, 7, 10), 100, 60);
        edge.range(SEVEN, Edge.INDEX, "work", 0, 6, (x, v) -> x.maker(v, 0, 10), 10, 10);
        edge.range(start, Edge.INDEX, "person", 0, 7, (x, v) -> x.maker(1, v, 10), 10, 10);
        edge.says(3, "Throws IllegalArgumentException if part is not 1 to 100");
        edge.range(start, Edge.ARGUMENT, "part", 1, 100, (x, v) -> x.maker(1, 0, v), 1, 100);
    }

    private static void promise3Full() {
        Edge.Start start = EdgeOfWorksTest::someMakers;
        edge.says(3, "Throws IllegalStateException if it is a MAKER already, the parts would be above 100,"
            + " or there is an ENTRY of the WORK");
        edge.out(start, Edge.STATE, "a MAKER already", x -> x.maker(3, 2, 1));
        edge.out(() -> oneMade(), Edge.STATE, "a MAKER of one hundredth already", x -> x.maker(0, 0, 99));
        edge.in(start, "a MAKER of another one", x -> x.maker(1, 2, 1), 1);
        edge.in(start, "when it is undone", x -> Edge.all(x.undo(), x.maker(3, 2, 1)), "6 1");
        edge.in(start, "just 100", x -> x.maker(0, 7, 10), 100);
        edge.out(start, Edge.STATE, "101", x -> x.maker(0, 7, 11));
        edge.out(start, Edge.STATE, "190", x -> x.maker(0, 7, 100));
        edge.out(() -> allMade(), Edge.STATE, "100 and 1", x -> x.maker(0, 1, 1));
        edge.out(() -> entryOf(3, 2), Edge.STATE, "an ENTRY", x -> x.maker(3, 5, 1));
        edge.out(() -> entryOf(3, 6), Edge.STATE, "one that is not VALID", x -> x.maker(3, 5, 1));
        edge.out(() -> entryOf(1, 0), Edge.STATE, "one ahead of all MAKERS", x -> x.maker(1, 5, 1));
        edge.in(() -> entryOf(3, 2), "one of another WORK", x -> x.maker(0, 5, 1), 91);
        edge.in(() -> entryOf(3, 2), "when it is undone", x -> Edge.all(x.undo(), x.maker(3, 5, 1)), "7 51");
        edge.out(() -> entryWithoutYears(), Edge.STATE, "one without YEARS", x -> x.maker(3, 5, 1));
        edge.out(Starts.FULL, Edge.STATE, "all that at once", x -> x.maker(0, 0, 100));
        edge.several(3);
        edge.out(start, Edge.INDEX, "no WORK, no part", x -> x.maker(4, 0, 0));
        edge.out(start, Edge.INDEX, "no PERSON, no part", x -> x.maker(1, 8, 101));
        edge.out(Starts.FULL, Edge.INDEX, "no PERSON, 100 already", x -> x.maker(0, -1, 1));
        edge.out(Starts.FULL, Edge.INDEX, "no PERSON, an ENTRY", x -> x.maker(0, 8, 1));
        edge.out(start, Edge.ARGUMENT, "no part, a MAKER already", x -> x.maker(0, 0, 0));
        edge.out(start, Edge.ARGUMENT, "no part, above 100", x -> x.maker(0, 7, 101));
        edge.out(() -> entryOf(3, 2), Edge.ARGUMENT, "no part, an ENTRY", x -> x.maker(3, 5, 0));
        edge.out(Starts.FULL, Edge.INDEX, "all of them", x -> x.maker(0, 8, 0));
    }

    private static Licenceweave oneMade() {
        Licenceweave x = Starts.works(1);
        x.maker(0, 0, 1);
        return x;
    }

    private static Licenceweave allMade() {
        Licenceweave x = Starts.works(1);
        x.maker(0, 0, 100);
        return x;
    }

    private static Licenceweave entryOf(int work, int from) {
        Licenceweave x = someMakers();
        x.hand(work, from, 7, 10, 30, 40);
        return x;
    }

    private static Licenceweave entryWithoutYears() {
        Licenceweave x = entryOf(3, 2);
        x.back(0, 30);
        return x;
    }

    private static void promise4() {
        edge.says(4, "work: the WORK");
        edge.in(FOUR, "the first one", x -> Edge.all(x.shown(0, 300), x.ofWork(0, 2)), "-1 300");
        edge.in(FOUR, "the last one", x -> Edge.all(x.shown(3, 300), x.ofWork(3, 2)), "-1 300");
        edge.says(4, "year: the YEAR; NONE: it was not");
        edge.in(FOUR, "NONE", x -> x.shown(0, -1) + 10 * x.ofWork(0, 2), -11);
        edge.in(FOUR, "0", x -> x.shown(0, 0) + 10 * x.ofWork(0, 2), -1);
        edge.in(FOUR, "300", x -> x.shown(2, 300) + 10 * x.ofWork(2, 2), 2999);
        edge.says(4, "Returns that before.");
        Licenceweave one = FOUR.make();
        int[] years = {0, 300, -1, -1, 20, 0};
        int[] before = {-1, 0, 300, -1, -1, 20};
        for (int k = 0; k < years.length; k++) {
            edge.is("before " + years[k], one.shown(0, years[k]), before[k]);
        }
        edge.says(4, "Throws IndexOutOfBoundsException if there is no such WORK");
        edge.out(Starts.EMPTY, Edge.INDEX, "without WORKS", x -> x.shown(0, 5));
        edge.range(FOUR, Edge.INDEX, "work", 0, 3, (x, v) -> x.shown(v, 300), -1, -1);
        edge.range(SEVEN, Edge.INDEX, "work", 0, 6, (x, v) -> x.shown(v, -1), -1, -1);
        edge.says(4, "Throws IllegalArgumentException if year is not NONE, nor a YEAR that is not ahead of the one"
            + " in which it was made");
        edge.range(FOUR, Edge.ARGUMENT, "made in 0:", -1, 300, (x, v) -> x.shown(0, v), -1, -1);
        edge.range(FOUR, Edge.ARGUMENT, "made in 20:", 20, 300, (x, v) -> x.shown(1, v), -1, -1);
        edge.range(FOUR, Edge.ARGUMENT, "made in 300:", 300, 300, (x, v) -> x.shown(2, v), -1, -1);
        edge.in(FOUR, "made in 20: NONE", x -> x.shown(1, -1), -1);
        edge.in(FOUR, "made in 300: NONE", x -> x.shown(2, -1), -1);
        edge.out(FOUR, Edge.ARGUMENT, "made in 20: -2", x -> x.shown(1, -2));
        edge.out(FOUR, Edge.ARGUMENT, "made in 20: 0", x -> x.shown(1, 0));
        edge.out(Starts.SOME, Edge.ARGUMENT, "made in 10: 9", x -> x.shown(0, 9));
        edge.in(Starts.SOME, "made in 10: 10", x -> x.shown(0, 10), 33);
        edge.several(4);
        edge.out(FOUR, Edge.INDEX, "no WORK, no YEAR", x -> x.shown(4, -2));
        edge.out(FOUR, Edge.INDEX, "no WORK, no YEAR", x -> x.shown(-1, 301));
    }

    private static void promise5() {
        edge.says(5, "person: the PERSON");
        edge.in(Starts.EMPTY, "the first one", x -> Edge.all(x.death(0, 9), x.ofHand(0, 0)), "-1 9");
        edge.in(Starts.EMPTY, "the last one", x -> Edge.all(x.death(7, 9), x.ofHand(7, 0)), "-1 9");
        edge.says(5, "year: the YEAR; NONE: it lives");
        edge.in(Starts.SOME, "NONE", x -> Edge.all(x.death(0, -1), x.ofHand(0, 0)), "40 -1");
        edge.in(Starts.SOME, "0", x -> Edge.all(x.death(0, 0), x.ofHand(0, 0)), "40 0");
        edge.in(Starts.SOME, "300", x -> Edge.all(x.death(0, 300), x.ofHand(0, 0)), "40 300");
        edge.says(5, "Returns that before.");
        Licenceweave one = new Licenceweave();
        int[] years = {0, 300, -1, -1, 20, 0};
        int[] before = {-1, 0, 300, -1, -1, 20};
        for (int k = 0; k < years.length; k++) {
            edge.is("before " + years[k], one.death(3, years[k]), before[k]);
        }
        edge.says(5, "Throws IndexOutOfBoundsException if there is no such PERSON");
        edge.range(Starts.EMPTY, Edge.INDEX, "person", 0, 7, (x, v) -> x.death(v, 50), -1, -1);
        edge.range(Starts.SOME, Edge.INDEX, "person", 0, 7, (x, v) -> x.death(v, 50), 40, -1);
        edge.says(5, "Throws IllegalArgumentException if year is not NONE, nor a YEAR");
        edge.range(Starts.EMPTY, Edge.ARGUMENT, "year", -1, 300, (x, v) -> x.death(7, v), -1, -1);
        edge.range(Starts.SOME, Edge.ARGUMENT, "year", -1, 300, (x, v) -> x.death(0, v), 40, 40);
        edge.several(5);
        edge.out(Starts.SOME, Edge.INDEX, "no PERSON, no YEAR", x -> x.death(8, 301));
        edge.out(Starts.SOME, Edge.INDEX, "no PERSON, no YEAR", x -> x.death(-1, -2));
    }

    private static void promise6() {
        Edge.Start start = () -> Starts.works(4);
        edge.says(6, "work: the one that does");
        edge.in(start, "the first one", x -> Edge.all(x.use(0, 1, 0, 10), x.ofWork(0, 5)), "10 2");
        edge.in(start, "the last one", x -> Edge.all(x.use(3, 1, 0, 10), x.ofWork(3, 5)), "10 2");
        edge.says(6, "of: the one that is USED");
        edge.in(start, "the first one", x -> Edge.all(x.use(1, 0, 0, 10), x.ofWork(1, 5)), "10 1");
        edge.in(start, "the last one", x -> Edge.all(x.use(1, 3, 0, 10), x.ofWork(1, 5)), "10 8");
        edge.says(6, "how: HOW");
        int[] parts = {3, 3, 3, 2};
        int[] needed = {1, 2, 4, 1};
        for (int k = 0; k <= 3; k++) {
            int how = k;
            edge.in(start, "by 0 of it, HOW " + k, x -> Edge.all(x.use(1, 0, how, 0), x.parts(1, 0, 0, false)),
                "0 " + parts[k]);
            for (int right = 1; right <= 4; right *= 2) {
                int rights = right;
                edge.in(start, "what " + how + " needs: " + right, x -> used(x, how, rights),
                    rights == needed[how] ? rights : -1);
            }
        }
        edge.says(6, "part: its part");
        edge.in(start, "0", x -> Edge.all(x.use(1, 0, 0, 0), x.ofWork(1, 6), x.share(1, 0, 0, 8)), "0 0 1");
        edge.in(start, "100", x -> Edge.all(x.use(1, 0, 0, 100), x.ofWork(1, 6)), "100 100");
        edge.says(6, "Returns what the parts of its USES are together.");
        Licenceweave one = Starts.works(7);
        for (int k = 1; k <= 6; k++) {
            edge.is("all other ones", one.use(0, k, 0, k == 6 ? 20 : 16), k == 6 ? 100 : 16 * k);
        }
        edge.says(6, "Throws IndexOutOfBoundsException if there is no such WORK as work or of");
        edge.out(Starts.EMPTY, Edge.INDEX, "without WORKS", x -> x.use(0, 0, 0, 0));
        edge.range(start, Edge.INDEX, "work", 0, 3, (x, v) -> x.use(v, 1, 0, 10), 10, 10);
        edge.range(start, Edge.INDEX, "of", 0, 3, (x, v) -> x.use(1, v, 0, 10), 10, 10);
        edge.range(SEVEN, Edge.INDEX, "work", 0, 6, (x, v) -> x.use(v, 1, 0, 10), 10, 10);
        edge.range(SEVEN, Edge.INDEX, "of", 0, 6, (x, v) -> x.use(1, v, 0, 10), 10, 10);
        edge.says(6, "Throws IllegalArgumentException if how is not 0 to 3, part not 0 to 100, or of was made"
            + " in a later YEAR");
        edge.range(start, Edge.ARGUMENT, "how", 0, 3, (x, v) -> x.use(1, 0, v, 10), 10, 10);
        edge.range(start, Edge.ARGUMENT, "part", 0, 100, (x, v) -> x.use(1, 0, 0, v), 0, 100);
        edge.in(() -> Starts.made(20, 19, 20, 21), "a YEAR ahead", x -> x.use(0, 1, 0, 5), 5);
        edge.in(() -> Starts.made(20, 19, 20, 21), "in the same YEAR", x -> x.use(0, 2, 0, 5), 5);
        edge.out(() -> Starts.made(20, 19, 20, 21), Edge.ARGUMENT, "a YEAR behind", x -> x.use(0, 3, 0, 5));
        edge.out(FOUR, Edge.ARGUMENT, "of 300 by 0", x -> x.use(0, 2, 0, 5));
        edge.in(FOUR, "of 0 by 300", x -> x.use(2, 0, 0, 5), 5);
    }

    /** The MEET, if that WORK is OFFERED by a LICENCE with these RIGHTS and USED so. */
    private static int used(Licenceweave x, int how, int rights) {
        x.licence(rights, 0, 0, false);
        x.offer(0, 0, true);
        x.offer(1, 0, true);
        x.use(1, 0, how, 50);
        return x.may(1, 0, 0, false);
    }

    /** The WORK 1 makes USE of 90 of others. */
    private static Licenceweave someUses() {
        Licenceweave x = Starts.made(10, 10, 10, 10, 20, 10);
        x.use(1, 0, 0, 60);
        x.use(1, 2, 3, 30);
        return x;
    }

    private static void promise6Full() {
        Edge.Start start = EdgeOfWorksTest::someUses;
        edge.says(6, "Throws IllegalStateException if it makes USE of that already, there would be WORKS in a ring"
            + " (also one alone), or the parts would be above 100");
        edge.out(start, Edge.STATE, "already", x -> x.use(1, 0, 0, 60));
        edge.out(start, Edge.STATE, "already, another HOW, no part", x -> x.use(1, 2, 1, 0));
        edge.in(start, "by another one", x -> x.use(3, 0, 0, 60), 60);
        edge.in(start, "when it is undone", x -> Edge.all(x.undo(), x.use(1, 2, 1, 40)), "7 100");
        edge.in(start, "just 100", x -> x.use(1, 3, 0, 10), 100);
        edge.out(start, Edge.STATE, "101", x -> x.use(1, 3, 0, 11));
        edge.out(start, Edge.STATE, "190", x -> x.use(1, 3, 0, 100));
        edge.in(() -> allUsed(), "0 more than 100", x -> x.use(1, 3, 0, 0), 100);
        edge.out(() -> allUsed(), Edge.STATE, "1 more than 100", x -> x.use(1, 3, 0, 1));
        edge.several(6);
        edge.out(start, Edge.INDEX, "no WORK, no HOW", x -> x.use(6, 0, 4, 10));
        edge.out(start, Edge.INDEX, "no WORK as of, no HOW", x -> x.use(1, 6, 4, 10));
        edge.out(start, Edge.INDEX, "no WORK as of, no part", x -> x.use(1, -1, 0, 101));
        edge.out(start, Edge.INDEX, "no WORK, above 100", x -> x.use(1, 6, 0, 100));
        edge.out(Starts.FULL, Edge.INDEX, "no WORK, above 100", x -> x.use(6, 7, 0, 100));
        edge.out(start, Edge.ARGUMENT, "no HOW, already", x -> x.use(1, 0, 4, 0));
        edge.out(start, Edge.ARGUMENT, "no HOW, a ring", x -> x.use(2, 1, -1, 0));
        edge.out(start, Edge.ARGUMENT, "no part, a ring alone", x -> x.use(1, 1, 0, -1));
        edge.out(start, Edge.ARGUMENT, "no part, above 100", x -> x.use(1, 3, 0, 101));
        edge.out(start, Edge.ARGUMENT, "of a later YEAR, above 100", x -> x.use(1, 4, 0, 11));
        edge.out(() -> laterRing(), Edge.ARGUMENT, "of a later YEAR, a ring", x -> x.use(0, 1, 0, 0));
        edge.out(start, Edge.INDEX, "all of them", x -> x.use(6, 6, 4, 101));
    }

    private static Licenceweave allUsed() {
        Licenceweave x = someUses();
        x.use(1, 5, 2, 10);
        return x;
    }

    private static Licenceweave laterRing() {
        Licenceweave x = Starts.made(10, 20);
        x.use(1, 0, 0, 5);
        return x;
    }

    /** A row of WORKS, each of which makes USE of the next one, by nothing, SMALL. */
    private static Licenceweave row(int count) {
        Licenceweave x = Starts.works(count);
        for (int k = 0; k + 1 < count; k++) {
            x.use(k, k + 1, 3, 0);
        }
        return x;
    }

    private static void promise6Rings() {
        edge.says(6, "Throws IllegalStateException if it makes USE of that already, there would be WORKS in a ring"
            + " (also one alone), or the parts would be above 100");
        for (int k = 1; k <= 7; k++) {
            int count = k;
            edge.out(() -> row(count), Edge.STATE, "a ring of " + count, x -> x.use(count - 1, 0, 0, 0));
        }
        for (int k = 1; k <= 6; k++) {
            int to = k;
            edge.out(() -> row(7), Edge.STATE, "a ring of some, from " + to, x -> x.use(to, to - 1, 3, 0));
        }
        edge.in(() -> row(7), "by two ways there is no ring", x -> x.use(0, 6, 0, 7), 7);
        edge.in(() -> row(7), "over one there is no ring", x -> x.use(4, 6, 1, 100), 100);
        edge.in(() -> row(7), "when it is undone", x -> Edge.all(x.undo(), x.use(6, 0, 0, 5)), "7 5");
    }

    private static void promise7() {
        Edge.Start start = () -> Starts.letters(Starts.works(4), 3, "ab");
        edge.says(7, "work: the WORK");
        edge.in(start, "the first one", x -> Edge.all(x.words(0, 0, 0, 0, -1, -1), x.ofWork(0, 9)), "3 3");
        edge.in(start, "the last one", x -> Edge.all(x.words(3, 0, 0, 0, -1, -1), x.ofWork(3, 9)), "5 5");
        edge.says(7, "a: 0 to 5 for \"a\" to \"f\", or NONE for nothing");
        for (int letter = 0; letter <= 5; letter++) {
            int a = letter;
            edge.in(start, "it alone " + a, x -> only(x, a, -1, -1, -1, -1), 1 << a);
        }
        edge.in(start, "NONE", x -> only(x, -1, 5, -1, -1, -1), 1 << 5);
        String[] sentences = {"b: likewise", "c: likewise", "d: likewise", "e: likewise"};
        for (int k = 0; k < 4; k++) {
            edge.says(7, sentences[k]);
            int[] w = {-1, -1, -1, -1};
            for (int letter = 0; letter <= 5; letter++) {
                w[k] = letter;
                int[] v = w.clone();
                edge.in(start, "it alone " + letter, x -> only(x, -1, v[0], v[1], v[2], v[3]), 1 << letter);
            }
            w[k] = -1;
            edge.in(start, "NONE", x -> only(x, 4, w[0], w[1], w[2], w[3]), 1 << 4);
        }
        edge.says(7, "Returns how many it has then.");
        edge.in(start, "none", x -> x.words(0, -1, -1, -1, -1, -1), 0);
        edge.in(start, "all", x -> x.words(0, 0, 1, 2, 3, 4), 5);
        edge.in(start, "more", x -> x.words(3, 0, 1, 2, 3, 4), 7);
        edge.says(7, "Throws IndexOutOfBoundsException if there is no such WORK");
        edge.out(Starts.EMPTY, Edge.INDEX, "without WORKS", x -> x.words(0, 0, 0, 0, 0, 0));
        edge.range(start, Edge.INDEX, "work", 0, 3, (x, v) -> x.words(v, 0, 1, 2, 3, 4), 5, 7);
        edge.range(SEVEN, Edge.INDEX, "work", 0, 6, (x, v) -> x.words(v, -1, -1, -1, -1, -1), 0, 0);
        edge.says(7, "Throws IllegalArgumentException if one is not NONE to 5");
        edge.range(start, Edge.ARGUMENT, "a", -1, 5, (x, v) -> x.words(0, v, 0, 0, 0, 0), 4, 5);
        edge.range(start, Edge.ARGUMENT, "b", -1, 5, (x, v) -> x.words(0, 0, v, 0, 0, 0), 4, 5);
        edge.range(start, Edge.ARGUMENT, "c", -1, 5, (x, v) -> x.words(0, 0, 0, v, 0, 0), 4, 5);
        edge.range(start, Edge.ARGUMENT, "d", -1, 5, (x, v) -> x.words(0, 0, 0, 0, v, 0), 4, 5);
        edge.range(start, Edge.ARGUMENT, "e", -1, 5, (x, v) -> x.words(0, 0, 0, 0, 0, v), 4, 5);
    }

    /** The set of letters that the WORK 1 has, if these come. */
    private static int only(Licenceweave x, int a, int b, int c, int d, int e) {
        x.words(1, a, b, c, d, e);
        int set = 0;
        for (int letter = 0; letter <= 5; letter++) {
            x.words(2, letter, -1, -1, -1, -1);
            set |= x.likeness(2, 1, 1) > 0 ? 1 << letter : 0;
            x.undo();
        }
        return set;
    }

    private static Edge.Start long0(int count) {
        return () -> Starts.letters(Starts.works(2), 0, "abcdefabcdefabcdefab".substring(0, count));
    }

    private static void promise7Full() {
        edge.says(7, "Throws IllegalStateException if it would have more than 20");
        edge.in(long0(15), "15 and 5", x -> x.words(0, 0, 0, 0, 0, 0), 20);
        edge.out(long0(16), Edge.STATE, "16 and 5", x -> x.words(0, 0, 0, 0, 0, 0));
        edge.in(long0(16), "16 and 4", x -> x.words(0, 0, 0, -1, 0, 0), 20);
        edge.in(long0(19), "19 and 1", x -> x.words(0, -1, -1, -1, -1, 5), 20);
        edge.out(long0(19), Edge.STATE, "19 and 2", x -> x.words(0, 1, -1, -1, -1, 5));
        edge.in(long0(20), "20 and none", x -> x.words(0, -1, -1, -1, -1, -1), 20);
        for (int k = 0; k < 5; k++) {
            int[] w = {-1, -1, -1, -1, -1};
            w[k] = k;
            edge.out(long0(20), Edge.STATE, "20 and 1", x -> x.words(0, w[0], w[1], w[2], w[3], w[4]));
        }
        edge.out(Starts.FULL, Edge.STATE, "20 and 5", x -> x.words(0, 5, 4, 3, 2, 1));
        edge.in(Starts.FULL, "another one", x -> x.words(1, 5, -1, -1, -1, -1), 20);
        edge.out(Starts.FULL, Edge.STATE, "another one, 19 and 2", x -> x.words(1, 5, 5, -1, -1, -1));
        edge.in(long0(20), "when it is undone", x -> Edge.all(x.undo(), x.words(0, 0, 0, 0, 0, 0)), "5 20");
        edge.says(0, "WORDS (letters \"a\" to \"f\", at most 20; none at first)");
        edge.in(long0(20), "all 20 are there", x -> x.likeness(0, 0, 20), 20);
        edge.in(SEVEN, "none", x -> x.ofWork(6, 9), 0);
        edge.several(7);
        edge.out(long0(20), Edge.INDEX, "no WORK, no letter", x -> x.words(2, 6, 0, 0, 0, 0));
        edge.out(Starts.FULL, Edge.INDEX, "no WORK, 20 already", x -> x.words(7, 0, 0, 0, 0, 0));
        edge.out(long0(20), Edge.ARGUMENT, "20 already, the last one no letter", x -> x.words(0, 0, 0, 0, 0, 6));
        edge.out(long0(20), Edge.ARGUMENT, "20 already, the first one no letter", x -> x.words(0, -2, 0, 0, 0, 0));
        edge.out(long0(20), Edge.INDEX, "all of them", x -> x.words(-1, -2, 0, 0, 0, 6));
    }

    private static void promise24() {
        edge.says(24, "work: a WORK");
        edge.in(Starts.FULL, "the first one", x -> x.ofWork(0, 0), 10);
        edge.in(Starts.FULL, "the last one", x -> x.ofWork(6, 0), 70);
        edge.says(24, "what: 0 its YEAR, 1 HOME, 2 YEAR in which it was SHOWN (NONE), 3 the set of its MAKERS, 4 their"
            + " parts together, 5 the set of WORKS that it makes USE of, 6 the parts of its USES together, 7 the set of"
            + " LICENCES that it is OFFERED by, 8 FLOOR, 9 how many WORDS");
        int[] least = {0, 0, -1, 0, 0, 0, 0, 0, 0, 0};
        int[] most = {300, 2, 300, 255, 100, 126, 100, 224, 9999, 20};
        for (int k = 0; k <= 9; k++) {
            int what = k;
            edge.in(() -> Starts.made(0), "at least " + k, x -> x.ofWork(0, what), least[k]);
            edge.in(() -> Starts.greatest(), "at most " + k, x -> x.ofWork(0, what), most[k]);
        }
        edge.says(24, "Returns that.");
        edge.in(() -> Starts.greatest(), "the set of USES of another one", x -> x.ofWork(6, 5), 0);
        edge.in(() -> Starts.greatest(), "the set of MAKERS of another one", x -> x.ofWork(1, 3), 0);
        edge.says(24, "Throws IndexOutOfBoundsException if there is no such WORK");
        edge.out(Starts.EMPTY, Edge.INDEX, "without WORKS", x -> x.ofWork(0, 0));
        edge.range(Starts.SOME, Edge.INDEX, "work", 0, 3, (x, v) -> x.ofWork(v, 0), 10, 30);
        edge.range(Starts.FULL, Edge.INDEX, "work", 0, 6, (x, v) -> x.ofWork(v, 9), 20, 0);
        edge.says(24, "Throws IllegalArgumentException if what is not 0 to 9");
        edge.range(Starts.SOME, Edge.ARGUMENT, "what", 0, 9, (x, v) -> x.ofWork(0, v), 10, 4);
        edge.several(24);
        edge.out(Starts.SOME, Edge.INDEX, "no WORK, no such thing", x -> x.ofWork(4, 10));
        edge.out(Starts.SOME, Edge.INDEX, "no WORK, no such thing", x -> x.ofWork(-1, -1));
    }
}
