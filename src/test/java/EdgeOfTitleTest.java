/** The boundary cases of promises 14 to 17 and 39 to 41, sentence by sentence. */
public final class EdgeOfTitleTest {
    private static final Edge edge = new Edge("EdgeOfTitleTest");
    private static final Edge.Start SEVEN = EdgeOfTitleTest::seven;
    private static final Edge.Start FIFTEEN = () -> entries(15);
    private static final Edge.Start SIXTEEN = () -> entries(16);

    public static void main(String[] args) {
        promise14();
        promise14Years();
        promise14Full();
        promise15();
        promise15None();
        promise16();
        promise16Years();
        promise17();
        promise39();
        promise40();
        promise40Valid();
        promise40Short();
        promise40Twice();
        promise41();
        promise41Chain();
        edge.end(14, 15, 16, 17, 39, 40, 41);
    }

    /** Seven WORKS; of each one 0 and 7 made a half. */
    private static Licenceweave seven() {
        Licenceweave x = Starts.works(7);
        for (int k = 0; k < 7; k++) {
            x.maker(k, 0, 50);
            x.maker(k, 7, 50);
        }
        return x;
    }

    /** So many ENTRIES: of the WORK 0 from 0 to 1, one hundredth from the YEAR 10 on. */
    private static Licenceweave entries(int count) {
        Licenceweave x = seven();
        for (int k = 0; k < count; k++) {
            x.hand(0, 0, 1, 1, 10, 50 + k);
        }
        return x;
    }

    /** All that is told of an ENTRY. */
    private static String told(Licenceweave x, int entry) {
        StringBuilder text = new StringBuilder();
        for (int what = 0; what <= 7; what++) {
            text.append(what > 0 ? " " : "").append(x.ofEntry(entry, what));
        }
        return text.toString();
    }

    private static void promise14() {
        edge.says(14, "work: the WORK");
        edge.in(SEVEN, "the first one", x -> Edge.all(x.hand(0, 0, 1, 5, 10, 20), told(x, 0)), "0 0 0 1 5 10 20 1 -1");
        edge.in(SEVEN, "the last one", x -> Edge.all(x.hand(6, 0, 1, 5, 10, 20), told(x, 0)), "0 6 0 1 5 10 20 1 -1");
        edge.says(14, "from: from whom");
        edge.in(SEVEN, "the first one", x -> Edge.all(x.hand(3, 0, 1, 5, 10, 20), told(x, 0)), "0 3 0 1 5 10 20 1 -1");
        edge.in(SEVEN, "the last one", x -> Edge.all(x.hand(3, 7, 1, 5, 10, 20), told(x, 0)), "0 3 7 1 5 10 20 1 -1");
        edge.says(14, "to: to whom");
        edge.in(SEVEN, "the first one", x -> Edge.all(x.hand(3, 7, 0, 5, 10, 20), told(x, 0)), "0 3 7 0 5 10 20 1 -1");
        edge.in(SEVEN, "the last one", x -> Edge.all(x.hand(3, 0, 7, 5, 10, 20), told(x, 0)), "0 3 0 7 5 10 20 1 -1");
        edge.says(14, "part: the part");
        edge.in(SEVEN, "1", x -> Edge.all(x.hand(3, 0, 1, 1, 10, 20), told(x, 0)), "0 3 0 1 1 10 20 1 -1");
        edge.in(SEVEN, "100", x -> Edge.all(x.hand(3, 0, 1, 100, 10, 20), told(x, 0)), "0 3 0 1 100 10 20 0 -1");
        edge.says(14, "Returns its number.");
        Licenceweave one = seven();
        for (int k = 0; k < 16; k++) {
            edge.is("number", one.hand(k % 7, k % 8, (k + 1) % 8, 1 + k, k, 300 - k), k);
        }
        edge.says(14, "Throws IndexOutOfBoundsException if there is no such WORK, or PERSON as from or to");
        edge.out(Starts.EMPTY, Edge.INDEX, "without WORKS", x -> x.hand(0, 0, 1, 1, 0, 0));
        edge.range(SEVEN, Edge.INDEX, "work", 0, 6, (x, v) -> x.hand(v, 0, 1, 5, 10, 20), 0, 0);
        edge.range(SEVEN, Edge.INDEX, "from", 0, 7, (x, v) -> x.hand(3, v, 1, 5, 10, 20), 0, 0);
        edge.range(SEVEN, Edge.INDEX, "to", 0, 7, (x, v) -> x.hand(3, 1, v, 5, 10, 20), 0, 0);
        edge.range(Starts.SOME, Edge.INDEX, "work", 0, 3, (x, v) -> x.hand(v, 0, 1, 5, 10, 20), 3, 3);
        edge.says(14, "Throws IllegalArgumentException if from is to, part not 1 to 100, or first and last are not"
            + " YEARS, the first one not behind the last one");
        for (int k = 0; k < 8; k++) {
            int person = k;
            edge.out(SEVEN, Edge.ARGUMENT, "from is to: " + k, x -> x.hand(0, person, person, 1, 10, 20));
        }
        edge.range(SEVEN, Edge.ARGUMENT, "part", 1, 100, (x, v) -> x.hand(3, 0, 1, v, 10, 20), 0, 0);
        edge.range(Starts.SOME, Edge.ARGUMENT, "part", 1, 100, (x, v) -> x.hand(3, 0, 1, v, 10, 20), 3, 3);
    }

    private static void promise14Years() {
        edge.says(14, "first: the first YEAR");
        edge.in(SEVEN, "0", x -> Edge.all(x.hand(3, 0, 1, 5, 0, 20), told(x, 0)), "0 3 0 1 5 0 20 1 -1");
        edge.in(SEVEN, "300", x -> Edge.all(x.hand(3, 0, 1, 5, 300, 300), told(x, 0)), "0 3 0 1 5 300 300 1 -1");
        edge.says(14, "last: the last one");
        edge.in(SEVEN, "0", x -> Edge.all(x.hand(3, 0, 1, 5, 0, 0), told(x, 0)), "0 3 0 1 5 0 0 1 -1");
        edge.in(SEVEN, "300", x -> Edge.all(x.hand(3, 0, 1, 5, 0, 300), told(x, 0)), "0 3 0 1 5 0 300 1 -1");
        edge.says(14, "Throws IllegalArgumentException if from is to, part not 1 to 100, or first and last are not"
            + " YEARS, the first one not behind the last one");
        edge.range(SEVEN, Edge.ARGUMENT, "first, last 300", 0, 300, (x, v) -> x.hand(3, 0, 1, 5, v, 300), 0, 0);
        edge.range(SEVEN, Edge.ARGUMENT, "first, last 40", 0, 40, (x, v) -> x.hand(3, 0, 1, 5, v, 40), 0, 0);
        edge.range(SEVEN, Edge.ARGUMENT, "last, first 0", 0, 300, (x, v) -> x.hand(3, 0, 1, 5, 0, v), 0, 0);
        edge.range(SEVEN, Edge.ARGUMENT, "last, first 40", 40, 300, (x, v) -> x.hand(3, 0, 1, 5, 40, v), 0, 0);
        edge.out(SEVEN, Edge.ARGUMENT, "both are 301", x -> x.hand(3, 0, 1, 5, 301, 301));
        edge.out(SEVEN, Edge.ARGUMENT, "both are -1", x -> x.hand(3, 0, 1, 5, -1, -1));
        edge.out(SEVEN, Edge.ARGUMENT, "-1 and 301", x -> x.hand(3, 0, 1, 5, -1, 301));
        edge.out(SEVEN, Edge.ARGUMENT, "300 and 0", x -> x.hand(3, 0, 1, 5, 300, 0));
    }

    private static void promise14Full() {
        edge.says(14, "Throws IllegalStateException if there are 16");
        edge.in(FIFTEEN, "a sixteenth", x -> Edge.all(x.hand(6, 0, 7, 50, 0, 300), told(x, 15)),
            "15 6 0 7 50 0 300 1 -1");
        edge.out(SIXTEEN, Edge.STATE, "a seventeenth", x -> x.hand(6, 0, 7, 50, 0, 300));
        edge.out(Starts.FULL, Edge.STATE, "a seventeenth", x -> x.hand(0, 0, 7, 1, 0, 300));
        edge.in(SIXTEEN, "when one is undone", x -> Edge.all(x.undo(), x.hand(6, 0, 7, 50, 0, 300)), "7 15");
        edge.out(() -> ended(), Edge.STATE, "one without YEARS is one, too", x -> x.hand(6, 0, 7, 50, 0, 300));
        edge.says(0, "ENTRIES, at most 16, numbered from 0");
        edge.in(SIXTEEN, "how many", x -> x.house(2), 16);
        edge.in(Starts.EMPTY, "none", x -> x.house(2), 0);
        edge.several(14);
        edge.out(SEVEN, Edge.INDEX, "no WORK, from is to", x -> x.hand(7, 0, 0, 5, 10, 20));
        edge.out(SEVEN, Edge.INDEX, "no PERSON as from, no part", x -> x.hand(0, 8, 0, 0, 10, 20));
        edge.out(SEVEN, Edge.INDEX, "no PERSON as to, no part", x -> x.hand(0, 0, 8, 101, 10, 20));
        edge.out(SEVEN, Edge.INDEX, "no PERSON as to, no YEAR", x -> x.hand(0, 0, -1, 5, 10, 301));
        edge.out(SEVEN, Edge.INDEX, "no PERSON as both", x -> x.hand(0, 8, 8, 5, 10, 20));
        edge.out(SIXTEEN, Edge.INDEX, "no WORK, 16", x -> x.hand(-1, 0, 1, 5, 10, 20));
        edge.out(SIXTEEN, Edge.INDEX, "no PERSON, 16", x -> x.hand(0, 0, 8, 5, 10, 20));
        edge.out(SIXTEEN, Edge.ARGUMENT, "from is to, 16", x -> x.hand(0, 0, 0, 5, 10, 20));
        edge.out(SIXTEEN, Edge.ARGUMENT, "no part, 16", x -> x.hand(0, 0, 1, 101, 10, 20));
        edge.out(SIXTEEN, Edge.ARGUMENT, "first behind last, 16", x -> x.hand(0, 0, 1, 5, 21, 20));
        edge.out(Starts.FULL, Edge.INDEX, "all of them", x -> x.hand(7, 8, 8, 0, 301, -1));
    }

    /** Sixteen ENTRIES, the last of which has no YEARS. */
    private static Licenceweave ended() {
        Licenceweave x = entries(16);
        x.back(15, 10);
        return x;
    }

    private static void promise15() {
        edge.says(15, "entry: the ENTRY");
        edge.in(SIXTEEN, "the first one", x -> Edge.all(x.back(0, 20), told(x, 0)), "50 0 0 1 1 10 19 1 -1");
        edge.in(SIXTEEN, "the last one", x -> Edge.all(x.back(15, 20), told(x, 15)), "65 0 0 1 1 10 19 1 -1");
        edge.in(SIXTEEN, "another one", x -> Edge.all(x.back(15, 20), told(x, 14)), "65 0 0 1 1 10 64 1 -1");
        edge.says(15, "year: the first YEAR that it has no more");
        edge.in(SIXTEEN, "its last YEAR", x -> Edge.all(x.back(0, 50), x.ofEntry(0, 5)), "50 49");
        edge.in(SIXTEEN, "its first YEAR", x -> Edge.all(x.back(0, 10), x.ofEntry(0, 5)), "50 9");
        edge.in(() -> allYears(), "0", x -> Edge.all(x.back(0, 0), told(x, 0)), "300 0 0 1 50 0 -1 1 -1");
        edge.in(() -> allYears(), "1", x -> Edge.all(x.back(0, 1), x.holds(0, 1, 0), x.holds(0, 1, 1)), "300 50 0");
        edge.in(() -> allYears(), "300", x -> Edge.all(x.back(0, 300), x.holds(0, 1, 299), x.holds(0, 1, 300)),
            "300 50 0");
        edge.says(15, "Returns its last YEAR before.");
        edge.in(() -> allYears(), "again and again", x -> Edge.all(x.back(0, 300), x.back(0, 299), x.back(0, 1),
            x.back(0, 0)), "300 299 298 0");
        edge.says(15, "Throws IndexOutOfBoundsException if there is no such ENTRY");
        edge.out(SEVEN, Edge.INDEX, "without ENTRIES", x -> x.back(0, 10));
        edge.out(Starts.EMPTY, Edge.INDEX, "in an empty one", x -> x.back(0, 0));
        edge.range(SIXTEEN, Edge.INDEX, "entry", 0, 15, (x, v) -> x.back(v, 20), 50, 65);
        edge.range(Starts.SOME, Edge.INDEX, "entry", 0, 2, (x, v) -> x.back(v, 50), 120, 60);
        edge.says(15, "Throws IllegalArgumentException if year is ahead of its first YEAR, or behind its last one");
        edge.range(SIXTEEN, Edge.ARGUMENT, "year", 10, 50, (x, v) -> x.back(0, v), 50, 50);
        edge.range(() -> allYears(), Edge.ARGUMENT, "year", 0, 300, (x, v) -> x.back(0, v), 300, 300);
        edge.range(() -> oneYear(), Edge.ARGUMENT, "year", 40, 40, (x, v) -> x.back(0, v), 40, 40);
        edge.range(Starts.FULL, Edge.ARGUMENT, "one that is not VALID", 0, 300, (x, v) -> x.back(15, v), 300, 300);
        edge.several(15);
        edge.out(SIXTEEN, Edge.INDEX, "no ENTRY, ahead of all YEARS", x -> x.back(16, -1));
        edge.out(SIXTEEN, Edge.INDEX, "no ENTRY, behind all YEARS", x -> x.back(-1, 301));
    }

    private static Licenceweave allYears() {
        Licenceweave x = seven();
        x.hand(0, 0, 1, 50, 0, 300);
        return x;
    }

    private static Licenceweave oneYear() {
        Licenceweave x = seven();
        x.hand(0, 0, 1, 50, 40, 40);
        return x;
    }

    private static void promise15None() {
        edge.says(15, "Throws IllegalArgumentException if year is ahead of its first YEAR, or behind its last one");
        for (int year : new int[] {9, 10, 11, -1, 0, 300, 301}) {
            edge.out(() -> ended(), Edge.ARGUMENT, "it has no YEARS: " + year, x -> x.back(15, year));
        }
        edge.in(() -> ended(), "another one that has some", x -> x.back(14, 10), 64);
        edge.says(0, "(without YEARS it is VALID, too, and moves nothing)");
        edge.in(() -> ended(), "it is VALID", x -> told(x, 15), "0 0 1 1 10 9 1 -1");
        edge.in(() -> ended(), "it moves nothing", x -> Edge.all(x.holds(0, 1, 9), x.holds(0, 1, 10)), "0 15");
        Licenceweave x = seven();
        x.hand(0, 2, 3, 100, 40, 41);
        edge.is("of what is not HELD", x.ofEntry(0, 6), 0);
        x.back(0, 41);
        edge.is("one YEAR", x.ofEntry(0, 6), 0);
        x.back(0, 40);
        edge.is("no YEAR", x.ofEntry(0, 6), 1);
        edge.is("it moves nothing", x.holds(0, 3, 40), 0);
    }

    /** 0 made all and handed on half of it from 20 to 60, then the other half from 21 to 59; 2 handed on a part. */
    private static Licenceweave handed() {
        Licenceweave x = Starts.works(2);
        x.maker(0, 0, 100);
        x.maker(1, 7, 1);
        x.behind(10);
        x.hand(0, 0, 2, 50, 20, 60);
        x.hand(0, 0, 3, 50, 21, 59);
        x.hand(0, 2, 4, 10, 20, 60);
        return x;
    }

    private static void promise16() {
        edge.says(16, "work: the WORK");
        edge.in(() -> handed(), "the first one", x -> Edge.all(x.takeBack(0, 0, 40), x.ofEntry(0, 5)), "2 39");
        edge.in(() -> handed(), "the last one", x -> Edge.all(x.takeBack(1, 7, 40), x.ofEntry(0, 5)), "0 60");
        edge.says(16, "person: the MAKER");
        edge.in(() -> handed(), "the first one", x -> x.takeBack(0, 0, 40), 2);
        edge.in(() -> handed(), "the last one", x -> x.takeBack(1, 7, 40), 0);
        edge.says(16, "Returns how many ENTRIES end by that.");
        edge.in(SEVEN, "none", x -> x.takeBack(0, 0, 100), 0);
        edge.in(SIXTEEN, "sixteen", x -> x.takeBack(0, 0, 45), 16);
        edge.in(SIXTEEN, "none of the other MAKER", x -> x.takeBack(0, 7, 45), 0);
        edge.in(SIXTEEN, "none of another WORK", x -> x.takeBack(1, 0, 45), 0);
        edge.in(SIXTEEN, "once more", x -> Edge.all(x.takeBack(0, 0, 45), x.takeBack(0, 0, 45)), "16 0");
        edge.in(SIXTEEN, "one YEAR earlier would be too early", x -> x.takeBack(0, 0, 44), 0);
        edge.in(SIXTEEN, "the last one alone is left", x -> x.takeBack(0, 0, 65), 1);
        edge.in(SIXTEEN, "none is left", x -> x.takeBack(0, 0, 66), 0);
        edge.says(16, "Throws IndexOutOfBoundsException if there is no such WORK or PERSON");
        edge.out(Starts.EMPTY, Edge.INDEX, "without WORKS", x -> x.takeBack(0, 0, 0));
        edge.range(SEVEN, Edge.INDEX, "work", 0, 6, (x, v) -> x.takeBack(v, 0, 45), 0, 0);
        edge.range(SEVEN, Edge.INDEX, "person", 0, 7, (x, v) -> x.takeBack(0, v, 45), 0, 0);
        edge.out(Starts.SOME, Edge.INDEX, "work 4", x -> x.takeBack(4, 0, 45));
        edge.out(Starts.FULL, Edge.INDEX, "person 8", x -> x.takeBack(0, 8, 45));
        edge.says(16, "Throws IllegalArgumentException if year is no YEAR");
        edge.range(SIXTEEN, Edge.ARGUMENT, "year", 0, 300, (x, v) -> x.takeBack(0, 0, v), 0, 0);
        edge.range(Starts.SOME, Edge.ARGUMENT, "year", 0, 300, (x, v) -> x.takeBack(0, 0, v), 0, 0);
        edge.says(16, "Throws IllegalStateException if that PERSON is no MAKER of it");
        edge.out(SEVEN, Edge.STATE, "no MAKER at all", x -> x.takeBack(0, 1, 45));
        edge.out(Starts.FULL, Edge.STATE, "a MAKER of others", x -> x.takeBack(0, 1, 45));
        edge.out(() -> handed(), Edge.STATE, "who HOLDS some", x -> x.takeBack(0, 2, 40));
        edge.out(() -> Starts.works(1), Edge.STATE, "a WORK without MAKERS", x -> x.takeBack(0, 0, 40));
        edge.in(() -> handed(), "a MAKER of one hundredth", x -> x.takeBack(1, 7, 300), 0);
        edge.several(16);
        edge.out(Starts.SOME, Edge.INDEX, "no WORK, no YEAR", x -> x.takeBack(4, 0, 301));
        edge.out(Starts.SOME, Edge.INDEX, "no PERSON, no YEAR", x -> x.takeBack(0, -1, -1));
        edge.out(Starts.SOME, Edge.INDEX, "no PERSON, so no MAKER", x -> x.takeBack(0, 8, 40));
        edge.out(Starts.SOME, Edge.INDEX, "no WORK, so no MAKER", x -> x.takeBack(-1, 7, 40));
        edge.out(Starts.SOME, Edge.ARGUMENT, "no YEAR, no MAKER", x -> x.takeBack(0, 7, 301));
        edge.out(Starts.FULL, Edge.ARGUMENT, "no YEAR, no MAKER", x -> x.takeBack(0, 1, -1));
        edge.out(Starts.SOME, Edge.INDEX, "all of them", x -> x.takeBack(4, 8, 301));
    }

    private static void promise16Years() {
        edge.says(16, "year: the YEAR");
        edge.in(() -> fromStart(), "0", x -> Edge.all(x.takeBack(0, 0, 0), told(x, 0)), "1 0 0 1 50 0 -1 1 -1");
        edge.in(() -> fromStart(), "300", x -> Edge.all(x.takeBack(0, 0, 300), told(x, 0)), "1 0 0 1 50 0 299 1 -1");
        edge.says(0, "all VALID ENTRIES of it from that MAKER, whose first YEAR and BEHIND are together that YEAR or"
            + " less, and whose last YEAR is that YEAR or more, have the YEAR ahead of it as their last one (all at"
            + " once, by what was VALID ahead of it).");
        Edge.Call lasts = x -> Edge.all(x.ofEntry(0, 5), x.ofEntry(1, 5), x.ofEntry(2, 5));
        int[] years = {29, 30, 31, 59, 60, 61};
        String[] due = {"0 60 59 60", "1 29 59 60", "2 30 30 60", "2 58 58 60", "1 59 59 60", "0 60 59 60"};
        for (int k = 0; k < 6; k++) {
            int year = years[k];
            edge.in(() -> handed(), "in " + year, x -> Edge.all(x.takeBack(0, 0, year), lasts.on(x)), due[k]);
        }
        edge.in(() -> handed(), "what was sold on is VALID till then alone",
            x -> Edge.all(x.takeBack(0, 0, 30), x.ofEntry(2, 6), x.holds(0, 4, 29), x.holds(0, 2, 29)), "1 0 0 50");
        edge.in(() -> handed(), "all is as ahead of it",
            x -> Edge.all(x.takeBack(0, 0, 40), x.undo(), lasts.on(x), x.holds(0, 4, 40)), "2 7 60 59 60 10");
        edge.in(() -> soldTwice(), "one that was not VALID stays", x -> Edge.all(x.takeBack(0, 0, 40), told(x, 1)),
            "1 0 0 3 100 20 60 0 0");
        edge.in(() -> soldAgain(), "all at once: one that was not VALID stays",
            x -> Edge.all(x.takeBack(0, 0, 20), lasts.on(x), x.ofEntry(2, 6)), "1 19 10 60 1");
        edge.in(() -> soldAgain(), "and ends the next time",
            x -> Edge.all(x.takeBack(0, 0, 20), x.takeBack(0, 0, 20), lasts.on(x)), "1 1 19 10 19");
        edge.in(() -> soldTwice(), "in the first YEAR",
            x -> Edge.all(x.takeBack(0, 0, 20), told(x, 0), told(x, 1)), "1 0 0 2 100 20 19 1 -1 0 0 3 100 20 60 1 -1");
    }

    /** 0 handed on a half for all YEARS, and may take it back at once. */
    private static Licenceweave fromStart() {
        Licenceweave x = allYears();
        x.behind(0);
        return x;
    }

    /** The same is sold twice, and something else in between. */
    private static Licenceweave soldAgain() {
        Licenceweave x = Starts.works(1);
        x.maker(0, 0, 100);
        x.behind(0);
        x.hand(0, 0, 2, 100, 20, 60);
        x.hand(0, 0, 3, 1, 10, 10);
        x.hand(0, 0, 4, 100, 20, 60);
        return x;
    }

    private static Licenceweave soldTwice() {
        Licenceweave x = Starts.works(1);
        x.maker(0, 0, 100);
        x.behind(0);
        x.hand(0, 0, 2, 100, 20, 60);
        x.hand(0, 0, 3, 100, 20, 60);
        return x;
    }

    private static void promise17() {
        edge.says(17, "years: BEHIND");
        edge.in(() -> allYears(), "0, in 0", x -> Edge.all(x.behind(0), x.takeBack(0, 0, 0)), "35 1");
        edge.in(() -> allYears(), "1, in 0", x -> Edge.all(x.behind(1), x.takeBack(0, 0, 0)), "35 0");
        edge.in(() -> allYears(), "1, in 1", x -> Edge.all(x.behind(1), x.takeBack(0, 0, 1)), "35 1");
        edge.in(() -> allYears(), "100, in 99", x -> Edge.all(x.behind(100), x.takeBack(0, 0, 99)), "35 0");
        edge.in(() -> allYears(), "100, in 100", x -> Edge.all(x.behind(100), x.takeBack(0, 0, 100)), "35 1");
        edge.in(() -> lateEntry(), "100, behind all YEARS",
            x -> Edge.all(x.behind(100), x.takeBack(0, 0, 300)), "35 0");
        edge.in(() -> lateEntry(), "99, in the last YEAR", x -> Edge.all(x.behind(99), x.takeBack(0, 0, 300)), "35 1");
        edge.says(17, "Returns that before.");
        Licenceweave one = new Licenceweave();
        int[] years = {0, 100, 35, 35, 0};
        int[] before = {35, 0, 100, 35, 35};
        for (int k = 0; k < years.length; k++) {
            edge.is("before " + years[k], one.behind(years[k]), before[k]);
            edge.is("it", one.house(4), years[k]);
        }
        edge.says(17, "Throws IllegalArgumentException if years is not 0 to 100");
        edge.range(Starts.EMPTY, Edge.ARGUMENT, "years", 0, 100, (x, v) -> x.behind(v), 35, 35);
        edge.range(Starts.SOME, Edge.ARGUMENT, "years", 0, 100, (x, v) -> x.behind(v), 30, 30);
        edge.range(Starts.FULL, Edge.ARGUMENT, "years", 0, 100, (x, v) -> x.behind(v), 100, 100);
        edge.says(0, "BEHIND (35 at first, 0 to 100)");
        edge.in(() -> allYears(), "34", x -> x.takeBack(0, 0, 34), 0);
        edge.in(() -> allYears(), "35", x -> x.takeBack(0, 0, 35), 1);
    }

    private static Licenceweave lateEntry() {
        Licenceweave x = seven();
        x.hand(0, 0, 1, 1, 201, 300);
        return x;
    }

    private static void promise39() {
        edge.says(39, "work: a WORK");
        edge.in(() -> lateEntry(), "the first one", x -> x.holds(0, 0, 201), 49);
        edge.in(() -> lateEntry(), "the last one", x -> x.holds(6, 0, 201), 50);
        edge.says(39, "person: a PERSON");
        edge.in(SEVEN, "the first one", x -> x.holds(3, 0, 0), 50);
        edge.in(SEVEN, "the last one", x -> x.holds(3, 7, 0), 50);
        edge.in(SEVEN, "another one", x -> x.holds(3, 1, 0), 0);
        edge.says(39, "year: a YEAR");
        edge.in(() -> ends(), "0", x -> Edge.all(x.holds(0, 1, 0), x.holds(0, 2, 0)), "50 0");
        edge.in(() -> ends(), "1", x -> Edge.all(x.holds(0, 1, 1), x.holds(0, 2, 1)), "0 0");
        edge.in(() -> ends(), "299", x -> Edge.all(x.holds(0, 1, 299), x.holds(0, 2, 299)), "0 0");
        edge.in(() -> ends(), "300", x -> Edge.all(x.holds(0, 1, 300), x.holds(0, 2, 300)), "0 50");
        edge.says(39, "Returns how much it HOLDS then.");
        edge.in(() -> ends(), "nothing any more", x -> x.holds(0, 0, 300), 0);
        edge.in(() -> handed(), "all", x -> x.holds(0, 0, 19), 100);
        edge.in(() -> handed(), "in the first YEAR", x -> Edge.all(x.holds(0, 0, 20), x.holds(0, 2, 20)), "50 40");
        edge.in(() -> handed(), "of both", x -> Edge.all(x.holds(0, 0, 21), x.holds(0, 3, 21)), "0 50");
        edge.in(() -> handed(), "in the last YEAR", x -> Edge.all(x.holds(0, 0, 59), x.holds(0, 3, 59)), "0 50");
        edge.in(() -> handed(), "behind it", x -> Edge.all(x.holds(0, 0, 60), x.holds(0, 3, 60)), "50 0");
        edge.in(() -> handed(), "the last YEAR of what was sold on", x -> x.holds(0, 4, 60), 10);
        edge.in(() -> handed(), "behind all", x -> Edge.all(x.holds(0, 0, 61), x.holds(0, 4, 61)), "100 0");
        edge.in(() -> gathered(), "all by sixteen ENTRIES",
            x -> Edge.all(x.holds(0, 1, 50), x.holds(0, 0, 50)), "100 0");
        edge.says(39, "Throws IndexOutOfBoundsException if there is no such WORK or PERSON");
        edge.out(Starts.EMPTY, Edge.INDEX, "without WORKS", x -> x.holds(0, 0, 0));
        edge.range(SEVEN, Edge.INDEX, "work", 0, 6, (x, v) -> x.holds(v, 0, 45), 50, 50);
        edge.range(SEVEN, Edge.INDEX, "person", 0, 7, (x, v) -> x.holds(0, v, 45), 50, 50);
        edge.range(Starts.SOME, Edge.INDEX, "work", 0, 3, (x, v) -> x.holds(v, 3, 45), 0, 90);
        edge.says(39, "Throws IllegalArgumentException if year is no YEAR");
        edge.range(Starts.SOME, Edge.ARGUMENT, "year", 0, 300, (x, v) -> x.holds(0, 0, v), 60, 60);
        edge.range(Starts.FULL, Edge.ARGUMENT, "year", 0, 300, (x, v) -> x.holds(6, 7, v), 40, 40);
        edge.several(39);
        edge.out(Starts.SOME, Edge.INDEX, "no WORK, no YEAR", x -> x.holds(4, 0, 301));
        edge.out(Starts.SOME, Edge.INDEX, "no PERSON, no YEAR", x -> x.holds(0, 8, -1));
    }

    /** 0 handed on its half in the YEAR 0, and in the YEAR 300. */
    private static Licenceweave ends() {
        Licenceweave x = seven();
        x.hand(0, 0, 1, 50, 0, 0);
        x.hand(0, 0, 2, 50, 300, 300);
        return x;
    }

    private static Licenceweave gathered() {
        Licenceweave x = Starts.works(1);
        x.maker(0, 0, 100);
        for (int k = 0; k < 16; k++) {
            x.hand(0, 0, 1, k == 0 ? 10 : 6, 50, 50);
        }
        return x;
    }

    private static void promise40() {
        edge.says(40, "entry: an ENTRY");
        edge.in(SIXTEEN, "the first one", x -> told(x, 0), "0 0 1 1 10 50 1 -1");
        edge.in(SIXTEEN, "the last one", x -> told(x, 15), "0 0 1 1 10 65 1 -1");
        edge.says(40, "what: 0 its WORK, 1 from whom, 2 to whom, 3 part, 4 first YEAR, 5 last YEAR, 6 1 if it is VALID,"
            + " otherwise 0, 7 TWICE (NONE, if it is VALID, or there is none)");
        edge.in(() -> extremes(), "the least", x -> told(x, 0), "0 0 7 1 0 0 1 -1");
        edge.in(() -> extremes(), "the most", x -> told(x, 1), "6 7 0 100 300 300 0 -1");
        edge.in(() -> extremes(), "TWICE", x -> told(x, 2), "0 0 7 50 0 300 0 0");
        edge.says(40, "Returns that.");
        edge.in(Starts.FULL, "of the last one", x -> told(x, 15), "6 1 2 100 0 300 0 -1");
        edge.says(40, "Throws IndexOutOfBoundsException if there is no such ENTRY");
        edge.out(Starts.EMPTY, Edge.INDEX, "in an empty one", x -> x.ofEntry(0, 0));
        edge.out(SEVEN, Edge.INDEX, "without ENTRIES", x -> x.ofEntry(0, 0));
        edge.range(SIXTEEN, Edge.INDEX, "entry", 0, 15, (x, v) -> x.ofEntry(v, 5), 50, 65);
        edge.range(Starts.SOME, Edge.INDEX, "entry", 0, 2, (x, v) -> x.ofEntry(v, 3), 20, 50);
        edge.says(40, "Throws IllegalArgumentException if what is not 0 to 7");
        edge.range(SIXTEEN, Edge.ARGUMENT, "what", 0, 7, (x, v) -> x.ofEntry(15, v), 0, -1);
        edge.range(Starts.SOME, Edge.ARGUMENT, "what", 0, 7, (x, v) -> x.ofEntry(2, v), 0, 0);
        edge.several(40);
        edge.out(SIXTEEN, Edge.INDEX, "no ENTRY, no such thing", x -> x.ofEntry(16, 8));
        edge.out(SIXTEEN, Edge.INDEX, "no ENTRY, no such thing", x -> x.ofEntry(-1, -1));
    }

    private static Licenceweave extremes() {
        Licenceweave x = seven();
        x.hand(0, 0, 7, 1, 0, 0);
        x.hand(6, 7, 0, 100, 300, 300);
        x.hand(0, 0, 7, 50, 0, 300);
        return x;
    }

    /** Whether 2 may hand on that part for those YEARS, when it HOLDS 30 from 40 to 60, and 10 more from 45 to 50. */
    private static int valid(int part, int first, int last) {
        Licenceweave x = Starts.works(1);
        x.maker(0, 0, 100);
        x.hand(0, 0, 2, 30, 40, 60);
        x.hand(0, 0, 2, 10, 45, 50);
        x.hand(0, 2, 3, part, first, last);
        return x.ofEntry(2, 6);
    }

    private static void promise40Valid() {
        edge.says(0, "in each of its YEARS the one from whom it comes HOLDS as much by what is ahead of it");
        edge.is("just as much", valid(30, 40, 60), 1);
        edge.is("one more", valid(31, 40, 60), 0);
        edge.is("one less", valid(29, 40, 60), 1);
        edge.is("a YEAR too early", valid(1, 39, 60), 0);
        edge.is("a YEAR too long", valid(1, 40, 61), 0);
        edge.is("in the first YEAR alone", valid(30, 40, 40), 1);
        edge.is("in the last YEAR alone", valid(30, 60, 60), 1);
        edge.is("in the YEAR ahead of it alone", valid(1, 39, 39), 0);
        edge.is("in the YEAR behind it alone", valid(1, 61, 61), 0);
        edge.is("of both", valid(40, 45, 50), 1);
        edge.is("of both, one more", valid(41, 45, 50), 0);
        edge.is("of both, a YEAR too early", valid(40, 44, 50), 0);
        edge.is("of both, a YEAR too long", valid(40, 45, 51), 0);
        edge.is("more than the one, around the YEARS of the other", valid(31, 41, 59), 0);
        edge.is("in all YEARS", valid(1, 0, 300), 0);
        edge.says(0, "So of two sales of the same the earlier ENTRY counts.");
        edge.in(() -> soldTwice(), "the earlier one", x -> told(x, 0), "0 0 2 100 20 60 1 -1");
        edge.in(() -> soldTwice(), "the later one", x -> told(x, 1), "0 0 3 100 20 60 0 0");
        edge.in(() -> soldTwice(), "a YEAR of the earlier one is left",
            x -> Edge.all(x.back(0, 21), x.ofEntry(1, 6), x.ofEntry(1, 7)), "60 0 0");
        edge.in(() -> soldTwice(), "no YEAR of the earlier one is left",
            x -> Edge.all(x.back(0, 20), x.ofEntry(1, 6), x.ofEntry(1, 7)), "60 1 -1");
    }

    private static void promise40Short() {
        edge.says(0, "in each of its YEARS the one from whom it comes HOLDS as much by what is ahead of it");
        for (int year = 40; year <= 44; year++) {
            Licenceweave x = Starts.works(2);
            x.maker(0, 0, 100);
            x.maker(1, 0, 100);
            x.hand(0, 0, 1, 1, year, year);
            x.hand(0, 0, 2, 100, 40, 44);
            edge.is("too little in one YEAR: " + year, x.ofEntry(1, 6), 0);
            x.hand(1, 0, 2, 100, 40, 44);
            edge.is("that of another WORK", x.ofEntry(2, 6), 1);
            x.hand(0, 0, 2, 99, 40, 44);
            edge.is("one less", x.ofEntry(3, 6), 1);
            x.back(0, year);
            edge.is("when it is over", x.ofEntry(1, 6), 1);
            edge.is("what is behind it is not VALID then", x.ofEntry(3, 6), 0);
        }
        Licenceweave y = Starts.works(1);
        y.maker(0, 0, 100);
        y.hand(0, 1, 2, 100, 40, 44);
        y.hand(0, 0, 1, 100, 40, 44);
        edge.is("what is behind it does not count", y.ofEntry(0, 6), 0);
        Licenceweave z = Starts.works(1);
        z.maker(0, 0, 100);
        for (int k = 0; k < 16; k++) {
            z.hand(0, k % 8, (k + 1) % 8, 100, 40 + k, 80);
            edge.is("from one to the next one " + k, z.ofEntry(k, 6), 1);
        }
        z.back(0, 80);
        for (int k = 0; k < 16; k++) {
            edge.is("all hang on the first one " + k, z.ofEntry(k, 6), k == 0 ? 1 : 0);
        }
    }

    /** TWICE of a sale of all by 0, for those YEARS, behind others: by 0, for the YEARS 20 to 40 and 41 to 60. */
    private static int twice(int first, int last) {
        Licenceweave x = Starts.works(2);
        x.maker(0, 0, 60);
        x.maker(0, 1, 40);
        x.maker(1, 0, 100);
        x.hand(1, 0, 2, 100, 0, 300);
        x.hand(0, 1, 2, 40, 0, 300);
        x.hand(0, 0, 2, 61, 0, 300);
        x.hand(0, 0, 2, 1, 41, 60);
        x.hand(0, 0, 2, 1, 20, 40);
        x.hand(0, 0, 3, 100, first, last);
        return x.ofEntry(5, 7);
    }

    private static void promise40Twice() {
        edge.says(0, "TWICE of an ENTRY that is not VALID: the first ENTRY ahead of it that is VALID, of the same WORK,"
            + " from the same PERSON, and has a YEAR that it has, too.");
        edge.is("ahead of all", twice(0, 19), -1);
        edge.is("the first YEAR", twice(0, 20), 4);
        edge.is("the last YEAR", twice(40, 40), 4);
        edge.is("both", twice(40, 41), 3);
        edge.is("the other one alone", twice(41, 41), 3);
        edge.is("its last YEAR", twice(60, 300), 3);
        edge.is("behind all", twice(61, 300), -1);
        edge.is("all YEARS", twice(0, 300), 3);
        edge.in(SIXTEEN, "one that is VALID", x -> x.ofEntry(15, 7), -1);
        edge.in(FIFTEEN, "the last one of 16", x -> Edge.all(x.hand(0, 0, 2, 100, 0, 300), x.ofEntry(15, 7)), "15 0");
        edge.in(() -> ended(), "the one ahead has no YEARS", x -> x.house(3), 16);
    }

    private static void promise41() {
        edge.says(41, "work: a WORK");
        edge.in(() -> lateEntry(), "the first one", x -> x.chain(0, 1, 201), "1<0");
        edge.in(() -> lateEntry(), "the last one", x -> x.chain(6, 1, 201), "-");
        edge.says(41, "person: a PERSON");
        edge.in(SEVEN, "the first one", x -> x.chain(3, 0, 0), "0");
        edge.in(SEVEN, "the last one", x -> x.chain(3, 7, 0), "7");
        edge.says(41, "year: a YEAR");
        edge.in(() -> ends(), "0", x -> Edge.all(x.chain(0, 1, 0), x.chain(0, 0, 0)), "1<0 -");
        edge.in(() -> ends(), "1", x -> Edge.all(x.chain(0, 1, 1), x.chain(0, 0, 1)), "- 0");
        edge.in(() -> ends(), "299", x -> Edge.all(x.chain(0, 2, 299), x.chain(0, 0, 299)), "- 0");
        edge.in(() -> ends(), "300", x -> Edge.all(x.chain(0, 2, 300), x.chain(0, 0, 300)), "2<0 -");
        edge.says(41, "Throws IndexOutOfBoundsException if there is no such WORK or PERSON");
        edge.out(Starts.EMPTY, Edge.INDEX, "without WORKS", x -> x.chain(0, 0, 0));
        edge.range(SEVEN, Edge.INDEX, "work", 0, 6, (x, v) -> x.chain(v, 7, 45), "7", "7");
        edge.range(SEVEN, Edge.INDEX, "person", 0, 7, (x, v) -> x.chain(0, v, 45), "0", "7");
        edge.range(Starts.SOME, Edge.INDEX, "work", 0, 3, (x, v) -> x.chain(v, 3, 45), "-", "3");
        edge.says(41, "Throws IllegalArgumentException if year is no YEAR");
        edge.range(Starts.SOME, Edge.ARGUMENT, "year", 0, 300, (x, v) -> x.chain(0, 0, v), "0", "0");
        edge.range(Starts.FULL, Edge.ARGUMENT, "year", 0, 300, (x, v) -> x.chain(6, 7, v), "7", "7");
        edge.several(41);
        edge.out(Starts.SOME, Edge.INDEX, "no WORK, no YEAR", x -> x.chain(4, 0, 301));
        edge.out(Starts.SOME, Edge.INDEX, "no PERSON, no YEAR", x -> x.chain(0, 8, -1));
    }

    private static void promise41Chain() {
        edge.says(41, "Returns its CHAIN, with \"<\" between two; \"-\", if it HOLDS nothing then.");
        edge.in(SEVEN, "no ENTRY", x -> x.chain(0, 0, 45), "0");
        edge.in(SEVEN, "HOLDS nothing", x -> x.chain(0, 1, 45), "-");
        edge.in(() -> soldTwice(), "by one that is not VALID", x -> x.chain(0, 3, 40), "-");
        edge.in(() -> soldTwice(), "all was handed on", x -> x.chain(0, 0, 40), "-");
        Licenceweave x = Starts.works(1);
        x.maker(0, 0, 100);
        StringBuilder due = new StringBuilder("0");
        for (int k = 0; k < 16; k++) {
            x.hand(0, k % 8, (k + 1) % 8, 100, 40 + k, 100 - k);
            due.insert(0, (k + 1) % 8 + "<");
            edge.is("as long as can be " + k, x.chain(0, (k + 1) % 8, 60), due.toString());
        }
        edge.is("in the first YEAR of the last ENTRY", x.chain(0, 0, 55), due.toString());
        edge.is("in the YEAR ahead of it", x.chain(0, 7, 54), due.substring(2));
        edge.is("ahead of it", x.chain(0, 0, 54), "-");
        edge.is("in its last YEAR", x.chain(0, 0, 85), due.toString());
        edge.is("in the YEAR behind it", x.chain(0, 7, 86), due.substring(2));
        edge.is("behind it", x.chain(0, 0, 86), "-");
        Licenceweave y = seven();
        y.hand(0, 0, 1, 1, 40, 60);
        y.hand(0, 7, 1, 1, 50, 60);
        y.hand(0, 1, 2, 2, 55, 60);
        y.hand(0, 0, 1, 1, 55, 60);
        edge.is("one hundredth", y.chain(0, 1, 49), "1<0");
        edge.is("by the last one that came to it", y.chain(0, 1, 50), "1<7");
        edge.is("ahead of the one that was followed last", y.chain(0, 2, 55), "2<1<7");
        edge.is("by the last one of all", y.chain(0, 1, 55), "1<0");
        y.back(3, 55);
        edge.is("nothing is left to it", y.chain(0, 1, 55), "-");
        y.back(1, 50);
        edge.is("what was sold on is not VALID any more", y.chain(0, 2, 55), "-");
        edge.is("by the one without YEARS nothing came", y.chain(0, 1, 55), "1<0");
    }
}
