/** The boundary cases of promises 18 to 21, 25 and 42, sentence by sentence. */
public final class EdgeOfPaymentsTest {
    private static final Edge edge = new Edge("EdgeOfPaymentsTest");
    private static final Edge.Start ROW = EdgeOfPaymentsTest::row;

    public static void main(String[] args) {
        promise18();
        promise19();
        promise20();
        promise21();
        promise21Years();
        promise21Split();
        promise21Cap();
        promise25();
        promise42();
        promise42Fractions();
        promise42Layers();
        edge.end(18, 19, 20, 21, 25, 42);
    }

    /** Seven WORKS of the YEAR 10, each of which its own PERSON made, and copies a half of the one ahead of it. */
    private static Licenceweave row() {
        Licenceweave x = Starts.works(7);
        for (int k = 0; k < 7; k++) {
            x.maker(k, k, 100);
            if (k > 0) {
                x.use(k, k - 1, 0, 50);
            }
        }
        return x;
    }

    /** A WORK that the PERSON 0 made, and one that 7 made. */
    private static Licenceweave two() {
        Licenceweave x = Starts.works(2);
        x.maker(0, 0, 100);
        x.maker(1, 7, 100);
        return x;
    }

    private static void promise18() {
        edge.says(18, "person: the PERSON");
        edge.in(() -> two(), "the first one", x -> Edge.all(x.advance(0, 5), x.ofHand(0, 2), x.ofHand(7, 2)), "5 5 0");
        edge.in(() -> two(), "the last one", x -> Edge.all(x.advance(7, 5), x.ofHand(0, 2), x.ofHand(7, 2)), "5 0 5");
        edge.says(18, "coins: by how much");
        edge.in(() -> two(), "0", x -> Edge.all(x.advance(0, 0), x.ofHand(0, 2)), "0 0");
        edge.in(() -> two(), "9999", x -> Edge.all(x.advance(0, 9999), x.ofHand(0, 2)), "9999 9999");
        edge.says(18, "Returns how much of it is open then.");
        edge.in(() -> two(), "it grows", x -> Edge.all(x.advance(0, 9999), x.advance(0, 0), x.advance(0, 9999)),
            "9999 9999 19998");
        edge.in(() -> two(), "as much as was taken off is open no more",
            x -> Edge.all(x.advance(0, 10), x.sale(0, 0, 10, 9), x.advance(0, 0), x.advance(0, 5)), "10 0 1 6");
        edge.says(0, "of that its ADVANCE is taken off, as far as it is still open; what is left is PAID to it.");
        edge.in(() -> two(), "one coin less than is open", x -> owed(x, 10, 9), "0 1 9 0");
        edge.in(() -> two(), "just what is open", x -> owed(x, 10, 10), "0 0 10 0");
        edge.in(() -> two(), "one coin more", x -> owed(x, 10, 11), "1 0 11 1");
        edge.in(() -> two(), "nothing is open", x -> owed(x, 0, 11), "11 0 11 11");
        edge.in(() -> two(), "no coins", x -> owed(x, 10, 0), "0 10 0 0");
        edge.says(18, "Throws IndexOutOfBoundsException if there is no such PERSON");
        edge.range(Starts.EMPTY, Edge.INDEX, "person", 0, 7, (x, v) -> x.advance(v, 1), 1, 1);
        edge.range(Starts.SOME, Edge.INDEX, "person", 0, 7, (x, v) -> x.advance(v, 1), 1, 1);
        edge.says(18, "Throws IllegalArgumentException if coins is not 0 to 9999");
        edge.range(Starts.EMPTY, Edge.ARGUMENT, "coins", 0, 9999, (x, v) -> x.advance(7, v), 0, 9999);
        edge.range(Starts.FULL, Edge.ARGUMENT, "coins", 0, 9999, (x, v) -> x.advance(0, v), 0, 9999);
        edge.several(18);
        edge.out(Starts.SOME, Edge.INDEX, "no PERSON, no coins", x -> x.advance(8, -1));
        edge.out(Starts.SOME, Edge.INDEX, "no PERSON, too many", x -> x.advance(-1, 10000));
    }

    /** PAID by a SALE, what is open then, what was EARNED, what was PAID in all. */
    private static String owed(Licenceweave x, int open, int coins) {
        x.advance(0, open);
        return Edge.all(x.sale(0, 0, 10, coins), x.ofHand(0, 2), x.ofHand(0, 3), x.ofHand(0, 4));
    }

    private static void promise19() {
        edge.says(19, "person: the PERSON");
        edge.in(() -> two(), "the first one", x -> Edge.all(x.cap(0, 5), x.ofHand(0, 1), x.ofHand(7, 1)), "-1 5 -1");
        edge.in(() -> two(), "the last one", x -> Edge.all(x.cap(7, 5), x.ofHand(0, 1), x.ofHand(7, 1)), "-1 -1 5");
        edge.says(19, "coins: its CAP; NONE: without one (at first)");
        edge.in(() -> two(), "at first", x -> x.ofHand(0, 1), -1);
        edge.in(() -> two(), "NONE", x -> Edge.all(x.cap(0, -1), x.ofHand(0, 1), x.sale(0, 0, 10, 9999)), "-1 -1 9999");
        edge.in(() -> two(), "0", x -> Edge.all(x.cap(0, 0), x.ofHand(0, 1), x.sale(0, 0, 10, 9999)), "-1 0 0");
        edge.in(() -> two(), "1", x -> Edge.all(x.cap(0, 1), x.ofHand(0, 1), x.sale(0, 0, 10, 9999)), "-1 1 1");
        edge.in(() -> two(), "99999",
            x -> Edge.all(x.cap(0, 99999), x.ofHand(0, 1), sales(x, 10), x.sale(0, 0, 10, 10)),
            "-1 99999 99990 9");
        edge.says(19, "Returns that before.");
        Licenceweave one = new Licenceweave();
        int[] caps = {0, 99999, -1, -1, 1};
        int[] before = {-1, 0, 99999, -1, -1};
        for (int k = 0; k < caps.length; k++) {
            edge.is("before " + caps[k], one.cap(4, caps[k]), before[k]);
        }
        edge.says(19, "Throws IndexOutOfBoundsException if there is no such PERSON");
        edge.range(Starts.EMPTY, Edge.INDEX, "person", 0, 7, (x, v) -> x.cap(v, 1), -1, -1);
        edge.range(Starts.SOME, Edge.INDEX, "person", 0, 7, (x, v) -> x.cap(v, 1), 40, -1);
        edge.says(19, "Throws IllegalArgumentException if coins is not NONE to 99999");
        edge.range(Starts.EMPTY, Edge.ARGUMENT, "coins", -1, 99999, (x, v) -> x.cap(7, v), -1, -1);
        edge.range(Starts.SOME, Edge.ARGUMENT, "coins", -1, 99999, (x, v) -> x.cap(0, v), 40, 40);
        edge.several(19);
        edge.out(Starts.SOME, Edge.INDEX, "no PERSON, no coins", x -> x.cap(8, -2));
        edge.out(Starts.SOME, Edge.INDEX, "no PERSON, too many", x -> x.cap(-1, 100000));
    }

    /** Sells the WORK 0 so often for 9999 coins; what is PAID. */
    private static int sales(Licenceweave x, int count) {
        int sum = 0;
        for (int k = 0; k < count; k++) {
            sum += x.sale(0, 0, 10, 9999);
        }
        return sum;
    }

    private static void promise20() {
        edge.says(20, "work: the WORK");
        edge.in(ROW, "the first one", x -> Edge.all(x.floor(0, 7), x.ofWork(0, 8), x.ofWork(6, 8)), "0 7 0");
        edge.in(ROW, "the last one", x -> Edge.all(x.floor(6, 7), x.ofWork(0, 8), x.ofWork(6, 8)), "0 0 7");
        edge.says(20, "coins: its FLOOR");
        edge.in(ROW, "0", x -> Edge.all(x.floor(0, 0), x.sale(1, 0, 10, 1), x.ofHand(0, 3)), "0 1 1");
        edge.in(ROW, "1", x -> Edge.all(x.floor(0, 1), x.sale(1, 0, 10, 1), x.ofHand(0, 3)), "0 1 1");
        edge.in(ROW, "2", x -> Edge.all(x.floor(0, 2), x.sale(1, 0, 10, 1), x.ofHand(0, 3)), "0 1 0");
        edge.in(ROW, "9999", x -> Edge.all(x.floor(0, 9999), x.sale(1, 0, 10, 9998), x.ofHand(0, 3)), "0 9998 0");
        edge.in(ROW, "9999, just as many", x -> Edge.all(x.floor(0, 9999), x.sale(1, 0, 10, 9999), x.ofHand(0, 3)),
            "0 9999 5000");
        edge.says(0, "By a SALE of fewer coins than the FLOOR of a WORK that is USED that USE brings nothing.");
        edge.in(ROW, "fewer by one", x -> Edge.all(x.floor(0, 100), x.sale(1, 0, 10, 99), x.ofHand(0, 3)), "0 99 0");
        edge.in(ROW, "just as many", x -> Edge.all(x.floor(0, 100), x.sale(1, 0, 10, 100), x.ofHand(0, 3)), "0 100 50");
        edge.in(ROW, "that of the WHOLE",
            x -> Edge.all(x.floor(1, 100), x.sale(1, 0, 10, 10), x.ofHand(0, 3)), "0 10 5");
        edge.in(ROW, "that of the one in between", x -> Edge.all(x.floor(1, 100), x.sale(2, 0, 10, 80), x.ofHand(0, 3),
            x.ofHand(1, 3), x.ofHand(2, 3)), "0 80 0 0 80");
        edge.in(ROW, "that of the one below", x -> Edge.all(x.floor(0, 100), x.sale(2, 0, 10, 80), x.ofHand(0, 3),
            x.ofHand(1, 3), x.ofHand(2, 3)), "0 80 0 40 40");
        edge.says(20, "Returns that before.");
        Licenceweave one = Starts.works(1);
        int[] floors = {9999, 0, 1, 1};
        int[] before = {0, 9999, 0, 1};
        for (int k = 0; k < floors.length; k++) {
            edge.is("before " + floors[k], one.floor(0, floors[k]), before[k]);
        }
        edge.says(20, "Throws IndexOutOfBoundsException if there is no such WORK");
        edge.out(Starts.EMPTY, Edge.INDEX, "without WORKS", x -> x.floor(0, 0));
        edge.range(ROW, Edge.INDEX, "work", 0, 6, (x, v) -> x.floor(v, 1), 0, 0);
        edge.range(Starts.SOME, Edge.INDEX, "work", 0, 3, (x, v) -> x.floor(v, 1), 0, 0);
        edge.says(20, "Throws IllegalArgumentException if coins is not 0 to 9999");
        edge.range(ROW, Edge.ARGUMENT, "coins", 0, 9999, (x, v) -> x.floor(3, v), 0, 0);
        edge.range(Starts.SOME, Edge.ARGUMENT, "coins", 0, 9999, (x, v) -> x.floor(1, v), 12, 12);
        edge.several(20);
        edge.out(Starts.SOME, Edge.INDEX, "no WORK, no coins", x -> x.floor(4, -1));
        edge.out(Starts.SOME, Edge.INDEX, "no WORK, too many", x -> x.floor(-1, 10000));
    }

    private static void promise21() {
        edge.says(21, "work: the WORK");
        edge.in(ROW, "the first one", x -> Edge.all(x.sale(0, 0, 10, 64), x.ofHand(0, 3), x.ofHand(6, 3)), "64 64 0");
        edge.in(ROW, "the last one", x -> Edge.all(x.sale(6, 0, 10, 64), x.ofHand(0, 3), x.ofHand(6, 3)), "64 1 32");
        edge.says(21, "land: in which LAND");
        for (int k = 0; k <= 2; k++) {
            int land = k;
            edge.in(ROW, "FREE there",
                x -> Edge.all(x.list(land, 0, 1), x.sale(1, land, 10, 4), x.ofHand(0, 3)), "0 4 0");
            edge.in(ROW, "FREE elsewhere",
                x -> Edge.all(x.list((land + 1) % 3, 0, 1), x.sale(1, land, 10, 4), x.ofHand(0, 3)), "0 4 2");
        }
        edge.says(21, "coins: for how many coins");
        edge.in(ROW, "0", x -> Edge.all(x.sale(1, 0, 10, 0), x.house(5), x.ofHand(0, 3), x.ofHand(1, 3)), "0 0 0 0");
        edge.in(ROW, "1", x -> Edge.all(x.sale(1, 0, 10, 1), x.house(5), x.ofHand(0, 3), x.ofHand(1, 3)), "1 1 1 0");
        edge.in(ROW, "9999", x -> Edge.all(x.sale(1, 0, 10, 9999), x.house(5), x.ofHand(0, 3), x.ofHand(1, 3)),
            "9999 9999 5000 4999");
        edge.says(21, "Returns what is PAID of it to PERSONS, together.");
        edge.in(() -> Starts.works(1), "all goes to the CHEST", x -> Edge.all(x.sale(0, 0, 10, 9999), x.ofHand(8, 3)),
            "0 9999");
        edge.in(() -> eight(), "to eight PERSONS", x -> x.sale(0, 0, 10, 9600), 9600);
        edge.in(() -> eight(), "but for ADVANCES",
            x -> Edge.all(x.advance(0, 9999), x.advance(7, 1), x.sale(0, 0, 10, 9600)), "9999 1 8447");
        edge.in(() -> eight(), "but for what is above a CAP",
            x -> Edge.all(x.cap(0, 0), x.cap(7, 1), x.sale(0, 0, 10, 9600), x.ofHand(8, 3)), "-1 -1 6913 2687");
        edge.says(21, "Throws IndexOutOfBoundsException if there is no such WORK or LAND");
        edge.out(Starts.EMPTY, Edge.INDEX, "without WORKS", x -> x.sale(0, 0, 10, 1));
        edge.range(ROW, Edge.INDEX, "work", 0, 6, (x, v) -> x.sale(v, 0, 10, 64), 64, 64);
        edge.range(ROW, Edge.INDEX, "land", 0, 2, (x, v) -> x.sale(3, v, 10, 64), 64, 64);
        edge.range(Starts.SOME, Edge.INDEX, "work", 0, 3, (x, v) -> x.sale(v, 0, 300, 10), 6, 9);
        edge.says(21, "Throws IllegalArgumentException if year is no YEAR, or ahead of the one in which it was made,"
            + " or coins not 0 to 9999");
        edge.range(ROW, Edge.ARGUMENT, "coins", 0, 9999, (x, v) -> x.sale(3, 0, 10, v), 0, 9999);
        edge.range(Starts.FULL, Edge.ARGUMENT, "coins", 0, 9999, (x, v) -> x.sale(6, 2, 100, v), 0, 8260);
        edge.several(21);
        edge.out(Starts.SOME, Edge.INDEX, "no WORK, no YEAR", x -> x.sale(4, 0, 301, 1));
        edge.out(Starts.SOME, Edge.INDEX, "no LAND, ahead of its YEAR", x -> x.sale(0, 3, 9, 1));
        edge.out(Starts.SOME, Edge.INDEX, "no LAND, too many coins", x -> x.sale(0, -1, 10, 10000));
    }

    /** A WORK that all eight made to 12 hundredths each, 7 to 16. */
    private static Licenceweave eight() {
        Licenceweave x = Starts.works(1);
        for (int k = 0; k < 8; k++) {
            x.maker(0, k, k == 7 ? 16 : 12);
        }
        return x;
    }

    private static void promise21Years() {
        edge.says(21, "year: in which YEAR");
        edge.in(() -> sold(), "the last one in which it is not FREE",
            x -> Edge.all(x.sale(1, 0, 60, 4), x.ofHand(0, 3), x.ofHand(7, 3)), "4 2 2");
        edge.in(() -> sold(), "the first one in which it is",
            x -> Edge.all(x.sale(1, 0, 61, 4), x.ofHand(0, 3), x.ofHand(7, 3)), "4 0 4");
        edge.in(() -> sold(), "ahead of what was handed on", x -> Edge.all(x.sale(1, 0, 99, 4), x.ofHand(6, 3)), "4 0");
        edge.in(() -> sold(), "its first YEAR", x -> Edge.all(x.sale(1, 0, 100, 4), x.ofHand(6, 3)), "4 2");
        edge.in(() -> sold(), "its last YEAR", x -> Edge.all(x.sale(1, 0, 110, 4), x.ofHand(6, 3)), "4 2");
        edge.in(() -> sold(), "behind it", x -> Edge.all(x.sale(1, 0, 111, 4), x.ofHand(6, 3)), "4 0");
        edge.says(21, "Throws IllegalArgumentException if year is no YEAR, or ahead of the one in which it was made,"
            + " or coins not 0 to 9999");
        edge.range(() -> sold(), Edge.ARGUMENT, "made in 20:", 20, 300, (x, v) -> x.sale(1, 0, v, 4), 4, 4);
        edge.out(() -> sold(), Edge.ARGUMENT, "0", x -> x.sale(1, 0, 0, 4));
        edge.range(() -> made(0), Edge.ARGUMENT, "made in 0:", 0, 300, (x, v) -> x.sale(0, 0, v, 4), 4, 4);
        edge.range(() -> made(300), Edge.ARGUMENT, "made in 300:", 300, 300, (x, v) -> x.sale(0, 0, v, 4), 4, 4);
        edge.range(Starts.FULL, Edge.ARGUMENT, "made in 70:", 70, 300, (x, v) -> x.sale(6, 2, v, 0), 0, 0);
    }

    private static Licenceweave made(int year) {
        Licenceweave x = Starts.made(year);
        x.maker(0, 0, 100);
        return x;
    }

    /** 1, of the YEAR 20, copies a half of 0, that is FREE from 61 on; 7 handed on a half of 1 from 100 to 110. */
    private static Licenceweave sold() {
        Licenceweave x = Starts.made(10, 20);
        x.maker(0, 0, 100);
        x.maker(1, 7, 100);
        x.land(0, 10, 10, 5, false);
        x.death(0, 50);
        x.use(1, 0, 0, 50);
        x.hand(1, 7, 6, 50, 100, 110);
        return x;
    }

    /** What each HAND gets of so many coins for a WORK that has MAKERS with these parts, from 0 on. */
    private static String split(int coins, int... parts) {
        Licenceweave x = Starts.works(1);
        for (int k = 0; k < parts.length; k++) {
            if (parts[k] > 0) {
                x.maker(0, k, parts[k]);
            }
        }
        x.sale(0, 0, 10, coins);
        StringBuilder text = new StringBuilder();
        for (int hand = 0; hand <= 8; hand++) {
            text.append(hand > 0 ? " " : "").append(x.ofHand(hand, 3));
        }
        return text.toString();
    }

    private static void promise21Split() {
        edge.says(0, "each HAND gets coins * SHARE, rounded down; the coins that are left go one each to the HANDS with"
            + " the greatest rests of that, of several to the one with the smaller number.");
        edge.is("nothing is left", split(100, 50, 50), "50 50 0 0 0 0 0 0 0");
        edge.is("no coins", split(0, 50, 50), "0 0 0 0 0 0 0 0 0");
        edge.is("one coin, two the same", split(1, 50, 50), "1 0 0 0 0 0 0 0 0");
        edge.is("one coin, with the CHEST", split(1, 50), "1 0 0 0 0 0 0 0 0");
        edge.is("one coin, more to the CHEST", split(1, 49), "0 0 0 0 0 0 0 0 1");
        edge.is("one coin, the greater one", split(1, 33, 34, 33), "0 1 0 0 0 0 0 0 0");
        edge.is("two coins", split(2, 33, 34, 33), "1 1 0 0 0 0 0 0 0");
        edge.is("three coins", split(3, 33, 34, 33), "1 1 1 0 0 0 0 0 0");
        edge.is("one coin, all the same", split(1, 12, 12, 12, 12, 12, 12, 12, 12), "1 0 0 0 0 0 0 0 0");
        edge.is("eight coins, nine HANDS", split(8, 11, 11, 11, 11, 11, 11, 11, 11), "1 1 1 1 1 1 1 0 1");
        edge.is("eight coins are left", split(17, 11, 11, 11, 11, 11, 11, 11, 11), "2 2 2 2 2 2 2 1 2");
        edge.is("the last PERSON and the CHEST", split(1, 0, 0, 0, 0, 0, 0, 0, 50), "0 0 0 0 0 0 0 1 0");
        edge.is("as many as can be", split(9999, 33, 33, 34), "3300 3300 3399 0 0 0 0 0 0");
        edge.is("99 hundredths", split(9999, 99), "9899 0 0 0 0 0 0 0 100");
        edge.is("one hundredth", split(9999, 1), "100 0 0 0 0 0 0 0 9899");
        edge.is("one hundredth of 49", split(49, 1), "0 0 0 0 0 0 0 0 49");
        edge.is("one hundredth of 50", split(50, 1), "1 0 0 0 0 0 0 0 49");
        edge.is("one hundredth of 51", split(51, 1), "1 0 0 0 0 0 0 0 50");
        edge.in(() -> thin(), "a SHARE of a millionth of a millionth", x -> Edge.all(x.sale(6, 0, 10, 9999),
            x.ofHand(0, 3), x.ofHand(5, 3), x.ofHand(6, 3)), "9999 0 99 9899");
    }

    /** Seven WORKS, each of which brings one hundredth to the one ahead of it. */
    private static Licenceweave thin() {
        Licenceweave x = Starts.works(7);
        for (int k = 0; k < 7; k++) {
            x.maker(k, k, 100);
            if (k > 0) {
                x.use(k, k - 1, 0, 1);
            }
        }
        return x;
    }

    private static void promise21Cap() {
        edge.says(0, "Of what a PERSON gets what is above its CAP less all it EARNED till then (at least 0), goes to"
            + " the CHEST (without a CAP nothing); the rest is EARNED");
        int[] caps = {-1, 0, 99, 100, 101, 199, 200, 201, 99999};
        String[] due = {"200 0", "100 100", "100 100", "100 100", "101 99", "199 1", "200 0", "200 0", "200 0"};
        for (int k = 0; k < caps.length; k++) {
            int cap = caps[k];
            edge.in(() -> earned100(), "EARNED 100, CAP " + cap,
                x -> Edge.all(x.cap(0, cap), x.sale(0, 0, 10, 100) + x.ofHand(8, 3), x.ofHand(0, 3), x.ofHand(8, 3)),
                "-1 100 " + due[k]);
        }
        edge.in(() -> earned100(), "just up to the CAP", x -> Edge.all(x.cap(0, 150), x.sale(0, 0, 10, 50),
            x.sale(0, 0, 10, 1), x.ofHand(0, 3), x.ofHand(8, 3)), "-1 50 0 150 1");
        edge.in(() -> earned100(), "the CAP goes", x -> Edge.all(x.cap(0, 0), x.sale(0, 0, 10, 5), x.cap(0, -1),
            x.sale(0, 0, 10, 5), x.ofHand(0, 3)), "-1 0 0 5 105");
        edge.in(() -> earned100(), "the ADVANCE is taken off of what is EARNED", x -> Edge.all(x.cap(0, 110),
            x.advance(0, 20), x.sale(0, 0, 10, 50), x.ofHand(0, 2), x.ofHand(0, 3), x.ofHand(8, 3)),
            "-1 20 0 10 110 40");
        edge.in(() -> two(), "what went for an ADVANCE is EARNED, too", x -> Edge.all(x.advance(0, 50),
            x.sale(0, 0, 10, 50), x.cap(0, 60), x.sale(0, 0, 10, 50), x.ofHand(0, 3), x.ofHand(8, 3)),
            "50 0 -1 10 60 40");
        edge.in(() -> earned100(), "of another one the CAP does not count", x -> Edge.all(x.cap(1, 0),
            x.sale(0, 0, 10, 50)), "-1 50");
    }

    private static Licenceweave earned100() {
        Licenceweave x = two();
        x.sale(0, 0, 10, 100);
        return x;
    }

    private static void promise25() {
        edge.says(25, "hand: a HAND");
        edge.in(Starts.FULL, "the first one", x -> x.ofHand(0, 0), 0);
        edge.in(Starts.FULL, "the last PERSON", x -> x.ofHand(7, 0), 300);
        edge.in(Starts.FULL, "the CHEST", x -> x.ofHand(8, 0), -1);
        edge.says(25, "what: 0 the YEAR of its death (NONE), 1 CAP (NONE), 2 what of its ADVANCE is open, 3 what it"
            + " EARNED, 4 what was PAID to it (of the CHEST 0: NONE, 1: NONE, 2: 0, 4: 0)");
        int[] least = {-1, -1, 0, 0, 0};
        int[] most = {300, 99999, 9999, 29997, 19998};
        int[] chest = {-1, -1, 0, 9999, 0};
        for (int k = 0; k <= 4; k++) {
            int what = k;
            for (int h = 0; h <= 8; h++) {
                int hand = h;
                edge.in(Starts.EMPTY, "at first: " + k, x -> x.ofHand(hand, what), least[k]);
            }
            edge.in(() -> rich(), "at last: " + k, x -> x.ofHand(7, what), most[k]);
            edge.in(() -> rich(), "of the CHEST: " + k, x -> x.ofHand(8, what), chest[k]);
            edge.in(() -> rich(), "of another one: " + k, x -> x.ofHand(0, what), least[k]);
        }
        edge.says(25, "Returns that.");
        edge.in(() -> rich(), "all together", x -> x.ofHand(7, 3) + x.ofHand(8, 3), 39996);
        edge.says(25, "Throws IndexOutOfBoundsException if there is no such HAND");
        edge.range(Starts.EMPTY, Edge.INDEX, "hand", 0, 8, (x, v) -> x.ofHand(v, 3), 0, 0);
        edge.range(Starts.SOME, Edge.INDEX, "hand", 0, 8, (x, v) -> x.ofHand(v, 1), 40, -1);
        edge.says(25, "Throws IllegalArgumentException if what is not 0 to 4");
        edge.range(Starts.EMPTY, Edge.ARGUMENT, "what", 0, 4, (x, v) -> x.ofHand(0, v), -1, 0);
        edge.range(Starts.SOME, Edge.ARGUMENT, "what", 0, 4, (x, v) -> x.ofHand(8, v), -1, 0);
        edge.several(25);
        edge.out(Starts.SOME, Edge.INDEX, "no HAND, no such thing", x -> x.ofHand(9, 5));
        edge.out(Starts.SOME, Edge.INDEX, "no HAND, no such thing", x -> x.ofHand(-1, -1));
    }

    /** 7 died last, has the greatest CAP, and earned by three SALES, one of which went for an ADVANCE. */
    private static Licenceweave rich() {
        Licenceweave x = two();
        x.death(7, 300);
        x.cap(7, 99999);
        x.advance(7, 9999);
        for (int k = 0; k < 3; k++) {
            x.sale(1, 0, 10, 9999);
        }
        x.advance(7, 9999);
        x.cap(0, 0);
        x.sale(0, 0, 10, 9999);
        x.cap(0, -1);
        return x;
    }

    private static void promise42() {
        edge.says(42, "work: a WORK");
        edge.in(ROW, "the first one", x -> x.share(0, 0, 0, 0), "1");
        edge.in(ROW, "the last one", x -> x.share(6, 0, 0, 0), "1/64");
        edge.says(42, "land: a LAND");
        for (int k = 0; k <= 2; k++) {
            int land = k;
            edge.in(ROW, "FREE there", x -> Edge.all(x.list(land, 0, 1), x.share(1, land, 0, 0)), "0 0");
            edge.in(ROW, "FREE elsewhere",
                x -> Edge.all(x.list((land + 1) % 3, 0, 1), x.share(1, land, 0, 0)), "0 1/2");
        }
        edge.says(42, "year: a YEAR");
        edge.in(() -> sold(), "0", x -> x.share(1, 0, 0, 7), "1/2");
        edge.in(() -> sold(), "60", x -> x.share(1, 0, 60, 7), "1/2");
        edge.in(() -> sold(), "61", x -> x.share(1, 0, 61, 7), "1");
        edge.in(() -> sold(), "100", x -> x.share(1, 0, 100, 7), "1/2");
        edge.in(() -> sold(), "110", x -> x.share(1, 0, 110, 6), "1/2");
        edge.in(() -> sold(), "111", x -> x.share(1, 0, 111, 6), "0");
        edge.in(() -> sold(), "300", x -> x.share(1, 0, 300, 7), "1");
        edge.says(42, "hand: a HAND");
        edge.in(() -> two(), "the first one", x -> x.share(0, 0, 0, 0), "1");
        edge.in(() -> two(), "the last PERSON", x -> x.share(1, 0, 0, 7), "1");
        edge.in(() -> two(), "the CHEST", x -> x.share(1, 0, 0, 8), "0");
        edge.in(() -> Starts.works(1), "the CHEST has all", x -> x.share(0, 0, 0, 8), "1");
        edge.says(42, "Throws IndexOutOfBoundsException if there is no such WORK, LAND or HAND");
        edge.out(Starts.EMPTY, Edge.INDEX, "without WORKS", x -> x.share(0, 0, 0, 0));
        edge.range(ROW, Edge.INDEX, "work", 0, 6, (x, v) -> x.share(v, 0, 0, 0), "1", "1/64");
        edge.range(ROW, Edge.INDEX, "land", 0, 2, (x, v) -> x.share(1, v, 0, 0), "1/2", "1/2");
        edge.range(ROW, Edge.INDEX, "hand", 0, 8, (x, v) -> x.share(1, 0, 0, v), "1/2", "0");
        edge.range(Starts.SOME, Edge.INDEX, "work", 0, 3, (x, v) -> x.share(v, 0, 300, 8), "1/10", "1/10");
        edge.says(42, "Throws IllegalArgumentException if year is no YEAR");
        edge.range(ROW, Edge.ARGUMENT, "year", 0, 300, (x, v) -> x.share(6, 0, v, 6), "1/2", "1/2");
        edge.range(Starts.FULL, Edge.ARGUMENT, "year", 0, 300, (x, v) -> x.share(6, 2, v, 7), "2/5", "2/5");
        edge.several(42);
        edge.out(Starts.SOME, Edge.INDEX, "no WORK, no YEAR", x -> x.share(4, 0, 301, 0));
        edge.out(Starts.SOME, Edge.INDEX, "no LAND, no YEAR", x -> x.share(0, 3, -1, 0));
        edge.out(Starts.SOME, Edge.INDEX, "no HAND, no YEAR", x -> x.share(0, 0, 301, 9));
        edge.out(Starts.SOME, Edge.INDEX, "no HAND, no YEAR", x -> x.share(0, 0, -1, -1));
    }

    private static void promise42Fractions() {
        edge.says(42, "Returns its SHARE (by a SALE that no FLOOR is above), as a fraction.");
        for (int part = 1; part <= 100; part++) {
            Licenceweave x = Starts.works(1);
            x.maker(0, 3, part);
            edge.is("so many hundredths: " + part, x.share(0, 0, 0, 3), fraction(part, 100));
            edge.is("what is left of them", x.share(0, 0, 0, 8), fraction(100 - part, 100));
            edge.is("of another one", x.share(0, 0, 0, 4), "0");
        }
        edge.in(ROW, "the greatest FLOOR", x -> Edge.all(x.floor(0, 9999), x.share(1, 0, 0, 0)), "0 1/2");
        edge.says(0, "Exact fractions are told in lowest terms: \"3/4\", \"0\", \"5\" (if it is whole).");
        for (int k = 0; k <= 6; k++) {
            int hand = k;
            edge.in(ROW, "by halves: " + k, x -> x.share(6, 0, 0, hand), fraction(1, k == 0 ? 64 : 1 << 7 - k));
        }
        edge.in(() -> thin(), "by hundredths", x -> x.share(6, 0, 0, 0), "1/1000000000000");
        edge.in(() -> thin(), "a hundredth of it",
            x -> Edge.all(x.hand(0, 0, 7, 1, 0, 300), x.share(6, 0, 0, 7)), "0 1/100000000000000");
        edge.in(() -> thin(), "all but that", x -> Edge.all(x.hand(0, 0, 7, 1, 0, 300), x.share(6, 0, 0, 0)),
            "0 99/100000000000000");
        edge.in(() -> thin(), "by fives alone", x -> Edge.all(x.hand(0, 0, 7, 64, 0, 300), x.share(6, 0, 0, 7)),
            "0 1/1562500000000");
        edge.in(() -> thin(), "by twos alone", x -> Edge.all(x.hand(0, 0, 7, 25, 0, 300), x.share(6, 0, 0, 7)),
            "0 1/4000000000000");
    }

    private static String fraction(int above, int below) {
        int a = above;
        int b = below;
        while (b != 0) {
            int rest = a % b;
            a = b;
            b = rest;
        }
        return below / a == 1 ? "" + above / a : above / a + "/" + below / a;
    }

    /** What 0 and 1 have of 1, that makes USE of 0 so, by the QUOTE 5. */
    private static String shares(int how, int part) {
        Licenceweave x = two();
        x.use(1, 0, how, part);
        return Edge.all(x.share(1, 0, 0, 0), x.share(1, 0, 0, 7));
    }

    private static void promise42Layers() {
        edge.says(0, "brings that WORK part hundredths (so much more to what it has)");
        edge.is("nothing", shares(0, 0), "0 1");
        edge.is("one hundredth", shares(1, 1), "1/100 99/100");
        edge.is("all but one", shares(2, 99), "99/100 1/100");
        edge.is("all", shares(0, 100), "1 0");
        edge.is("quoted, just QUOTE", shares(3, 5), "0 1");
        edge.is("quoted, one more", shares(3, 6), "3/50 47/50");
        edge.is("copied, just QUOTE", shares(0, 5), "1/20 19/20");
        edge.is("quoted, all", shares(3, 100), "1 0");
        Licenceweave x = Starts.works(7);
        for (int k = 0; k < 7; k++) {
            x.maker(k, k, 100);
        }
        for (int k = 1; k <= 6; k++) {
            x.use(0, k, 0, k == 6 ? 20 : 16);
        }
        edge.is("all six others", Edge.all(x.share(0, 0, 0, 0), x.share(0, 0, 0, 1), x.share(0, 0, 0, 6)),
            "0 4/25 1/5");
        x.list(0, 6, 1);
        edge.is("one of them is FREE", Edge.all(x.share(0, 0, 0, 0), x.share(0, 0, 0, 6)), "1/5 0");
        x.list(0, 0, 1);
        edge.is("the WHOLE is FREE, too", Edge.all(x.share(0, 0, 0, 0), x.share(0, 0, 0, 1)), "1/5 4/25");
        Licenceweave y = Starts.works(3);
        y.maker(0, 0, 100);
        y.use(2, 1, 0, 50);
        y.use(2, 0, 0, 50);
        y.use(1, 0, 0, 100);
        edge.is("by two ways", Edge.all(y.share(2, 0, 0, 0), y.share(2, 0, 0, 8)), "1 0");
        y.list(0, 1, 1);
        edge.is("by one way", Edge.all(y.share(2, 0, 0, 0), y.share(2, 0, 0, 8)), "1/2 1/2");
    }
}
