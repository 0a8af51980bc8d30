/** Promises 18 to 21, 25 and 42: who is paid, and by which shares. */
public final class PaymentsTest {
    private static final Due due = new Due("PaymentsTest");

    public static void main(String[] args) {
        promise18();
        promise19();
        promise20();
        promise21();
        promise21Split();
        promise25();
        promise42();
        promise42Layers();
        due.end();
    }

    /** A WORK that 0 made, and another one, that 1 made to 50, and that makes USE of half of it. */
    private static Licenceweave two() {
        Licenceweave x = new Licenceweave();
        x.work(10, 0);
        x.work(20, 0);
        x.maker(0, 0, 100);
        x.maker(1, 1, 50);
        x.use(1, 0, 0, 50);
        return x;
    }

    private static void promise18() {
        Licenceweave x = two();
        due.no(x, Due.INDEX, "18: person 8", () -> x.advance(8, 1));
        due.no(x, Due.INDEX, "18: person -1", () -> x.advance(-1, -1));
        due.no(x, Due.ARGUMENT, "18: coins -1", () -> x.advance(0, -1));
        due.no(x, Due.ARGUMENT, "18: coins 10000", () -> x.advance(0, 10000));
        due.is("18: nothing", x.advance(0, 0), 0);
        due.is("18: some", x.advance(0, 9999), 9999);
        due.is("18: it grows", x.advance(0, 1), 10000);
        due.is("18: of another one", x.advance(7, 5), 5);
        due.is("18: it is taken off", x.sale(0, 0, 20, 9999), 0);
        due.is("18: what is open", x.ofHand(0, 2), 1);
        due.is("18: what is EARNED", x.ofHand(0, 3), 9999);
        due.is("18: it grows again", x.advance(0, 9), 10);
        due.is("18: the rest is PAID", x.sale(0, 0, 20, 30), 20);
        due.is("18: none is open", x.ofHand(0, 2), 0);
        due.is("18: what was PAID", x.ofHand(0, 4), 20);
        x.sale(0, 0, 20, 7);
        due.is("18: PAID in all", x.ofHand(0, 4), 27);
    }

    private static void promise19() {
        Licenceweave x = two();
        due.no(x, Due.INDEX, "19: person 8", () -> x.cap(8, 1));
        due.no(x, Due.INDEX, "19: person -1", () -> x.cap(-1, -2));
        due.no(x, Due.ARGUMENT, "19: coins -2", () -> x.cap(0, -2));
        due.no(x, Due.ARGUMENT, "19: coins 100000", () -> x.cap(0, 100000));
        due.is("19: at first", x.cap(0, 99999), -1);
        due.is("19: before", x.cap(0, 150), 99999);
        due.is("19: below it", x.sale(0, 0, 20, 100), 100);
        due.is("19: up to it", x.sale(0, 0, 20, 100), 50);
        due.is("19: it is reached", x.sale(0, 0, 20, 100), 0);
        due.is("19: what is above it", x.ofHand(8, 3), 150);
        due.is("19: before", x.cap(0, 10), 150);
        due.is("19: above it already", x.sale(0, 0, 20, 7), 0);
        due.is("19: all goes to the CHEST", x.ofHand(8, 3), 157);
        due.is("19: EARNED", x.ofHand(0, 3), 150);
        x.cap(0, 160);
        x.advance(0, 4);
        due.is("19: the CAP ahead of the ADVANCE", x.sale(0, 0, 20, 100), 6);
        due.is("19: before", x.cap(0, -1), 160);
        due.is("19: without one", x.sale(0, 0, 20, 100), 100);
        due.is("19: before", x.cap(0, 0), -1);
        due.is("19: nothing at all", x.sale(0, 0, 20, 100), 0);
        due.is("19: it is sound", x.isSound(), true);
    }

    private static void promise20() {
        Licenceweave x = two();
        due.no(x, Due.INDEX, "20: work 2", () -> x.floor(2, 1));
        due.no(x, Due.INDEX, "20: work -1", () -> x.floor(-1, -1));
        due.no(x, Due.ARGUMENT, "20: coins -1", () -> x.floor(0, -1));
        due.no(x, Due.ARGUMENT, "20: coins 10000", () -> x.floor(0, 10000));
        due.is("20: at first", x.floor(0, 9999), 0);
        due.is("20: before", x.floor(0, 100), 9999);
        due.is("20: just as many", x.sale(1, 0, 20, 100), 75);
        due.is("20: what the USE brought", x.ofHand(0, 3), 50);
        due.is("20: fewer", x.sale(1, 0, 20, 98), 49);
        due.is("20: the USE brought nothing", x.ofHand(0, 3), 50);
        due.is("20: its own SALE counts", x.sale(0, 0, 20, 1), 1);
        due.is("20: none", x.floor(0, 0), 100);
        due.is("20: none any more", x.floor(0, 100), 0);
        x.floor(1, 9999);
        due.is("20: that of the WHOLE does not count", x.sale(1, 0, 20, 100), 75);
        due.is("20: nor does it for a SHARE", x.share(1, 0, 20, 0), "1/2");
        x.floor(0, 9999);
        due.is("20: nor that of a PART", x.share(1, 0, 20, 0), "1/2");
    }

    private static void promise21() {
        Licenceweave x = two();
        due.no(x, Due.INDEX, "21: work 2", () -> x.sale(2, 0, 20, 1));
        due.no(x, Due.INDEX, "21: work -1", () -> x.sale(-1, 0, 20, 1));
        due.no(x, Due.INDEX, "21: land 3", () -> x.sale(1, 3, 0, -1));
        due.no(x, Due.INDEX, "21: land -1", () -> x.sale(1, -1, 20, 1));
        due.no(x, Due.ARGUMENT, "21: year 301", () -> x.sale(1, 0, 301, 1));
        due.no(x, Due.ARGUMENT, "21: year -1", () -> x.sale(1, 0, -1, 1));
        due.no(x, Due.ARGUMENT, "21: ahead of its YEAR", () -> x.sale(1, 0, 19, 1));
        due.no(x, Due.ARGUMENT, "21: coins -1", () -> x.sale(1, 0, 20, -1));
        due.no(x, Due.ARGUMENT, "21: coins 10000", () -> x.sale(1, 0, 20, 10000));
        due.is("21: for nothing", x.sale(1, 0, 20, 0), 0);
        due.is("21: in its YEAR", x.sale(1, 0, 20, 100), 75);
        due.is("21: coins of all", x.house(5), 100);
        due.is("21: the CHEST", x.ofHand(8, 3), 25);
        x.death(0, 10);
        due.is("21: in the last YEAR that is not FREE", x.sale(1, 0, 80, 100), 75);
        due.is("21: when it is FREE", x.sale(1, 0, 81, 100), 50);
        due.is("21: the CHEST", x.ofHand(8, 3), 100);
        x.death(1, 20);
        due.is("21: a FREE WHOLE is sold, too", x.sale(1, 0, 300, 9998), 4999);
        due.is("21: coins of all", x.house(5), 10298);
        x.hand(1, 1, 6, 50, 100, 100);
        due.is("21: to the one that HOLDS it then", x.sale(1, 0, 100, 10), 5);
        due.is("21: it", x.ofHand(6, 4), 5);
    }

    private static void promise21Split() {
        Licenceweave x = new Licenceweave();
        x.work(0, 0);
        x.maker(0, 2, 33);
        x.maker(0, 5, 33);
        x.maker(0, 1, 17);
        due.is("21: a coin to the greatest rest", x.sale(0, 0, 0, 1), 1);
        due.is("21: of several the smaller number", x.ofHand(2, 3), 1);
        due.is("21: two coins", x.sale(0, 0, 0, 2), 2);
        due.is("21: the one", x.ofHand(2, 3), 2);
        due.is("21: the other one", x.ofHand(5, 3), 1);
        due.is("21: three coins", x.sale(0, 0, 0, 3), 3);
        due.is("21: the CHEST has the smallest rest", x.ofHand(8, 3), 0);
        due.is("21: the next one", x.ofHand(1, 3), 1);
        due.is("21: four coins", x.sale(0, 0, 0, 4), 3);
        due.is("21: 68/100 and 68/100 are greater", x.ofHand(8, 3), 1);
        due.is("21: ten coins", x.sale(0, 0, 0, 10), 8);
        due.is("21: the CHEST", x.ofHand(8, 3), 3);
        due.is("21: all is sound", x.isSound(), true);
    }

    private static void promise25() {
        Licenceweave x = two();
        due.no(x, Due.INDEX, "25: hand 9", () -> x.ofHand(9, 5));
        due.no(x, Due.INDEX, "25: hand -1", () -> x.ofHand(-1, 0));
        due.no(x, Due.ARGUMENT, "25: what -1", () -> x.ofHand(0, -1));
        due.no(x, Due.ARGUMENT, "25: what 5", () -> x.ofHand(8, 5));
        x.death(1, 33);
        x.cap(1, 44);
        x.advance(1, 100);
        x.sale(1, 0, 20, 40);
        int[] one = {33, 44, 90, 10, 0};
        int[] chest = {-1, -1, 0, 10, 0};
        int[] zero = {-1, -1, 0, 20, 20};
        for (int what = 0; what <= 4; what++) {
            due.is("25: what " + what + " of 1", x.ofHand(1, what), one[what]);
            due.is("25: what " + what + " of the CHEST", x.ofHand(8, what), chest[what]);
            due.is("25: what " + what + " of 0", x.ofHand(0, what), zero[what]);
        }
    }

    private static void promise42() {
        Licenceweave x = two();
        due.no(x, Due.INDEX, "42: work 2", () -> x.share(2, 0, 0, 0));
        due.no(x, Due.INDEX, "42: land 3", () -> x.share(0, 3, 0, 0));
        due.no(x, Due.INDEX, "42: hand 9", () -> x.share(0, 0, 301, 9));
        due.no(x, Due.INDEX, "42: hand -1", () -> x.share(0, 0, 0, -1));
        due.no(x, Due.ARGUMENT, "42: year 301", () -> x.share(0, 0, 301, 0));
        due.no(x, Due.ARGUMENT, "42: year -1", () -> x.share(0, 0, -1, 0));
        due.is("42: whole", x.share(0, 0, 0, 0), "1");
        due.is("42: nothing", x.share(0, 0, 0, 8), "0");
        due.is("42: by a USE", x.share(1, 0, 0, 0), "1/2");
        due.is("42: of the rest", x.share(1, 0, 0, 1), "1/4");
        due.is("42: what is left", x.share(1, 0, 0, 8), "1/4");
        x.list(1, 0, 1);
        due.is("42: a FREE one", x.share(1, 1, 0, 0), "0");
        due.is("42: all of the rest", x.share(1, 1, 0, 1), "1/2");
        x.hand(1, 1, 3, 7, 50, 60);
        due.is("42: HELD then", x.share(1, 0, 55, 3), "7/200");
        due.is("42: not HELD then", x.share(1, 0, 61, 3), "0");
        x.work(30, 0);
        x.use(2, 0, 3, 5);
        due.is("42: a SMALL USE", x.share(2, 0, 0, 0), "0");
        due.is("42: all to the CHEST", x.share(2, 0, 0, 8), "1");
        x.land(0, 70, 50, 4, false);
        due.is("42: not SMALL", x.share(2, 0, 0, 0), "1/20");
        due.is("42: the rest of it", x.share(2, 0, 0, 8), "19/20");
    }

    private static void promise42Layers() {
        Licenceweave x = new Licenceweave();
        for (int k = 0; k < 7; k++) {
            x.work(10, 0);
            x.maker(k, k, 100);
        }
        for (int k = 1; k < 7; k++) {
            x.use(k, k - 1, 0, 1);
        }
        due.is("42: six layers", x.share(6, 0, 0, 0), "1/1000000000000");
        due.is("42: five layers", x.share(6, 0, 0, 1), "99/1000000000000");
        due.is("42: the WHOLE", x.share(6, 0, 0, 6), "99/100");
        x.use(6, 0, 1, 33);
        due.is("42: by two ways", x.share(6, 0, 0, 0), "330000000001/1000000000000");
        x.hand(0, 0, 7, 1, 0, 300);
        due.is("42: a hundredth of it", x.share(6, 0, 0, 7), "330000000001/100000000000000");
        x.use(5, 3, 2, 10);
        x.use(6, 4, 2, 10);
        due.is("42: by ways of the same length", x.share(6, 0, 0, 3), "198099/100000000");
        x.undo();
        x.undo();
        x.list(0, 3, 1);
        due.is("42: a FREE layer hands on nothing", x.share(6, 0, 0, 2), "0");
        due.is("42: the layer above it keeps all", x.share(6, 0, 0, 4), "1/10000");
        x.list(0, 6, 1);
        due.is("42: a FREE WHOLE has all the same", x.share(6, 0, 0, 6), "33/50");
    }
}
