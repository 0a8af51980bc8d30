/** Promises 1 to 9, 24 and 26 to 28, and 45: works, makers, uses, words, lands, and what is FREE. */
public final class WorksTest {
    private static final Due due = new Due("WorksTest");

    public static void main(String[] args) {
        promise1();
        promise2();
        promise3();
        promise4();
        promise5();
        promise6();
        promise7();
        promise8();
        promise9();
        promise24();
        promise26();
        promise27();
        promise28();
        promise45();
        due.end();
    }

    /** WORKS of the YEARS 10, 20, 30 and 30, at home in 0, 1, 2 and 0. */
    private static Licenceweave four() {
        Licenceweave x = new Licenceweave();
        x.work(10, 0);
        x.work(20, 1);
        x.work(30, 2);
        x.work(30, 0);
        return x;
    }

    private static void promise1() {
        Licenceweave x = new Licenceweave();
        for (int what = 0; what <= 8; what++) {
            due.is("1: house", x.house(what), what == 4 ? 35 : 0);
        }
        for (int hand = 0; hand <= 8; hand++) {
            for (int what = 0; what <= 4; what++) {
                due.is("1: ofHand", x.ofHand(hand, what), what < 2 ? -1 : 0);
            }
        }
        due.is("1: typed", x.typed(), "");
        due.is("1: fault", x.fault(), 0);
        due.is("1: isSound", x.isSound(), true);
        due.no(x, Due.STATE, "1: undo", () -> x.undo());
        due.no(x, Due.INDEX, "1: ofWork", () -> x.ofWork(0, 0));
        due.no(x, Due.INDEX, "1: line", () -> x.line(0));
        due.no(x, Due.INDEX, "1: ofEntry", () -> x.ofEntry(0, 0));
        x.work(5, 0);
        due.is("1: shows nothing of another one", new Licenceweave().house(0), 0);
        for (int land = 0; land < 3; land++) {
            due.is("1: LIFE, SHOW, QUOTE", x.land(land, 1, 1, 1, true), 70);
        }
    }

    private static void promise2() {
        Licenceweave x = new Licenceweave();
        due.no(x, Due.INDEX, "2: home -1", () -> x.work(5, -1));
        due.no(x, Due.INDEX, "2: home 3, year wrong, too", () -> x.work(-1, 3));
        due.no(x, Due.ARGUMENT, "2: year -1", () -> x.work(-1, 2));
        due.no(x, Due.ARGUMENT, "2: year 301", () -> x.work(301, 0));
        int[] years = {0, 300, 5, 7, 7, 1, 2};
        for (int k = 0; k < 7; k++) {
            due.is("2: work", x.work(years[k], k % 3), k);
            due.is("2: YEAR", x.ofWork(k, 0), years[k]);
            due.is("2: HOME", x.ofWork(k, 1), k % 3);
        }
        due.no(x, Due.STATE, "2: an eighth", () -> x.work(5, 0));
        due.no(x, Due.ARGUMENT, "2: an eighth in no YEAR", () -> x.work(301, 0));
        due.no(x, Due.INDEX, "2: an eighth in no LAND", () -> x.work(5, 3));
        due.is("2: how many", x.house(0), 7);
    }

    private static void promise3() {
        Licenceweave x = four();
        due.no(x, Due.INDEX, "3: work -1", () -> x.maker(-1, 0, 10));
        due.no(x, Due.INDEX, "3: work 4", () -> x.maker(4, 0, 0));
        due.no(x, Due.INDEX, "3: person -1", () -> x.maker(0, -1, 10));
        due.no(x, Due.INDEX, "3: person 8", () -> x.maker(0, 8, 101));
        due.no(x, Due.ARGUMENT, "3: part 0", () -> x.maker(0, 0, 0));
        due.no(x, Due.ARGUMENT, "3: part 101", () -> x.maker(0, 0, 101));
        due.is("3: the smallest part", x.maker(0, 0, 1), 1);
        due.no(x, Due.STATE, "3: the smallest part once more", () -> x.maker(0, 0, 1));
        due.is("3: up to all", x.maker(0, 7, 99), 100);
        due.is("3: all at once", x.maker(1, 3, 100), 100);
        due.is("3: the set", x.ofWork(0, 3), 129);
        due.is("3: together", x.ofWork(0, 4), 100);
        due.no(x, Due.STATE, "3: above all", () -> x.maker(0, 1, 1));
        due.no(x, Due.ARGUMENT, "3: above all, with no part", () -> x.maker(0, 1, 0));
        due.is("3: some", x.maker(2, 4, 10), 10);
        due.no(x, Due.STATE, "3: once more", () -> x.maker(2, 4, 10));
        x.hand(2, 1, 2, 5, 40, 50);
        due.is("3: the ENTRY is not VALID", x.ofEntry(0, 6), 0);
        due.no(x, Due.STATE, "3: behind an ENTRY", () -> x.maker(2, 5, 10));
        due.is("3: an ENTRY of another one", x.maker(3, 5, 10), 10);
    }

    private static void promise4() {
        Licenceweave x = four();
        due.no(x, Due.INDEX, "4: work 4", () -> x.shown(4, 5));
        due.no(x, Due.INDEX, "4: work -1", () -> x.shown(-1, 400));
        due.no(x, Due.ARGUMENT, "4: ahead of its YEAR", () -> x.shown(1, 19));
        due.no(x, Due.ARGUMENT, "4: year 301", () -> x.shown(1, 301));
        due.no(x, Due.ARGUMENT, "4: year -2", () -> x.shown(1, -2));
        due.is("4: in its YEAR", x.shown(1, 20), -1);
        due.is("4: later", x.shown(1, 300), 20);
        due.is("4: not", x.shown(1, -1), 300);
        due.is("4: not, once more", x.shown(1, 25), -1);
        due.is("4: the YEAR", x.ofWork(1, 2), 25);
        due.is("4: that of another one", x.ofWork(0, 2), -1);
    }

    private static void promise5() {
        Licenceweave x = four();
        due.no(x, Due.INDEX, "5: person -1", () -> x.death(-1, 10));
        due.no(x, Due.INDEX, "5: person 8", () -> x.death(8, 400));
        due.no(x, Due.ARGUMENT, "5: year -2", () -> x.death(0, -2));
        due.no(x, Due.ARGUMENT, "5: year 301", () -> x.death(0, 301));
        due.is("5: died", x.death(7, 0), -1);
        due.is("5: later", x.death(7, 300), 0);
        due.is("5: the YEAR", x.ofHand(7, 0), 300);
        due.is("5: lives", x.death(7, -1), 300);
        due.is("5: no YEAR", x.ofHand(7, 0), -1);
        due.is("5: another one", x.ofHand(6, 0), -1);
    }

    private static void promise6() {
        Licenceweave x = four();
        due.no(x, Due.INDEX, "6: work 4", () -> x.use(4, 0, 0, 10));
        due.no(x, Due.INDEX, "6: of 4", () -> x.use(2, 4, 9, 10));
        due.no(x, Due.INDEX, "6: of -1", () -> x.use(2, -1, 0, 10));
        due.no(x, Due.ARGUMENT, "6: how -1", () -> x.use(2, 0, -1, 10));
        due.no(x, Due.ARGUMENT, "6: how 4", () -> x.use(2, 0, 4, 10));
        due.no(x, Due.ARGUMENT, "6: part -1", () -> x.use(2, 0, 0, -1));
        due.no(x, Due.ARGUMENT, "6: part 101", () -> x.use(2, 0, 0, 101));
        due.no(x, Due.ARGUMENT, "6: of a later YEAR", () -> x.use(1, 2, 0, 10));
        due.no(x, Due.STATE, "6: of itself", () -> x.use(2, 2, 0, 10));
        due.is("6: of nothing", x.use(2, 0, 3, 0), 0);
        due.is("6: more", x.use(2, 1, 0, 40), 40);
        due.no(x, Due.STATE, "6: once more", () -> x.use(2, 0, 1, 10));
        due.no(x, Due.STATE, "6: above 100", () -> x.use(2, 3, 1, 61));
        due.is("6: just 100, of the same YEAR", x.use(2, 3, 1, 60), 100);
        due.no(x, Due.STATE, "6: a ring of two", () -> x.use(3, 2, 0, 0));
        due.is("6: 3 of 1", x.use(3, 1, 2, 100), 100);
        due.is("6: the set", x.ofWork(2, 5), 11);
        due.is("6: together", x.ofWork(2, 6), 100);
        x.work(30, 0);
        due.is("6: of 2 by a SMALL one", x.use(4, 2, 3, 1), 1);
        due.no(x, Due.STATE, "6: a ring of three, by a SMALL one", () -> x.use(3, 4, 3, 0));
        due.no(x, Due.ARGUMENT, "6: a ring, and wrong", () -> x.use(3, 4, 3, 101));
        due.is("6: other parts do not count", x.use(1, 0, 0, 100), 100);
        due.is("6: together", x.ofWork(1, 6), 100);
        Licenceweave y = new Licenceweave();
        y.work(0, 0);
        y.work(0, 0);
        y.work(300, 0);
        due.is("6: of a later number", y.use(0, 1, 0, 30), 30);
        due.no(y, Due.STATE, "6: a ring by numbers that fall", () -> y.use(1, 0, 0, 30));
        due.is("6: of the YEAR 0", y.use(2, 0, 0, 1), 1);
        due.no(y, Due.STATE, "6: above 100, with the first one", () -> y.use(2, 1, 0, 100));
        due.is("6: just 100, with the first one", y.use(2, 1, 0, 99), 100);
    }

    private static void promise7() {
        Licenceweave x = four();
        due.no(x, Due.INDEX, "7: work 4", () -> x.words(4, 9, 0, 0, 0, 0));
        due.no(x, Due.INDEX, "7: work -1", () -> x.words(-1, 0, 0, 0, 0, 0));
        for (int k = 0; k < 5; k++) {
            int at = k;
            int[] w = {0, 0, 0, 0, 0};
            w[at] = 6;
            due.no(x, Due.ARGUMENT, "7: a 6", () -> x.words(0, w[0], w[1], w[2], w[3], w[4]));
            int[] v = {0, 0, 0, 0, 0};
            v[at] = -2;
            due.no(x, Due.ARGUMENT, "7: a -2", () -> x.words(0, v[0], v[1], v[2], v[3], v[4]));
        }
        due.is("7: nothing", x.words(0, -1, -1, -1, -1, -1), 0);
        due.is("7: with gaps", x.words(0, 0, -1, 5, -1, 3), 3);
        due.is("7: more", x.words(0, 1, 2, 3, 4, 5), 8);
        due.is("7: more", x.words(0, 1, 2, 3, 4, 5), 13);
        due.is("7: more", x.words(0, 1, 2, 3, 4, 5), 18);
        due.no(x, Due.STATE, "7: 21", () -> x.words(0, 0, 0, -1, -1, 0));
        due.no(x, Due.ARGUMENT, "7: 21, and wrong", () -> x.words(0, 0, 0, 0, 0, 6));
        due.is("7: 20", x.words(0, -1, 0, -1, -1, 0), 20);
        due.is("7: 20, and nothing more", x.words(0, -1, -1, -1, -1, -1), 20);
        due.is("7: how many", x.ofWork(0, 9), 20);
        due.is("7: of another one", x.ofWork(1, 9), 0);
    }

    private static void promise8() {
        Licenceweave x = four();
        due.no(x, Due.INDEX, "8: land -1", () -> x.land(-1, 0, 0, 0, false));
        due.no(x, Due.INDEX, "8: land 3", () -> x.land(3, 101, 0, 0, false));
        due.no(x, Due.ARGUMENT, "8: life -1", () -> x.land(0, -1, 0, 0, false));
        due.no(x, Due.ARGUMENT, "8: life 101", () -> x.land(0, 101, 0, 0, false));
        due.no(x, Due.ARGUMENT, "8: show -1", () -> x.land(0, 0, -1, 0, false));
        due.no(x, Due.ARGUMENT, "8: show 101", () -> x.land(0, 0, 101, 0, false));
        due.no(x, Due.ARGUMENT, "8: quote -1", () -> x.land(0, 0, 0, -1, false));
        due.no(x, Due.ARGUMENT, "8: quote 101", () -> x.land(0, 0, 0, 101, false));
        due.is("8: before", x.land(2, 0, 100, 100, false), 70);
        due.is("8: before", x.land(2, 100, 0, 0, false), 0);
        due.is("8: before", x.land(2, 9, 8, 7, false), 100);
        due.is("8: of another one", x.land(1, 70, 50, 5, false), 70);
        x.shown(0, 10);
        due.is("8: SHOW", x.end(0, 2), 18);
        due.is("8: SHOW of another one", x.end(0, 1), 60);
        x.maker(0, 0, 1);
        x.death(0, 20);
        due.is("8: LIFE", x.end(0, 2), 29);
        x.use(3, 0, 3, 7);
        due.is("8: QUOTE", x.parts(3, 2, 0, false), 8);
        due.is("8: QUOTE of another one", x.parts(3, 0, 0, false), 9);
    }

    private static void promise9() {
        Licenceweave x = four();
        due.no(x, Due.INDEX, "9: land 3", () -> x.list(3, 0, 0));
        due.no(x, Due.INDEX, "9: land -1", () -> x.list(-1, 0, 0));
        due.no(x, Due.INDEX, "9: work 4", () -> x.list(0, 4, 3));
        due.no(x, Due.INDEX, "9: work -1", () -> x.list(0, -1, 0));
        due.no(x, Due.ARGUMENT, "9: what -1", () -> x.list(0, 0, -1));
        due.no(x, Due.ARGUMENT, "9: what 3", () -> x.list(0, 0, 3));
        due.is("9: before", x.list(1, 2, 1), 0);
        due.is("9: FREE", x.isFree(2, 1, 0), true);
        due.is("9: in another one", x.isFree(2, 0, 0), false);
        due.is("9: another one", x.isFree(1, 1, 0), false);
        due.is("9: before", x.list(1, 2, 2), 1);
        due.is("9: before", x.list(1, 2, 0), 2);
        due.is("9: before", x.list(1, 2, 0), 0);
    }

    private static void promise24() {
        Licenceweave x = four();
        due.no(x, Due.INDEX, "24: work 4", () -> x.ofWork(4, 10));
        due.no(x, Due.INDEX, "24: work -1", () -> x.ofWork(-1, 0));
        due.no(x, Due.ARGUMENT, "24: what -1", () -> x.ofWork(0, -1));
        due.no(x, Due.ARGUMENT, "24: what 10", () -> x.ofWork(0, 10));
        x.shown(2, 33);
        x.maker(2, 1, 20);
        x.maker(2, 3, 30);
        x.use(2, 0, 0, 0);
        x.use(2, 1, 3, 4);
        x.use(2, 3, 3, 5);
        x.licence(1, 1, 1, true);
        x.licence(2, 1, 1, true);
        x.licence(3, 1, 1, true);
        x.offer(2, 0, true);
        x.offer(2, 2, true);
        x.floor(2, 77);
        x.words(2, 0, 1, -1, -1, -1);
        int[] all = {30, 2, 33, 10, 50, 11, 9, 5, 77, 2};
        int[] none = {10, 0, -1, 0, 0, 0, 0, 0, 0, 0};
        for (int what = 0; what <= 9; what++) {
            due.is("24: what " + what, x.ofWork(2, what), all[what]);
            due.is("24: what " + what + " of a plain one", x.ofWork(0, what), none[what]);
        }
    }

    private static void promise26() {
        Licenceweave x = four();
        due.no(x, Due.INDEX, "26: work 4", () -> x.end(4, 0));
        due.no(x, Due.INDEX, "26: work -1", () -> x.end(-1, 0));
        due.no(x, Due.INDEX, "26: land 3", () -> x.end(0, 3));
        due.no(x, Due.INDEX, "26: land -1", () -> x.end(0, -1));
        due.is("26: not SHOWN, no MAKERS", x.end(0, 0), -1);
        x.shown(1, 40);
        due.is("26: SHOWN", x.end(1, 0), 90);
        x.land(0, 60, 60, 5, true);
        due.is("26: the term of its HOME is less", x.end(1, 0), 90);
        x.land(1, 80, 70, 5, false);
        due.is("26: it is more", x.end(1, 0), 100);
        due.is("26: the other way it is not taken", x.end(1, 1), 110);
        x.maker(1, 2, 10);
        due.is("26: a MAKER lives", x.end(1, 0), -1);
        x.death(2, 50);
        due.is("26: it died", x.end(1, 0), 110);
        due.is("26: it died, at HOME", x.end(1, 1), 130);
        x.maker(1, 6, 10);
        due.is("26: another one lives", x.end(1, 0), -1);
        x.death(6, 0);
        due.is("26: the last one counts", x.end(1, 0), 110);
        x.land(0, 100, 100, 5, true);
        due.is("26: LIFE of its HOME is less", x.end(1, 0), 130);
        x.list(0, 1, 1);
        due.is("26: the LIST does not count", x.end(1, 0), 130);
        x.death(2, 300);
        x.land(1, 100, 0, 0, true);
        due.is("26: behind all YEARS", x.end(1, 1), 400);
        x.shown(0, 10);
        x.land(0, 0, 0, 0, false);
        due.is("26: at once", x.end(0, 0), 10);
    }

    private static void promise27() {
        Licenceweave x = four();
        due.no(x, Due.INDEX, "27: work 4", () -> x.isFree(4, 0, 301));
        due.no(x, Due.INDEX, "27: land 3", () -> x.isFree(0, 3, 0));
        due.no(x, Due.ARGUMENT, "27: year -1", () -> x.isFree(0, 0, -1));
        due.no(x, Due.ARGUMENT, "27: year 301", () -> x.isFree(0, 0, 301));
        due.is("27: without an END", x.isFree(0, 0, 300), false);
        x.shown(0, 10);
        due.is("27: in the END", x.isFree(0, 0, 60), false);
        due.is("27: behind it", x.isFree(0, 0, 61), true);
        x.list(0, 0, 2);
        due.is("27: never", x.isFree(0, 0, 300), false);
        x.list(0, 0, 1);
        due.is("27: always", x.isFree(0, 0, 0), true);
        x.list(0, 0, 0);
        due.is("27: by the END again", x.isFree(0, 0, 60), false);
    }

    private static void promise28() {
        Licenceweave x = four();
        due.no(x, Due.INDEX, "28: work 4", () -> x.next(4, 0, 0));
        due.no(x, Due.INDEX, "28: land 3", () -> x.next(0, 3, 301));
        due.no(x, Due.ARGUMENT, "28: year -1", () -> x.next(0, 0, -1));
        due.no(x, Due.ARGUMENT, "28: year 301", () -> x.next(0, 0, 301));
        x.use(3, 0, 0, 5);
        x.use(3, 1, 3, 5);
        x.use(3, 2, 3, 6);
        due.is("28: never", x.next(3, 0, 0), -1);
        x.shown(0, 50);
        x.shown(1, 20);
        x.shown(2, 55);
        due.is("28: first", x.next(3, 0, 0), 101);
        due.is("28: just ahead", x.next(3, 0, 100), 101);
        due.is("28: then", x.next(3, 0, 101), 106);
        due.is("28: no more", x.next(3, 0, 106), -1);
        due.is("28: a SMALL one does not count", x.next(3, 0, 60), 101);
        x.list(0, 0, 1);
        due.is("28: one that is always FREE", x.next(3, 0, 0), 106);
        x.list(0, 0, 2);
        due.is("28: one that never is", x.next(3, 0, 0), 106);
        x.shown(2, 249);
        due.is("28: in the last YEAR", x.next(3, 0, 0), 300);
        x.shown(2, 250);
        due.is("28: behind the last YEAR", x.next(3, 0, 0), -1);
    }

    private static void promise45() {
        Licenceweave x = four();
        x.maker(1, 2, 10);
        x.maker(1, 3, 10);
        x.death(3, 60);
        due.no(x, Due.INDEX, "45: work 4", () -> x.wouldEnd(4, 0, 0, 0));
        due.no(x, Due.INDEX, "45: land 3", () -> x.wouldEnd(0, 3, 0, 0));
        due.no(x, Due.INDEX, "45: person 8", () -> x.wouldEnd(0, 0, 8, 301));
        due.no(x, Due.INDEX, "45: person -1", () -> x.wouldEnd(0, 0, -1, 0));
        due.no(x, Due.ARGUMENT, "45: death -2", () -> x.wouldEnd(0, 0, 0, -2));
        due.no(x, Due.ARGUMENT, "45: death 301", () -> x.wouldEnd(0, 0, 0, 301));
        due.is("45: had it died", x.wouldEnd(1, 0, 2, 80), 150);
        due.is("45: had it died early", x.wouldEnd(1, 0, 2, 0), 130);
        due.is("45: did it live", x.wouldEnd(1, 0, 3, -1), -1);
        due.is("45: another one lives", x.wouldEnd(1, 0, 3, 90), -1);
        due.is("45: nothing is changed", x.end(1, 0), -1);
        x.death(2, 40);
        due.is("45: the END", x.end(1, 0), 130);
        due.is("45: one that is no MAKER", x.wouldEnd(1, 0, 4, -1), 130);
        due.is("45: it lived", x.wouldEnd(1, 0, 2, -1), -1);
        x.land(0, 100, 0, 0, true);
        due.is("45: with the SHORTER term", x.wouldEnd(1, 0, 2, 70), 140);
        due.is("45: the END then", x.end(1, 0), 130);
    }
}
