/** Promises 14 to 17 and 39 to 41: entries, what is taken back, who holds what, and by which chain. */
public final class TitleTest {
    private static final Due due = new Due("TitleTest");

    public static void main(String[] args) {
        promise14();
        promise15();
        promise16();
        promise17();
        promise39();
        promise40();
        promise40Twice();
        promise41();
        due.end();
    }

    /** Two WORKS; of the first one 0 made 60 and 1 made 40, of the other one 0 made all. */
    private static Licenceweave two() {
        Licenceweave x = new Licenceweave();
        x.work(10, 0);
        x.work(10, 0);
        x.maker(0, 0, 60);
        x.maker(0, 1, 40);
        x.maker(1, 0, 100);
        return x;
    }

    private static void promise14() {
        Licenceweave x = two();
        due.no(x, Due.INDEX, "14: work 2", () -> x.hand(2, 0, 1, 10, 0, 10));
        due.no(x, Due.INDEX, "14: work -1", () -> x.hand(-1, 0, 0, 10, 0, 10));
        due.no(x, Due.INDEX, "14: from 8", () -> x.hand(0, 8, 1, 10, 0, 10));
        due.no(x, Due.INDEX, "14: from -1", () -> x.hand(0, -1, 1, 0, 0, 10));
        due.no(x, Due.INDEX, "14: to 8", () -> x.hand(0, 0, 8, 10, 0, 10));
        due.no(x, Due.INDEX, "14: to -1", () -> x.hand(0, 0, -1, 10, 0, 10));
        due.no(x, Due.ARGUMENT, "14: from is to", () -> x.hand(0, 0, 0, 10, 0, 10));
        due.no(x, Due.ARGUMENT, "14: part 0", () -> x.hand(0, 0, 1, 0, 0, 10));
        due.no(x, Due.ARGUMENT, "14: part 101", () -> x.hand(0, 0, 1, 101, 0, 10));
        due.no(x, Due.ARGUMENT, "14: first -1", () -> x.hand(0, 0, 1, 10, -1, 10));
        due.no(x, Due.ARGUMENT, "14: last 301", () -> x.hand(0, 0, 1, 10, 0, 301));
        due.no(x, Due.ARGUMENT, "14: first 301", () -> x.hand(0, 0, 1, 10, 301, 301));
        due.no(x, Due.ARGUMENT, "14: last -1", () -> x.hand(0, 0, 1, 10, -1, -1));
        due.no(x, Due.ARGUMENT, "14: first behind last", () -> x.hand(0, 0, 1, 10, 11, 10));
        due.is("14: one YEAR", x.hand(0, 0, 1, 1, 10, 10), 0);
        due.is("14: all YEARS", x.hand(1, 0, 7, 100, 0, 300), 1);
        due.is("14: of what is not HELD", x.hand(0, 5, 6, 100, 0, 0), 2);
        due.is("14: ahead of the YEAR in which it was made", x.hand(0, 0, 1, 1, 0, 5), 3);
        for (int k = 4; k < 16; k++) {
            due.is("14: one more", x.hand(0, 0, 1, 1, 20, 30), k);
        }
        due.is("14: how many", x.house(2), 16);
        due.no(x, Due.STATE, "14: a seventeenth", () -> x.hand(0, 0, 1, 1, 20, 30));
        due.no(x, Due.ARGUMENT, "14: a seventeenth to oneself", () -> x.hand(0, 0, 0, 1, 20, 30));
        due.no(x, Due.INDEX, "14: a seventeenth of nothing", () -> x.hand(2, 0, 1, 1, 20, 30));
    }

    private static void promise15() {
        Licenceweave x = two();
        x.hand(0, 0, 2, 50, 20, 40);
        x.hand(0, 0, 3, 50, 35, 50);
        x.hand(0, 2, 4, 50, 20, 40);
        due.no(x, Due.INDEX, "15: entry 3", () -> x.back(3, 400));
        due.no(x, Due.INDEX, "15: entry -1", () -> x.back(-1, 30));
        due.no(x, Due.ARGUMENT, "15: ahead of its first YEAR", () -> x.back(0, 19));
        due.no(x, Due.ARGUMENT, "15: behind its last one", () -> x.back(0, 41));
        due.is("15: the later one is not VALID", x.ofEntry(1, 6), 0);
        due.is("15: one of what was bought is", x.ofEntry(2, 6), 1);
        due.is("15: in its last YEAR", x.back(0, 40), 40);
        due.is("15: its last YEAR then", x.ofEntry(0, 5), 39);
        due.is("15: what was bought is not HELD as long", x.ofEntry(2, 6), 0);
        due.is("15: both meet still", x.ofEntry(1, 6), 0);
        due.is("15: earlier", x.back(0, 35), 39);
        due.is("15: the later one is VALID", x.ofEntry(1, 6), 1);
        due.is("15: that had its YEAR", x.holds(0, 2, 34), 50);
        due.is("15: that has it no more", x.holds(0, 2, 35), 0);
        due.is("15: in its first YEAR", x.back(0, 20), 34);
        due.is("15: it has none", x.ofEntry(0, 5), 19);
        due.is("15: and is VALID", x.ofEntry(0, 6), 1);
        due.no(x, Due.ARGUMENT, "15: without YEARS", () -> x.back(0, 20));
        due.no(x, Due.ARGUMENT, "15: without YEARS", () -> x.back(0, 19));
        x.hand(1, 0, 2, 50, 0, 0);
        due.is("15: in the YEAR 0", x.back(3, 0), 0);
        due.is("15: ahead of all YEARS", x.ofEntry(3, 5), -1);
    }

    private static void promise16() {
        Licenceweave x = two();
        x.behind(10);
        x.hand(0, 0, 2, 10, 20, 40);
        x.hand(0, 1, 2, 10, 20, 40);
        x.hand(1, 0, 2, 10, 20, 40);
        x.hand(0, 2, 3, 5, 20, 40);
        x.hand(0, 0, 2, 60, 20, 40);
        x.hand(0, 0, 4, 10, 21, 40);
        x.hand(0, 0, 4, 10, 20, 29);
        x.hand(0, 0, 4, 10, 20, 30);
        due.no(x, Due.INDEX, "16: work 2", () -> x.takeBack(2, 0, 30));
        due.no(x, Due.INDEX, "16: person 8", () -> x.takeBack(0, 8, 301));
        due.no(x, Due.INDEX, "16: person -1", () -> x.takeBack(0, -1, 30));
        due.no(x, Due.ARGUMENT, "16: year -1", () -> x.takeBack(0, 2, -1));
        due.no(x, Due.ARGUMENT, "16: year 301", () -> x.takeBack(0, 0, 301));
        due.no(x, Due.STATE, "16: no MAKER", () -> x.takeBack(0, 2, 30));
        due.is("16: too early", x.takeBack(0, 0, 29), 0);
        due.is("16: two of them", x.takeBack(0, 0, 30), 2);
        int[] lasts = {29, 40, 40, 40, 40, 40, 29, 29};
        int[] valid = {1, 1, 1, 1, 0, 1, 1, 1};
        for (int k = 0; k < 8; k++) {
            due.is("16: last YEAR of " + k, x.ofEntry(k, 5), lasts[k]);
            due.is("16: VALID " + k, x.ofEntry(k, 6), valid[k]);
        }
        due.is("16: the rest", x.takeBack(0, 0, 31), 1);
        due.is("16: none is left", x.takeBack(0, 0, 300), 0);
        due.is("16: of the other MAKER", x.takeBack(0, 1, 40), 1);
        due.is("16: of the other WORK", x.takeBack(1, 0, 40), 1);
        promise16AtOnce();
    }

    private static void promise16AtOnce() {
        Licenceweave x = two();
        x.behind(0);
        x.hand(1, 0, 2, 100, 20, 40);
        x.hand(1, 0, 3, 100, 30, 50);
        due.is("16: the second sale of the same", x.ofEntry(1, 6), 0);
        due.is("16: by what was VALID ahead of it", x.takeBack(1, 0, 30), 1);
        due.is("16: that stays as it was", x.ofEntry(1, 5), 50);
        due.is("16: it is VALID then", x.ofEntry(1, 6), 1);
        due.is("16: in its first YEAR", x.takeBack(1, 0, 30), 1);
        due.is("16: without YEARS", x.ofEntry(1, 5), 29);
        x.hand(1, 0, 4, 60, 60, 80);
        x.hand(1, 4, 5, 60, 60, 80);
        due.is("16: of those from the MAKER alone", x.takeBack(1, 0, 70), 1);
        due.is("16: what was sold on is VALID no more", x.ofEntry(3, 6), 0);
        due.is("16: all is back", x.holds(1, 0, 70), 100);
    }

    private static void promise17() {
        Licenceweave x = two();
        due.no(x, Due.ARGUMENT, "17: -1", () -> x.behind(-1));
        due.no(x, Due.ARGUMENT, "17: 101", () -> x.behind(101));
        x.hand(1, 0, 2, 10, 20, 200);
        x.hand(1, 0, 3, 10, 20, 200);
        due.is("17: too early by 35", x.takeBack(1, 0, 54), 0);
        due.is("17: before", x.behind(100), 35);
        due.is("17: too early by 100", x.takeBack(1, 0, 119), 0);
        due.is("17: before", x.behind(0), 100);
        due.is("17: it", x.house(4), 0);
        due.is("17: at once", x.takeBack(1, 0, 20), 2);
        due.is("17: before", x.behind(35), 0);
    }

    private static void promise39() {
        Licenceweave x = two();
        due.no(x, Due.INDEX, "39: work 2", () -> x.holds(2, 0, 301));
        due.no(x, Due.INDEX, "39: work -1", () -> x.holds(-1, 0, 0));
        due.no(x, Due.INDEX, "39: person 8", () -> x.holds(0, 8, 0));
        due.no(x, Due.INDEX, "39: person -1", () -> x.holds(0, -1, 0));
        due.no(x, Due.ARGUMENT, "39: year 301", () -> x.holds(0, 0, 301));
        due.no(x, Due.ARGUMENT, "39: year -1", () -> x.holds(0, 0, -1));
        due.is("39: as a MAKER", x.holds(0, 0, 0), 60);
        due.is("39: no MAKER", x.holds(0, 2, 300), 0);
        x.hand(0, 0, 2, 60, 20, 40);
        due.is("39: ahead of it", x.holds(0, 2, 19), 0);
        due.is("39: in its first YEAR", x.holds(0, 2, 20), 60);
        due.is("39: in its last YEAR", x.holds(0, 2, 40), 60);
        due.is("39: behind it", x.holds(0, 2, 41), 0);
        due.is("39: from whom it came", x.holds(0, 0, 40), 0);
        due.is("39: from whom it came, then", x.holds(0, 0, 41), 60);
        due.is("39: of the other WORK", x.holds(1, 0, 30), 100);
        x.hand(0, 0, 3, 1, 40, 50);
        due.is("39: one that is not VALID moves nothing", x.holds(0, 3, 45), 0);
        x.hand(0, 2, 1, 25, 30, 30);
        due.is("39: a part of it", x.holds(0, 2, 30), 35);
        due.is("39: more of it", x.holds(0, 1, 30), 65);
    }

    private static void promise40() {
        Licenceweave x = two();
        x.hand(0, 0, 2, 30, 20, 40);
        due.no(x, Due.INDEX, "40: entry 1", () -> x.ofEntry(1, 8));
        due.no(x, Due.INDEX, "40: entry -1", () -> x.ofEntry(-1, 0));
        due.no(x, Due.ARGUMENT, "40: what -1", () -> x.ofEntry(0, -1));
        due.no(x, Due.ARGUMENT, "40: what 8", () -> x.ofEntry(0, 8));
        int[] all = {0, 0, 2, 30, 20, 40, 1, -1};
        for (int what = 0; what <= 7; what++) {
            due.is("40: what " + what, x.ofEntry(0, what), all[what]);
        }
        x.hand(1, 5, 6, 1, 7, 8);
        due.is("40: of another WORK", x.ofEntry(1, 0), 1);
        due.is("40: from", x.ofEntry(1, 1), 5);
        due.is("40: to", x.ofEntry(1, 2), 6);
        due.is("40: not HELD", x.ofEntry(1, 6), 0);
        due.is("40: none ahead of it", x.ofEntry(1, 7), -1);
        x.hand(0, 0, 3, 31, 40, 40);
        due.is("40: too much in one YEAR", x.ofEntry(2, 6), 0);
        due.is("40: TWICE, by the first one", x.ofEntry(2, 7), 0);
        x.hand(0, 0, 3, 30, 40, 40);
        due.is("40: just as much", x.ofEntry(3, 6), 1);
        x.hand(0, 0, 3, 30, 41, 60);
        x.hand(0, 0, 3, 1, 0, 300);
        due.is("40: one YEAR in the middle is enough", x.ofEntry(5, 6), 0);
        x.hand(0, 2, 4, 30, 20, 41);
        due.is("40: a YEAR longer than it is HELD", x.ofEntry(6, 6), 0);
        x.hand(0, 2, 4, 30, 19, 40);
        due.is("40: a YEAR earlier", x.ofEntry(7, 6), 0);
        x.hand(0, 2, 4, 30, 20, 40);
        due.is("40: as long", x.ofEntry(8, 6), 1);
    }

    private static void promise40Twice() {
        Licenceweave x = two();
        x.hand(1, 0, 2, 100, 20, 40);
        x.hand(0, 0, 2, 60, 20, 40);
        x.hand(0, 1, 2, 40, 20, 40);
        x.hand(0, 0, 3, 60, 30, 35);
        x.hand(0, 0, 3, 60, 40, 60);
        x.hand(0, 0, 4, 60, 41, 50);
        x.hand(0, 0, 5, 60, 40, 50);
        x.hand(0, 0, 5, 60, 45, 46);
        int[] twice = {-1, -1, -1, 1, 1, -1, 1, 5};
        for (int k = 0; k < 8; k++) {
            due.is("40: TWICE of " + k, x.ofEntry(k, 7), twice[k]);
        }
        x.back(5, 41);
        due.is("40: one without YEARS is none", x.ofEntry(7, 7), -1);
        due.is("40: it is VALID", x.ofEntry(7, 6), 1);
    }

    private static void promise41() {
        Licenceweave x = two();
        due.no(x, Due.INDEX, "41: work 2", () -> x.chain(2, 0, 301));
        due.no(x, Due.INDEX, "41: person 8", () -> x.chain(0, 8, 0));
        due.no(x, Due.ARGUMENT, "41: year 301", () -> x.chain(0, 0, 301));
        due.no(x, Due.ARGUMENT, "41: year -1", () -> x.chain(0, 0, -1));
        due.is("41: a MAKER", x.chain(0, 1, 0), "1");
        due.is("41: who HOLDS nothing", x.chain(0, 2, 0), "-");
        x.hand(0, 0, 2, 30, 20, 60);
        due.is("41: by the first one", x.chain(0, 2, 30), "2<0");
        x.hand(0, 1, 2, 30, 20, 60);
        due.is("41: by the last one", x.chain(0, 2, 30), "2<1");
        x.hand(0, 2, 3, 10, 30, 40);
        x.hand(0, 0, 2, 10, 35, 60);
        x.hand(0, 3, 0, 10, 30, 40);
        due.is("41: ahead of the one followed last", x.chain(0, 0, 30), "0<3<2<1");
        due.is("41: in another YEAR", x.chain(0, 0, 41), "0");
        due.is("41: later ones do not count", x.chain(0, 0, 40), "0<3<2<1");
        due.is("41: the last one counts", x.chain(0, 2, 40), "2<0");
        due.is("41: ahead of its YEARS", x.chain(0, 2, 34), "2<1");
        due.is("41: all was sold", x.chain(0, 3, 35), "-");
        x.hand(0, 0, 2, 90, 20, 60);
        due.is("41: one that is not VALID", x.chain(0, 2, 25), "2<1");
        x.hand(1, 0, 2, 90, 20, 60);
        due.is("41: one of another WORK", x.chain(0, 2, 25), "2<1");
        x.hand(0, 0, 6, 1, 21, 21);
        due.is("41: the smallest part", x.chain(0, 6, 21), "6<0");
        x.hand(0, 2, 0, 1, 20, 20);
        due.is("41: round and round", x.chain(0, 0, 20), "0<2<1");
    }
}
