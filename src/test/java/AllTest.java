/** Promises 22, 23, 43 and 46 to 48: what is undone, the door, likeness, and the whole registry. */
public final class AllTest {
    private static final Due due = new Due("AllTest");

    public static void main(String[] args) {
        promise22();
        promise22Each();
        promise23();
        promise43();
        promise46();
        promise47();
        promise48();
        due.end();
    }

    private static void promise22() {
        Licenceweave x = new Licenceweave();
        for (int k = 0; k < 12; k++) {
            x.behind(k);
        }
        due.is("22: eight are kept", x.house(6), 8);
        for (int k = 7; k >= 0; k--) {
            due.is("22: left", x.undo(), k);
            due.is("22: as ahead of it", x.house(4), k + 3);
        }
        due.no(x, Due.STATE, "22: none is left", () -> x.undo());
        x.behind(50);
        due.is("22: one call, one STEP", x.house(6), 1);
        x.knock();
        x.house(0);
        x.typed();
        due.is("22: what is asked is none", x.house(6), 1);
        due.no(x, Due.ARGUMENT, "22: what is refused is none", () -> x.behind(101));
        due.is("22: what tells a number below -1 is none", x.learn(), -2);
        due.is("22: still one", x.house(6), 1);
        due.is("22: undone", x.undo(), 0);
        due.is("22: as ahead of it", x.house(4), 3);
        due.is("22: who was REFUSED stays so", x.house(8), 1);
        x.death(0, -1);
        due.is("22: NONE is no number below -1", x.house(6), 1);
        x.say(-1, -1, -1, -1, -1, -1);
        due.is("22: a call that changes nothing is one, too", x.house(6), 2);
    }

    private interface Change {
        void on(Licenceweave x);
    }

    /** All that a call changes is as ahead of it; then it can be done again, as if nothing had been. */
    private static void promise22Each() {
        Change[] changes = {x -> x.work(40, 2), x -> x.maker(2, 4, 10), x -> x.shown(1, 50), x -> x.death(1, 99),
            x -> x.use(2, 1, 1, 20), x -> x.words(0, 1, 2, 3, 4, 5), x -> x.land(1, 9, 9, 9, true),
            x -> x.list(0, 0, 1), x -> x.licence(3, 4, 1, true), x -> x.offer(0, 1, true), x -> x.offer(0, 0, false),
            x -> x.say(0, 13, 10, 10, 11, -1), x -> x.learn(), x -> x.hand(0, 0, 3, 10, 50, 60),
            x -> x.back(0, 95), x -> x.takeBack(0, 0, 110), x -> x.behind(7), x -> x.advance(2, 9),
            x -> x.cap(2, 90), x -> x.floor(0, 8), x -> x.sale(1, 0, 100, 77)};
        for (int k = 0; k < changes.length; k++) {
            String before = all(some());
            Licenceweave x = some();
            changes[k].on(x);
            String after = all(x);
            due.is("22: change " + k + " changes something", after.equals(before), false);
            due.is("22: one STEP more of change " + k, x.house(6), 8);
            Licenceweave y = some();
            changes[k].on(y);
            y.undo();
            due.is("22: change " + k + " undone", all(y), before);
            Licenceweave z = some();
            changes[k].on(z);
            z.undo();
            changes[k].on(z);
            due.is("22: change " + k + " done again", all(z), after);
        }
    }

    /** Nothing in it is as in an empty one. */
    private static Licenceweave some() {
        Licenceweave x = new Licenceweave();
        x.work(10, 0);
        x.work(20, 1);
        x.work(30, 0);
        x.maker(0, 0, 60);
        x.maker(1, 1, 50);
        x.shown(0, 33);
        x.shown(2, 60);
        x.death(1, 90);
        x.use(1, 0, 1, 30);
        x.use(2, 0, 3, 4);
        x.words(0, 0, 1, 2, 3, -1);
        x.words(2, 3, 5, 2, 3, 1);
        x.floor(1, 12);
        x.land(0, 60, 40, 3, false);
        x.land(2, 20, 90, 3, true);
        x.list(2, 1, 2);
        x.licence(63, 15, 0, false);
        x.licence(31, 0, 3, true);
        x.offer(0, 0, true);
        x.offer(1, 0, true);
        x.offer(2, 1, true);
        x.hand(0, 0, 1, 20, 40, 120);
        x.hand(1, 1, 3, 20, 30, 100);
        x.behind(30);
        x.cap(0, 40);
        x.advance(1, 500);
        x.sale(1, 0, 100, 200);
        x.say(0, 10, 10, 11, -1, -1);
        return x;
    }

    /** All that can be asked, but for the STEPS BACK. */
    private static String all(Licenceweave x) {
        StringBuilder text = new StringBuilder(x.typed());
        for (int what = 0; what <= 8; what++) {
            text.append(' ').append(what == 6 ? 0 : x.house(what));
        }
        for (int k = 0; k < x.house(0); k++) {
            for (int what = 0; what <= 9; what++) {
                text.append(' ').append(x.ofWork(k, what));
            }
            for (int land = 0; land < 3; land++) {
                text.append(' ').append(x.end(k, land)).append(' ').append(x.isFree(k, land, 100)).append(' ');
                text.append(x.parts(k, land, 100, true)).append(x.choice(k, land, 100, 0));
                text.append(x.notices(k, land, 100)).append(x.clash(k, land, 100)).append(x.share(k, land, 110, 0));
            }
            for (int person = 0; person < 8; person++) {
                text.append(' ').append(x.chain(k, person, 58)).append(x.holds(k, person, 110));
            }
            text.append(' ').append(x.likeness(k, 0, 2));
        }
        for (int k = 0; k <= 8; k++) {
            for (int what = 0; what <= 4; what++) {
                text.append(' ').append(x.ofHand(k, what));
            }
        }
        for (int k = 0; k < x.house(1); k++) {
            text.append(' ').append(x.line(k)).append(x.fits(k, 0)).append(x.joined(k, 0));
            text.append(x.wouldMay(2, 1, 0, 2, k));
        }
        for (int k = 0; k < x.house(2); k++) {
            for (int what = 0; what <= 7; what++) {
                text.append(' ').append(x.ofEntry(k, what));
            }
        }
        return text.toString();
    }

    private static void promise23() {
        Licenceweave x = some();
        due.is("23: once", x.knock(), 1);
        due.is("23: twice", x.knock(), 2);
        x.undo();
        x.undo();
        due.is("23: it stays through undo", x.knock(), 3);
        due.is("23: ever", x.house(8), 3);
        due.is("23: another one's DOOR", new Licenceweave().knock(), 1);
    }

    private static void promise43() {
        Licenceweave x = new Licenceweave();
        x.work(0, 0);
        x.work(0, 0);
        due.no(x, Due.INDEX, "43: work 2", () -> x.likeness(2, 0, 0));
        due.no(x, Due.INDEX, "43: work -1", () -> x.likeness(-1, 0, 1));
        due.no(x, Due.INDEX, "43: other 2", () -> x.likeness(0, 2, 1));
        due.no(x, Due.INDEX, "43: other -1", () -> x.likeness(0, -1, 1));
        due.no(x, Due.ARGUMENT, "43: run 0", () -> x.likeness(0, 1, 0));
        due.no(x, Due.ARGUMENT, "43: run 21", () -> x.likeness(0, 1, 21));
        due.is("43: without WORDS", x.likeness(0, 1, 1), 0);
        x.words(0, 0, 1, 0, 1, 2);
        x.words(1, 1, 0, 3, 0, 1);
        due.is("43: single ones", x.likeness(0, 1, 1), 4);
        due.is("43: by the places of the first one", x.likeness(1, 0, 1), 4);
        due.is("43: of two", x.likeness(0, 1, 2), 4);
        due.is("43: of three", x.likeness(0, 1, 3), 0);
        due.is("43: with itself", x.likeness(0, 0, 5), 5);
        due.is("43: longer than it is", x.likeness(0, 0, 6), 0);
        x.words(1, 2, 5, 0, 1, 0);
        due.is("43: the other one has ab, aba and abc", x.likeness(0, 1, 3), 5);
        due.is("43: the other way round", x.likeness(1, 0, 3), 6);
        x.words(0, 5, 5, 5, 5, 5);
        x.words(0, 5, 5, 5, 5, 5);
        x.words(0, 5, 5, 5, 5, 5);
        due.is("43: twenty", x.likeness(0, 0, 20), 20);
        due.is("43: one of the other one is enough", x.likeness(0, 1, 1), 20);
    }

    private static void promise46() {
        Licenceweave x = some();
        due.no(x, Due.ARGUMENT, "46: -1", () -> x.house(-1));
        due.no(x, Due.ARGUMENT, "46: 9", () -> x.house(9));
        x.hand(0, 5, 6, 1, 0, 1);
        x.behind(77);
        x.sale(0, 0, 20, 5);
        x.sale(0, 0, 20, 6);
        x.knock();
        x.sale(0, 0, 20, 7);
        x.undo();
        int[] all = {3, 2, 3, 2, 77, 211, 7, 4, 1};
        for (int what = 0; what <= 8; what++) {
            due.is("46: what " + what, x.house(what), all[what]);
        }
        x.undo();
        due.is("46: coins of SALES that are not undone", x.house(5), 205);
        x.undo();
        x.undo();
        due.is("46: BEHIND", x.house(4), 30);
        x.undo();
        due.is("46: ENTRIES", x.house(2), 2);
        due.is("46: VALID ones", x.house(3), 2);
    }

    private static void promise47() {
        Licenceweave x = some();
        due.is("47: at rest", x.isSound(), true);
        x.sale(1, 0, 100, 99);
        x.cap(0, 1);
        x.sale(1, 0, 100, 99);
        x.advance(1, 9);
        x.sale(1, 0, 100, 99);
        x.hand(0, 1, 5, 20, 100, 100);
        x.hand(0, 0, 5, 50, 90, 200);
        x.licence(1, 1, 1, true);
        x.licence(7, 1, 2, true);
        x.offer(1, 3, true);
        x.list(0, 0, 2);
        x.list(1, 0, 1);
        x.shown(2, 30);
        due.is("47: behind many calls", x.isSound(), true);
    }

    /** The order is that of the document; what each call answers is for the other promises. */
    private static void promise48() {
        Licenceweave empty = new Licenceweave();
        long d = 6143;
        int[] house = {0, 0, 0, 0, 35, 0, 0, 0, 0};
        for (int v : house) {
            d = d * 31 + v;
        }
        for (int k = 0; k < 9; k++) {
            d = (d * 31 - 1) * 31 - 1;
            d = d * 31 * 31 * 31;
        }
        d = d * 31 * 31 + 1;
        due.is("48: an empty one", empty.digest(), d);
        Licenceweave x = some();
        due.is("48: by its calls", x.digest(), digest(x));
        Licenceweave y = some();
        y.hand(0, 0, 1, 60, 100, 100);
        y.knock();
        y.shown(2, 60);
        y.licence(1, 0, 0, true);
        y.offer(2, 2, true);
        y.sale(1, 0, 30, 100);
        due.is("48: once more", y.digest(), y.digest());
        due.is("48: by its calls, then", y.digest(), digest(y));
    }

    private static long digest(Licenceweave x) {
        long d = 6143;
        for (int what = 0; what <= 8; what++) {
            d = d * 31 + x.house(what);
        }
        for (int k = 0; k < x.house(0); k++) {
            for (int what = 0; what <= 9; what++) {
                d = d * 31 + x.ofWork(k, what);
            }
            for (int land = 0; land < 3; land++) {
                d = d * 31 + x.end(k, land);
                d = d * 31 + x.parts(k, land, 100, false);
                d = d * 31 + x.parts(k, land, 100, true);
                d = d * 31 + x.may(k, land, 100, false);
                d = d * 31 + x.may(k, land, 100, true);
                d = d * 31 + x.clash(k, land, 100).length();
                d = d * 31 + x.notices(k, land, 100).length();
                d = d * 31 + x.next(k, land, 100);
            }
        }
        for (int hand = 0; hand <= 8; hand++) {
            for (int what = 0; what <= 4; what++) {
                d = d * 31 + x.ofHand(hand, what);
            }
        }
        for (int k = 0; k < x.house(0); k++) {
            for (int person = 0; person < 8; person++) {
                d = d * 31 + x.holds(k, person, 100);
            }
        }
        for (int k = 0; k < x.house(1); k++) {
            d = d * 31 + x.line(k).length();
            for (int m = 0; m < x.house(1); m++) {
                d = d * 31 + x.joined(k, m);
            }
        }
        for (int k = 0; k < x.house(2); k++) {
            for (int what = 0; what <= 7; what++) {
                d = d * 31 + x.ofEntry(k, what);
            }
        }
        d = d * 31 + x.fault();
        return d * 31 + (x.isSound() ? 1 : 0);
    }
}
