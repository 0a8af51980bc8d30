/** The registries that boundary cases begin with; each call makes a new one, always the same way. */
final class Starts {
    static final Edge.Start EMPTY = Licenceweave::new;
    static final Edge.Start SOME = Starts::some;
    static final Edge.Start FULL = Starts::full;

    private Starts() {
    }

    /** So many WORKS of the YEAR 10, at home in the LAND 0. */
    static Licenceweave works(int count) {
        Licenceweave x = new Licenceweave();
        for (int k = 0; k < count; k++) {
            x.work(10, 0);
        }
        return x;
    }

    /** WORKS of these YEARS, at home in the LANDS 0, 1, 2, 0 and so on. */
    static Licenceweave made(int... years) {
        Licenceweave x = new Licenceweave();
        for (int k = 0; k < years.length; k++) {
            x.work(years[k], k % 3);
        }
        return x;
    }

    /** So many LICENCES with all RIGHTS and nothing else, and so many WORKS. */
    static Licenceweave licences(int count, int works) {
        Licenceweave x = works(works);
        for (int k = 0; k < count; k++) {
            x.licence(63, 0, 0, false);
        }
        return x;
    }

    /** Puts these letters behind the WORDS of a WORK. */
    static Licenceweave letters(Licenceweave x, int work, String letters) {
        for (int k = 0; k < letters.length(); k += 5) {
            int[] a = {-1, -1, -1, -1, -1};
            for (int m = 0; m < 5 && k + m < letters.length(); m++) {
                a[m] = letters.charAt(k + m) - 'a';
            }
            x.words(work, a[0], a[1], a[2], a[3], a[4]);
        }
        return x;
    }

    /** Types that text; "<" is the last SIGN going, "!" is all going. */
    static Licenceweave type(Licenceweave x, String text) {
        for (int k = 0; k < text.length(); k += 6) {
            int[] a = {-1, -1, -1, -1, -1, -1};
            for (int m = 0; m < 6 && k + m < text.length(); m++) {
                a[m] = "cxgsvhntom/+<!".indexOf(text.charAt(k + m));
            }
            x.say(a[0], a[1], a[2], a[3], a[4], a[5]);
        }
        return x;
    }

    /** The WORK 0 has of each thing as much as it can have. */
    static Licenceweave greatest() {
        Licenceweave x = new Licenceweave();
        for (int k = 0; k < 7; k++) {
            x.work(300, 2);
        }
        for (int k = 0; k < 8; k++) {
            x.maker(0, k, k == 7 ? 16 : 12);
            x.licence(63, 0, 0, false);
        }
        for (int k = 1; k <= 6; k++) {
            x.use(0, k, 0, k == 6 ? 20 : 16);
        }
        for (int k = 5; k <= 7; k++) {
            x.offer(0, k, true);
        }
        x.shown(0, 300);
        x.floor(0, 9999);
        letters(x, 0, "abcdeabcdeabcdeabcdf");
        return letters(x, 6, "f");
    }

    /** Four WORKS, three LICENCES, three ENTRIES, eight STEPS BACK; all that it holds can be seen by what is asked. */
    private static Licenceweave some() {
        Licenceweave x = made(10, 20, 30, 30);
        x.knock();
        x.maker(0, 0, 60);
        x.maker(0, 1, 30);
        x.maker(1, 1, 50);
        x.maker(3, 3, 90);
        x.shown(0, 33);
        x.shown(2, 60);
        x.death(0, 40);
        x.use(1, 0, 1, 30);
        x.use(2, 0, 3, 4);
        x.use(3, 1, 3, 10);
        x.use(3, 2, 2, 20);
        x.land(0, 60, 40, 4, false);
        x.land(1, 80, 90, 10, false);
        x.land(2, 99, 95, 3, true);
        x.list(2, 1, 2);
        x.licence(63, 15, 0, false);
        x.licence(31, 0, 3, true);
        x.licence(7, 1, 0, false);
        x.offer(0, 0, true);
        x.offer(0, 2, true);
        x.offer(1, 0, true);
        x.offer(2, 0, true);
        x.offer(3, 0, true);
        x.hand(0, 0, 1, 20, 40, 120);
        x.hand(1, 1, 3, 20, 30, 100);
        x.cap(0, 40);
        x.advance(1, 500);
        x.floor(1, 12);
        letters(x, 0, "abcd");
        letters(x, 2, "dfcdb");
        x.death(1, 50);
        x.hand(0, 0, 2, 50, 50, 60);
        x.sale(3, 0, 60, 200);
        x.behind(30);
        x.offer(3, 2, true);
        x.list(1, 3, 1);
        return type(x, "c/n+");
    }

    /** 7 WORKS, 8 LICENCES, 16 ENTRIES, 8 STEPS BACK, TYPED 20 long; the WORK 0 has 3 LICENCES and 20 WORDS. */
    private static Licenceweave full() {
        Licenceweave x = made(10, 20, 30, 40, 50, 60, 70);
        for (int k = 0; k < 7; k++) {
            x.maker(k, k, 60);
            x.maker(k, 7, 40);
            x.licence(63, 1 + k, 0, false);
            x.offer(k, k, true);
        }
        x.licence(0, 15, 3, true);
        x.use(6, 0, 0, 50);
        x.use(6, 1, 1, 50);
        x.use(5, 4, 3, 5);
        x.use(4, 3, 2, 99);
        x.use(3, 2, 1, 10);
        x.use(2, 1, 0, 10);
        x.use(1, 0, 3, 6);
        x.offer(0, 1, true);
        x.offer(0, 2, true);
        x.offer(4, 7, true);
        x.land(0, 100, 100, 100, true);
        x.land(1, 0, 0, 0, false);
        x.list(2, 3, 1);
        x.list(2, 4, 2);
        x.list(1, 6, 1);
        x.death(0, 0);
        x.death(7, 300);
        x.cap(1, 0);
        x.advance(2, 9999);
        x.floor(0, 9999);
        x.sale(6, 2, 100, 9999);
        x.behind(100);
        letters(x, 0, "abcdefabcdefabcdefab");
        letters(x, 1, "fedcbafedcbafedcbaf");
        for (int k = 0; k < 15; k++) {
            x.hand(k % 7, k < 7 ? 7 : k % 7, (k + 3) % 7, 15 + k, 90 + k, 110 + k);
        }
        x.hand(6, 1, 2, 100, 0, 300);
        x.shown(6, 300);
        x.knock();
        return type(x, "cxgsvh/ntom/sx+cccc+");
    }
}
