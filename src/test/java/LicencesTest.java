/** Promises 10 to 13, 29 to 38 and 44: licences, typed ones, and what a whole may be used for. */
public final class LicencesTest {
    private static final Due due = new Due("LicencesTest");

    public static void main(String[] args) {
        promise10();
        promise11();
        promise12();
        promise13();
        promise29();
        promise30();
        promise31();
        promise32();
        promise33();
        promise34();
        promise35();
        promise35Holds();
        promise36();
        promise37();
        promise38();
        promise44();
        due.end();
    }

    private static Licenceweave works(int count) {
        Licenceweave x = new Licenceweave();
        for (int k = 0; k < count; k++) {
            x.work(10, 0);
        }
        return x;
    }

    /** Types that text, in SIGNS; "<" is 12, "!" is 13. */
    private static int type(Licenceweave x, String text) {
        int length = x.house(7);
        for (char c : text.toCharArray()) {
            length = x.say("cxgsvhntom/+<!".indexOf(c), -1, -1, -1, -1, -1);
        }
        return length;
    }

    private static void promise10() {
        Licenceweave x = works(1);
        due.no(x, Due.ARGUMENT, "10: rights -1", () -> x.licence(-1, 0, 0, false));
        due.no(x, Due.ARGUMENT, "10: rights 64", () -> x.licence(64, 0, 0, false));
        due.no(x, Due.ARGUMENT, "10: duties -1", () -> x.licence(0, -1, 0, false));
        due.no(x, Due.ARGUMENT, "10: duties 16", () -> x.licence(0, 16, 0, false));
        due.no(x, Due.ARGUMENT, "10: bans -1", () -> x.licence(0, 0, -1, false));
        due.no(x, Due.ARGUMENT, "10: bans 4", () -> x.licence(0, 0, 4, false));
        due.is("10: the first one", x.licence(0, 0, 0, false), 0);
        due.is("10: the next one", x.licence(63, 15, 3, true), 1);
        for (int k = 2; k < 8; k++) {
            due.is("10: one more", x.licence(k, k, 0, false), k);
        }
        due.is("10: how many", x.house(1), 8);
        due.no(x, Due.STATE, "10: a ninth", () -> x.licence(0, 0, 0, false));
        due.no(x, Due.ARGUMENT, "10: a ninth that is wrong", () -> x.licence(0, 0, 4, false));
    }

    private static void promise11() {
        Licenceweave x = works(2);
        for (int k = 0; k < 5; k++) {
            x.licence(63, 0, 0, false);
        }
        due.no(x, Due.INDEX, "11: work 2", () -> x.offer(2, 0, true));
        due.no(x, Due.INDEX, "11: work -1", () -> x.offer(-1, 0, true));
        due.no(x, Due.INDEX, "11: licence 5", () -> x.offer(0, 5, false));
        due.no(x, Due.INDEX, "11: licence -1", () -> x.offer(0, -1, false));
        due.is("11: not OFFERED, no more", x.offer(0, 3, false), 0);
        due.is("11: one", x.offer(0, 4, true), 1);
        due.is("11: it once more", x.offer(0, 4, true), 1);
        due.is("11: two", x.offer(0, 0, true), 2);
        due.is("11: three", x.offer(0, 2, true), 3);
        due.no(x, Due.STATE, "11: four", () -> x.offer(0, 1, true));
        due.is("11: one of three once more", x.offer(0, 2, true), 3);
        due.is("11: the fourth one no more", x.offer(0, 1, false), 3);
        due.is("11: the set", x.ofWork(0, 7), 21);
        due.is("11: no more", x.offer(0, 0, false), 2);
        due.is("11: the set", x.ofWork(0, 7), 20);
        due.is("11: of another one", x.ofWork(1, 7), 0);
    }

    private static void promise12() {
        Licenceweave x = works(0);
        for (int k = 0; k < 6; k++) {
            int[] a = {0, 0, 0, 0, 0, 0};
            a[k] = 14;
            due.no(x, Due.ARGUMENT, "12: a 14", () -> x.say(a[0], a[1], a[2], a[3], a[4], a[5]));
            int[] b = {0, 0, 0, 0, 0, 0};
            b[k] = -2;
            due.no(x, Due.ARGUMENT, "12: a -2", () -> x.say(b[0], b[1], b[2], b[3], b[4], b[5]));
        }
        due.is("12: six", x.say(0, 1, 2, 3, 4, 5), 6);
        due.is("12: six more", x.say(6, 7, 8, 9, 10, 11), 12);
        due.is("12: all SIGNS", x.typed(), "cxgsvhntom/+");
        due.is("12: nothing", x.say(-1, -1, -1, -1, -1, -1), 12);
        due.is("12: the last ones go", x.say(12, -1, 12, 0, -1, 12), 10);
        due.is("12: what is left", x.typed(), "cxgsvhntom");
        due.is("12: all go", x.say(0, 13, 12, 12, 3, -1), 1);
        due.is("12: what is left", x.typed(), "s");
        due.is("12: all go, and none comes", x.say(-1, -1, -1, -1, -1, 13), 0);
        x.say(3, -1, -1, -1, -1, -1);
        x.say(0, 0, 0, 0, 0, 0);
        x.say(0, 0, 0, 0, 0, 0);
        due.is("12: nineteen", x.say(0, 0, 0, 0, 0, 0), 19);
        due.no(x, Due.STATE, "12: 21 at some moment", () -> x.say(0, 0, 12, 12, 12, 12));
        due.no(x, Due.STATE, "12: 21, then all going", () -> x.say(0, 0, 13, -1, -1, -1));
        due.no(x, Due.ARGUMENT, "12: 21, and wrong", () -> x.say(0, 0, 13, -1, -1, 14));
        due.is("12: twenty, again and again", x.say(0, 12, 0, 12, 12, 1), 19);
        due.is("12: twenty", x.say(0, -1, -1, -1, -1, -1), 20);
    }

    private static void promise13() {
        Licenceweave x = works(0);
        due.is("13: nothing is TYPED", x.learn(), -2);
        type(x, "cx/n");
        int steps = x.house(6);
        due.is("13: too early", x.learn(), -6);
        due.is("13: it stays", x.typed(), "cx/n");
        due.is("13: no STEP BACK", x.house(6), steps);
        type(x, "/sx+");
        due.is("13: a LINE", x.learn(), 0);
        due.is("13: none is TYPED then", x.typed(), "");
        due.is("13: its LINE", x.line(0), "cx/n/sx+");
        type(x, "gsvh/tom/x");
        due.is("13: another one", x.learn(), 1);
        due.is("13: its LINE", x.line(1), "gsvh/tom/x");
        Licenceweave y = works(2);
        type(y, "cxgsvh/n/x");
        y.learn();
        type(y, "cxgsvh/t/s+");
        y.learn();
        y.offer(0, 0, true);
        y.offer(1, 1, true);
        due.is("13: its BAN", y.may(0, 0, 0, false), 61);
        due.is("13: its DUTY", y.may(0, 0, 0, true), 1);
        due.is("13: the other BAN", y.may(1, 0, 0, false), 55);
        due.is("13: the other DUTY", y.may(1, 0, 0, true), 2);
        due.is("13: ALIKE", y.fits(1, 0), false);
        type(x, "//");
        due.is("13: an empty one", x.learn(), 2);
        due.is("13: its LINE", x.line(2), "//");
        type(x, "x/xn");
        due.is("13: a FAULT", x.learn(), -4);
        type(x, "!");
        for (int k = 3; k < 8; k++) {
            x.licence(0, 0, 0, false);
        }
        due.no(x, Due.STATE, "13: a ninth, with nothing TYPED", () -> x.learn());
        type(x, "//");
        due.no(x, Due.STATE, "13: a ninth", () -> x.learn());
    }

    private static void promise29() {
        Licenceweave x = works(0);
        x.licence(63, 15, 3, true);
        x.licence(0, 0, 0, false);
        x.licence(1 + 4 + 16, 2 + 8, 2, false);
        x.licence(2 + 8 + 32, 1 + 4, 1, true);
        due.is("29: all", x.line(0), "cxgsvh/ntom/sx+");
        due.is("29: nothing", x.line(1), "//");
        due.is("29: some", x.line(2), "cgv/tm/x");
        due.is("29: others", x.line(3), "xsh/no/s+");
        due.no(x, Due.INDEX, "29: licence 4", () -> x.line(4));
        due.no(x, Due.INDEX, "29: licence -1", () -> x.line(-1));
    }

    private static void promise30() {
        Licenceweave x = works(0);
        due.is("30: at first", x.typed(), "");
        type(x, "+/mot");
        due.is("30: then", x.typed(), "+/mot");
        x.undo();
        due.is("30: undone", x.typed(), "+/mo");
    }

    private static void promise31() {
        String[] texts = {"", "c", "cc", "xc", "cxgsvh", "/", "//", "//+", "//++", "//+s", "//s", "//x", "//sx", "//xs",
            "//ss", "//n", "///", "n", "/c", "/n", "/nn", "/tn", "/ntom/", "/ntom/sx+", "/n+", "+", "c+", "ch/m/x+",
            "cxgsvh/ntom/sx+", "/s", "//xx", "h/s", "cg/o/g"};
        int[] faults = {0, 1, 1, 1, 6, 1, -1, -1, 3, 3, -1, -1, -1, 3, 3, 2, 2, 0, 1, 2, 2, 2, -1, -1, 2, 0, 1, -1,
            -1, 1, 3, 2, 5};
        for (int k = 0; k < texts.length; k++) {
            Licenceweave x = works(0);
            type(x, texts[k]);
            due.is("31: " + texts[k], x.fault(), faults[k]);
        }
        Licenceweave x = works(0);
        type(x, "cxgsvh/ntom/sx+ccccc".substring(0, 20));
        due.is("31: a long one", x.fault(), 15);
        type(x, "<<<<<");
        due.is("31: shortened", x.fault(), -1);
    }

    private static void promise32() {
        Licenceweave x = works(0);
        x.licence(7, 1, 0, false);
        x.licence(3, 1, 0, false);
        x.licence(7, 3, 0, false);
        x.licence(7, 1, 1, false);
        x.licence(7, 1, 0, true);
        x.licence(7, 1, 0, false);
        String[] rows = {"111111", "010000", "001000", "000100", "000010", "111111"};
        for (int k = 0; k < 6; k++) {
            for (int m = 0; m < 6; m++) {
                due.is("32: " + k + " into " + m, x.fits(k, m), rows[k].charAt(m) == '1');
            }
        }
        due.no(x, Due.INDEX, "32: licence 6", () -> x.fits(6, 0));
        due.no(x, Due.INDEX, "32: other 6", () -> x.fits(0, 6));
        due.no(x, Due.INDEX, "32: licence -1", () -> x.fits(-1, 0));
        due.no(x, Due.INDEX, "32: other -1", () -> x.fits(0, -1));
    }

    private static void promise33() {
        Licenceweave x = works(0);
        x.licence(7, 0, 0, false);
        x.licence(11, 0, 0, false);
        due.is("33: not", x.joined(0, 1), -1);
        due.is("33: by itself", x.joined(1, 1), 1);
        x.licence(3, 1, 0, true);
        due.is("33: by a third one", x.joined(0, 1), 2);
        due.is("33: the other way round", x.joined(1, 0), 2);
        due.is("33: with that one", x.joined(2, 1), 2);
        x.licence(3, 0, 0, false);
        due.is("33: the first one that is so", x.joined(0, 1), 2);
        x.licence(15, 0, 0, false);
        due.is("33: one and itself, by the first one", x.joined(4, 4), 0);
        due.no(x, Due.INDEX, "33: licence 5", () -> x.joined(5, 0));
        due.no(x, Due.INDEX, "33: other 5", () -> x.joined(0, 5));
        due.no(x, Due.INDEX, "33: licence -1", () -> x.joined(-1, 0));
        due.no(x, Due.INDEX, "33: other -1", () -> x.joined(0, -1));
    }

    private static void promise34() {
        Licenceweave x = works(6);
        due.no(x, Due.INDEX, "34: work 6", () -> x.parts(6, 0, 301, false));
        due.no(x, Due.INDEX, "34: land 3", () -> x.parts(0, 3, 0, false));
        due.no(x, Due.ARGUMENT, "34: year 301", () -> x.parts(0, 0, 301, false));
        due.no(x, Due.ARGUMENT, "34: year -1", () -> x.parts(0, 0, -1, true));
        due.is("34: alone", x.parts(5, 0, 0, false), 32);
        x.use(5, 0, 3, 5);
        due.is("34: a SMALL one", x.parts(5, 0, 0, false), 32);
        x.use(5, 1, 3, 6);
        due.is("34: quoted, not SMALL", x.parts(5, 0, 0, false), 34);
        x.use(1, 2, 0, 1);
        x.use(2, 0, 2, 0);
        x.use(3, 5, 1, 1);
        due.is("34: parts of parts", x.parts(5, 0, 0, false), 39);
        due.is("34: a user is none", x.parts(1, 0, 0, false), 7);
        x.land(1, 70, 50, 6, false);
        due.is("34: by the QUOTE of the LAND", x.parts(5, 1, 0, false), 32);
        x.shown(2, 20);
        due.is("34: all are BOUND", x.parts(5, 0, 70, true), 39);
        due.is("34: one is FREE", x.parts(5, 0, 71, true), 35);
        due.is("34: through a FREE one", x.parts(5, 0, 71, false), 39);
        Licenceweave y = works(3);
        y.use(0, 1, 0, 10);
        y.use(1, 2, 0, 10);
        due.is("34: by numbers that rise", y.parts(0, 0, 0, false), 7);
        x.list(0, 5, 1);
        due.is("34: the WHOLE itself is FREE", x.parts(5, 0, 71, true), 3);
    }

    private static void promise35() {
        Licenceweave x = works(3);
        due.no(x, Due.INDEX, "35: work 3", () -> x.may(3, 0, 301, false));
        due.no(x, Due.INDEX, "35: land -1", () -> x.may(0, -1, 0, false));
        due.no(x, Due.ARGUMENT, "35: year 301", () -> x.may(0, 0, 301, false));
        due.no(x, Due.ARGUMENT, "35: year -1", () -> x.may(0, 0, -1, false));
        due.is("35: OFFERED by none", x.may(0, 0, 0, false), -1);
        due.is("35: OFFERED by none, DUTIES", x.may(0, 0, 0, true), -1);
        x.list(0, 0, 1);
        due.is("35: no BOUND PARTS", x.may(0, 0, 0, false), 63);
        due.is("35: no BOUND PARTS, DUTIES", x.may(0, 0, 0, true), 0);
        x.licence(63, 3, 3, false);
        x.licence(15, 4, 0, false);
        x.licence(31, 1, 2, false);
        x.offer(1, 0, true);
        due.is("35: less the BANS", x.may(1, 0, 0, false), 53);
        due.is("35: its DUTIES", x.may(1, 0, 0, true), 3);
        x.offer(1, 1, true);
        due.is("35: 53 and 15: as many RIGHTS, the fewer DUTIES", x.may(1, 0, 0, false), 15);
        due.is("35: its DUTIES", x.may(1, 0, 0, true), 4);
        x.offer(1, 1, false);
        x.offer(1, 2, true);
        due.is("35: of the same the fewer DUTIES", x.may(1, 0, 0, true), 1);
        due.is("35: its RIGHTS", x.may(1, 0, 0, false), 29);
        x.licence(63, 15, 0, false);
        x.offer(1, 3, true);
        due.is("35: more RIGHTS count more than DUTIES", x.may(1, 0, 0, true), 15);
        due.is("35: its RIGHTS", x.may(1, 0, 0, false), 63);
        due.is("35: in another LAND the same", x.may(1, 2, 300, false), 63);
        Licenceweave y = works(1);
        y.licence(7, 4, 0, false);
        y.licence(7, 2, 0, false);
        y.offer(0, 1, true);
        y.offer(0, 0, true);
        due.is("35: of several the smallest LICENCE", y.may(0, 0, 0, true), 4);
    }

    private static void promise35Holds() {
        Licenceweave x = works(4);
        x.licence(1, 0, 0, false);
        x.licence(3, 0, 0, false);
        x.licence(5, 0, 0, false);
        x.licence(0, 0, 0, false);
        x.licence(3, 0, 2, false);
        x.offer(3, 3, true);
        x.use(3, 0, 0, 10);
        x.use(3, 1, 1, 10);
        x.use(3, 2, 2, 10);
        x.offer(0, 0, true);
        x.offer(1, 0, true);
        x.offer(2, 2, true);
        due.is("35: to be changed it must be GIVEN", x.may(3, 0, 0, false), -1);
        x.offer(1, 4, true);
        due.is("35: the BAN takes it away", x.may(3, 0, 0, false), -1);
        x.offer(1, 1, true);
        due.is("35: it is", x.may(3, 0, 0, false), 0);
        x.offer(2, 2, false);
        x.offer(2, 1, true);
        due.is("35: to be gathered, too", x.may(3, 0, 0, false), -1);
        x.offer(2, 2, true);
        x.offer(0, 0, false);
        x.offer(0, 3, true);
        due.is("35: to be copied, too", x.may(3, 0, 0, false), -1);
        x.list(0, 0, 1);
        due.is("35: not of a FREE one", x.may(3, 0, 0, false), 0);
        x.list(0, 0, 0);
        x.list(0, 3, 1);
        due.is("35: also for a FREE WHOLE", x.may(3, 0, 0, false), -1);
        promise35Needs();
        promise35Meet();
        Licenceweave y = works(2);
        y.licence(2, 0, 0, false);
        y.licence(0, 0, 0, false);
        y.offer(0, 0, true);
        y.offer(1, 1, true);
        y.use(1, 0, 3, 6);
        due.is("35: quoted needs 0", y.may(1, 0, 0, false), -1);
        y.land(0, 70, 50, 6, false);
        due.is("35: a SMALL one needs nothing", y.may(1, 0, 0, false), 0);
        Licenceweave z = works(2);
        z.licence(63, 0, 0, true);
        z.licence(63, 0, 0, false);
        z.offer(0, 0, true);
        z.offer(1, 1, true);
        z.use(1, 0, 0, 6);
        due.is("35: into one that is ALIKE", z.may(1, 0, 0, false), 63);
        z.licence(63, 1, 0, true);
        z.offer(1, 1, false);
        z.offer(1, 2, true);
        due.is("35: two that are ALIKE", z.may(1, 0, 0, false), -1);
    }

    private static void promise35Needs() {
        Licenceweave x = works(3);
        x.licence(4, 0, 0, false);
        x.licence(2, 0, 1, false);
        x.licence(6, 0, 0, false);
        x.licence(0, 0, 3, false);
        x.offer(0, 3, true);
        x.offer(1, 3, true);
        x.use(0, 2, 2, 10);
        x.offer(2, 0, true);
        due.is("35: gathered needs 2 alone", x.may(0, 0, 0, false), 0);
        x.use(1, 2, 1, 10);
        x.offer(2, 0, false);
        x.offer(2, 1, true);
        due.is("35: changed needs 1 alone, that the BAN 0 leaves", x.may(1, 0, 0, false), 0);
        Licenceweave y = works(4);
        y.licence(4, 0, 0, false);
        y.licence(2, 0, 0, false);
        y.licence(6, 0, 0, false);
        y.licence(0, 0, 0, false);
        y.licence(7, 0, 0, false);
        y.use(0, 3, 0, 10);
        y.use(0, 1, 3, 10);
        y.use(1, 3, 1, 10);
        y.use(2, 3, 2, 10);
        y.use(2, 0, 3, 10);
        y.offer(0, 4, true);
        y.offer(1, 4, true);
        y.offer(2, 4, true);
        y.offer(3, 2, true);
        due.is("35: what one PART needs", y.may(1, 0, 0, false), 6);
        due.is("35: what all PARTS need", y.may(2, 0, 0, false), -1);
        y.offer(3, 1, true);
        due.is("35: not by two together", y.may(2, 0, 0, false), -1);
        y.offer(3, 4, true);
        due.is("35: by one", y.may(2, 0, 0, false), 7);
    }

    private static void promise35Meet() {
        Licenceweave x = works(3);
        x.licence(7 + 8, 1, 0, false);
        x.licence(7 + 16, 2, 0, false);
        x.use(0, 1, 0, 10);
        x.offer(0, 0, true);
        x.offer(1, 1, true);
        due.is("35: no LICENCE that both FIT into", x.may(0, 0, 0, false), -1);
        x.licence(3, 15, 3, true);
        due.is("35: the MEET is theirs", x.may(0, 0, 0, false), 7);
        due.is("35: the DUTIES are theirs", x.may(0, 0, 0, true), 3);
        x.licence(63, 4, 1, false);
        x.use(0, 2, 0, 10);
        x.offer(2, 3, true);
        due.is("35: of three", x.may(0, 0, 0, false), 7);
        due.is("35: the DUTIES of three", x.may(0, 0, 0, true), 7);
        due.is("35: it and no more", x.choice(0, 0, 0, 7), "0=0 1=1 2=3");
        due.is("35: the BAN of another one", x.choice(0, 0, 0, 8), "-");
    }

    private static void promise36() {
        Licenceweave x = works(3);
        due.no(x, Due.INDEX, "36: work 3", () -> x.choice(3, 0, 0, 64));
        due.no(x, Due.INDEX, "36: land 3", () -> x.choice(0, 3, 0, 0));
        due.no(x, Due.ARGUMENT, "36: year 301", () -> x.choice(0, 0, 301, 0));
        due.no(x, Due.ARGUMENT, "36: wanted 64", () -> x.choice(0, 0, 0, 64));
        due.no(x, Due.ARGUMENT, "36: wanted -1", () -> x.choice(0, 0, 0, -1));
        x.licence(63, 3, 0, false);
        x.licence(15, 1, 1, false);
        x.licence(3, 2, 0, false);
        due.is("36: none", x.choice(2, 0, 0, 0), "-");
        x.offer(2, 0, true);
        due.is("36: one", x.choice(2, 0, 0, 63), "2=0");
        x.offer(2, 1, true);
        x.offer(2, 2, true);
        due.is("36: the fewest DUTIES, not the most RIGHTS", x.choice(2, 0, 0, 0), "2=1");
        due.is("36: with what is wanted", x.choice(2, 0, 0, 4), "2=1");
        due.is("36: what its BAN takes", x.choice(2, 0, 0, 8), "2=0");
        x.offer(0, 0, true);
        x.offer(0, 1, true);
        x.use(2, 0, 0, 10);
        due.is("36: two", x.choice(2, 0, 0, 0), "0=1 2=1");
        due.is("36: two with all", x.choice(2, 0, 0, 63), "0=0 2=0");
        x.list(0, 0, 1);
        due.is("36: BOUND PARTS alone", x.choice(2, 0, 0, 63), "2=0");
        x.list(0, 2, 1);
        due.is("36: without any", x.choice(2, 0, 0, 63), "");
        x.list(0, 2, 0);
        x.offer(2, 0, false);
        due.is("36: too much is wanted", x.choice(2, 0, 0, 32), "-");
        Licenceweave y = works(3);
        for (int k = 0; k < 4; k++) {
            y.licence(63, 1, 0, false);
        }
        y.use(2, 1, 0, 10);
        y.use(2, 0, 0, 10);
        y.offer(0, 3, true);
        y.offer(0, 2, true);
        y.offer(1, 3, true);
        y.offer(1, 1, true);
        y.offer(2, 3, true);
        y.offer(2, 0, true);
        due.is("36: the smallest ones", y.choice(2, 0, 0, 1), "0=2 1=1 2=0");
        y.licence(63, 0, 0, false);
        y.offer(0, 4, true);
        due.is("36: a DUTY that is there already is no more", y.choice(2, 0, 0, 1), "0=2 1=1 2=0");
    }

    private static void promise37() {
        Licenceweave x = works(4);
        due.no(x, Due.INDEX, "37: work 4", () -> x.clash(4, 0, 301));
        due.no(x, Due.INDEX, "37: land 3", () -> x.clash(0, 3, 0));
        due.no(x, Due.ARGUMENT, "37: year 301", () -> x.clash(0, 0, 301));
        due.no(x, Due.ARGUMENT, "37: year -1", () -> x.clash(0, 0, -1));
        due.is("37: with itself", x.clash(2, 0, 0), "2 2");
        x.licence(63, 1, 0, true);
        x.licence(63, 2, 0, true);
        x.licence(63, 0, 0, false);
        x.use(3, 0, 0, 1);
        x.use(3, 1, 0, 1);
        x.use(3, 2, 0, 1);
        x.offer(0, 0, true);
        x.offer(1, 1, true);
        x.offer(2, 0, true);
        x.offer(3, 2, true);
        due.is("37: the first two", x.clash(3, 0, 0), "0 1");
        x.list(0, 0, 1);
        due.is("37: a FREE one does not", x.clash(3, 0, 0), "1 2");
        x.offer(1, 2, true);
        due.is("37: one LICENCE of each is enough", x.clash(3, 0, 0), "-");
        x.list(0, 0, 0);
        x.offer(3, 2, false);
        due.is("37: one that is OFFERED by none, with the first one", x.clash(3, 0, 0), "0 3");
        x.list(0, 0, 1);
        x.list(0, 1, 1);
        x.list(0, 2, 1);
        due.is("37: then with itself", x.clash(3, 0, 0), "3 3");
        x.list(0, 3, 1);
        due.is("37: without BOUND PARTS", x.clash(3, 0, 0), "-");
        Licenceweave y = works(2);
        y.licence(1, 0, 0, false);
        y.use(1, 0, 2, 50);
        y.offer(0, 0, true);
        y.offer(1, 0, true);
        due.is("37: what is GIVEN does not count", y.clash(1, 0, 0), "-");
    }

    private static void promise38() {
        Licenceweave x = works(4);
        due.no(x, Due.INDEX, "38: work 4", () -> x.notices(4, 0, 301));
        due.no(x, Due.INDEX, "38: land 3", () -> x.notices(0, 3, 0));
        due.no(x, Due.ARGUMENT, "38: year 301", () -> x.notices(0, 0, 301));
        due.no(x, Due.ARGUMENT, "38: year -1", () -> x.notices(0, 0, -1));
        due.is("38: none HOLDS", x.notices(3, 0, 0), "-");
        x.maker(0, 7, 10);
        x.maker(0, 2, 10);
        x.maker(1, 2, 10);
        x.maker(1, 0, 10);
        x.licence(63, 0, 0, false);
        x.licence(63, 15, 0, false);
        x.licence(63, 9, 0, false);
        x.offer(3, 0, true);
        due.is("38: nothing", x.notices(3, 0, 0), "");
        x.use(3, 0, 1, 10);
        x.use(3, 1, 0, 10);
        x.use(3, 2, 1, 10);
        x.offer(0, 1, true);
        x.offer(1, 2, true);
        x.offer(2, 1, true);
        due.is("38: all", x.notices(3, 0, 0), "n0 n2 n7 t1 o0 o2 m0 m2");
        x.list(0, 3, 1);
        due.is("38: changed by a FREE one", x.notices(3, 0, 0), "n0 n2 n7 t1 o0 o2 m0 m2");
        x.list(0, 0, 1);
        due.is("38: FREE ones need none", x.notices(3, 0, 0), "n0 n2 t1 o2 m2");
        due.is("38: changed, but not by a PART", x.notices(2, 0, 0), "t1 o2");
        x.list(0, 1, 1);
        x.list(0, 2, 1);
        due.is("38: no BOUND PARTS", x.notices(3, 0, 0), "");
        Licenceweave z = works(3);
        z.licence(63, 7, 0, false);
        z.licence(63, 8, 0, false);
        z.use(0, 1, 1, 1);
        z.use(0, 2, 1, 1);
        z.offer(0, 0, true);
        z.offer(1, 0, true);
        z.offer(2, 1, true);
        z.licence(63, 15, 0, false);
        due.is("38: each by its own DUTIES", z.notices(0, 0, 0), "t0 o0 o1 m2");
        Licenceweave y = works(2);
        y.licence(63, 2, 0, false);
        y.licence(63, 2, 0, false);
        y.use(1, 0, 0, 1);
        y.offer(0, 1, true);
        y.offer(1, 0, true);
        due.is("38: both texts", y.notices(1, 0, 0), "t0 t1");
    }

    private static void promise44() {
        Licenceweave x = works(3);
        x.licence(63, 0, 0, false);
        x.licence(7, 0, 0, false);
        x.licence(3, 0, 0, false);
        x.use(1, 0, 2, 1);
        due.no(x, Due.INDEX, "44: work 3", () -> x.wouldMay(3, 0, 0, 0, 0));
        due.no(x, Due.INDEX, "44: land 3", () -> x.wouldMay(0, 3, 0, 0, 0));
        due.no(x, Due.INDEX, "44: part 3", () -> x.wouldMay(0, 0, 0, 3, 0));
        due.no(x, Due.INDEX, "44: part -1", () -> x.wouldMay(0, 0, 0, -1, 0));
        due.no(x, Due.INDEX, "44: licence 3, year 301", () -> x.wouldMay(0, 0, 301, 0, 3));
        due.no(x, Due.INDEX, "44: licence -1", () -> x.wouldMay(0, 0, 0, 0, -1));
        due.no(x, Due.ARGUMENT, "44: year 301", () -> x.wouldMay(0, 0, 301, 0, 0));
        due.no(x, Due.ARGUMENT, "44: year -1", () -> x.wouldMay(0, 0, -1, 0, 0));
        x.offer(1, 0, true);
        due.is("44: as it is", x.may(1, 0, 0, false), -1);
        due.is("44: were it OFFERED", x.wouldMay(1, 0, 0, 0, 0), 63);
        due.is("44: by another one", x.wouldMay(1, 0, 0, 0, 1), 7);
        due.is("44: by one that does not GIVE it", x.wouldMay(1, 0, 0, 0, 2), -1);
        due.is("44: another one OFFERED by none", x.wouldMay(1, 0, 0, 1, 0), -1);
        x.offer(0, 0, true);
        due.is("44: by that alone", x.wouldMay(1, 0, 0, 0, 1), 7);
        due.is("44: the WHOLE", x.wouldMay(1, 0, 0, 1, 2), 3);
        due.is("44: a WORK that is no PART", x.wouldMay(1, 0, 0, 2, 2), 63);
        x.list(0, 0, 1);
        due.is("44: a FREE one", x.wouldMay(1, 0, 0, 0, 2), 63);
        due.is("44: nothing is changed", x.ofWork(0, 7) + x.ofWork(1, 7), 2);
        x.licence(8, 0, 0, false);
        due.is("44: without copying", x.wouldMay(1, 0, 0, 1, 3), 8);
    }
}
