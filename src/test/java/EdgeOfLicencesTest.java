import java.util.HashSet;
import java.util.Set;

/** The boundary cases of promises 10 to 13 and 29 to 33, sentence by sentence. */
public final class EdgeOfLicencesTest {
    private static final Edge edge = new Edge("EdgeOfLicencesTest");
    private static final String ALL = "cxgsvh/ntom/sx+";
    private static final String TWENTY = ALL + "cccc+";

    public static void main(String[] args) {
        promise10();
        promise11();
        promise12();
        promise12Full();
        promise13();
        promise13Full();
        promise29();
        promise30();
        promise31();
        promise31All();
        promise32();
        promise33();
        edge.end(10, 11, 12, 13, 29, 30, 31, 32, 33);
    }

    private static Edge.Start licences(int count, int works) {
        return () -> Starts.licences(count, works);
    }

    private static Edge.Start typed(String text) {
        return () -> Starts.type(new Licenceweave(), text);
    }

    private static Edge.Call learns() {
        return x -> x.learn();
    }

    private static void promise10() {
        edge.says(10, "rights: its RIGHTS");
        String[] rights = {"c", "x", "g", "s", "v", "h"};
        for (int k = 0; k < 6; k++) {
            int set = 1 << k;
            edge.in(Starts.EMPTY, "RIGHT " + k, x -> Edge.all(x.licence(set, 0, 0, false), x.line(0)),
                "0 " + rights[k] + "//");
        }
        edge.in(Starts.EMPTY, "0", x -> Edge.all(x.licence(0, 0, 0, false), x.line(0)), "0 //");
        edge.in(Starts.EMPTY, "63", x -> Edge.all(x.licence(63, 0, 0, false), x.line(0)), "0 cxgsvh//");
        edge.says(10, "duties: its DUTIES");
        String[] duties = {"n", "t", "o", "m"};
        for (int k = 0; k < 4; k++) {
            int set = 1 << k;
            edge.in(Starts.EMPTY, "DUTY " + k, x -> Edge.all(x.licence(0, set, 0, false), x.line(0)),
                "0 /" + duties[k] + "/");
        }
        edge.in(Starts.EMPTY, "15", x -> Edge.all(x.licence(0, 15, 0, false), x.line(0)), "0 /ntom/");
        edge.says(10, "bans: its BANS");
        edge.in(Starts.EMPTY, "BAN 0", x -> Edge.all(x.licence(0, 0, 1, false), x.line(0)), "0 //s");
        edge.in(Starts.EMPTY, "BAN 1", x -> Edge.all(x.licence(0, 0, 2, false), x.line(0)), "0 //x");
        edge.in(Starts.EMPTY, "3", x -> Edge.all(x.licence(0, 0, 3, false), x.line(0)), "0 //sx");
        edge.says(10, "isAlike: whether it is ALIKE");
        edge.in(Starts.EMPTY, "it is", x -> Edge.all(x.licence(0, 0, 0, true), x.line(0)), "0 //+");
        edge.says(10, "Returns its number.");
        Licenceweave one = new Licenceweave();
        for (int k = 0; k < 8; k++) {
            edge.is("number", one.licence(k, k, k % 4, k == 7), k);
        }
        edge.says(10, "Throws IllegalArgumentException if rights is not 0 to 63, duties not 0 to 15,"
            + " or bans not 0 to 3");
        edge.range(Starts.EMPTY, Edge.ARGUMENT, "rights", 0, 63, (x, v) -> x.licence(v, 0, 0, false), 0, 0);
        edge.range(Starts.EMPTY, Edge.ARGUMENT, "duties", 0, 15, (x, v) -> x.licence(0, v, 0, false), 0, 0);
        edge.range(Starts.EMPTY, Edge.ARGUMENT, "bans", 0, 3, (x, v) -> x.licence(0, 0, v, false), 0, 0);
        edge.range(Starts.SOME, Edge.ARGUMENT, "rights", 0, 63, (x, v) -> x.licence(v, 15, 3, true), 3, 3);
        edge.range(Starts.SOME, Edge.ARGUMENT, "duties", 0, 15, (x, v) -> x.licence(63, v, 3, true), 3, 3);
        edge.range(Starts.SOME, Edge.ARGUMENT, "bans", 0, 3, (x, v) -> x.licence(63, 15, v, true), 3, 3);
        edge.says(10, "Throws IllegalStateException if there are 8");
        edge.in(licences(7, 0), "an eighth", x -> x.licence(0, 0, 0, false), 7);
        edge.out(licences(8, 0), Edge.STATE, "a ninth", x -> x.licence(0, 0, 0, false));
        edge.out(Starts.FULL, Edge.STATE, "a ninth", x -> x.licence(63, 15, 3, true));
        edge.in(licences(8, 0), "when one is undone", x -> Edge.all(x.undo(), x.licence(0, 0, 0, false)), "7 7");
        edge.says(0, "LICENCES, at most 8, numbered from 0");
        edge.in(licences(8, 0), "how many", x -> x.house(1), 8);
        edge.several(10);
        edge.out(licences(8, 0), Edge.ARGUMENT, "no RIGHTS, 8", x -> x.licence(64, 0, 0, false));
        edge.out(Starts.FULL, Edge.ARGUMENT, "no DUTIES, 8", x -> x.licence(0, 16, 0, false));
        edge.out(Starts.FULL, Edge.ARGUMENT, "no BANS, 8", x -> x.licence(0, 0, -1, false));
    }

    /** The WORK 0 is OFFERED by the LICENCES 0, 3 and 7 of 8, the WORK 6 by 7. */
    private static Licenceweave offered() {
        Licenceweave x = Starts.licences(8, 7);
        x.offer(0, 0, true);
        x.offer(0, 3, true);
        x.offer(6, 7, true);
        x.offer(0, 7, true);
        return x;
    }

    private static void promise11() {
        Edge.Start start = () -> offered();
        edge.says(11, "work: the WORK");
        edge.in(start, "the first one",
            x -> Edge.all(x.offer(0, 3, false), x.ofWork(0, 7), x.ofWork(6, 7)), "2 129 128");
        edge.in(start, "the last one", x -> Edge.all(x.offer(6, 3, true), x.ofWork(0, 7), x.ofWork(6, 7)), "2 137 136");
        edge.says(11, "licence: the LICENCE");
        edge.in(start, "the first one", x -> Edge.all(x.offer(3, 0, true), x.ofWork(3, 7)), "1 1");
        edge.in(start, "the last one", x -> Edge.all(x.offer(3, 7, true), x.ofWork(3, 7)), "1 128");
        edge.says(11, "is: whether it is");
        edge.in(start, "it is no more", x -> Edge.all(x.offer(6, 7, false), x.ofWork(6, 7)), "0 0");
        edge.in(start, "it was not", x -> Edge.all(x.offer(6, 0, false), x.ofWork(6, 7)), "1 128");
        edge.in(start, "it was", x -> Edge.all(x.offer(6, 7, true), x.ofWork(6, 7)), "1 128");
        edge.says(11, "Returns by how many it is OFFERED then.");
        edge.in(start, "none", x -> x.offer(5, 0, false), 0);
        edge.in(start, "1, 2, 3",
            x -> Edge.all(x.offer(5, 0, true), x.offer(5, 7, true), x.offer(5, 1, true)), "1 2 3");
        edge.says(11, "Throws IndexOutOfBoundsException if there is no such WORK or LICENCE");
        edge.out(Starts.EMPTY, Edge.INDEX, "without WORKS and LICENCES", x -> x.offer(0, 0, false));
        edge.out(licences(0, 1), Edge.INDEX, "without LICENCES", x -> x.offer(0, 0, false));
        edge.out(licences(1, 0), Edge.INDEX, "without WORKS", x -> x.offer(0, 0, true));
        edge.range(start, Edge.INDEX, "work", 0, 6, (x, v) -> x.offer(v, 7, true), 3, 1);
        edge.range(start, Edge.INDEX, "licence", 0, 7, (x, v) -> x.offer(0, v, false), 2, 2);
        edge.range(Starts.SOME, Edge.INDEX, "work", 0, 3, (x, v) -> x.offer(v, 1, true), 3, 3);
        edge.range(Starts.SOME, Edge.INDEX, "licence", 0, 2, (x, v) -> x.offer(2, v, true), 1, 2);
        edge.says(11, "Throws IllegalStateException if it would be OFFERED by more than 3");
        edge.out(start, Edge.STATE, "a fourth", x -> x.offer(0, 1, true));
        edge.out(Starts.FULL, Edge.STATE, "a fourth", x -> x.offer(0, 7, true));
        edge.in(start, "one of the three", x -> x.offer(0, 7, true), 3);
        edge.in(start, "another one no more", x -> x.offer(0, 6, false), 3);
        edge.in(start, "one goes, another one comes", x -> Edge.all(x.offer(0, 0, false), x.offer(0, 6, true)), "2 3");
        edge.in(start, "when one is undone", x -> Edge.all(x.undo(), x.offer(0, 6, true)), "7 3");
        edge.several(11);
        edge.out(Starts.FULL, Edge.INDEX, "no LICENCE, a fourth", x -> x.offer(0, 8, true));
        edge.out(Starts.FULL, Edge.INDEX, "no LICENCE, a fourth", x -> x.offer(0, -1, true));
    }

    private static void promise12() {
        edge.says(12, "a: a SIGN, 12 for the last one going (nothing, if there is none), 13 for all going,"
            + " or NONE for nothing");
        signs(0);
        String[] sentences = {"b: likewise", "c: likewise", "d: likewise", "e: likewise", "f: likewise"};
        for (int k = 0; k < 5; k++) {
            edge.says(12, sentences[k]);
            signs(k + 1);
        }
        edge.says(12, "Returns how long TYPED is then.");
        edge.in(Starts.EMPTY, "none", x -> x.say(-1, -1, -1, -1, -1, -1), 0);
        edge.in(Starts.EMPTY, "six", x -> x.say(0, 1, 2, 3, 4, 5), 6);
        edge.in(typed("cccccccccccccc"), "twenty", x -> x.say(0, 1, 2, 3, 4, 5), 20);
        edge.in(typed(TWENTY), "twenty, and nothing", x -> x.say(-1, -1, -1, -1, -1, -1), 20);
        edge.in(typed(TWENTY), "six less", x -> x.say(12, 12, 12, 12, 12, 12), 14);
        edge.in(typed(TWENTY), "none any more", x -> x.say(13, -1, -1, -1, -1, -1), 0);
        edge.says(12, "Types SIGNS behind TYPED, one after the other.");
        edge.in(typed("c"), "in their order", x -> Edge.all(x.say(12, 12, 5, 12, 11, 10), x.typed()), "2 +/");
        edge.in(typed("cx"), "nothing is no gap", x -> Edge.all(x.say(-1, 2, -1, -1, 3, -1), x.typed()), "4 cxgs");
        edge.in(typed("cx"), "all going, then more", x -> Edge.all(x.say(2, 13, 3, 4, 13, 5), x.typed()), "1 h");
        edge.says(12, "Throws IllegalArgumentException if one is not -1 to 13");
        edge.range(Starts.SOME, Edge.ARGUMENT, "a", -1, 13, (x, v) -> x.say(v, -1, -1, -1, -1, -1), 4, 0);
        edge.range(Starts.SOME, Edge.ARGUMENT, "b", -1, 13, (x, v) -> x.say(-1, v, -1, -1, -1, -1), 4, 0);
        edge.range(Starts.SOME, Edge.ARGUMENT, "c", -1, 13, (x, v) -> x.say(-1, -1, v, -1, -1, -1), 4, 0);
        edge.range(Starts.SOME, Edge.ARGUMENT, "d", -1, 13, (x, v) -> x.say(-1, -1, -1, v, -1, -1), 4, 0);
        edge.range(Starts.SOME, Edge.ARGUMENT, "e", -1, 13, (x, v) -> x.say(-1, -1, -1, -1, v, -1), 4, 0);
        edge.range(Starts.SOME, Edge.ARGUMENT, "f", -1, 13, (x, v) -> x.say(-1, -1, -1, -1, -1, v), 4, 0);
    }

    /** What each SIGN does at that place of the six. */
    private static void signs(int place) {
        int[] a = {-1, -1, -1, -1, -1, -1};
        for (int sign = -1; sign <= 13; sign++) {
            a[place] = sign;
            int[] b = a.clone();
            Edge.Call call = x -> Edge.all(x.say(b[0], b[1], b[2], b[3], b[4], b[5]), "[" + x.typed() + "]");
            String letter = sign < 0 || sign > 11 ? "" : "" + "cxgsvhntom/+".charAt(sign);
            String more = "vv" + letter;
            String due = sign == 12 ? "1 [v]" : sign == 13 ? "0 []" : more.length() + " [" + more + "]";
            edge.in(Starts.EMPTY, "SIGN " + sign, call, letter.length() + " [" + letter + "]");
            edge.in(typed("vv"), "SIGN " + sign, call, due);
        }
    }

    private static void promise12Full() {
        edge.says(12, "Throws IllegalStateException if TYPED would be longer than 20 at some moment");
        String nineteen = TWENTY.substring(1);
        edge.in(typed(nineteen), "19 and 1", x -> x.say(-1, -1, -1, -1, -1, 0), 20);
        edge.out(typed(nineteen), Edge.STATE, "19 and 2", x -> x.say(0, -1, -1, -1, -1, 0));
        edge.out(typed(TWENTY), Edge.STATE, "20 and 1", x -> x.say(11, -1, -1, -1, -1, -1));
        edge.out(typed(TWENTY), Edge.STATE, "20 and 1, the last one", x -> x.say(-1, -1, -1, -1, -1, 0));
        edge.out(typed(TWENTY.substring(5)), Edge.STATE, "15 and 6", x -> x.say(0, 0, 0, 0, 0, 0));
        edge.in(typed(TWENTY.substring(6)), "14 and 6", x -> x.say(0, 0, 0, 0, 0, 0), 20);
        edge.out(typed(TWENTY), Edge.STATE, "21, then one goes", x -> x.say(0, 12, -1, -1, -1, -1));
        edge.out(typed(TWENTY), Edge.STATE, "21, then all go", x -> x.say(0, 13, -1, -1, -1, -1));
        edge.out(typed(nineteen), Edge.STATE, "21, then most go", x -> x.say(0, 0, 12, 12, 12, 12));
        edge.out(typed(TWENTY), Edge.STATE, "20, 19, 20, 21", x -> x.say(12, 0, 0, 12, 12, 12));
        edge.in(typed(TWENTY), "one goes, one comes", x -> x.say(12, 0, 12, 0, 12, 0), 20);
        edge.in(typed(TWENTY), "all go, five come", x -> x.say(13, 0, 0, 0, 0, 0), 5);
        edge.in(typed(TWENTY), "when it is undone", x -> Edge.all(x.undo(), x.say(0, 0, -1, -1, -1, -1)), "3 20");
        edge.out(Starts.FULL, Edge.STATE, "20 and 6", x -> x.say(10, 10, 11, 0, 1, 2));
        edge.several(12);
        edge.out(typed(TWENTY), Edge.ARGUMENT, "21, then no SIGN", x -> x.say(0, 14, -1, -1, -1, -1));
        edge.out(typed(TWENTY), Edge.ARGUMENT, "21, the last one no SIGN", x -> x.say(0, 0, 0, 0, 0, -2));
        edge.out(Starts.FULL, Edge.ARGUMENT, "no SIGN, then 21", x -> x.say(14, 0, 0, 0, 0, 0));
    }

    private static void promise13() {
        edge.says(13, "TYPED becomes a LICENCE; it is empty then.");
        Edge.Call learn = x -> Edge.all(x.learn(), x.line(0), "[" + x.typed() + "]", x.house(7));
        edge.in(typed("//"), "the shortest LINE", learn, "0 // [] 0");
        edge.in(typed(ALL), "the longest one", learn, "0 " + ALL + " [] 0");
        edge.in(typed(ALL), "the shortest one, when the longest one was asked for",
            x -> Edge.all(x.fault(), Starts.type(x, "!//").learn(), x.line(0)), "-1 0 //");
        edge.in(typed(ALL), "the longest one, then the shortest one",
            x -> Edge.all(x.learn(), Starts.type(x, "//").learn(), x.line(1)), "0 1 //");
        for (int k = 0; k < 128; k++) {
            int set = k / 2 % 64;
            int duties = k % 16;
            int bans = k % 4;
            boolean isAlike = k >= 64;
            Licenceweave x = Starts.works(1);
            x.licence(set, duties, bans, isAlike);
            Starts.type(x, x.line(0));
            edge.is("as one that came, not typed", Edge.all(x.learn(), x.line(1)), "1 " + x.line(0));
            edge.is("they FIT", Edge.all(x.fits(1, 0), x.fits(0, 1)), isAlike ? "false false" : "true true");
            edge.is("they are as good", Edge.all(x.wouldMay(0, 0, 0, 0, 1)), "" + x.wouldMay(0, 0, 0, 0, 0));
        }
        edge.says(13, "Returns its number; -2 less the FAULT, if there is one (and nothing is changed).");
        Licenceweave one = new Licenceweave();
        for (int k = 0; k < 8; k++) {
            Starts.type(one, "cx/n/x+");
            edge.is("number", one.learn(), k);
        }
        String[] texts = {"", "/", "n", "+", "cxgsvh", "cxgsvh/ntom", TWENTY, ALL + "/", "cccccccccccccccccccc",
            "cxgsvh/ntom/sxs"};
        int[] faults = {0, 1, 0, 0, 6, 11, 15, 15, 1, 14};
        for (int k = 0; k < texts.length; k++) {
            edge.in(typed(texts[k]), "the FAULT of [" + texts[k] + "]", learns(), -2 - faults[k]);
            Licenceweave x = Starts.type(Starts.SOME.make(), "!" + texts[k]);
            Licenceweave y = Starts.type(Starts.SOME.make(), "!" + texts[k]);
            edge.is("a FAULT in SOME", x.learn(), -2 - faults[k]);
            edge.is("nothing is changed by [" + texts[k] + "]", View.trail(x), View.trail(y));
        }
    }

    private static Edge.Start taught(int count, String text) {
        return () -> Starts.type(Starts.licences(count, 1), text);
    }

    private static void promise13Full() {
        edge.says(13, "Throws IllegalStateException if there are 8 (whatever is TYPED)");
        edge.in(taught(7, "//"), "an eighth", learns(), 7);
        edge.in(taught(7, "/"), "with 7, a FAULT", learns(), -3);
        edge.out(taught(8, "//"), Edge.STATE, "a ninth", learns());
        edge.out(taught(8, ALL), Edge.STATE, "a ninth", learns());
        edge.out(taught(8, ""), Edge.STATE, "nothing TYPED", learns());
        edge.out(taught(8, "c"), Edge.STATE, "too short", learns());
        edge.out(taught(8, "xc"), Edge.STATE, "a FAULT", learns());
        edge.out(Starts.FULL, Edge.STATE, "20 TYPED", learns());
        edge.in(() -> Starts.type(Starts.licences(7, 1), "//"), "when one is undone",
            x -> Edge.all(x.learn(), x.undo(), x.house(1), "[" + x.typed() + "]", x.learn()), "7 7 7 [//] 7");
    }

    private static void promise29() {
        edge.says(29, "licence: a LICENCE");
        Edge.Start start = () -> lines();
        edge.in(start, "the first one", x -> x.line(0), "//");
        edge.in(start, "the last one", x -> x.line(7), ALL);
        edge.says(29, "Returns its LINE.");
        String[] rights = {"", "c", "x", "cx", "g", "cg", "xg", "cxg"};
        String[] more = {"", "s", "v", "sv", "h", "sh", "vh", "svh"};
        String[] duties = {"", "n", "t", "nt", "o", "no", "to", "nto", "m", "nm", "tm", "ntm", "om", "nom", "tom",
            "ntom"};
        String[] bans = {"", "s", "x", "sx"};
        for (int set = 0; set < 64; set++) {
            Licenceweave x = new Licenceweave();
            boolean isAlike = set % 3 == 0;
            x.licence(set, set % 16, set % 4, isAlike);
            String due = rights[set % 8] + more[set / 8] + "/" + duties[set % 16] + "/" + bans[set % 4];
            edge.is("RIGHTS " + set, x.line(0), due + (isAlike ? "+" : ""));
        }
        edge.says(29, "Throws IndexOutOfBoundsException if there is no such LICENCE");
        edge.out(Starts.EMPTY, Edge.INDEX, "without LICENCES", x -> x.line(0));
        edge.range(start, Edge.INDEX, "licence", 0, 7, (x, v) -> x.line(v), "//", ALL);
        edge.range(Starts.SOME, Edge.INDEX, "licence", 0, 2, (x, v) -> x.line(v), "cxgsvh/ntom/", "cxg/n/");
        edge.range(taught(1, "c//"), Edge.INDEX, "what is TYPED is none", 0, 0, (x, v) -> x.line(v), "cxgsvh//",
            "cxgsvh//");
    }

    private static Licenceweave lines() {
        Licenceweave x = new Licenceweave();
        for (int k = 0; k < 8; k++) {
            x.licence(k * 9, k * 2 + k / 7, k * 3 / 7, k == 7);
        }
        return x;
    }

    private static void promise30() {
        edge.says(30, "Returns TYPED.");
        edge.in(Starts.EMPTY, "at first", x -> x.typed(), "");
        edge.in(typed("cxgsvhntom/+"), "all SIGNS", x -> x.typed(), "cxgsvhntom/+");
        edge.in(typed("++++++++++++++++++++"), "the last SIGN, twenty times", x -> x.typed(), "++++++++++++++++++++");
        edge.in(typed("cccccccccccccccccccc"), "the first SIGN, twenty times", x -> x.typed(), "cccccccccccccccccccc");
        edge.in(typed("c<"), "none again", x -> x.typed(), "");
        edge.in(typed(TWENTY + "!"), "all gone", x -> x.typed(), "");
        edge.in(Starts.FULL, "twenty", x -> x.typed(), TWENTY);
    }

    private static void promise31() {
        edge.says(31, "Returns the FAULT of TYPED.");
        edge.in(Starts.FULL, "behind the longest LINE", x -> x.fault(), 15);
        edge.in(typed("+ccccccccccccccccccc"), "in the first place", x -> x.fault(), 0);
        edge.says(0, "Its FAULT: the place (from 0) of the first SIGN that can not stand there, if it is to be the LINE"
            + " of a LICENCE (letters of one kind rise as they are named, each once), its length, if it ends too early,"
            + " NONE, if it is a LINE.");
        int[] faults = {0, 1, 2, 3, 4, 5, 6, 7, 8, 9, 10, 11, -1, -1, -1, -1};
        for (int k = 0; k <= 15; k++) {
            int length = k;
            edge.in(typed(ALL.substring(0, k)), "the first " + k + " of the longest LINE", x -> x.fault(), faults[k]);
            edge.in(typed(ALL), "so many less: " + k, x -> shortened(x, 15 - length), faults[k]);
        }
    }

    private static int shortened(Licenceweave x, int count) {
        for (int k = 0; k < count; k++) {
            x.say(12, -1, -1, -1, -1, -1);
        }
        return x.fault();
    }

    /** Every text of up to three SIGNS, and every SIGN at each place of the longest LINE. */
    private static void promise31All() {
        Set<String> lines = new HashSet<>();
        Set<String> starts = new HashSet<>();
        for (int k = 0; k < 64 * 16 * 4 * 2; k++) {
            String line = some(k % 64, "cxgsvh") + "/" + some(k / 64 % 16, "ntom") + "/" + some(k / 1024 % 4, "sx");
            line += k >= 4096 ? "+" : "";
            lines.add(line);
            for (int n = 0; n <= line.length(); n++) {
                starts.add(line.substring(0, n));
            }
        }
        edge.says(31, "Returns the FAULT of TYPED.");
        String signs = "cxgsvhntom/+";
        for (int k = 0; k < 13 * 13 * 13; k++) {
            String text = at(signs, k % 13) + at(signs, k / 13 % 13) + at(signs, k / 169);
            edge.in(typed(text), "[" + text + "]", x -> x.fault(), faultOf(text, lines, starts));
        }
        for (int place = 0; place <= 15; place++) {
            for (int k = 0; k <= 12; k++) {
                String text = ALL.substring(0, place) + at(signs, k) + ALL.substring(Math.min(15, place + 1));
                edge.in(typed(text), "[" + text + "]", x -> x.fault(), faultOf(text, lines, starts));
            }
        }
    }

    private static String at(String signs, int k) {
        return k < signs.length() ? signs.substring(k, k + 1) : "";
    }

    private static String some(int set, String letters) {
        StringBuilder text = new StringBuilder();
        for (int k = 0; k < letters.length(); k++) {
            text.append((set >> k & 1) == 1 ? letters.substring(k, k + 1) : "");
        }
        return text.toString();
    }

    private static int faultOf(String text, Set<String> lines, Set<String> starts) {
        for (int k = 1; k <= text.length(); k++) {
            if (!starts.contains(text.substring(0, k))) {
                return k - 1;
            }
        }
        return lines.contains(text) ? -1 : text.length();
    }

    /** Whether the first LICENCE FITS into the other one. */
    private static boolean into(int rights, int duties, int bans, boolean isAlike, int rights2, int duties2,
            int bans2) {
        Licenceweave x = new Licenceweave();
        x.licence(rights, duties, bans, isAlike);
        x.licence(rights2, duties2, bans2, true);
        return x.fits(0, 1);
    }

    private static void promise32() {
        edge.says(32, "licence: a LICENCE");
        edge.in(() -> chained(), "the first one", x -> x.fits(0, 7), true);
        edge.in(() -> chained(), "the last one", x -> x.fits(7, 0), false);
        edge.says(32, "other: a LICENCE");
        edge.in(() -> chained(), "the first one", x -> x.fits(1, 0), false);
        edge.in(() -> chained(), "the last one", x -> x.fits(6, 7), true);
        edge.says(32, "Returns whether the first one FITS into the other one.");
        for (int k = 0; k < 8; k++) {
            for (int m = 0; m < 8; m++) {
                int one = k;
                int other = m;
                edge.in(() -> chained(), k + " into " + m, x -> x.fits(one, other), k <= m);
            }
        }
        edge.says(0, "A LICENCE FITS into another one, if both are the same (by number), or if it is not ALIKE,"
            + " and has all RIGHTS of that, while that has all its DUTIES and BANS.");
        edge.is("all is the same", into(7, 5, 1, false, 7, 5, 1), true);
        edge.is("all is the same, ALIKE", into(7, 5, 1, true, 7, 5, 1), false);
        edge.is("nothing at all", into(0, 0, 0, false, 0, 0, 0), true);
        edge.is("all and nothing", into(63, 0, 0, false, 0, 15, 3), true);
        edge.is("all and nothing, ALIKE", into(63, 0, 0, true, 0, 15, 3), false);
        for (int k = 0; k < 6; k++) {
            edge.is("a RIGHT less", into(63 - (1 << k), 5, 1, false, 63, 5, 1), false);
            edge.is("a RIGHT more", into(63, 5, 1, false, 63 - (1 << k), 5, 1), true);
        }
        for (int k = 0; k < 4; k++) {
            edge.is("a DUTY more", into(7, 15, 1, false, 7, 15 - (1 << k), 1), false);
            edge.is("a DUTY less", into(7, 15 - (1 << k), 1, false, 7, 15, 1), true);
        }
        for (int k = 0; k < 2; k++) {
            edge.is("a BAN more", into(7, 5, 3, false, 7, 5, 3 - (1 << k)), false);
            edge.is("a BAN less", into(7, 5, 3 - (1 << k), false, 7, 5, 3), true);
        }
        edge.is("what a BAN takes is a RIGHT still", into(10, 0, 3, false, 10, 0, 3), true);
        Licenceweave alike = new Licenceweave();
        alike.licence(63, 0, 0, true);
        edge.is("the same by number, ALIKE", alike.fits(0, 0), true);
        edge.says(32, "Throws IndexOutOfBoundsException if there is no such LICENCE as licence or other");
        edge.out(Starts.EMPTY, Edge.INDEX, "without LICENCES", x -> x.fits(0, 0));
        edge.range(() -> chained(), Edge.INDEX, "licence", 0, 7, (x, v) -> x.fits(v, 6), true, false);
        edge.range(() -> chained(), Edge.INDEX, "other", 0, 7, (x, v) -> x.fits(1, v), false, true);
        edge.range(Starts.SOME, Edge.INDEX, "licence", 0, 2, (x, v) -> x.fits(v, v), true, true);
        edge.range(Starts.SOME, Edge.INDEX, "other", 0, 2, (x, v) -> x.fits(2, v), false, true);
    }

    /** Eight LICENCES, each of which FITS into it and all behind it. */
    private static Licenceweave chained() {
        Licenceweave x = new Licenceweave();
        int[] rights = {63, 31, 31, 15, 15, 7, 7, 3};
        int[] duties = {0, 0, 1, 1, 3, 3, 7, 7};
        for (int k = 0; k < 8; k++) {
            x.licence(rights[k], duties[k], k < 7 ? 0 : 1, k == 7);
        }
        return x;
    }

    /** Two LICENCES that FIT into none but the last one, and that one of so many. */
    private static Licenceweave joinedByLast(int count) {
        Licenceweave x = new Licenceweave();
        x.licence(1, 1, 0, false);
        for (int k = 1; k < count - 2; k++) {
            x.licence(32, 8, 3, true);
        }
        x.licence(3, 2, 0, false);
        x.licence(1, 3, 0, true);
        return x;
    }

    private static void promise33() {
        edge.says(33, "licence: a LICENCE");
        edge.in(() -> joinedByLast(8), "the first one", x -> x.joined(0, 6), 7);
        edge.in(() -> joinedByLast(8), "the last one", x -> x.joined(7, 6), 7);
        edge.says(33, "other: a LICENCE");
        edge.in(() -> joinedByLast(8), "the first one", x -> x.joined(6, 0), 7);
        edge.in(() -> joinedByLast(8), "the last one", x -> x.joined(0, 7), 7);
        edge.says(33, "Returns the LICENCE by which both are JOINED; NONE, if they are not.");
        edge.in(() -> joinedByLast(8), "not", x -> x.joined(0, 1), -1);
        edge.in(() -> joinedByLast(8), "one that is ALIKE, with itself", x -> x.joined(1, 1), 1);
        edge.in(() -> joinedByLast(8), "two that are ALIKE, and the same", x -> x.joined(1, 2), -1);
        edge.in(() -> joinedByLast(3), "by the third one of three", x -> x.joined(0, 1), 2);
        edge.in(() -> Starts.licences(1, 0), "the only one", x -> x.joined(0, 0), 0);
        edge.in(() -> Starts.licences(8, 0), "all are the same: the first one", x -> x.joined(6, 7), 0);
        edge.in(() -> Starts.licences(8, 0), "all are the same: with itself", x -> x.joined(7, 7), 0);
        edge.in(() -> chained(), "by the one of both", x -> x.joined(3, 6), 6);
        edge.says(33, "Throws IndexOutOfBoundsException if there is no such LICENCE as licence or other");
        edge.out(Starts.EMPTY, Edge.INDEX, "without LICENCES", x -> x.joined(0, 0));
        edge.range(() -> chained(), Edge.INDEX, "licence", 0, 7, (x, v) -> x.joined(v, 3), 3, 7);
        edge.range(() -> chained(), Edge.INDEX, "other", 0, 7, (x, v) -> x.joined(3, v), 3, 7);
        edge.range(Starts.SOME, Edge.INDEX, "licence", 0, 2, (x, v) -> x.joined(v, 2), -1, 2);
        edge.range(Starts.SOME, Edge.INDEX, "other", 0, 2, (x, v) -> x.joined(1, v), -1, -1);
    }
}
