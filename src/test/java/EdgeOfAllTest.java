/** The boundary cases of promises 22, 23, 43 and 46 to 48, and those of all calls, sentence by sentence. */
public final class EdgeOfAllTest {
    private static final Edge edge = new Edge("EdgeOfAllTest");
    private static final Edge.Start[] ALL = {Starts.EMPTY, Starts.SOME, Starts.FULL};

    public static void main(String[] args) {
        promise22();
        promise22Eight();
        promise22Each();
        promise22Full();
        promise22NoStep();
        promise23();
        promise43();
        promise43Runs();
        promise46();
        promise47();
        promise48();
        lastCall();
        refusedCalls();
        edge.end(22, 23, 43, 46, 47, 48);
    }

    /** So many calls, each of which tells another BEHIND: 1, 2, 3 and so on. */
    private static Licenceweave told(int count) {
        Licenceweave x = new Licenceweave();
        for (int k = 1; k <= count; k++) {
            x.behind(k);
        }
        return x;
    }

    private static void promise22() {
        edge.says(22, "Returns how many STEPS BACK are left.");
        int[] left = {0, 0, 1, 6, 7, 7, 7};
        int[] counts = {0, 1, 2, 7, 8, 9, 30};
        for (int k = 1; k < counts.length; k++) {
            int count = counts[k];
            edge.in(() -> told(count), "behind " + count, x -> Edge.all(x.undo(), x.house(6)), left[k] + " " + left[k]);
        }
        edge.says(22, "Throws IllegalStateException if there is none");
        edge.out(Starts.EMPTY, Edge.STATE, "a new one", x -> x.undo());
        edge.out(() -> undone(told(1), 1), Edge.STATE, "the only one is undone", x -> x.undo());
        edge.out(() -> undone(told(8), 8), Edge.STATE, "all eight are undone", x -> x.undo());
        edge.out(() -> undone(told(9), 8), Edge.STATE, "eight of nine are undone", x -> x.undo());
        edge.out(() -> undone(Starts.FULL.make(), 8), Edge.STATE, "with much ahead of it", x -> x.undo());
        edge.in(() -> undone(told(8), 7), "the eighth one", x -> x.undo(), 0);
        edge.says(22, "all is as ahead of it (with TYPED; but how many were REFUSED ever stays)");
        edge.in(() -> undone(told(9), 8), "as behind the first one", x -> x.house(4), 1);
        edge.in(() -> undone(told(8), 8), "as at first", x -> x.house(4), 35);
        edge.in(() -> Starts.type(told(8), "c/n"), "TYPED", x -> Edge.all(x.undo(), "[" + x.typed() + "]"), "7 []");
        edge.in(() -> Starts.type(told(8), "!"), "TYPED, empty both times", x -> Edge.all(x.undo(), x.house(7)), "7 0");
        edge.in(() -> told(8), "REFUSED", x -> Edge.all(x.knock(), x.undo(), x.house(8), x.knock()), "1 7 1 2");
        edge.in(() -> told(8), "REFUSED ahead of a call",
            x -> Edge.all(x.knock(), x.behind(9), x.undo(), x.undo(), x.house(8)), "1 8 7 6 1");
    }

    private static Licenceweave undone(Licenceweave x, int count) {
        for (int k = 0; k < count; k++) {
            x.undo();
        }
        return x;
    }

    private static void promise22Eight() {
        edge.says(22, "At most 8 STEPS BACK are kept; each such call adds one (with 8 the oldest one goes),"
            + " to undo takes the last one.");
        for (int count = 0; count <= 20; count++) {
            Licenceweave x = told(count);
            int steps = Math.min(8, count);
            edge.is("kept of " + count, x.house(6), steps);
            for (int back = 1; back <= steps; back++) {
                edge.is("left", x.undo(), steps - back);
                edge.is("BEHIND", x.house(4), back == count ? 35 : count - back);
            }
            edge.is("none is left", Edge.answer(x, y -> y.undo()), Edge.STATE);
        }
        for (int back = 0; back <= 8; back++) {
            for (int more = 0; more <= 9; more++) {
                Licenceweave x = undone(told(12), back);
                for (int k = 1; k <= more; k++) {
                    x.behind(50 + k);
                }
                int steps = Math.min(8, 8 - back + more);
                edge.is("back " + back + ", then " + more, x.house(6), steps);
                for (int k = 1; k <= steps; k++) {
                    x.undo();
                    edge.is("back " + back + ", then " + more + ", back " + k, x.house(4),
                        k < more ? 50 + more - k : 12 - back - (k - more));
                }
                edge.is("none is left", Edge.answer(x, y -> y.undo()), Edge.STATE);
            }
        }
    }

    /** As that one, but no STEP BACK is left. */
    private static Licenceweave rested(Edge.Start start) {
        Licenceweave x = start.make();
        int before = x.house(4);
        for (int k = 0; k < 8; k++) {
            x.behind(before);
        }
        return undone(x, 8);
    }

    private static void promise22Each() {
        edge.says(22, "At most 8 STEPS BACK are kept; each such call adds one (with 8 the oldest one goes),"
            + " to undo takes the last one.");
        Edge.Call[] calls = {x -> x.work(300, 2), x -> x.maker(2, 7, 1), x -> x.shown(0, -1), x -> x.death(0, -1),
            x -> x.use(3, 0, 0, 0), x -> x.words(0, 5, -1, -1, -1, -1), x -> x.land(2, 0, 100, 0, false),
            x -> x.list(2, 1, 1), x -> x.licence(0, 0, 0, false), x -> x.offer(0, 1, true), x -> x.offer(0, 0, false),
            x -> x.say(13, 10, 10, -1, -1, -1), x -> x.hand(0, 0, 7, 1, 0, 300), x -> x.back(1, 30),
            x -> x.takeBack(0, 0, 70), x -> x.behind(0), x -> x.advance(7, 1), x -> x.cap(0, -1), x -> x.floor(0, 1),
            x -> x.sale(1, 0, 20, 9999)};
        Licenceweave still = rested(Starts.SOME);
        still.behind(30);
        String unchanged = View.whole(still);
        for (int k = 0; k < calls.length; k++) {
            Licenceweave x = rested(Starts.SOME);
            String before = View.whole(x);
            calls[k].on(x);
            edge.is("one STEP by call " + k, x.house(6), 1);
            edge.is("it changes something: call " + k, View.whole(x).equals(unchanged), false);
            x.undo();
            edge.is("all is as ahead of call " + k, View.whole(x), before);
            edge.is("none is left behind call " + k, Edge.answer(x, y -> y.undo()), Edge.STATE);
        }
        Edge.Call[] same = {x -> x.shown(0, 33), x -> x.death(0, 40), x -> x.words(0, -1, -1, -1, -1, -1),
            x -> x.land(0, 60, 40, 4, false), x -> x.list(2, 1, 2), x -> x.offer(0, 0, true), x -> x.offer(0, 1, false),
            x -> x.say(-1, -1, -1, -1, -1, -1), x -> x.say(0, 12, -1, -1, -1, -1), x -> x.takeBack(0, 0, 0),
            x -> x.behind(30), x -> x.advance(0, 0), x -> x.cap(0, 40), x -> x.floor(0, 0), x -> x.sale(0, 0, 10, 0)};
        for (int k = 0; k < same.length; k++) {
            Licenceweave x = rested(Starts.SOME);
            same[k].on(x);
            edge.is("one STEP by a call that changes nothing: " + k, x.house(6), 1);
        }
        Licenceweave x = Starts.type(rested(Starts.SOME), "!//");
        edge.is("learn", Edge.all(x.learn(), x.house(6), x.undo(), x.typed(), x.house(1)), "3 2 1 // 3");
    }

    /** All that is kept is there again, also the last thing of each kind. */
    private static void promise22Full() {
        edge.says(22, "all is as ahead of it (with TYPED; but how many were REFUSED ever stays)");
        Edge.Start[] starts = {Starts.SOME, Starts.FULL, () -> Starts.greatest(), () -> Starts.licences(8, 7)};
        for (Edge.Start start : starts) {
            String before = View.still(start);
            edge.is("a call, undone", View.still(() -> undone(behind(start.make(), 1), 1)), before);
            edge.is("eight calls, undone", View.still(() -> undone(behind(start.make(), 8), 8)), before);
            edge.is("undone, and done again", View.still(() -> behind(undone(behind(start.make(), 1), 1), 1)),
                View.still(() -> behind(start.make(), 1)));
        }
        Edge.Call[] calls = {x -> x.shown(6, -1), x -> x.death(7, -1), x -> x.use(6, 5, 3, 0),
            x -> x.words(1, 5, -1, -1, -1, -1), x -> x.land(0, 1, 1, 1, false), x -> x.land(2, 1, 1, 1, true),
            x -> x.list(2, 6, 1), x -> x.offer(6, 7, true), x -> x.offer(0, 0, false),
            x -> x.say(12, 12, 12, 12, 12, 0),
            x -> x.back(15, 0), x -> x.back(0, 90), x -> x.takeBack(0, 7, 300), x -> x.advance(7, 1), x -> x.cap(7, 1),
            x -> x.floor(6, 9999), x -> x.sale(6, 2, 300, 9999)};
        String before = View.still(Starts.FULL);
        for (int k = 0; k < calls.length; k++) {
            Edge.Call call = calls[k];
            edge.is("undone in a full one: " + k, View.still(() -> undone(called(call), 1)), before);
        }
    }

    private static Licenceweave called(Edge.Call call) {
        Licenceweave x = Starts.FULL.make();
        call.on(x);
        return x;
    }

    private static Licenceweave behind(Licenceweave x, int count) {
        for (int k = 1; k <= count; k++) {
            x.behind(k);
        }
        return x;
    }

    private static void promise22NoStep() {
        edge.says(22, "The last of the calls ahead that was not refused (by an exception, or at the DOOR),"
            + " nor told a number below -1, is undone");
        for (Edge.Start start : ALL) {
            Licenceweave x = start.make();
            Licenceweave y = start.make();
            int steps = x.house(6);
            x.knock();
            y.knock();
            edge.is("not at the DOOR", x.house(6), steps);
            if (start != Starts.FULL) {
                edge.is("a number below -1", x.learn() < -1, true);
                edge.is("not what told it", x.house(6), steps);
            }
            edge.is("not what was refused", Edge.answer(x, z -> z.behind(101)), Edge.ARGUMENT);
            edge.is("nor that", Edge.answer(x, z -> z.work(0, 3)), Edge.INDEX);
            edge.is("still as many", x.house(6), steps);
            edge.is("all is as ahead of it", View.trail(x), View.trail(y));
        }
        edge.in(() -> told(3), "NONE is not below -1", x -> Edge.all(x.death(0, -1), x.house(6)), "-1 4");
        edge.in(() -> told(3), "-2 is", x -> Edge.all(x.learn(), x.house(6), x.undo(), x.house(4)), "-2 3 2 2");
        for (Edge.Start start : new Edge.Start[] {Starts.SOME, Starts.FULL}) {
            Licenceweave x = start.make();
            Edge.Call[] asked = asked();
            for (int k = 0; k < asked.length; k++) {
                String first = "" + asked[k].on(x);
                edge.is("what is asked is no STEP: " + k, x.house(6), 8);
                edge.is("it is told once more: " + k, "" + asked[k].on(x), first);
            }
            edge.is("what is asked changes nothing", View.trail(x), View.trail(start.make()));
        }
    }

    /** Each call that asks. */
    private static Edge.Call[] asked() {
        return new Edge.Call[] {x -> x.ofWork(0, 0), x -> x.ofHand(8, 3), x -> x.end(0, 0), x -> x.isFree(0, 0, 100),
            x -> x.next(0, 0, 0), x -> x.line(0), x -> x.typed(), x -> x.fault(), x -> x.fits(0, 1),
            x -> x.joined(0, 1), x -> x.parts(3, 0, 0, true), x -> x.may(3, 0, 0, false), x -> x.choice(3, 0, 0, 0),
            x -> x.clash(3, 0, 0), x -> x.notices(3, 0, 0), x -> x.holds(0, 0, 100), x -> x.ofEntry(0, 6),
            x -> x.chain(0, 0, 100), x -> x.share(3, 0, 100, 8), x -> x.likeness(0, 1, 1),
            x -> x.wouldMay(3, 0, 0, 3, 1), x -> x.wouldEnd(0, 0, 0, 300), x -> x.house(0), x -> x.isSound(),
            x -> x.digest()};
    }

    private static void promise23() {
        edge.says(23, "Returns how many were REFUSED ever, with this.");
        edge.in(Starts.EMPTY, "the first one", x -> Edge.all(x.house(8), x.knock(), x.house(8)), "0 1 1");
        edge.in(Starts.SOME, "the second one", x -> Edge.all(x.house(8), x.knock(), x.house(8)), "1 2 2");
        edge.in(Starts.FULL, "when all is full", x -> Edge.all(x.knock(), x.knock()), "2 3");
        edge.in(Starts.EMPTY, "refused calls do not count", x -> Edge.all(Edge.answer(x, y -> y.undo()), x.knock()),
            Edge.STATE + " 1");
        edge.in(Starts.EMPTY, "what told a number below -1 does not", x -> Edge.all(x.learn(), x.knock()), "-2 1");
        Licenceweave one = new Licenceweave();
        for (int k = 1; k <= 512; k++) {
            edge.is("each time", one.knock(), k);
        }
    }

    private static void promise43() {
        edge.says(43, "work: a WORK");
        edge.in(Starts.FULL, "the first one", x -> x.likeness(0, 1, 1), 20);
        edge.in(Starts.FULL, "the last one", x -> x.likeness(6, 0, 1), 0);
        edge.says(43, "other: a WORK");
        edge.in(Starts.FULL, "the first one", x -> x.likeness(1, 0, 1), 19);
        edge.in(Starts.FULL, "the last one", x -> x.likeness(0, 6, 1), 0);
        edge.says(43, "run: the length of a RUN");
        edge.in(Starts.FULL, "1", x -> x.likeness(0, 0, 1), 20);
        edge.in(Starts.FULL, "20", x -> x.likeness(0, 0, 20), 20);
        edge.in(Starts.FULL, "20 of 19", x -> x.likeness(1, 1, 20), 0);
        edge.in(Starts.FULL, "19 of 19", x -> x.likeness(1, 1, 19), 19);
        edge.says(43, "Throws IndexOutOfBoundsException if there is no such WORK as work or other");
        edge.out(Starts.EMPTY, Edge.INDEX, "without WORKS", x -> x.likeness(0, 0, 1));
        edge.range(Starts.FULL, Edge.INDEX, "work", 0, 6, (x, v) -> x.likeness(v, 0, 1), 20, 0);
        edge.range(Starts.FULL, Edge.INDEX, "other", 0, 6, (x, v) -> x.likeness(0, v, 1), 20, 0);
        edge.range(Starts.SOME, Edge.INDEX, "work", 0, 3, (x, v) -> x.likeness(v, 2, 1), 3, 0);
        edge.range(Starts.SOME, Edge.INDEX, "other", 0, 3, (x, v) -> x.likeness(0, v, 1), 4, 0);
        edge.says(43, "Throws IllegalArgumentException if run is not 1 to 20");
        edge.range(Starts.FULL, Edge.ARGUMENT, "run", 1, 20, (x, v) -> x.likeness(0, 0, v), 20, 20);
        edge.range(Starts.SOME, Edge.ARGUMENT, "run", 1, 20, (x, v) -> x.likeness(0, 0, v), 4, 0);
        edge.several(43);
        edge.out(Starts.SOME, Edge.INDEX, "no WORK, no RUN", x -> x.likeness(4, 0, 0));
        edge.out(Starts.SOME, Edge.INDEX, "no other WORK, no RUN", x -> x.likeness(0, -1, 21));
    }

    private static int likeness(String one, String other, int run) {
        Licenceweave x = Starts.letters(Starts.letters(Starts.works(2), 0, one), 1, other);
        return x.likeness(0, 1, run);
    }

    private static void promise43Runs() {
        edge.says(0, "how many of the WORDS of the first one (by their places) are in a RUN of n or more.");
        String twenty = "abcdefabcdefabcdefab";
        edge.is("both without WORDS", likeness("", "", 1), 0);
        edge.is("the first one without WORDS", likeness("", "a", 1), 0);
        edge.is("the other one without WORDS", likeness("a", "", 1), 0);
        edge.is("one WORD each", likeness("f", "f", 1), 1);
        edge.is("one WORD each, RUN 2", likeness("f", "f", 2), 0);
        edge.is("one WORD each, another one", likeness("f", "a", 1), 0);
        for (int run = 1; run <= 20; run++) {
            String part = twenty.substring(0, run);
            edge.is("just as long, first: " + run, likeness(part, twenty, run), run);
            edge.is("one too short", run == 20 ? 0 : likeness(part, twenty, run + 1), 0);
            edge.is("all twenty", likeness(twenty, twenty, run), 20);
            String last = "f" + "a".repeat(run - 1);
            edge.is("at the end of both: " + run, likeness(last, "e".repeat(20 - run) + last, run), run);
            edge.is("at the end of the other one, one less", likeness(last, "e".repeat(20 - run) + last, run == 20 ? 20
                : run + 1), run == 20 ? 20 : 0);
        }
        edge.says(43, "Returns LIKENESS of the first one to the other one by that.");
        edge.is("one is enough for many places", likeness("aaaaa", "a", 1), 5);
        edge.is("two of one", likeness("aaaaa", "a", 2), 0);
        edge.is("two that meet in one", likeness("abc", "abfbc", 2), 3);
        edge.is("that is counted once", likeness("aaa", "aa", 2), 3);
        edge.is("not over a gap", likeness("abfcd", "abcd", 2), 4);
        edge.is("not over a gap, of three", likeness("abfcd", "abcd", 3), 0);
        edge.is("the longer one counts", likeness("abcab", "fabcf", 3), 3);
        edge.is("the last WORD of one, the first one of the other", likeness("bbbba", "accc", 1), 1);
        edge.is("not round the end", likeness("ba", "ab", 2), 0);
    }

    private static void promise46() {
        edge.says(46, "what: 0 WORKS, 1 LICENCES, 2 ENTRIES, 3 those that are VALID, 4 BEHIND, 5 coins of all SALES,"
            + " 6 STEPS BACK, 7 how long TYPED is, 8 how many were REFUSED");
        int[][] due = {{0, 0, 0, 0, 35, 0, 0, 0, 0}, {4, 3, 3, 2, 30, 200, 8, 4, 1},
            {7, 8, 16, 15, 100, 9999, 8, 20, 1}};
        for (int start = 0; start < 3; start++) {
            for (int k = 0; k <= 8; k++) {
                int what = k;
                edge.in(ALL[start], "what " + what, x -> x.house(what), due[start][what]);
            }
        }
        edge.says(46, "Returns that.");
        edge.in(Starts.FULL, "none is VALID any more", x -> x.house(3) + x.house(2), 31);
        edge.in(() -> Starts.type(Starts.works(7), "!"), "none TYPED", x -> x.house(7), 0);
        edge.says(46, "Throws IllegalArgumentException if what is not 0 to 8");
        edge.range(Starts.EMPTY, Edge.ARGUMENT, "what", 0, 8, (x, v) -> x.house(v), 0, 0);
        edge.range(Starts.SOME, Edge.ARGUMENT, "what", 0, 8, (x, v) -> x.house(v), 4, 1);
        edge.range(Starts.FULL, Edge.ARGUMENT, "what", 0, 8, (x, v) -> x.house(v), 7, 1);
    }

    private static void promise47() {
        edge.says(47, "Returns whether all of this is so: what all HANDS EARNED is what all SALES brought; of each WORK"
            + " what all HOLD in the YEARS 0, 100, 200 and 300 is what its MAKERS have; two LICENCES are JOINED the"
            + " same way round and the other way; of each WORK in each LAND: if it is FREE in the YEAR 100, it is in"
            + " 200 and 300, too; its MEET in the YEAR 100, if there is one, has no more RIGHTS (by how many) than that"
            + " of each WORK that it makes USE of by a USE that is not SMALL (and that has one, too); its SHARES there"
            + " in the YEAR 100 are together 1; and each LINE of a LICENCE, typed, has no FAULT.");
        for (Edge.Start start : ALL) {
            edge.in(start, "it is sound", x -> x.isSound(), true);
            for (int k = 1; k <= 8; k++) {
                int count = k;
                edge.in(start, "it is sound, back " + k, x -> x.house(6) < count || undone(x, count).isSound(), true);
            }
        }
        for (int year : new int[] {0, 49, 50, 99, 100, 101, 149, 150, 199, 200, 249, 250, 300}) {
            edge.in(() -> shown(year), "FREE from " + (year + 51) + " on", x -> x.isSound(), true);
        }
        edge.in(() -> Starts.works(1), "no MEET", x -> x.isSound(), true);
        edge.in(() -> Starts.works(7), "seven without anything", x -> x.isSound(), true);
        edge.in(Starts.FULL, "all is FREE in all LANDS", x -> allFree(x).isSound(), true);
        edge.in(Starts.FULL, "all went to the CHEST", x -> capped(x).isSound(), true);
    }

    /** Of two WORKS, one of which copies the other one, the first one was SHOWN in that YEAR. */
    private static Licenceweave shown(int year) {
        Licenceweave x = Starts.made(0, 0);
        x.licence(1, 15, 3, false);
        x.shown(0, year);
        x.use(1, 0, 0, 50);
        x.offer(0, 0, true);
        x.offer(1, 0, true);
        return x;
    }

    private static Licenceweave allFree(Licenceweave x) {
        for (int land = 0; land <= 2; land++) {
            for (int work = 0; work <= 6; work++) {
                x.list(land, work, 1);
            }
        }
        return x;
    }

    private static Licenceweave capped(Licenceweave x) {
        for (int person = 0; person <= 7; person++) {
            x.cap(person, 0);
            x.sale(6, 2, 300, 9999);
        }
        return x;
    }

    private static void promise48() {
        edge.says(48, "Computes a checksum. A number d starts with 6143; then d becomes d * 31 + v, which wraps around"
            + " as a 64-bit integer");
        edge.in(Starts.EMPTY, "an empty one", x -> x.digest(), digest(Starts.EMPTY));
        edge.in(Starts.SOME, "one with some", x -> x.digest(), digest(Starts.SOME));
        edge.in(Starts.FULL, "a full one", x -> x.digest(), digest(Starts.FULL));
        edge.in(() -> undone(Starts.FULL.make(), 8), "eight STEPS BACK", x -> x.digest(),
            digest(() -> undone(Starts.FULL.make(), 8)));
        edge.in(() -> Starts.licences(8, 7), "nothing OFFERED", x -> x.digest(), digest(() -> Starts.licences(8, 7)));
        edge.says(48, "Returns d.");
        edge.in(Starts.FULL, "each time the same", x -> x.digest() - x.digest(), 0L);
    }

    /** By calls on objects that are made alike, as one is used for at most 512 calls. */
    private static long digest(Edge.Start start) {
        Licenceweave x = start.make();
        long d = 6143;
        for (int what = 0; what <= 8; what++) {
            d = d * 31 + x.house(what);
        }
        int works = x.house(0);
        for (int k = 0; k < works; k++) {
            d = ofWork(d, start.make(), k);
        }
        for (int hand = 0; hand <= 8; hand++) {
            for (int what = 0; what <= 4; what++) {
                d = d * 31 + x.ofHand(hand, what);
            }
        }
        for (int k = 0; k < works; k++) {
            for (int person = 0; person <= 7; person++) {
                d = d * 31 + x.holds(k, person, 100);
            }
        }
        int licences = x.house(1);
        for (int k = 0; k < licences; k++) {
            d = d * 31 + x.line(k).length();
            for (int m = 0; m < licences; m++) {
                d = d * 31 + x.joined(k, m);
            }
        }
        x = start.make();
        int entries = x.house(2);
        for (int k = 0; k < entries; k++) {
            for (int what = 0; what <= 7; what++) {
                d = d * 31 + x.ofEntry(k, what);
            }
        }
        d = d * 31 + x.fault();
        return d * 31 + (x.isSound() ? 1 : 0);
    }

    private static long ofWork(long start, Licenceweave x, int work) {
        long d = start;
        for (int what = 0; what <= 9; what++) {
            d = d * 31 + x.ofWork(work, what);
        }
        for (int land = 0; land <= 2; land++) {
            d = d * 31 + x.end(work, land);
            d = d * 31 + x.parts(work, land, 100, false);
            d = d * 31 + x.parts(work, land, 100, true);
            d = d * 31 + x.may(work, land, 100, false);
            d = d * 31 + x.may(work, land, 100, true);
            d = d * 31 + x.clash(work, land, 100).length();
            d = d * 31 + x.notices(work, land, 100).length();
            d = d * 31 + x.next(work, land, 100);
        }
        return d;
    }

    private static void lastCall() {
        edge.says(0, "An object is used for at most 512 calls after it has been made");
        Licenceweave x = Starts.works(1);
        x.maker(0, 7, 100);
        for (int k = 3; k <= 511; k++) {
            edge.is("call " + k, x.sale(0, 0, 10, 9999), 9999);
        }
        edge.is("the last call: coins of all SALES", x.house(5), 509 * 9999);
        Licenceweave y = new Licenceweave();
        for (int k = 1; k <= 511; k++) {
            edge.is("call " + k, y.advance(7, 9999), k * 9999);
        }
        edge.is("the last call: STEPS BACK", y.house(6), 8);
        Licenceweave z = Starts.SOME.make();
        long digest = z.digest();
        for (int k = 60; k <= 512; k++) {
            edge.is("a checksum, again and again", z.digest(), digest);
        }
        Licenceweave w = new Licenceweave();
        for (int k = 1; k <= 512; k += 2) {
            edge.is("call " + k, w.work(300, 2), 0);
            edge.is("call " + (k + 1), w.undo(), 0);
        }
        Licenceweave v = new Licenceweave();
        for (int k = 1; k <= 512; k++) {
            edge.is("call " + k, v.say(0, 1, 2, 3, 12, 13), 0);
        }
        Licenceweave u = Starts.works(1);
        for (int k = 2; k <= 512; k++) {
            edge.is("call " + k, u.list(k % 3, 0, k % 3), k < 5 ? 0 : k % 3);
        }
    }

    /** One after the other, on one object: it is as if none of them had been. */
    private static void refusedCalls() {
        edge.says(0, "A method that throws an exception changes nothing.");
        Edge.Call[] refused = {x -> x.work(301, 0), x -> x.maker(0, 0, 1), x -> x.shown(0, 9), x -> x.death(8, 0),
            x -> x.use(0, 0, 0, 0), x -> x.words(0, 0, 1, 2, 3, 6), x -> x.land(0, 1, 1, 101, true),
            x -> x.list(0, 0, 3), x -> x.licence(63, 15, 4, true), x -> x.offer(0, 8, true),
            x -> x.say(13, 0, 1, 2, 3, 14), x -> x.hand(0, 0, 1, 1, 20, 19), x -> x.back(0, 9),
            x -> x.takeBack(0, 6, 0),
            x -> x.behind(101), x -> x.advance(0, 10000), x -> x.cap(0, -2), x -> x.floor(0, -1),
            x -> x.sale(0, 0, 9, 1), x -> x.house(9)};
        for (Edge.Start start : new Edge.Start[] {Starts.SOME, Starts.FULL}) {
            Licenceweave x = start.make();
            for (Edge.Call call : refused) {
                edge.is("it is refused", Edge.answer(x, call) instanceof Class, true);
            }
            edge.is("all is as ahead of them", View.trail(x), View.trail(start.make()));
        }
    }
}
