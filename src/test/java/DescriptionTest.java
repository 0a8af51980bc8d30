import java.io.IOException;
import java.nio.charset.StandardCharsets;
import java.nio.file.Files;
import java.nio.file.Path;

/**
 * The "Description" of ../shared/DOC.md from its first line to its last: each sentence is quoted in its order, none is
 * left out, and each has answers that were reckoned by hand. What the edges are stands in EdgeOf*Test.
 */
public final class DescriptionTest {
    private static final Due due = new Due("DescriptionTest");
    private static final Path DOCUMENT = Path.of("../shared/DOC.md");

    /** What of the "Description" is not quoted yet. */
    private static String rest = "";
    private static String sentence = "";
    private static int answers;

    public static void main(String[] args) throws IOException {
        String document = Files.readString(DOCUMENT, StandardCharsets.UTF_8);
        int begin = document.indexOf("## Description") + "## Description".length();
        rest = document.substring(begin, document.indexOf("## Promise 1:")).replaceAll("\\s+", " ").strip();
        general();
        works();
        uses();
        lands();
        terms();
        licences();
        wholes();
        choices();
        best();
        shown();
        entries();
        valid();
        chains();
        takenBack();
        shares();
        sales();
        texts();
        typed();
        says("The constructor and the methods follow, a promise each: the signature, then what it does.");
        is("promises", document.split("\n## Promise \\d+: ").length - 1, 48);
        says("");
        due.is("what is not quoted", rest, "");
        due.end();
    }

    /** What follows is about that sentence, which is the next one; a heading ahead of it is passed over. */
    private static void says(String text) {
        due.is("answers for: " + sentence, sentence.isEmpty() || answers > 0, true);
        rest = rest.replaceFirst("^== \\d\\. [A-Z][a-z]+(, [a-z]+)* (?=[A-Z])", "");
        due.is("the next sentence: " + text, rest.startsWith(text) ? text : rest, text);
        rest = rest.substring(Math.min(rest.length(), text.length())).strip();
        sentence = text;
        answers = 0;
    }

    private static void is(String what, Object got, Object answer) {
        answers++;
        due.is(sentence + "\n    " + what, got, answer);
    }

    private static void no(Licenceweave x, Class<?> thrown, String what, Edge.Call call) {
        answers++;
        due.no(x, thrown, sentence + "\n    " + what, () -> call.on(x));
    }

    private static String list(Object... all) {
        return Edge.all(all);
    }

    /** What is told of the HANDS, one behind the other. */
    private static String hands(Licenceweave x, int what) {
        StringBuilder text = new StringBuilder();
        for (int hand = 0; hand <= 8; hand++) {
            text.append(hand > 0 ? " " : "").append(x.ofHand(hand, what));
        }
        return text.toString();
    }

    private static void general() {
        says("Whole numbers; / between whole numbers is rounded down.");
        Licenceweave x = Starts.works(1);
        for (int person = 0; person < 3; person++) {
            x.maker(0, person, 33);
        }
        x.sale(0, 0, 50, 10);
        is("3 and 3 tenths are 3, and one coin is left for the first", hands(x, 3), "4 3 3 0 0 0 0 0 0");
        says("NONE is -1.");
        is("no END", Starts.works(1).end(0, 0), -1);
        says("A set is the sum of 2^k for each number k.");
        x = Starts.works(2);
        x.maker(0, 0, 10);
        x.maker(0, 3, 10);
        x.maker(0, 7, 10);
        is("0, 3 and 7", list(x.ofWork(0, 3), x.ofWork(1, 3)), "137 0");
        says("Exact fractions are told in lowest terms: \"3/4\", \"0\", \"5\" (if it is whole).");
        x = Starts.works(2);
        x.maker(0, 0, 75);
        x.maker(1, 1, 100);
        is("75 hundredths, 25, 0, 100",
            list(x.share(0, 0, 10, 0), x.share(0, 0, 10, 8), x.share(0, 0, 10, 1), x.share(1, 0, 10, 1)),
            "3/4 1/4 0 1");
        says("Where one of several is taken and nothing else is said, it is that with the smallest number.");
        x = Starts.licences(4, 1);
        is("all four would do", x.joined(3, 2), 0);
        x.offer(0, 3, true);
        x.offer(0, 2, true);
        is("both would do", x.choice(0, 0, 10, 0), "0=2");
        says("A method that throws an exception changes nothing.");
        x.maker(0, 1, 60);
        no(x, Due.STATE, "above 100", y -> y.maker(0, 2, 41));
        says("If several exceptions apply, the one that is named first is thrown.");
        Licenceweave full = Starts.works(7);
        no(full, Due.INDEX, "no LAND, no YEAR, 7 WORKS", y -> y.work(301, 3));
        no(full, Due.ARGUMENT, "no YEAR, 7 WORKS", y -> y.work(301, 2));
        no(full, Due.STATE, "7 WORKS", y -> y.work(300, 2));
    }

    private static void works() {
        says("YEARS are 0 to 300.");
        Licenceweave x = new Licenceweave();
        is("both ends", list(x.work(0, 0), x.work(300, 0)), "0 1");
        no(x, Due.ARGUMENT, "301", y -> y.work(301, 0));
        no(x, Due.ARGUMENT, "-1", y -> y.work(-1, 0));
        says("PERSONS are 0 to 7; each lives, or died in a YEAR (all live at first).");
        is("at first", hands(x, 0), "-1 -1 -1 -1 -1 -1 -1 -1 -1");
        is("the last one died", list(x.death(7, 300), hands(x, 0)), "-1 -1 -1 -1 -1 -1 -1 -1 300 -1");
        no(x, Due.INDEX, "8", y -> y.death(8, 300));
        says("WORKS, at most 7, numbered from 0: each was made in a YEAR, has a HOME (a LAND, 0 to 2), was SHOWN"
            + " first in a YEAR or not (at first), has MAKERS (PERSONS with parts of 1 to 100, together at most"
            + " 100; none at first), USES of other WORKS, WORDS (letters \"a\" to \"f\", at most 20; none at"
            + " first), a FLOOR (0 at first), and is OFFERED by LICENCES (at most 3; none at first).");
        is("numbers", list(x.work(7, 2), x.work(8, 0), x.work(8, 0), x.work(8, 0), x.work(8, 0)), "2 3 4 5 6");
        no(x, Due.STATE, "an eighth one", y -> y.work(8, 0));
        is("at first", told(x, 2), "7 2 -1 0 0 0 0 0 0 0");
        x.shown(2, 9);
        x.maker(2, 1, 1);
        x.maker(2, 4, 99);
        x.use(2, 0, 3, 44);
        Starts.letters(x, 2, "abcdefabcdefabcdefab");
        x.floor(2, 77);
        for (int k = 0; k < 4; k++) {
            x.licence(63, 0, 0, false);
            x.offer(2, k, k != 1);
        }
        is("then", told(x, 2), "7 2 9 18 100 1 44 13 77 20");
        no(x, Due.STATE, "a MAKER more", y -> y.maker(2, 2, 1));
        no(x, Due.STATE, "a WORD more", y -> y.words(2, -1, -1, -1, -1, 5));
        no(x, Due.STATE, "a LICENCE more", y -> y.offer(2, 1, true));
    }

    private static String told(Licenceweave x, int work) {
        StringBuilder text = new StringBuilder();
        for (int what = 0; what <= 9; what++) {
            text.append(what > 0 ? " " : "").append(x.ofWork(work, what));
        }
        return text.toString();
    }

    private static void uses() {
        says("A USE of a WORK by another one: HOW (0 copied, 1 changed, 2 gathered, 3 quoted) and a part (0 to 100);"
            + " the parts of all USES that one WORK makes are together at most 100.");
        Licenceweave x = Starts.works(6);
        is("each HOW", list(x.use(5, 0, 0, 0), x.use(5, 1, 1, 30), x.use(5, 2, 2, 30), x.use(5, 3, 3, 40)),
            "0 30 60 100");
        no(x, Due.STATE, "one more", y -> y.use(5, 4, 0, 1));
        is("with nothing", x.use(5, 4, 0, 0), 100);
        is("all of another one", x.use(4, 0, 0, 100), 100);
        no(x, Due.ARGUMENT, "no HOW", y -> y.use(3, 0, 4, 1));
        no(x, Due.ARGUMENT, "no part", y -> y.use(3, 0, 0, 101));
    }

    private static void lands() {
        says("LANDS have each LIFE (70 at first), SHOW (50), QUOTE (5), all 0 to 100, whether it takes the SHORTER"
            + " term (no), and a LIST: for each WORK 0 nothing (at first), 1 always FREE, 2 never.");
        Licenceweave x = Starts.made(10, 10, 10, 10, 10);
        x.maker(0, 0, 1);
        x.death(0, 100);
        x.shown(1, 100);
        x.use(4, 2, 3, 5);
        x.use(4, 3, 3, 6);
        for (int land = 0; land < 3; land++) {
            is("at first, LAND " + land, list(x.end(0, land), x.end(1, land), x.parts(4, land, 0, false),
                x.list(land, 0, 0), x.isFree(0, land, 170), x.isFree(0, land, 171)), "170 150 24 0 false true");
        }
        is("LIFE before", list(x.land(2, 0, 100, 4, false), x.land(0, 100, 0, 6, false)), "70 70");
        is("other ones", list(x.end(0, 2), x.end(1, 2), x.parts(4, 2, 0, false)), "100 200 28");
        is("other ones", list(x.end(0, 0), x.end(1, 0), x.parts(4, 0, 0, false)), "200 100 16");
        is("not the SHORTER one at first", x.end(0, 1), 170);
        is("always FREE", list(x.list(1, 0, 1), x.isFree(0, 1, 0), x.isFree(0, 2, 0)), "0 true false");
        is("never FREE", list(x.list(1, 0, 2), x.isFree(0, 1, 300), x.isFree(0, 2, 300)), "1 false true");
        no(x, Due.ARGUMENT, "101", y -> y.land(0, 101, 0, 0, false));
    }

    private static void terms() {
        says("TERM of a WORK by a LAND's numbers: with MAKERS: none, if one of them lives, otherwise the YEAR in"
            + " which the last one died and LIFE; without MAKERS: none, if it was not SHOWN, otherwise that YEAR"
            + " and SHOW.");
        Licenceweave x = Starts.made(10, 10);
        x.maker(1, 0, 50);
        x.maker(1, 6, 50);
        x.shown(1, 11);
        x.death(6, 90);
        is("0 lives", x.end(1, 0), -1);
        x.death(0, 60);
        is("6 died last", x.end(1, 0), 160);
        x.death(0, 91);
        is("0 died last", x.end(1, 0), 161);
        is("not SHOWN", x.end(0, 0), -1);
        x.shown(0, 12);
        is("SHOWN", x.end(0, 0), 62);
        says("END of a WORK in a LAND: TERM by its numbers; if it takes the SHORTER one, and TERM by those of its"
            + " HOME is less (none is more than all), that.");
        x.land(1, 60, 90, 5, false);
        is("not the SHORTER one", x.end(1, 0), 161);
        x.land(0, 70, 50, 5, true);
        is("LIFE 60 at HOME", list(x.end(1, 0), x.end(1, 1), x.end(1, 2)), "151 151 161");
        x.land(1, 80, 40, 5, true);
        is("LIFE 80 at HOME", list(x.end(1, 0), x.end(1, 1), x.end(1, 2)), "161 171 161");
        x.death(0, -1);
        is("none on both sides", x.end(1, 0), -1);
        says("FREE in a LAND and a YEAR: by the LIST, if that is 1 or 2; otherwise if there is an END, and the YEAR"
            + " is above it.");
        is("END 62", list(x.isFree(0, 0, 62), x.isFree(0, 0, 63)), "false true");
        is("no END", x.isFree(1, 0, 300), false);
        x.list(0, 0, 2);
        x.list(0, 1, 1);
        is("by the LIST", list(x.isFree(0, 0, 300), x.isFree(1, 0, 0)), "false true");
        x.list(0, 0, 0);
        is("no more by the LIST", x.isFree(0, 0, 300), true);
    }

    private static void licences() {
        says("LICENCES, at most 8, numbered from 0: RIGHTS (a set of 0 copy, 1 change, 2 gather, 3 sell, 4 show, 5"
            + " hand on), DUTIES (of 0 names, 1 text, 2 source, 3 mark), BANS (of 0 selling, 1 changing), ALIKE or"
            + " not.");
        Licenceweave x = Starts.works(2);
        is("numbers", list(x.licence(63, 15, 3, true), x.licence(0, 0, 0, false), x.licence(63, 0, 3, false)), "0 1 2");
        Licenceweave full = Starts.licences(8, 0);
        no(full, Due.STATE, "a ninth one", y -> y.licence(0, 0, 0, false));
        no(x, Due.ARGUMENT, "no RIGHTS", y -> y.licence(64, 0, 0, false));
        no(x, Due.ARGUMENT, "no DUTIES", y -> y.licence(0, 16, 0, false));
        no(x, Due.ARGUMENT, "no BANS", y -> y.licence(0, 0, 4, false));
        says("GIVEN by one: its RIGHTS, but 3 with the BAN 0, and 1 with the BAN 1.");
        x.offer(0, 2, true);
        x.offer(1, 1, true);
        is("63 less 8 and 2", x.may(0, 0, 0, false), 53);
        x.use(1, 0, 1, 10);
        x.licence(63, 0, 1, false);
        is("not to be changed", x.wouldMay(1, 0, 0, 1, 2), -1);
        x.offer(0, 3, true);
        is("but not to be sold", x.wouldMay(1, 0, 0, 1, 3), 55);
        says("A LICENCE FITS into another one, if both are the same (by number), or if it is not ALIKE, and has all"
            + " RIGHTS of that, while that has all its DUTIES and BANS.");
        x = new Licenceweave();
        x.licence(7, 1, 1, false);
        x.licence(3, 3, 1, false);
        x.licence(7, 1, 1, true);
        x.licence(7, 0, 1, false);
        x.licence(7, 1, 0, false);
        is("0", list(x.fits(0, 0), x.fits(0, 1), x.fits(0, 2), x.fits(0, 3), x.fits(0, 4)),
            "true true true false false");
        is("1", list(x.fits(1, 0), x.fits(1, 1), x.fits(1, 2)), "false true false");
        is("2, ALIKE", list(x.fits(2, 0), x.fits(2, 1), x.fits(2, 2)), "false false true");
        is("3 and 4", list(x.fits(3, 0), x.fits(4, 0), x.fits(3, 4), x.fits(4, 3)), "true true false false");
        says("Two are JOINED by the first LICENCE of all that both FIT into.");
        is("by 1, ahead of 2", list(x.joined(0, 1), x.joined(0, 3), x.joined(3, 4), x.joined(2, 4)), "1 0 0 2");
        is("not", list(x.joined(1, 2), x.joined(2, 1)), "-1 -1");
        says("LINE of a LICENCE: the letters of its RIGHTS (\"cxgsvh\" for 0 to 5), \"/\", of its DUTIES (\"ntom\"),"
            + " \"/\", of its BANS (\"sx\"), and \"+\", if it is ALIKE.");
        x = new Licenceweave();
        x.licence(63, 15, 3, true);
        x.licence(0, 0, 0, false);
        x.licence(42, 10, 2, false);
        x.licence(21, 5, 1, true);
        is("LINES", list(x.line(0), x.line(1), x.line(2), x.line(3)), "cxgsvh/ntom/sx+ // xsh/tm/x cgv/no/s+");
    }

    private static void wholes() {
        says("A USE is SMALL in a LAND, if it is quoted, and its part is QUOTE or less.");
        Licenceweave x = Starts.works(5);
        x.use(4, 0, 3, 5);
        x.use(4, 1, 3, 6);
        x.use(4, 2, 0, 5);
        x.use(4, 3, 2, 0);
        is("0 alone is SMALL", x.parts(4, 0, 0, false), 30);
        x.land(1, 70, 50, 6, false);
        is("0 and 1 are", x.parts(4, 1, 0, false), 28);
        says("PARTS of a WORK (as a WHOLE) in a LAND: it itself, and what its PARTS make USE of, but by SMALL ones.");
        x = Starts.works(6);
        x.use(1, 0, 3, 5);
        x.use(2, 1, 0, 10);
        x.use(3, 2, 0, 10);
        x.use(5, 3, 0, 10);
        is("0 by a SMALL USE, 4 by none", list(x.parts(5, 0, 0, false), x.parts(1, 0, 0, false)), "46 2");
        x.use(5, 0, 0, 1);
        is("0 by another one, too", list(x.parts(5, 0, 0, false), x.parts(3, 0, 0, false)), "47 14");
        says("BOUND PARTS in a YEAR: those that are not FREE there then.");
        x.list(0, 2, 1);
        x.shown(3, 20);
        is("2 is FREE, and what it makes USE of is a PART", x.parts(5, 0, 70, true), 43);
        is("so is 3, behind 70", list(x.parts(5, 0, 71, true), x.parts(5, 0, 71, false)), "35 47");
    }

    private static void choices() {
        says("CHOICE for a WHOLE in a LAND and a YEAR: for each BOUND PART one of the LICENCES that it is OFFERED by.");
        Licenceweave x = Starts.licences(4, 3);
        x.use(2, 0, 0, 10);
        x.use(2, 1, 0, 10);
        x.offer(0, 3, true);
        x.offer(1, 2, true);
        x.offer(2, 1, true);
        is("one each", x.choice(2, 0, 0, 63), "0=3 1=2 2=1");
        x.list(0, 1, 1);
        is("1 is FREE", list(x.choice(2, 0, 0, 63), x.choice(2, 1, 0, 63)), "0=3 2=1 0=3 1=2 2=1");
        x.offer(0, 3, false);
        is("0 is OFFERED by none", x.choice(2, 0, 0, 0), "-");
        says("It HOLDS, if for each USE, not SMALL, by a PART of another PART that is BOUND, the LICENCE of the"
            + " latter GIVES what is needed (0 for copied and quoted, 1 for changed, 2 for gathered), and all its"
            + " LICENCES FIT into one LICENCE of all (without BOUND PARTS it HOLDS).");
        int[] needed = {1, 2, 4, 1};
        for (int how = 0; how < 4; how++) {
            x = Starts.works(2);
            x.licence(needed[how], 0, 0, false);
            x.licence(63 - needed[how], 0, 0, false);
            x.licence(0, 0, 0, false);
            x.use(1, 0, how, 6);
            x.offer(1, 2, true);
            is("what is needed for " + how, list(x.wouldMay(1, 0, 0, 0, 0), x.wouldMay(1, 0, 0, 0, 1)), "0 -1");
            x.list(0, 0, 1);
            is("it is FREE, HOW " + how, x.wouldMay(1, 0, 0, 0, 1), 0);
            x.list(0, 0, 0);
            x.list(0, 1, 1);
            is("the one that makes USE of it is FREE, HOW " + how, x.wouldMay(1, 0, 0, 0, 1), -1);
        }
        x.land(0, 70, 50, 6, false);
        is("a SMALL one needs nothing", x.wouldMay(0, 0, 0, 0, 1), 62);
        x = Starts.works(2);
        x.licence(63, 0, 0, true);
        x.licence(63, 1, 0, true);
        x.licence(63, 0, 0, false);
        x.use(1, 0, 0, 10);
        x.offer(1, 0, true);
        is("two ALIKE, and one that FITS", list(x.wouldMay(1, 0, 0, 0, 1), x.wouldMay(1, 0, 0, 0, 2)), "-1 63");
        x.list(0, 0, 1);
        x.list(0, 1, 1);
        is("without BOUND PARTS", list(x.may(1, 0, 0, false), x.may(1, 0, 0, true), x.choice(1, 0, 0, 63)), "63 0 ");
        says("Its MEET: the RIGHTS that all its LICENCES have, but 3, if one has the BAN 0, and 1, if one has the BAN"
            + " 1 (all six without BOUND PARTS); its DUTIES: those that one of its LICENCES has.");
        x = Starts.works(2);
        x.licence(31, 1, 1, false);
        x.licence(47, 4, 2, false);
        x.licence(0, 15, 3, false);
        x.use(1, 0, 0, 10);
        x.offer(0, 0, true);
        x.offer(1, 1, true);
        is("15 less 8 and 2", list(x.may(1, 0, 0, false), x.may(1, 0, 0, true)), "5 5");
        is("of each alone", list(x.may(0, 0, 0, false), x.wouldMay(1, 0, 0, 1, 0)), "23 23");
    }

    private static void best() {
        says("The best CHOICE, of those that HOLD: with the most RIGHTS in the MEET, of these with the fewest DUTIES,"
            + " of these with the smallest LICENCE for the BOUND PART with the smallest number, then for the one"
            + " with the next number, and so on.");
        Licenceweave x = Starts.works(2);
        x.licence(7, 0, 0, false);
        x.licence(23, 15, 0, false);
        x.licence(39, 3, 0, false);
        x.licence(7, 0, 0, false);
        x.offer(0, 0, true);
        x.offer(0, 1, true);
        is("three RIGHTS or four", list(x.may(0, 0, 0, false), x.may(0, 0, 0, true)), "23 15");
        x.offer(0, 2, true);
        is("four DUTIES or two", list(x.may(0, 0, 0, false), x.may(0, 0, 0, true)), "39 3");
        is("the fewest DUTIES of all", x.choice(0, 0, 0, 7), "0=0");
        x = Starts.licences(4, 2);
        x.use(1, 0, 0, 10);
        x.offer(0, 3, true);
        x.offer(0, 1, true);
        x.offer(1, 2, true);
        x.offer(1, 0, true);
        is("the smallest for 0, then for 1", x.choice(1, 0, 0, 0), "0=1 1=0");
        says("Two BOUND PARTS CLASH, if there are no two LICENCES, of the one and of the other, that are JOINED (one"
            + " that is OFFERED by none CLASHES with itself, too).");
        x = Starts.works(3);
        x.licence(63, 0, 0, true);
        x.licence(63, 1, 0, true);
        x.licence(63, 0, 0, false);
        x.use(2, 0, 0, 10);
        x.use(2, 1, 0, 10);
        x.offer(0, 2, true);
        x.offer(1, 0, true);
        x.offer(2, 1, true);
        is("1 and 2 are both ALIKE", x.clash(2, 0, 0), "1 2");
        x.offer(2, 2, true);
        is("2 by another one, too", x.clash(2, 0, 0), "-");
        x.offer(1, 0, false);
        is("1 by none, with 0", x.clash(2, 0, 0), "0 1");
        x.list(0, 0, 1);
        is("1 with itself", x.clash(2, 0, 0), "1 1");
        x.list(0, 1, 1);
        is("1 is FREE", x.clash(2, 0, 0), "-");
    }

    private static void shown() {
        says("To be SHOWN: by the best CHOICE, each once, with its letter (as \"n3\"), and by rising numbers: \"n\""
            + " and each MAKER of BOUND PARTS whose LICENCE has the DUTY 0; \"t\" and each LICENCE with the DUTY 1;"
            + " \"o\" and each BOUND PART whose LICENCE has the DUTY 2; \"m\" and each BOUND PART whose LICENCE has"
            + " the DUTY 3, and that is changed by a PART (a FREE one, too) that makes USE of it.");
        Licenceweave x = Starts.works(4);
        x.licence(63, 9, 0, false);
        x.licence(63, 6, 0, false);
        x.licence(63, 15, 0, false);
        x.maker(0, 5, 50);
        x.maker(0, 2, 50);
        x.maker(1, 2, 50);
        x.maker(2, 7, 50);
        x.maker(3, 6, 50);
        x.use(1, 0, 1, 10);
        x.use(2, 0, 0, 10);
        x.use(3, 1, 1, 10);
        x.use(3, 2, 0, 10);
        x.offer(0, 0, true);
        x.offer(1, 2, true);
        x.offer(2, 1, true);
        x.offer(3, 1, true);
        is("all letters", x.notices(3, 0, 0), "n2 n5 t1 t2 o1 o2 o3 m0 m1");
        x.list(0, 1, 1);
        is("1 is FREE, and changes 0", x.notices(3, 0, 0), "n2 n5 t1 o2 o3 m0");
        is("0 is changed by none of these PARTS", x.notices(2, 0, 0), "n2 n5 t1 o2");
        x.list(0, 0, 1);
        x.offer(3, 1, false);
        is("no CHOICE", x.notices(3, 0, 0), "-");
    }

    private static void entries() {
        says("ENTRIES, at most 16, numbered from 0: a WORK, from whom, to whom, a part (1 to 100), a first and a last"
            + " YEAR.");
        Licenceweave x = Starts.works(2);
        x.maker(1, 4, 100);
        for (int k = 0; k < 16; k++) {
            is("its number", x.hand(1, 4, 5, 1 + k, k, 300), k);
        }
        no(x, Due.STATE, "a seventeenth one", y -> y.hand(1, 4, 5, 1, 0, 300));
        is("what it is", list(x.ofEntry(9, 0), x.ofEntry(9, 1), x.ofEntry(9, 2), x.ofEntry(9, 3), x.ofEntry(9, 4),
            x.ofEntry(9, 5)), "1 4 5 10 9 300");
        says("What PERSONS HOLD of a WORK in a YEAR: what they have as MAKERS; then ENTRY by ENTRY: one of that WORK"
            + " that is VALID, and has that YEAR, moves its part.");
        x = Starts.works(2);
        x.maker(0, 0, 60);
        x.maker(0, 1, 30);
        x.maker(1, 0, 50);
        x.hand(0, 0, 1, 20, 50, 100);
        x.hand(0, 1, 2, 50, 60, 90);
        x.hand(0, 0, 2, 41, 70, 80);
        is("in 49", held(x, 49), "60 30 0");
        is("in 50", held(x, 50), "40 50 0");
        is("in 60", held(x, 60), "40 0 50");
        is("in 75, where the third one is not VALID", held(x, 75), "40 0 50");
        is("in 91", held(x, 91), "40 50 0");
        is("in 101", held(x, 101), "60 30 0");
        is("of the other WORK", x.holds(1, 0, 75), 50);
    }

    private static String held(Licenceweave x, int year) {
        return list(x.holds(0, 0, year), x.holds(0, 1, year), x.holds(0, 2, year));
    }

    private static void valid() {
        says("VALID: in each of its YEARS the one from whom it comes HOLDS as much by what is ahead of it (without"
            + " YEARS it is VALID, too, and moves nothing).");
        Licenceweave x = Starts.works(1);
        x.maker(0, 0, 50);
        x.hand(0, 0, 1, 30, 40, 60);
        x.hand(0, 0, 2, 21, 10, 40);
        x.hand(0, 0, 2, 21, 10, 39);
        x.hand(0, 1, 3, 30, 41, 61);
        x.hand(0, 1, 3, 30, 40, 60);
        is("by one YEAR not", list(x.ofEntry(0, 6), x.ofEntry(1, 6), x.ofEntry(2, 6), x.ofEntry(3, 6), x.ofEntry(4, 6)),
            "1 0 1 0 1");
        is("50 is not more than 30 by an ENTRY behind it", x.house(3), 3);
        x.back(1, 10);
        is("without YEARS", list(x.ofEntry(1, 4), x.ofEntry(1, 5), x.ofEntry(1, 6), x.holds(0, 2, 10)), "10 9 1 21");
        says("So of two sales of the same the earlier ENTRY counts.");
        x = Starts.works(1);
        x.maker(0, 0, 100);
        x.hand(0, 0, 1, 100, 70, 90);
        x.hand(0, 0, 2, 100, 60, 80);
        is("not the one with the earlier YEAR", list(x.ofEntry(0, 6), x.ofEntry(1, 6), x.holds(0, 1, 75)), "1 0 100");
        says("TWICE of an ENTRY that is not VALID: the first ENTRY ahead of it that is VALID, of the same WORK, from"
            + " the same PERSON, and has a YEAR that it has, too.");
        is("the first sale", list(x.ofEntry(0, 7), x.ofEntry(1, 7)), "-1 0");
        x = Starts.works(2);
        x.maker(0, 0, 60);
        x.maker(0, 1, 40);
        x.maker(1, 0, 100);
        x.hand(0, 0, 2, 61, 40, 60);
        x.hand(1, 0, 2, 100, 40, 60);
        x.hand(0, 1, 2, 40, 40, 60);
        x.hand(0, 0, 2, 60, 10, 39);
        x.hand(0, 0, 2, 30, 60, 60);
        x.hand(0, 0, 2, 30, 40, 60);
        x.hand(0, 0, 3, 31, 40, 60);
        is("not VALID, another WORK, another PERSON, another YEAR", x.ofEntry(6, 7), 4);
        is("there is none", list(x.ofEntry(0, 6), x.ofEntry(0, 7)), "0 -1");
    }

    private static void chains() {
        says("CHAIN of a PERSON that HOLDS something of a WORK in a YEAR: it, then again and again: the last ENTRY of"
            + " that WORK, ahead of the one that was followed last, that is VALID, has the YEAR, and came to the"
            + " one told last: from whom it came; till there is none.");
        Licenceweave x = Starts.works(2);
        x.maker(0, 0, 60);
        x.maker(0, 1, 40);
        x.hand(0, 1, 2, 20, 0, 300);
        x.hand(0, 0, 2, 20, 0, 300);
        x.hand(0, 2, 3, 10, 0, 300);
        x.hand(0, 1, 2, 5, 0, 300);
        x.hand(0, 0, 3, 10, 0, 49);
        x.hand(0, 7, 3, 10, 0, 300);
        is("by the last one ahead, in 50", x.chain(0, 3, 50), "3<2<0");
        is("in 49", x.chain(0, 3, 49), "3<0");
        is("of others", list(x.chain(0, 2, 50), x.chain(0, 0, 50), x.chain(0, 7, 50), x.chain(1, 0, 50)), "2<1 0 - -");
        x.hand(0, 3, 0, 10, 0, 300);
        is("in a ring", list(x.chain(0, 0, 50), x.chain(0, 3, 50)), "0<3<2<0 -");
    }

    private static void takenBack() {
        says("BEHIND (35 at first, 0 to 100): a MAKER takes a WORK back in a YEAR: all VALID ENTRIES of it from that"
            + " MAKER, whose first YEAR and BEHIND are together that YEAR or less, and whose last YEAR is that YEAR"
            + " or more, have the YEAR ahead of it as their last one (all at once, by what was VALID ahead of it).");
        Licenceweave x = Starts.works(2);
        x.maker(0, 0, 60);
        x.maker(0, 1, 40);
        x.maker(1, 0, 100);
        x.hand(0, 0, 2, 10, 50, 85);
        x.hand(0, 0, 2, 10, 51, 200);
        x.hand(0, 0, 2, 10, 40, 84);
        x.hand(0, 1, 2, 10, 40, 200);
        x.hand(0, 0, 2, 60, 40, 200);
        x.hand(1, 0, 2, 10, 40, 200);
        x.hand(0, 2, 0, 10, 40, 200);
        is("35 at first", list(x.house(4), x.takeBack(0, 0, 85)), "35 1");
        is("last YEARS", lasts(x), "84 200 84 200 200 200 200");
        is("by BEHIND 34", list(x.behind(34), x.takeBack(0, 0, 85), lasts(x)), "35 1 84 84 84 200 200 200 200");
        is("not VALID once more", x.takeBack(0, 0, 300), 0);
        x = Starts.works(1);
        x.maker(0, 0, 60);
        x.hand(0, 0, 1, 60, 10, 90);
        x.hand(0, 1, 0, 60, 50, 90);
        x.hand(0, 0, 2, 60, 50, 90);
        is("all at once: the third was VALID", list(x.takeBack(0, 0, 85), lasts(x)), "2 84 90 84");
        is("the second is VALID no more", list(x.ofEntry(0, 6), x.ofEntry(1, 6), x.ofEntry(2, 6)), "1 0 0");
        no(x, Due.ARGUMENT, "101", y -> y.behind(101));
        no(x, Due.ARGUMENT, "-1", y -> y.behind(-1));
    }

    private static String lasts(Licenceweave x) {
        StringBuilder text = new StringBuilder();
        for (int k = 0; k < x.house(2); k++) {
            text.append(k > 0 ? " " : "").append(x.ofEntry(k, 5));
        }
        return text.toString();
    }

    /** 2 makes USE of 1 and of 0, 1 of 0; 0 made 0 in part, 1 all of 1, 2 all of 2. */
    private static Licenceweave layers() {
        Licenceweave x = Starts.works(3);
        x.maker(0, 0, 50);
        x.maker(1, 1, 100);
        x.maker(2, 2, 100);
        x.use(1, 0, 0, 30);
        x.use(2, 1, 1, 40);
        x.use(2, 0, 3, 10);
        return x;
    }

    private static String shares(Licenceweave x, int land) {
        return list(x.share(2, land, 60, 0), x.share(2, land, 60, 1), x.share(2, land, 60, 2), x.share(2, land, 60, 8));
    }

    private static void shares() {
        says("HANDS are the PERSONS, and 8, the CHEST.");
        Licenceweave x = layers();
        is("without MAKERS the CHEST has all", Starts.works(1).share(0, 0, 60, 8), "1");
        no(x, Due.INDEX, "9", y -> y.share(2, 0, 60, 9));
        says("SHARES of a WORK in a LAND and a YEAR, exactly: the WORK has 1.");
        is("alone", list(x.share(0, 0, 60, 0), x.share(0, 0, 60, 8), x.share(0, 0, 60, 1)), "1/2 1/2 0");
        says("Of what a WORK has each of its USES that is not SMALL there, of a WORK that is not FREE there then,"
            + " brings that WORK part hundredths (so much more to what it has); of the rest of it each PERSON gets"
            + " as many hundredths as it HOLDS of that WORK in that YEAR, and the CHEST what is left.");
        is("0 has 10 and 12 hundredths, 1 keeps 28, 2 keeps 50", shares(x, 0), "11/100 7/25 1/2 11/100");
        x.land(1, 70, 50, 10, false);
        is("0 is quoted by a SMALL USE in 1", shares(x, 1), "3/50 7/25 3/5 3/50");
        x.list(2, 1, 1);
        is("1 is FREE in 2", shares(x, 2), "1/20 0 9/10 1/20");
        is("1 is FREE, and is sold in 2", list(x.share(1, 2, 60, 1), x.share(1, 2, 60, 0)), "7/10 3/20");
        x.hand(2, 2, 0, 20, 60, 60);
        is("with an ENTRY", shares(x, 0), "21/100 7/25 2/5 11/100");
        says("By a SALE of fewer coins than the FLOOR of a WORK that is USED that USE brings nothing.");
        x = layers();
        x.floor(1, 100);
        x.floor(2, 9999);
        x.sale(2, 0, 60, 99);
        is("2 keeps 90 hundredths: 89 and 1 tenth; 4 and 95 for both others", hands(x, 3), "5 0 89 0 0 0 0 0 5");
        x.sale(2, 0, 60, 100);
        is("11, 28, 50, 11 more", hands(x, 3), "16 28 139 0 0 0 0 0 16");
    }

    private static void sales() {
        says("A SALE of coins is SPLIT by SHARES: each HAND gets coins * SHARE, rounded down; the coins that are left"
            + " go one each to the HANDS with the greatest rests of that, of several to the one with the smaller"
            + " number.");
        Licenceweave x = Starts.works(1);
        int[] parts = {15, 10, 25, 25};
        for (int k = 0; k < 4; k++) {
            x.maker(0, 7 - k, parts[k]);
        }
        is("all is PAID that the CHEST does not get", x.sale(0, 0, 60, 9), 7);
        is("rests 25, 25, 90, 35, 25 hundredths", hands(x, 3), "0 0 0 0 2 2 1 2 2");
        x.sale(0, 0, 60, 2);
        is("rests 50, 50, 20, 30, 50 hundredths", hands(x, 3), "0 0 0 0 3 3 1 2 2");
        says("Of what a PERSON gets what is above its CAP less all it EARNED till then (at least 0), goes to the"
            + " CHEST (without a CAP nothing); the rest is EARNED; of that its ADVANCE is taken off, as far as it"
            + " is still open; what is left is PAID to it.");
        x = Starts.works(1);
        x.maker(0, 0, 60);
        x.maker(0, 1, 40);
        x.cap(0, 100);
        x.advance(0, 70);
        x.advance(1, 90);
        is("under the CAP", list(x.sale(0, 0, 60, 100), hands(x, 3)), "0 60 40 0 0 0 0 0 0 0");
        is("above it", list(x.sale(0, 0, 60, 200), hands(x, 3)), "60 100 120 0 0 0 0 0 0 80");
        is("ADVANCES, what was PAID", list(x.ofHand(0, 2), x.ofHand(1, 2), hands(x, 4)), "0 0 30 30 0 0 0 0 0 0 0");
        x.cap(0, 50);
        is("a CAP below what it EARNED", list(x.sale(0, 0, 60, 10), hands(x, 3)), "4 100 124 0 0 0 0 0 0 86");
        x.cap(0, -1);
        is("without a CAP", list(x.sale(0, 0, 60, 10), hands(x, 3)), "10 106 128 0 0 0 0 0 0 86");
        says("(The CHEST EARNS all that it gets.)");
        x = Starts.works(1);
        x.maker(0, 0, 50);
        x.cap(0, 0);
        is("its own and what is above a CAP", list(x.sale(0, 0, 60, 101), hands(x, 3)), "0 0 0 0 0 0 0 0 0 101");
        says("An ADVANCE grows by what is told of it.");
        is("twice", list(x.advance(0, 7), x.advance(0, 9), x.ofHand(0, 2)), "7 16 16");
    }

    private static void texts() {
        says("A RUN of two WORKS: WORDS one behind the other that stand so in both.");
        Licenceweave x = Starts.works(3);
        Starts.letters(x, 0, "abcabfab");
        Starts.letters(x, 1, "fabcb");
        is("abc, fab", list(x.likeness(0, 1, 3), x.likeness(1, 0, 3)), "6 4");
        says("LIKENESS by n: how many of the WORDS of the first one (by their places) are in a RUN of n or more.");
        is("by 1, 2, 3, 4", list(x.likeness(0, 1, 1), x.likeness(0, 1, 2), x.likeness(0, 1, 3), x.likeness(0, 1, 4)),
            "8 8 6 0");
        is("the other way round", list(x.likeness(1, 0, 1), x.likeness(1, 0, 2), x.likeness(1, 0, 4)), "5 4 0");
        is("with itself and with none", list(x.likeness(0, 0, 8), x.likeness(0, 0, 9), x.likeness(0, 2, 1)), "8 0 0");
        says("STATE of a WORK in a LAND and a YEAR: how many BOUND PARTS it has.");
        x = Starts.works(3);
        x.use(2, 0, 0, 10);
        x.use(2, 1, 0, 10);
        x.shown(0, 30);
        x.shown(1, 40);
        is("3, 2 from 81 on, 1 from 91 on", list(x.next(2, 0, 0), x.next(2, 0, 80), x.next(2, 0, 81), x.next(2, 0, 91)),
            "81 81 91 -1");
    }

    private static void typed() {
        says("TYPED is a row of at most 20 SIGNS \"cxgsvhntom/+\" (0 to 11; none at first).");
        Licenceweave x = new Licenceweave();
        is("at first", list(x.house(7), x.typed()), "0 ");
        is("all SIGNS", list(x.say(0, 1, 2, 3, 4, 5), x.say(6, 7, 8, 9, 10, 11), x.typed()), "6 12 cxgsvhntom/+");
        x.say(0, 0, 0, 0, 0, 0);
        no(x, Due.STATE, "21", y -> y.say(0, 0, 0, -1, -1, -1));
        is("20", list(x.say(0, 0, -1, -1, -1, -1), x.typed()), "20 cxgsvhntom/+cccccccc");
        says("Its FAULT: the place (from 0) of the first SIGN that can not stand there, if it is to be the LINE of a"
            + " LICENCE (letters of one kind rise as they are named, each once), its length, if it ends too early,"
            + " NONE, if it is a LINE.");
        String[] rows = {"", "//", "cg/no/x", "cxgsvh/ntom/sx+", "c", "c/", "c//", "c/n", "gc//", "cc//", "n", "+",
            "c/c", "c/m/n", "c/tn/", "//xs", "//ss", "//c", "///", "//+", "//++", "//+s", "s/n/s", "x//x+/"};
        int[] faults = {0, -1, -1, -1, 1, 2, -1, 3, 1, 1, 0, 0, 2, 4, 3, 3, 3, 2, 2, -1, 3, 3, -1, 5};
        for (int k = 0; k < rows.length; k++) {
            is("of \"" + rows[k] + "\"", Starts.type(new Licenceweave(), rows[k]).fault(), faults[k]);
        }
        says("The DOOR of the registry is shut: who knocks is REFUSED (counted).");
        is("three times", list(x.knock(), x.knock(), x.knock(), x.house(8)), "1 2 3 3");
    }
}
