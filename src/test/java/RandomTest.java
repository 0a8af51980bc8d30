import java.lang.reflect.InvocationTargetException;
import java.lang.reflect.Method;
import java.util.ArrayList;
import java.util.Arrays;
import java.util.List;
import java.util.Random;

/**
 * Runs of 512 calls, the same ones at each start, on the class and on Reference: both must answer the same. The
 * arguments are mostly sensible, now and then wrong. The program's arguments: the first run, and how many to make.
 */
public final class RandomTest {
    /** Each method of the face: how often it is called while all is built up, how often then, and its arguments. */
    private static final String[] FACE = {
        "work 30 3 madeYear land", "maker 80 3 work person makerPart", "shown 8 5 work yearOrNone",
        "death 4 10 person yearOrNone", "use 70 10 work work how usePart",
        "words 14 4 work letter letter letter letter letter", "land 2 6 land number number quote boolean",
        "list 0 5 land work what2", "licence 15 4 rights duties bans boolean4", "offer 60 20 work licence boolean",
        "say 6 12 sign sign sign sign sign sign", "learn 1 6", "hand 6 22 work holder person part year year",
        "back 0 6 entry year", "takeBack 0 8 work maker year", "behind 1 2 number", "advance 1 4 person coins",
        "cap 1 4 person capOrNone", "floor 1 4 work coins", "sale 1 16 work land year coins", "undo 1 6", "knock 1 1",
        "ofWork 1 6 work what9", "ofHand 1 6 hand what4", "end 1 5 work land", "isFree 1 4 work land year",
        "next 1 5 work land year", "line 1 3 licence", "typed 1 3", "fault 1 3", "fits 1 4 licence licence",
        "joined 1 4 licence licence", "parts 1 5 work land year boolean", "may 1 8 work land year boolean",
        "choice 1 8 work land year wanted", "clash 1 6 work land year", "notices 1 8 work land year",
        "holds 1 5 work person year", "ofEntry 1 6 entry what7", "chain 1 8 work person year",
        "share 1 8 work land year hand", "likeness 1 5 work work run", "wouldMay 1 5 work land year work licence",
        "wouldEnd 1 4 work land person yearOrNone", "house 1 4 what8", "isSound 0 0", "digest 0 0"};
    private static final int CALLS = 512;
    private static final int BUILD = 110;

    private final int run;
    private final Random random;
    private final Licenceweave one = new Licenceweave();
    private final Reference two = new Reference();
    private final List<String> calls = new ArrayList<>();
    private final int wrongIn;
    private final int personSpan;
    private final int yearSpan;
    private final boolean isMild;
    private String spoken = "";

    private RandomTest(int run) {
        this.run = run;
        random = new Random(run * 7919L + 17);
        wrongIn = random.nextBoolean() ? 15 : 60;
        personSpan = 2 + random.nextInt(7);
        yearSpan = random.nextBoolean() ? 30 : 200;
        isMild = random.nextInt(3) > 0;
    }

    public static void main(String[] args) throws Exception {
        int first = args.length > 0 ? Integer.parseInt(args[0]) : 0;
        int count = args.length > 1 ? Integer.parseInt(args[1]) : 250;
        int wrong = 0;
        for (int k = first; k < first + count && wrong < 3; k++) {
            wrong += new RandomTest(k).isSame() ? 0 : 1;
        }
        System.out.println("RandomTest: " + count + " runs, " + wrong + " wrong");
        if (wrong > 0) {
            System.exit(1);
        }
    }

    private boolean isSame() throws Exception {
        int burst = 0;
        for (int k = 0; k < CALLS; k++) {
            String[] line = pick(k < BUILD ? 1 : 2);
            if (k % 171 == 170) {
                line = "isSound 0 0".split(" ");
            } else if (k % 128 == 127) {
                line = "digest 0 0".split(" ");
            } else if (burst > 0) {
                line = "undo 0 0".split(" ");
                burst--;
            } else if (line[0].equals("undo")) {
                burst = random.nextInt(4) == 0 ? random.nextInt(10) : 0;
            }
            if (!isSameCall(line)) {
                return false;
            }
        }
        return true;
    }

    private String[] pick(int column) {
        int all = 0;
        for (String line : FACE) {
            all += Integer.parseInt(line.split(" ")[column]);
        }
        int at = random.nextInt(all);
        for (String line : FACE) {
            at -= Integer.parseInt(line.split(" ")[column]);
            if (at < 0) {
                return line.split(" ");
            }
        }
        throw new IllegalStateException();
    }

    private boolean isSameCall(String[] line) throws Exception {
        Object[] args = new Object[line.length - 3];
        Class<?>[] types = new Class<?>[args.length];
        for (int k = 0; k < args.length; k++) {
            args[k] = argument(line[k + 3], args);
            types[k] = args[k] instanceof Boolean ? boolean.class : int.class;
        }
        if (line[0].equals("use") && random.nextInt(8) > 0) {
            order(args, 1, 0);
        }
        if (line[0].equals("hand") && random.nextInt(12) > 0) {
            order(args, 4, 5);
        }
        calls.add(line[0] + Arrays.toString(args));
        Object got = answer(Licenceweave.class.getMethod(line[0], types), one, args);
        Object due = answer(Reference.class.getDeclaredMethod(line[0], types), two, args);
        if (got.equals(due)) {
            return true;
        }
        for (String call : calls) {
            System.out.println("  " + call);
        }
        System.out.println("run " + run + ": the last call answered " + got + ", due is " + due);
        return false;
    }

    private static void order(Object[] args, int smaller, int greater) {
        if ((int) args[smaller] > (int) args[greater]) {
            Object swap = args[smaller];
            args[smaller] = args[greater];
            args[greater] = swap;
        }
    }

    private static Object answer(Method method, Object object, Object[] args) throws Exception {
        try {
            return method.invoke(object, args);
        } catch (InvocationTargetException e) {
            return e.getCause().getClass().getName();
        }
    }

    private int oneOf(int... values) {
        return values[random.nextInt(values.length)];
    }

    private int below(int count) {
        if (random.nextInt(wrongIn) == 0) {
            return oneOf(-1, count, count + 1, Integer.MIN_VALUE, Integer.MAX_VALUE);
        }
        return count <= 0 ? 0 : random.nextInt(count);
    }

    private int within(int least, int most) {
        if (random.nextInt(wrongIn) == 0) {
            return oneOf(least - 1, most + 1, Integer.MIN_VALUE, Integer.MAX_VALUE);
        }
        int edge = random.nextInt(12);
        return edge == 0 ? least : edge == 1 ? most : least + random.nextInt(most - least + 1);
    }

    private int year() {
        int kind = random.nextInt(10);
        return kind == 0 ? within(0, 300) : kind == 1 ? 100 : 40 + random.nextInt(yearSpan);
    }

    private int person() {
        return random.nextInt(8) == 0 ? below(8) : random.nextInt(personSpan);
    }

    /** Mostly one who is a MAKER, or one who HOLDS something, of the WORK that is the call's first argument. */
    private int personOf(Object work, boolean isMaker) {
        int person = person();
        for (int k = 0; k < 16 && random.nextInt(20) > 0; k++) {
            person = random.nextInt(8);
            boolean is = (int) work < 0 || (int) work >= two.house(0);
            is = is || (isMaker ? (two.ofWork((int) work, 3) >> person & 1) != 0 : two.holds((int) work, person, 60) > 0);
            if (is) {
                return person;
            }
        }
        return person;
    }

    private Object argument(String kind, Object[] ahead) {
        switch (kind) {
            case "work": return below(two.house(0));
            case "licence": return below(two.house(1));
            case "entry": return below(two.house(2));
            case "land": return below(3);
            case "person": return person();
            case "maker": return personOf(ahead[0], true);
            case "holder": return personOf(ahead[0], false);
            case "hand": return below(9);
            case "madeYear": return random.nextInt(4) > 0 ? 20 + random.nextInt(4) : within(0, 60);
            case "year": return year();
            case "yearOrNone": return random.nextInt(4) == 0 ? -1 : year();
            case "part": return random.nextInt(6) == 0 ? within(1, 100) : 1 + random.nextInt(25);
            case "makerPart": return random.nextInt(6) == 0 ? within(1, 100) : 5 + random.nextInt(60);
            case "usePart": return random.nextInt(6) == 0 ? within(0, 100) : random.nextInt(35);
            case "how": return within(0, 3);
            case "letter": return random.nextInt(3) == 0 ? within(-1, 5) : random.nextInt(3);
            case "number": return within(0, 100);
            case "quote": return random.nextInt(4) == 0 ? within(0, 100) : random.nextInt(20);
            case "boolean": return random.nextInt(3) > 0;
            case "boolean4": return random.nextInt(4) == 0;
            case "rights": return isMild ? oneOf(63, 63, 31, 47, 55, 59, 61, 62, 15, 7, 23) : within(0, 63);
            case "duties": return isMild ? oneOf(0, 1, 2, 4, 8, 3, 12, 15) : within(0, 15);
            case "bans": return random.nextInt(3) > 0 ? 0 : within(0, 3);
            case "wanted": return random.nextInt(4) == 0 ? within(0, 63) : 1 << random.nextInt(6);
            case "sign": return sign();
            case "coins": return within(0, 9999) / oneOf(1, 10, 100);
            case "capOrNone": return random.nextInt(3) == 0 ? -1 : within(-1, 99999) / oneOf(1, 20, 500);
            case "run": return random.nextInt(3) == 0 ? within(1, 20) : 1 + random.nextInt(5);
            default: return within(0, kind.charAt(4) - '0');
        }
    }

    /** Mostly the SIGNS of a right LINE, one after the other, now and then another one. */
    private int sign() {
        int kind = random.nextInt(40);
        if (kind == 0) {
            return within(-1, 13);
        }
        if (kind < 8) {
            return -1;
        }
        if (spoken.isEmpty()) {
            StringBuilder line = new StringBuilder();
            for (char c : "cxgsvh/ntom/sx+".toCharArray()) {
                line.append(c == '/' || random.nextInt(3) == 0 ? String.valueOf(c) : "");
            }
            spoken = line + "!";
        }
        char c = spoken.charAt(0);
        spoken = spoken.substring(1);
        return c == '!' ? oneOf(13, -1) : "cxgsvhntom/+".indexOf(c);
    }
}
