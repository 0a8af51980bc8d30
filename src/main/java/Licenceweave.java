import java.util.Arrays;

/**
 * A registry of works made of works: what may be done with a whole, for how long, and who is paid.
 * The document (DOC.md) tells every call; words in capitals here are its words.
 */
public final class Licenceweave {
    private static final int NONE = -1;
    private static final int LAST_YEAR = 300;
    private static final int WORKS = 7;
    private static final int LANDS = 3;
    private static final int PERSONS = 8;
    private static final int CHEST = 8;
    private static final int HANDS = 9;
    private static final int LICENCES = 8;
    private static final int OFFERS = 3;
    private static final int ENTRIES = 16;
    private static final int STEPS = 8;
    private static final int WORDS = 20;
    private static final int LETTERS = 6;
    private static final int ASKED = 6;
    private static final int ROW = 20;
    private static final int KINDS = 3;
    /** Every number that a set can have. */
    private static final int ALL = -1;

    private static final int HUNDRED = 100;
    private static final int COINS = 9999;
    private static final int CAP = 99999;
    private static final int COMMON_LIFE = 70;
    private static final int COMMON_SHOW = 50;
    private static final int COMMON_QUOTE = 5;
    private static final int COMMON_BEHIND = 35;

    private static final int ALWAYS_FREE = 1;
    private static final int NEVER_FREE = 2;
    /** A YEAR behind every YEAR and every END. */
    private static final int FOREVER = 1000;

    private static final int CHANGED = 1;
    private static final int GATHERED = 2;
    private static final int QUOTED = 3;

    private static final int LICENCE_BITS = 3;
    /** A RIGHT counts more than all DUTIES together. */
    private static final int RIGHT_POINTS = 8;
    private static final int ALL_RIGHTS = 63;
    private static final int ALL_DUTIES = 15;
    private static final int ALL_BANS = 3;
    private static final int COPY = 1;
    private static final int CHANGE = 2;
    private static final int GATHER = 4;
    private static final int SELL = 8;
    private static final int NO_SELLING = 1;
    private static final int NO_CHANGING = 2;
    private static final int NAMES = 1;
    private static final int TEXT = 2;
    private static final int SOURCE = 4;
    private static final int MARK = 8;

    private static final String SIGNS = "cxgsvhntom/+";
    private static final int SIGN_X = 1;
    private static final int SIGN_S = 3;
    private static final int RIGHT_SIGNS = 6;
    private static final int DUTY_SIGNS = 4;
    private static final int SLASH = 10;
    private static final int PLUS = 11;
    private static final int LAST_AWAY = 12;
    private static final int ALL_AWAY = 13;

    /** 100 to the 6th: seven WORKS in a row hand on six times, a hundredth each, so no amount is ever rounded. */
    private static final long AMOUNT = 1000000000000L;
    /** 100 to the 7th: an AMOUNT in the hundredths that PERSONS HOLD. */
    private static final long SHARE = 100000000000000L;
    private static final int SHARE_TWOS = 14;
    private static final int SHARE_FIVES = 14;
    private static final int LONG_DIGITS = 18;

    private static final int SOUND_YEAR = 100;
    private static final long SEED = 6143L;

    private State now = new State();
    private final State[] steps = new State[STEPS];
    private int oldest;
    private int kept;
    private int refused;

    private final Whole whole = new Whole();
    private final Shares shares = new Shares();
    private final Row row = new Row();
    private final StringBuilder text = new StringBuilder();
    private final int[] asked = new int[ASKED];
    private final int[] meets = new int[WORKS];

    /** A WORK; what it has not got is as in a new one. */
    private static final class Work {
        int year;
        int home;
        int shownIn = NONE;
        int least;
        int offers;
        int wordCount;
        final int[] makerParts = new int[PERSONS];
        final int[] how = new int[WORKS];
        final int[] useParts = new int[WORKS];
        final int[] letters = new int[WORDS];

        Work() {
            Arrays.fill(how, NONE);
        }

        void copyFrom(Work other) {
            year = other.year;
            home = other.home;
            shownIn = other.shownIn;
            least = other.least;
            offers = other.offers;
            wordCount = other.wordCount;
            System.arraycopy(other.makerParts, 0, makerParts, 0, PERSONS);
            System.arraycopy(other.how, 0, how, 0, WORKS);
            System.arraycopy(other.useParts, 0, useParts, 0, WORKS);
            System.arraycopy(other.letters, 0, letters, 0, WORDS);
        }

        int makerSet() {
            int set = 0;
            for (int person = 0; person < PERSONS; person++) {
                set |= makerParts[person] > 0 ? 1 << person : 0;
            }
            return set;
        }

        int makerSum() {
            int sum = 0;
            for (int person = 0; person < PERSONS; person++) {
                sum += makerParts[person];
            }
            return sum;
        }

        int useSet() {
            int set = 0;
            for (int of = 0; of < WORKS; of++) {
                set |= how[of] != NONE ? 1 << of : 0;
            }
            return set;
        }

        int useSum() {
            int sum = 0;
            for (int of = 0; of < WORKS; of++) {
                sum += useParts[of];
            }
            return sum;
        }

        void addLetter(int letter) {
            if (letter != NONE && wordCount < WORDS) {
                letters[wordCount] = letter;
                wordCount++;
            }
        }

        int fact(int what) {
            switch (what) {
                case 0: return year;
                case 1: return home;
                case 2: return shownIn;
                case 3: return makerSet();
                case 4: return makerSum();
                case 5: return useSet();
                case 6: return useSum();
                case 7: return offers;
                case 8: return least;
                default: return wordCount;
            }
        }

        /** How many WORDS from these two places on are the same. */
        int runWith(int place, Work other, int otherPlace) {
            int most = Math.min(wordCount - place, other.wordCount - otherPlace);
            int run = 0;
            while (run < most && letters[place + run] == other.letters[otherPlace + run]) {
                run++;
            }
            return run;
        }
    }

    /** The numbers of a LAND and its LIST. */
    private static final class Land {
        int life = COMMON_LIFE;
        int show = COMMON_SHOW;
        int quote = COMMON_QUOTE;
        boolean isShorter;
        final int[] listed = new int[WORKS];

        void copyFrom(Land other) {
            life = other.life;
            show = other.show;
            quote = other.quote;
            isShorter = other.isShorter;
            System.arraycopy(other.listed, 0, listed, 0, WORKS);
        }
    }

    /** A PERSON or the CHEST; of the latter the earnings alone ever change. */
    private static final class Hand {
        int died = NONE;
        int most = NONE;
        int open;
        int earned;
        int paid;

        void copyFrom(Hand other) {
            died = other.died;
            most = other.most;
            open = other.open;
            earned = other.earned;
            paid = other.paid;
        }

        int fact(int what) {
            switch (what) {
                case 0: return died;
                case 1: return most;
                case 2: return open;
                case 3: return earned;
                default: return paid;
            }
        }
    }

    /** A LICENCE; the set of those that it FITS into is kept, as it is asked for again and again. */
    private static final class Licence {
        int rights;
        int duties;
        int bans;
        boolean isAlike;
        int into;

        void copyFrom(Licence other) {
            rights = other.rights;
            duties = other.duties;
            bans = other.bans;
            isAlike = other.isAlike;
            into = other.into;
        }

        int given() {
            int lost = ((bans & NO_SELLING) != 0 ? SELL : 0) | ((bans & NO_CHANGING) != 0 ? CHANGE : 0);
            return rights & ~lost;
        }

        boolean isWithin(Licence other) {
            return !isAlike
                && (other.rights & ~rights) == 0
                && (duties & ~other.duties) == 0
                && (bans & ~other.bans) == 0;
        }
    }

    /** An ENTRY; whether it is VALID is kept, and judged anew when an ENTRY ahead of it may have changed. */
    private static final class Entry {
        int work;
        int from;
        int to;
        int part;
        int first;
        int last;
        boolean isValid;

        void copyFrom(Entry other) {
            work = other.work;
            from = other.from;
            to = other.to;
            part = other.part;
            first = other.first;
            last = other.last;
            isValid = other.isValid;
        }

        boolean hasYear(int year) {
            return first <= year && year <= last;
        }

        /** How much its part adds to what that PERSON HOLDS of that WORK in that YEAR. */
        int moves(int ofWork, int person, int year) {
            if (!isValid || work != ofWork || year < first || year > last) {
                return 0;
            }
            return to == person ? part : from == person ? -part : 0;
        }
    }

    /** A row of SIGNS, and what it told when it was read last. */
    private static final class Row {
        int length;
        final int[] signs = new int[ROW];
        final int[] sets = new int[KINDS];
        boolean isAlike;

        void copyFrom(Row other) {
            length = other.length;
            System.arraycopy(other.signs, 0, signs, 0, ROW);
        }

        void type(int sign) {
            if (sign == ALL_AWAY) {
                length = 0;
            } else if (sign == LAST_AWAY) {
                length = Math.max(0, length - 1);
            } else if (sign != NONE && length < ROW) {
                signs[length] = sign;
                length++;
            }
        }

        void spell(Licence licence) {
            length = 0;
            typeSet(0, licence.rights);
            type(SLASH);
            typeSet(1, licence.duties);
            type(SLASH);
            typeSet(2, licence.bans);
            if (licence.isAlike) {
                type(PLUS);
            }
        }

        private void typeSet(int kind, int set) {
            for (int k = 0; k < RIGHT_SIGNS; k++) {
                if ((set >> k & 1) != 0) {
                    type(signOf(kind, k));
                }
            }
        }

        /** The FAULT; without one the sets of RIGHTS, DUTIES and BANS stand in sets. */
        int read() {
            int kind = 0;
            int least = 0;
            Arrays.fill(sets, 0);
            isAlike = false;
            for (int place = 0; place < length; place++) {
                int sign = signs[place];
                int letter = letterOf(kind, sign);
                if (letter >= least) {
                    sets[kind] |= 1 << letter;
                    least = letter + 1;
                } else if (sign == SLASH && kind < 2) {
                    kind++;
                    least = 0;
                } else if (sign == PLUS && kind == 2) {
                    isAlike = true;
                    kind++;
                } else {
                    return place;
                }
            }
            return kind < 2 ? length : NONE;
        }
    }

    /** All that a STEP BACK brings back. */
    private static final class State {
        int workCount;
        int licenceCount;
        int entryCount;
        int behindYears = COMMON_BEHIND;
        int sold;
        final Work[] works = new Work[WORKS];
        final Land[] lands = new Land[LANDS];
        final Hand[] hands = new Hand[HANDS];
        final Licence[] licences = new Licence[LICENCES];
        final Entry[] entries = new Entry[ENTRIES];
        final Row typedRow = new Row();

        State() {
            for (int k = 0; k < WORKS; k++) {
                works[k] = new Work();
            }
            for (int k = 0; k < LANDS; k++) {
                lands[k] = new Land();
            }
            for (int k = 0; k < HANDS; k++) {
                hands[k] = new Hand();
            }
            for (int k = 0; k < LICENCES; k++) {
                licences[k] = new Licence();
            }
            for (int k = 0; k < ENTRIES; k++) {
                entries[k] = new Entry();
            }
        }

        // Rows not yet in use are copied, too: so each one is as new when it is first used, also after a STEP BACK.
        void copyFrom(State other) {
            workCount = other.workCount;
            licenceCount = other.licenceCount;
            entryCount = other.entryCount;
            behindYears = other.behindYears;
            sold = other.sold;
            for (int k = 0; k < WORKS; k++) {
                works[k].copyFrom(other.works[k]);
            }
            for (int k = 0; k < LANDS; k++) {
                lands[k].copyFrom(other.lands[k]);
            }
            for (int k = 0; k < HANDS; k++) {
                hands[k].copyFrom(other.hands[k]);
            }
            for (int k = 0; k < LICENCES; k++) {
                licences[k].copyFrom(other.licences[k]);
            }
            for (int k = 0; k < ENTRIES; k++) {
                entries[k].copyFrom(other.entries[k]);
            }
            typedRow.copyFrom(other.typedRow);
        }

        /** TERM by the numbers of that LAND, as if that PERSON (NONE: nobody) had died in that YEAR. */
        int term(Work work, Land land, int person, int year) {
            int last = NONE;
            for (int k = 0; k < PERSONS; k++) {
                if (work.makerParts[k] > 0) {
                    int died = k == person ? year : hands[k].died;
                    if (died == NONE) {
                        return NONE;
                    }
                    last = died > last ? died : last;
                }
            }
            if (last != NONE) {
                return last + land.life;
            }
            return work.shownIn == NONE ? NONE : work.shownIn + land.show;
        }

        int endIf(Work work, Land land, int person, int year) {
            int own = term(work, land, person, year);
            if (!land.isShorter) {
                return own;
            }
            int atHome = term(work, lands[work.home], person, year);
            return atHome != NONE && (own == NONE || atHome < own) ? atHome : own;
        }

        /** The last YEAR in which that WORK is not FREE there: NONE, if it always is, FOREVER, if it never is. */
        int lastBound(int work, int land) {
            int listed = lands[land].listed[work];
            if (listed == ALWAYS_FREE) {
                return NONE;
            }
            int end = listed == NEVER_FREE ? NONE : endIf(works[work], lands[land], NONE, NONE);
            return end == NONE ? FOREVER : end;
        }

        /** Of a set of WORKS those that are not FREE there then. */
        int boundOf(int set, int land, int year) {
            int bound = 0;
            for (int k = 0; k < workCount; k++) {
                if ((set >> k & 1) != 0 && year <= lastBound(k, land)) {
                    bound |= 1 << k;
                }
            }
            return bound;
        }

        /** Whether the one makes USE of the other, and not by a SMALL one in that LAND (NONE: by any). */
        boolean isUser(int work, int of, int land) {
            int how = works[work].how[of];
            if (how != QUOTED || land == NONE) {
                return how != NONE;
            }
            return works[work].useParts[of] > lands[land].quote;
        }

        /** PARTS in that LAND (NONE: by SMALL USES, too); a chain of USES has fewer links than there are WORKS. */
        int reach(int work, int land) {
            int set = 1 << work;
            int before = 0;
            for (int round = 0; round < WORKS && set != before; round++) {
                before = set;
                for (int k = 0; k < workCount; k++) {
                    set |= (set >> k & 1) != 0 ? usedBy(k, land) : 0;
                }
            }
            return set;
        }

        int usedBy(int work, int land) {
            int set = 0;
            for (int of = 0; of < workCount; of++) {
                set |= isUser(work, of, land) ? 1 << of : 0;
            }
            return set;
        }

        /** The RIGHTS that a LICENCE of that WORK must GIVE, for the USES of it by these PARTS. */
        int needs(int work, int parts, int land) {
            int set = 0;
            for (int k = 0; k < workCount; k++) {
                if ((parts >> k & 1) != 0 && isUser(k, work, land)) {
                    int how = works[k].how[work];
                    set |= how == CHANGED ? CHANGE : how == GATHERED ? GATHER : COPY;
                }
            }
            return set;
        }

        boolean isChangedBy(int work, int parts) {
            for (int k = 0; k < workCount; k++) {
                if ((parts >> k & 1) != 0 && works[k].how[work] == CHANGED) {
                    return true;
                }
            }
            return false;
        }

        int addLicence(int rights, int duties, int bans, boolean isAlike) {
            int number = licenceCount;
            if (number >= LICENCES) {
                return NONE;
            }
            Licence one = licences[number];
            one.rights = rights;
            one.duties = duties;
            one.bans = bans;
            one.isAlike = isAlike;
            one.into = 1 << number;
            for (int k = 0; k < number; k++) {
                Licence other = licences[k];
                one.into |= one.isWithin(other) ? 1 << k : 0;
                other.into |= other.isWithin(one) ? 1 << number : 0;
            }
            licenceCount++;
            return number;
        }

        int join(int licence, int other) {
            return firstOf(licences[licence].into & licences[other].into);
        }

        boolean isClash(int part, int other) {
            if (part == other) {
                return works[part].offers == 0;
            }
            for (int k = 0; k < licenceCount; k++) {
                for (int m = 0; m < licenceCount; m++) {
                    boolean isPair = (works[part].offers >> k & 1) != 0 && (works[other].offers >> m & 1) != 0;
                    if (isPair && join(k, m) != NONE) {
                        return false;
                    }
                }
            }
            return true;
        }

        /** What that PERSON HOLDS by the ENTRIES ahead of that one. */
        int heldAhead(int entry, int work, int person, int year) {
            int sum = works[work].makerParts[person];
            for (int k = 0; k < entry; k++) {
                sum += entries[k].moves(work, person, year);
            }
            return sum;
        }

        void judgeFrom(int entry) {
            for (int k = entry; k < entryCount; k++) {
                entries[k].isValid = isCovered(k);
            }
        }

        // What one HOLDS changes only where an ENTRY ahead begins or is over: in between no YEAR need be looked at.
        private boolean isCovered(int entry) {
            if (isShort(entry, entries[entry].first)) {
                return false;
            }
            for (int k = 0; k < entry; k++) {
                if (isShort(entry, entries[k].first) || isShort(entry, entries[k].last + 1)) {
                    return false;
                }
            }
            return true;
        }

        private boolean isShort(int entry, int year) {
            Entry one = entries[entry];
            return one.hasYear(year) && heldAhead(entry, one.work, one.from, year) < one.part;
        }

        int twice(int entry) {
            Entry one = entries[entry];
            for (int k = 0; k < entry && !one.isValid; k++) {
                Entry other = entries[k];
                boolean isSame = other.isValid && other.work == one.work && other.from == one.from;
                if (isSame && Math.max(one.first, other.first) <= Math.min(one.last, other.last)) {
                    return k;
                }
            }
            return NONE;
        }

        int validCount() {
            int count = 0;
            for (int k = 0; k < entryCount; k++) {
                count += entries[k].isValid ? 1 : 0;
            }
            return count;
        }

        int entryFact(int entry, int what) {
            Entry one = entries[entry];
            switch (what) {
                case 0: return one.work;
                case 1: return one.from;
                case 2: return one.to;
                case 3: return one.part;
                case 4: return one.first;
                case 5: return one.last;
                case 6: return one.isValid ? 1 : 0;
                default: return twice(entry);
            }
        }

        /** Brings coins to a PERSON; tells what of them is PAID. */
        int pay(int person, int coins) {
            Hand hand = hands[person];
            int room = hand.most == NONE ? coins : Math.max(0, hand.most - hand.earned);
            int earned = Math.min(coins, room);
            int taken = Math.min(hand.open, earned);
            hands[CHEST].earned += coins - earned;
            hand.earned += earned;
            hand.open -= taken;
            hand.paid += earned - taken;
            return earned - taken;
        }
    }

    /** A WORK with its PARTS in a LAND and a YEAR, and the CHOICE that was sought for it last. */
    private static final class Whole {
        int parts;
        int bound;
        int meet;
        int duties;
        /** The LICENCES chosen, by rising BOUND PARTS, three bits each: so the smallest code goes ahead; or NONE. */
        int code;
        private int score;
        private final int[] able = new int[WORKS];

        /** Looks at a WHOLE, of whose PARTS those in that set are BOUND. */
        void look(State state, int work, int land, int notFree) {
            parts = state.reach(work, land);
            bound = parts & notFree;
            for (int k = 0; k < WORKS; k++) {
                able[k] = 0;
                if ((bound >> k & 1) != 0) {
                    allow(state, land, k, state.works[k].offers);
                }
            }
        }

        /** Lets a PART take of these LICENCES those that GIVE what is needed; one that is not BOUND takes none. */
        void allow(State state, int land, int part, int offers) {
            if ((bound >> part & 1) != 0) {
                able[part] = givers(state, offers, state.needs(part, parts, land));
            }
        }

        private int givers(State state, int offers, int needed) {
            int set = 0;
            for (int k = 0; k < state.licenceCount; k++) {
                boolean isGiver = (needed & ~state.licences[k].given()) == 0;
                set |= isGiver ? offers & 1 << k : 0;
            }
            return set;
        }

        /**
         * Seeks the CHOICE with all these RIGHTS in its MEET. MEET and DUTIES hang on the set of LICENCES alone, and a
         * smaller set is never worse: so it is enough to try the sets, with the smallest of each for every BOUND PART.
         */
        void seek(State state, int wanted, boolean isByRights) {
            int all = 0;
            for (int k = 0; k < WORKS; k++) {
                all |= able[k];
            }
            code = NONE;
            for (int set = 0; set <= all; set++) {
                if ((set & ~all) == 0) {
                    weigh(state, set, wanted, isByRights);
                }
            }
        }

        private void weigh(State state, int set, int wanted, boolean isByRights) {
            int into = ALL;
            int rights = ALL_RIGHTS;
            int duty = 0;
            for (int k = 0; k < state.licenceCount; k++) {
                if ((set >> k & 1) != 0) {
                    into &= state.licences[k].into;
                    rights &= state.licences[k].given();
                    duty |= state.licences[k].duties;
                }
            }
            int points = (isByRights ? Integer.bitCount(rights) * RIGHT_POINTS : 0) - Integer.bitCount(duty);
            boolean isWorse = code != NONE && points < score;
            if (into == 0 || (wanted & ~rights) != 0 || isWorse) {
                return;
            }
            int tried = codeBy(set);
            if (tried != NONE && (code == NONE || points > score || tried < code)) {
                code = tried;
                score = points;
                meet = rights;
                duties = duty;
            }
        }

        private int codeBy(int set) {
            int sum = 0;
            for (int k = 0; k < WORKS; k++) {
                if ((bound >> k & 1) != 0) {
                    int licence = firstOf(able[k] & set);
                    if (licence == NONE) {
                        return NONE;
                    }
                    sum = sum << LICENCE_BITS | licence;
                }
            }
            return sum;
        }

        /** The LICENCE chosen for that BOUND PART. */
        int chosen(int part) {
            int above = Integer.bitCount(bound >> part >> 1);
            return code >> LICENCE_BITS * above & LICENCES - 1;
        }
    }

    /** SHARES of a WORK, in parts of SHARE, and the coins of a SALE, HAND by HAND. */
    private static final class Shares {
        final long[] byHand = new long[HANDS];
        final int[] coins = new int[HANDS];
        private final long[] has = new long[WORKS];
        private final long[] comes = new long[WORKS];
        private final long[] stays = new long[WORKS];
        private final long[] rests = new long[HANDS];

        /** By a SALE for that price, while the WORKS in the set bound are those that are not FREE. */
        void reckon(State state, int work, int land, int year, int bound, int price) {
            Arrays.fill(has, 0);
            Arrays.fill(stays, 0);
            has[work] = AMOUNT;
            for (int round = 0; round < WORKS; round++) {
                Arrays.fill(comes, 0);
                for (int k = 0; k < state.workCount; k++) {
                    stays[k] += has[k] > 0 ? has[k] - handOn(state, k, land, bound, price) : 0;
                }
                System.arraycopy(comes, 0, has, 0, WORKS);
            }
            Arrays.fill(byHand, 0);
            for (int k = 0; k < state.workCount; k++) {
                if (stays[k] > 0) {
                    shareOut(state, k, year);
                }
            }
        }

        long all() {
            long sum = 0;
            for (int hand = 0; hand < HANDS; hand++) {
                sum += byHand[hand];
            }
            return sum;
        }

        private long handOn(State state, int work, int land, int bound, int price) {
            long all = 0;
            for (int of = 0; of < state.workCount; of++) {
                boolean isPaid = (bound >> of & 1) != 0 && price >= state.works[of].least;
                if (isPaid && state.isUser(work, of, land)) {
                    long amount = has[work] / HUNDRED * state.works[work].useParts[of];
                    comes[of] += amount;
                    all += amount;
                }
            }
            return all;
        }

        private void shareOut(State state, int work, int year) {
            int left = HUNDRED;
            for (int person = 0; person < PERSONS; person++) {
                int held = state.heldAhead(state.entryCount, work, person, year);
                byHand[person] += stays[work] * held;
                left -= held;
            }
            byHand[CHEST] += stays[work] * left;
        }

        void split(int price) {
            int left = price;
            for (int hand = 0; hand < HANDS; hand++) {
                coins[hand] = (int) (byHand[hand] * price / SHARE);
                rests[hand] = byHand[hand] * price % SHARE;
                left -= coins[hand];
            }
            for (int k = 0; k < HANDS && left > 0; k++) {
                int hand = greatestRest();
                coins[hand]++;
                rests[hand] = NONE;
                left--;
            }
        }

        private int greatestRest() {
            int best = 0;
            for (int hand = 1; hand < HANDS; hand++) {
                if (rests[hand] > rests[best]) {
                    best = hand;
                }
            }
            return best;
        }
    }

    public Licenceweave() {
        for (int k = 0; k < STEPS; k++) {
            steps[k] = new State();
        }
    }

    // ---- works

    public int work(int year, int home)
            throws IndexOutOfBoundsException, IllegalArgumentException, IllegalStateException {
        needLand(home);
        needYear(year);
        int number = now.workCount;
        if (number >= WORKS) {
            throw new IllegalStateException("no more works");
        }
        keepStep();
        now.works[number].year = year;
        now.works[number].home = home;
        now.workCount++;
        return number;
    }

    public int maker(int work, int person, int part)
            throws IndexOutOfBoundsException, IllegalArgumentException, IllegalStateException {
        needWork(work);
        needPerson(person);
        needWithin(part, 1, HUNDRED);
        int sum = now.works[work].makerSum() + part;
        if (now.works[work].makerParts[person] > 0 || sum > HUNDRED || hasEntry(work)) {
            throw new IllegalStateException("no such maker more");
        }
        keepStep();
        now.works[work].makerParts[person] = part;
        return sum;
    }

    public int shown(int work, int year) throws IndexOutOfBoundsException, IllegalArgumentException {
        needWork(work);
        if (year != NONE) {
            needWithin(year, now.works[work].year, LAST_YEAR);
        }
        keepStep();
        int before = now.works[work].shownIn;
        now.works[work].shownIn = year;
        return before;
    }

    public int death(int person, int year) throws IndexOutOfBoundsException, IllegalArgumentException {
        needPerson(person);
        needWithin(year, NONE, LAST_YEAR);
        keepStep();
        int before = now.hands[person].died;
        now.hands[person].died = year;
        return before;
    }

    public int use(int work, int of, int how, int part)
            throws IndexOutOfBoundsException, IllegalArgumentException, IllegalStateException {
        needWork(work);
        needWork(of);
        needWithin(how, 0, QUOTED);
        needWithin(part, 0, HUNDRED);
        needWithin(now.works[of].year, 0, now.works[work].year);
        int sum = now.works[work].useSum() + part;
        boolean isRing = (now.reach(of, NONE) >> work & 1) != 0;
        if (now.works[work].how[of] != NONE || isRing || sum > HUNDRED) {
            throw new IllegalStateException("no such use more");
        }
        keepStep();
        now.works[work].how[of] = how;
        now.works[work].useParts[of] = part;
        return sum;
    }

    public int words(int work, int a, int b, int c, int d, int e)
            throws IndexOutOfBoundsException, IllegalArgumentException, IllegalStateException {
        needWork(work);
        ask(a, b, c, d, e, NONE);
        int count = now.works[work].wordCount;
        for (int k = 0; k < ASKED; k++) {
            needWithin(asked[k], NONE, LETTERS - 1);
            count += asked[k] == NONE ? 0 : 1;
        }
        if (count > WORDS) {
            throw new IllegalStateException("no more words");
        }
        keepStep();
        for (int k = 0; k < ASKED; k++) {
            now.works[work].addLetter(asked[k]);
        }
        return count;
    }

    // ---- lands, licences

    public int land(int land, int life, int show, int quote, boolean isShorter)
            throws IndexOutOfBoundsException, IllegalArgumentException {
        needLand(land);
        needWithin(life, 0, HUNDRED);
        needWithin(show, 0, HUNDRED);
        needWithin(quote, 0, HUNDRED);
        keepStep();
        Land one = now.lands[land];
        int before = one.life;
        one.life = life;
        one.show = show;
        one.quote = quote;
        one.isShorter = isShorter;
        return before;
    }

    public int list(int land, int work, int what) throws IndexOutOfBoundsException, IllegalArgumentException {
        needLand(land);
        needWork(work);
        needWithin(what, 0, NEVER_FREE);
        keepStep();
        int before = now.lands[land].listed[work];
        now.lands[land].listed[work] = what;
        return before;
    }

    public int licence(int rights, int duties, int bans, boolean isAlike)
            throws IllegalArgumentException, IllegalStateException {
        needWithin(rights, 0, ALL_RIGHTS);
        needWithin(duties, 0, ALL_DUTIES);
        needWithin(bans, 0, ALL_BANS);
        needLicenceRoom();
        keepStep();
        return now.addLicence(rights, duties, bans, isAlike);
    }

    public int offer(int work, int licence, boolean is) throws IndexOutOfBoundsException, IllegalStateException {
        needWork(work);
        needLicence(licence);
        int before = now.works[work].offers;
        int offers = is ? before | 1 << licence : before & ~(1 << licence);
        int count = Integer.bitCount(offers);
        if (count > OFFERS) {
            throw new IllegalStateException("no more offers");
        }
        keepStep();
        now.works[work].offers = offers;
        return count;
    }

    public int say(int a, int b, int c, int d, int e, int f)
            throws IllegalArgumentException, IllegalStateException {
        ask(a, b, c, d, e, f);
        for (int k = 0; k < ASKED; k++) {
            needWithin(asked[k], NONE, ALL_AWAY);
        }
        int length = now.typedRow.length;
        for (int k = 0; k < ASKED; k++) {
            length = lengthAfter(length, asked[k]);
            if (length > ROW) {
                throw new IllegalStateException("no more signs");
            }
        }
        keepStep();
        for (int k = 0; k < ASKED; k++) {
            now.typedRow.type(asked[k]);
        }
        return length;
    }

    public int learn() throws IllegalStateException {
        needLicenceRoom();
        int fault = now.typedRow.read();
        if (fault != NONE) {
            return -2 - fault;
        }
        keepStep();
        Row typedRow = now.typedRow;
        typedRow.length = 0;
        return now.addLicence(typedRow.sets[0], typedRow.sets[1], typedRow.sets[2], typedRow.isAlike);
    }

    // ---- title

    public int hand(int work, int from, int to, int part, int first, int last)
            throws IndexOutOfBoundsException, IllegalArgumentException, IllegalStateException {
        needWork(work);
        needPerson(from);
        needPerson(to);
        needWithin(part, 1, HUNDRED);
        needYear(last);
        needWithin(first, 0, last);
        if (from == to) {
            throw new IllegalArgumentException("to oneself");
        }
        int number = now.entryCount;
        if (number >= ENTRIES) {
            throw new IllegalStateException("no more entries");
        }
        keepStep();
        Entry one = now.entries[number];
        one.work = work;
        one.from = from;
        one.to = to;
        one.part = part;
        one.first = first;
        one.last = last;
        now.entryCount++;
        now.judgeFrom(number);
        return number;
    }

    public int back(int entry, int year) throws IndexOutOfBoundsException, IllegalArgumentException {
        needEntry(entry);
        needWithin(year, now.entries[entry].first, now.entries[entry].last);
        keepStep();
        int before = now.entries[entry].last;
        now.entries[entry].last = year - 1;
        now.judgeFrom(entry);
        return before;
    }

    public int takeBack(int work, int person, int year)
            throws IndexOutOfBoundsException, IllegalArgumentException, IllegalStateException {
        needWork(work);
        needPerson(person);
        needYear(year);
        if (now.works[work].makerParts[person] == 0) {
            throw new IllegalStateException("no maker of it");
        }
        keepStep();
        int count = 0;
        for (int k = 0; k < now.entryCount; k++) {
            Entry one = now.entries[k];
            boolean isOwn = one.isValid && one.work == work && one.from == person;
            if (isOwn && one.first + now.behindYears <= year && one.last >= year) {
                one.last = year - 1;
                count++;
            }
        }
        now.judgeFrom(0);
        return count;
    }

    public int behind(int years) throws IllegalArgumentException {
        needWithin(years, 0, HUNDRED);
        keepStep();
        int before = now.behindYears;
        now.behindYears = years;
        return before;
    }

    // ---- payments

    public int advance(int person, int coins) throws IndexOutOfBoundsException, IllegalArgumentException {
        needPerson(person);
        needWithin(coins, 0, COINS);
        keepStep();
        now.hands[person].open += coins;
        return now.hands[person].open;
    }

    public int cap(int person, int coins) throws IndexOutOfBoundsException, IllegalArgumentException {
        needPerson(person);
        needWithin(coins, NONE, CAP);
        keepStep();
        int before = now.hands[person].most;
        now.hands[person].most = coins;
        return before;
    }

    public int floor(int work, int coins) throws IndexOutOfBoundsException, IllegalArgumentException {
        needWork(work);
        needWithin(coins, 0, COINS);
        keepStep();
        int before = now.works[work].least;
        now.works[work].least = coins;
        return before;
    }

    public int sale(int work, int land, int year, int coins)
            throws IndexOutOfBoundsException, IllegalArgumentException {
        needWork(work);
        needLand(land);
        needWithin(year, now.works[work].year, LAST_YEAR);
        needWithin(coins, 0, COINS);
        keepStep();
        shares.reckon(now, work, land, year, now.boundOf(ALL, land, year), coins);
        shares.split(coins);
        int paid = 0;
        for (int person = 0; person < PERSONS; person++) {
            paid += now.pay(person, shares.coins[person]);
        }
        now.hands[CHEST].earned += shares.coins[CHEST];
        now.sold += coins;
        return paid;
    }

    public int undo() throws IllegalStateException {
        if (kept <= 0) {
            throw new IllegalStateException("no step back");
        }
        kept--;
        int place = (oldest + kept) % STEPS;
        State undone = now;
        now = steps[place];
        steps[place] = undone;
        return kept;
    }

    public int knock() {
        refused++;
        return refused;
    }

    // ---- what is asked of works and lands

    public int ofWork(int work, int what) throws IndexOutOfBoundsException, IllegalArgumentException {
        needWork(work);
        needWithin(what, 0, 9);
        return now.works[work].fact(what);
    }

    public int ofHand(int hand, int what) throws IndexOutOfBoundsException, IllegalArgumentException {
        needHand(hand);
        needWithin(what, 0, 4);
        return now.hands[hand].fact(what);
    }

    public int end(int work, int land) throws IndexOutOfBoundsException {
        needWork(work);
        needLand(land);
        return now.endIf(now.works[work], now.lands[land], NONE, NONE);
    }

    public boolean isFree(int work, int land, int year) throws IndexOutOfBoundsException, IllegalArgumentException {
        needWhole(work, land, year);
        return year > now.lastBound(work, land);
    }

    public int next(int work, int land, int year) throws IndexOutOfBoundsException, IllegalArgumentException {
        needWhole(work, land, year);
        return nextState(work, land, year);
    }

    // ---- what is asked of licences and wholes

    public String line(int licence) throws IndexOutOfBoundsException {
        needLicence(licence);
        row.spell(now.licences[licence]);
        return written(row);
    }

    public String typed() {
        return written(now.typedRow);
    }

    public int fault() {
        return now.typedRow.read();
    }

    public boolean fits(int licence, int other) throws IndexOutOfBoundsException {
        needLicence(licence);
        needLicence(other);
        return (now.licences[licence].into >> other & 1) != 0;
    }

    public int joined(int licence, int other) throws IndexOutOfBoundsException {
        needLicence(licence);
        needLicence(other);
        return now.join(licence, other);
    }

    public int parts(int work, int land, int year, boolean isBound)
            throws IndexOutOfBoundsException, IllegalArgumentException {
        needWhole(work, land, year);
        int set = now.reach(work, land);
        return isBound ? now.boundOf(set, land, year) : set;
    }

    public int may(int work, int land, int year, boolean isDuties)
            throws IndexOutOfBoundsException, IllegalArgumentException {
        needWhole(work, land, year);
        seekBest(work, land, year);
        return whole.code == NONE ? NONE : isDuties ? whole.duties : whole.meet;
    }

    public String choice(int work, int land, int year, int wanted)
            throws IndexOutOfBoundsException, IllegalArgumentException {
        needWhole(work, land, year);
        needWithin(wanted, 0, ALL_RIGHTS);
        whole.look(now, work, land, now.boundOf(ALL, land, year));
        whole.seek(now, wanted, false);
        text.setLength(0);
        if (whole.code == NONE) {
            text.append('-');
        } else {
            writeChoice();
        }
        return text.toString();
    }

    public String clash(int work, int land, int year) throws IndexOutOfBoundsException, IllegalArgumentException {
        needWhole(work, land, year);
        writeClash(now.boundOf(now.reach(work, land), land, year));
        return text.toString();
    }

    public String notices(int work, int land, int year) throws IndexOutOfBoundsException, IllegalArgumentException {
        needWhole(work, land, year);
        seekBest(work, land, year);
        writeNotices();
        return text.toString();
    }

    // ---- what is asked of title and payments

    public int holds(int work, int person, int year) throws IndexOutOfBoundsException, IllegalArgumentException {
        needWork(work);
        needPerson(person);
        needYear(year);
        return held(work, person, year);
    }

    public int ofEntry(int entry, int what) throws IndexOutOfBoundsException, IllegalArgumentException {
        needEntry(entry);
        needWithin(what, 0, 7);
        return now.entryFact(entry, what);
    }

    public String chain(int work, int person, int year) throws IndexOutOfBoundsException, IllegalArgumentException {
        needWork(work);
        needPerson(person);
        needYear(year);
        text.setLength(0);
        if (held(work, person, year) <= 0) {
            return text.append('-').toString();
        }
        text.append(person);
        int told = person;
        for (int k = now.entryCount - 1; k >= 0; k--) {
            Entry one = now.entries[k];
            if (one.isValid && one.work == work && one.to == told && one.hasYear(year)) {
                told = one.from;
                text.append('<').append(told);
            }
        }
        return text.toString();
    }

    public String share(int work, int land, int year, int hand)
            throws IndexOutOfBoundsException, IllegalArgumentException {
        needWork(work);
        needLand(land);
        needHand(hand);
        needYear(year);
        shares.reckon(now, work, land, year, now.boundOf(ALL, land, year), COINS);
        text.setLength(0);
        writeShare(shares.byHand[hand]);
        return text.toString();
    }

    public int likeness(int work, int other, int run) throws IndexOutOfBoundsException, IllegalArgumentException {
        needWork(work);
        needWork(other);
        needWithin(run, 1, WORDS);
        Work one = now.works[work];
        Work two = now.works[other];
        int places = 0;
        for (int k = 0; k < one.wordCount; k++) {
            for (int m = 0; m < two.wordCount; m++) {
                int length = one.runWith(k, two, m);
                places |= length >= run ? (1 << length) - 1 << k : 0;
            }
        }
        return Integer.bitCount(places);
    }

    // ---- what would be

    public int wouldMay(int work, int land, int year, int part, int licence)
            throws IndexOutOfBoundsException, IllegalArgumentException {
        needWork(work);
        needWork(part);
        needLand(land);
        needLicence(licence);
        needYear(year);
        whole.look(now, work, land, now.boundOf(ALL, land, year));
        whole.allow(now, land, part, 1 << licence);
        whole.seek(now, 0, true);
        return whole.code == NONE ? NONE : whole.meet;
    }

    public int wouldEnd(int work, int land, int person, int death)
            throws IndexOutOfBoundsException, IllegalArgumentException {
        needWork(work);
        needLand(land);
        needPerson(person);
        needWithin(death, NONE, LAST_YEAR);
        return now.endIf(now.works[work], now.lands[land], person, death);
    }

    // ---- all

    public int house(int what) throws IllegalArgumentException {
        needWithin(what, 0, 8);
        return houseFact(what);
    }

    public boolean isSound() {
        if (!areCoinsKept() || !areLicencesSound()) {
            return false;
        }
        for (int k = 0; k < now.workCount; k++) {
            if (!isTitleKept(k)) {
                return false;
            }
        }
        for (int land = 0; land < LANDS; land++) {
            if (!areWholesSound(land)) {
                return false;
            }
        }
        return true;
    }

    public long digest() {
        long d = SEED;
        for (int what = 0; what <= 8; what++) {
            d = mix(d, houseFact(what));
        }
        for (int k = 0; k < now.workCount; k++) {
            for (int what = 0; what <= 9; what++) {
                d = mix(d, now.works[k].fact(what));
            }
            for (int land = 0; land < LANDS; land++) {
                d = mixWhole(d, k, land);
            }
        }
        for (int hand = 0; hand < HANDS; hand++) {
            for (int what = 0; what <= 4; what++) {
                d = mix(d, now.hands[hand].fact(what));
            }
        }
        for (int k = 0; k < now.workCount; k++) {
            for (int person = 0; person < PERSONS; person++) {
                d = mix(d, held(k, person, SOUND_YEAR));
            }
        }
        for (int k = 0; k < now.licenceCount; k++) {
            d = mixLicence(d, k);
        }
        for (int k = 0; k < now.entryCount; k++) {
            for (int what = 0; what <= 7; what++) {
                d = mix(d, now.entryFact(k, what));
            }
        }
        d = mix(d, now.typedRow.read());
        return mix(d, isSound() ? 1 : 0);
    }

    // ---- what calls must name

    private void needWork(int work) {
        needPlace(work, now.workCount);
    }

    private void needLand(int land) {
        needPlace(land, LANDS);
    }

    private void needPerson(int person) {
        needPlace(person, PERSONS);
    }

    private void needHand(int hand) {
        needPlace(hand, HANDS);
    }

    private void needLicence(int licence) {
        needPlace(licence, now.licenceCount);
    }

    private void needEntry(int entry) {
        needPlace(entry, now.entryCount);
    }

    private void needWhole(int work, int land, int year) {
        needWork(work);
        needLand(land);
        needYear(year);
    }

    private void needYear(int year) {
        needWithin(year, 0, LAST_YEAR);
    }

    private static void needPlace(int place, int count) {
        if (place < 0 || place >= count) {
            throw new IndexOutOfBoundsException("there is none with that number");
        }
    }

    private static void needWithin(int value, int least, int most) {
        if (value < least || value > most) {
            throw new IllegalArgumentException("not within its bounds");
        }
    }

    private void needLicenceRoom() {
        if (now.licenceCount >= LICENCES) {
            throw new IllegalStateException("no more licences");
        }
    }

    // ---- what changes

    /** Stands behind all checks of a call and ahead of what it changes. */
    private void keepStep() {
        steps[(oldest + kept) % STEPS].copyFrom(now);
        if (kept < STEPS) {
            kept++;
        } else {
            oldest = (oldest + 1) % STEPS;
        }
    }

    private void ask(int a, int b, int c, int d, int e, int f) {
        asked[0] = a;
        asked[1] = b;
        asked[2] = c;
        asked[3] = d;
        asked[4] = e;
        asked[5] = f;
    }

    private boolean hasEntry(int work) {
        for (int k = 0; k < now.entryCount; k++) {
            if (now.entries[k].work == work) {
                return true;
            }
        }
        return false;
    }

    private static int lengthAfter(int length, int sign) {
        switch (sign) {
            case NONE: return length;
            case LAST_AWAY: return Math.max(0, length - 1);
            case ALL_AWAY: return 0;
            default: return length + 1;
        }
    }

    // ---- signs and sets

    /** The smallest number in a set. */
    private static int firstOf(int set) {
        for (int k = 0; k < LICENCES; k++) {
            if ((set >> k & 1) != 0) {
                return k;
            }
        }
        return NONE;
    }

    /** Which letter of its kind (0 RIGHTS, 1 DUTIES, 2 BANS) a SIGN is. */
    private static int letterOf(int kind, int sign) {
        if (kind == 0) {
            return sign < RIGHT_SIGNS ? sign : NONE;
        }
        if (kind == 1) {
            return sign < RIGHT_SIGNS + DUTY_SIGNS ? sign - RIGHT_SIGNS : NONE;
        }
        if (kind == 2) {
            return sign == SIGN_S ? 0 : sign == SIGN_X ? 1 : NONE;
        }
        return NONE;
    }

    private static int signOf(int kind, int letter) {
        if (kind == 0) {
            return letter;
        }
        if (kind == 1) {
            return RIGHT_SIGNS + letter;
        }
        return letter == 0 ? SIGN_S : SIGN_X;
    }

    // ---- what is asked

    private int held(int work, int person, int year) {
        return now.heldAhead(now.entryCount, work, person, year);
    }

    private int nextState(int work, int land, int year) {
        int set = now.reach(work, land);
        int first = FOREVER;
        for (int k = 0; k < now.workCount; k++) {
            int last = now.lastBound(k, land);
            if ((set >> k & 1) != 0 && last >= year) {
                first = Math.min(first, last + 1);
            }
        }
        return first <= LAST_YEAR ? first : NONE;
    }

    private void seekBest(int work, int land, int year) {
        whole.look(now, work, land, now.boundOf(ALL, land, year));
        whole.seek(now, 0, true);
    }

    private int houseFact(int what) {
        switch (what) {
            case 0: return now.workCount;
            case 1: return now.licenceCount;
            case 2: return now.entryCount;
            case 3: return now.validCount();
            case 4: return now.behindYears;
            case 5: return now.sold;
            case 6: return kept;
            case 7: return now.typedRow.length;
            default: return refused;
        }
    }

    // ---- texts

    private String written(Row signs) {
        text.setLength(0);
        for (int k = 0; k < signs.length; k++) {
            text.append(SIGNS.charAt(signs.signs[k]));
        }
        return text.toString();
    }

    private void writeBlank() {
        if (text.length() > 0) {
            text.append(' ');
        }
    }

    private void writeChoice() {
        for (int k = 0; k < WORKS; k++) {
            if ((whole.bound >> k & 1) != 0) {
                writeBlank();
                text.append(k).append('=').append(whole.chosen(k));
            }
        }
    }

    private void writeClash(int bound) {
        text.setLength(0);
        for (int k = 0; k < now.workCount; k++) {
            for (int m = k; m < now.workCount; m++) {
                boolean isPair = (bound >> k & 1) != 0 && (bound >> m & 1) != 0;
                if (isPair && now.isClash(k, m)) {
                    text.append(k).append(' ').append(m);
                    return;
                }
            }
        }
        text.append('-');
    }

    private void writeNotices() {
        text.setLength(0);
        if (whole.code == NONE) {
            text.append('-');
            return;
        }
        int names = 0;
        int texts = 0;
        int sources = 0;
        int marks = 0;
        for (int k = 0; k < now.workCount; k++) {
            if ((whole.bound >> k & 1) != 0) {
                int licence = whole.chosen(k);
                int duties = now.licences[licence].duties;
                names |= (duties & NAMES) != 0 ? now.works[k].makerSet() : 0;
                texts |= (duties & TEXT) != 0 ? 1 << licence : 0;
                sources |= (duties & SOURCE) != 0 ? 1 << k : 0;
                marks |= (duties & MARK) != 0 && now.isChangedBy(k, whole.parts) ? 1 << k : 0;
            }
        }
        writeSet('n', names);
        writeSet('t', texts);
        writeSet('o', sources);
        writeSet('m', marks);
    }

    private void writeSet(char letter, int set) {
        for (int k = 0; k < LICENCES; k++) {
            if ((set >> k & 1) != 0) {
                writeBlank();
                text.append(letter).append(k);
            }
        }
    }

    private void writeShare(long amount) {
        long above = amount;
        long below = SHARE;
        for (int k = 0; k < SHARE_TWOS && above % 2 == 0 && below % 2 == 0; k++) {
            above /= 2;
            below /= 2;
        }
        for (int k = 0; k < SHARE_FIVES && above % 5 == 0 && below % 5 == 0; k++) {
            above /= 5;
            below /= 5;
        }
        writeLong(above);
        if (below > 1) {
            text.append('/');
            writeLong(below);
        }
    }

    private void writeLong(long value) {
        long unit = 1;
        for (int k = 1; k < LONG_DIGITS && value / unit >= 10; k++) {
            unit *= 10;
        }
        for (int k = 0; k < LONG_DIGITS && unit > 0; k++) {
            text.append((char) ('0' + value / unit % 10));
            unit /= 10;
        }
    }

    // ---- soundness, checksum

    private boolean areCoinsKept() {
        int sum = 0;
        for (int hand = 0; hand < HANDS; hand++) {
            sum += now.hands[hand].earned;
        }
        return sum == now.sold;
    }

    private boolean areLicencesSound() {
        for (int k = 0; k < now.licenceCount; k++) {
            row.spell(now.licences[k]);
            if (row.read() != NONE) {
                return false;
            }
            for (int m = 0; m < k; m++) {
                if (now.join(k, m) != now.join(m, k)) {
                    return false;
                }
            }
        }
        return true;
    }

    private boolean isTitleKept(int work) {
        for (int year = 0; year <= LAST_YEAR; year += HUNDRED) {
            int sum = 0;
            for (int person = 0; person < PERSONS; person++) {
                sum += held(work, person, year);
            }
            if (sum != now.works[work].makerSum()) {
                return false;
            }
        }
        return true;
    }

    private boolean areWholesSound(int land) {
        int bound = now.boundOf(ALL, land, SOUND_YEAR);
        int boundLater = now.boundOf(ALL, land, 2 * SOUND_YEAR) | now.boundOf(ALL, land, LAST_YEAR);
        if ((boundLater & ~bound) != 0) {
            return false;
        }
        for (int k = 0; k < now.workCount; k++) {
            shares.reckon(now, k, land, SOUND_YEAR, bound, COINS);
            if (shares.all() != SHARE) {
                return false;
            }
            whole.look(now, k, land, bound);
            whole.seek(now, 0, true);
            meets[k] = whole.code == NONE ? NONE : Integer.bitCount(whole.meet);
        }
        return !isMeetAbove(land);
    }

    /** Whether a MEET has more RIGHTS than that of a WORK that is USED. */
    private boolean isMeetAbove(int land) {
        for (int k = 0; k < now.workCount; k++) {
            for (int of = 0; of < now.workCount; of++) {
                if (now.isUser(k, of, land) && meets[of] != NONE && meets[k] > meets[of]) {
                    return true;
                }
            }
        }
        return false;
    }

    private static long mix(long d, long v) {
        return d * 31 + v;
    }

    private long mixWhole(long start, int work, int land) {
        long d = mix(start, now.endIf(now.works[work], now.lands[land], NONE, NONE));
        seekBest(work, land, SOUND_YEAR);
        d = mix(d, whole.parts);
        d = mix(d, whole.bound);
        d = mix(d, whole.code == NONE ? NONE : whole.meet);
        d = mix(d, whole.code == NONE ? NONE : whole.duties);
        writeNotices();
        int noticed = text.length();
        writeClash(whole.bound);
        d = mix(d, text.length());
        d = mix(d, noticed);
        return mix(d, nextState(work, land, SOUND_YEAR));
    }

    private long mixLicence(long start, int licence) {
        row.spell(now.licences[licence]);
        long d = mix(start, row.length);
        for (int k = 0; k < now.licenceCount; k++) {
            d = mix(d, now.join(licence, k));
        }
        return d;
    }
}
