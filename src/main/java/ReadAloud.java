/**
 * A court that knows no other evidence than how a page is read aloud: the accused read THE SHEET,
 * and where they alter tells what they did. A refusal changes nothing; nothing is ever thrown.
 *
 * Words, deeds and places are kept as bits of an int wherever several are meant: bit i is number i.
 */
public final class ReadAloud {
    public static final int NONE = -1, UNKNOWN = -101, OUTSIDE = -102, STATE = -103, FULL = -104;

    private static final int WORDS = 8;
    private static final int KINDS = 5;
    /** Deeds that words are near; the one behind them is nothing. */
    private static final int TRUE_DEEDS = 4;
    private static final int DEEDS = 5;
    private static final int ALL_DEEDS = 31;

    private static final int MOST_LETTERS = 28;
    private static final int MOST_CODE = 126;
    private static final int MOST_NEAR = 3;
    private static final int MOST_PLACES = 10;
    private static final int MOST_MEN = 4;
    private static final int MOST_HEARD = 8;
    private static final int MOST_BRIEFS = 30;
    private static final int MOST_BRIEF_WORDS = 4;
    private static final int MOST_TRIALS = 40;

    private static final int FIRST_LIMIT = 2;
    private static final int MOST_LIMIT = 10;

    private final Page page = new Page();
    private final int[] near = new int[DEEDS];
    private final Man[] men = new Man[MOST_MEN];
    private final State now = new State();
    private final State kept = new State();
    private final Sheet drawn = new Sheet();
    private final Brief shortest = new Brief();
    private boolean imageKept;
    private int courtsRead;
    private int briefsDone;

    public ReadAloud() {
    }

    // ---- the court

    public int letter(int code) {
        if (code < 1 || code > MOST_CODE) {
            return OUTSIDE;
        }
        return page.add(code) ? page.size() : FULL;
    }

    public int blank() {
        int had = page.size();
        page.clear();
        return had;
    }

    public int fault() {
        return page.faultPlace();
    }

    public int court() {
        if (!page.isCourt()) {
            return STATE;
        }
        readCourt();
        page.clear();
        imageKept = false;
        courtsRead++;
        return now.sheet.size();
    }

    public int near(int deed) {
        if (!hasCourt() || deed < 0 || deed >= DEEDS) {
            return UNKNOWN;
        }
        return near[deed];
    }

    public int word(int place) {
        return now.sheet.has(place) ? now.sheet.at(place) : UNKNOWN;
    }

    public int put(int place, int word) {
        if (!now.sheet.has(place)) {
            return UNKNOWN;
        }
        if (!isWord(word)) {
            return OUTSIDE;
        }
        int stood = now.sheet.at(place);
        now.sheet.set(place, word);
        now.changes++;
        return stood;
    }

    public int limit(int limit) {
        if (limit < 1 || limit > MOST_LIMIT) {
            return OUTSIDE;
        }
        if (!hasCourt()) {
            return STATE;
        }
        int was = now.limit;
        now.limit = limit;
        now.changes++;
        return was;
    }

    // ---- the accused

    public int accuse(int kind, int deed) {
        if (!isKind(kind) || deed < 0 || deed >= DEEDS) {
            return OUTSIDE;
        }
        if (!hasCourt()) {
            return STATE;
        }
        int number = now.men;
        if (number < 0 || number >= MOST_MEN) {
            return FULL;
        }
        men[number] = manOfKind(kind, deed);
        // One of an earlier court may have left lessons under this number.
        now.hidden[number] = 0;
        now.men++;
        return number;
    }

    public int about(int accused, int what) {
        Man man = manOf(accused);
        if (man == null) {
            return UNKNOWN;
        }
        switch (what) {
            case 0: return man.kind();
            case 1: return man.deed();
            case 2: return alteredBy(accused, now.sheet);
            case 3: return Integer.bitCount(alteredBy(accused, now.sheet));
            case 4: return Integer.bitCount(alteredBy(accused, now.sheet)) >= now.limit ? 1 : 0;
            case 5: return hiddenBy(accused);
            case 6: return now.heard.deedsLeft(accused);
            case 7: return placeToListen(accused);
            default: return OUTSIDE;
        }
    }

    public int as(int accused, int kind) {
        Man man = manOf(accused);
        if (man == null) {
            return UNKNOWN;
        }
        if (!isKind(kind)) {
            return OUTSIDE;
        }
        return isOfKind(man, kind) ? accused : NONE;
    }

    public int lesson(int accused, int word) {
        if (!isAccused(accused)) {
            return UNKNOWN;
        }
        if (!isWord(word)) {
            return OUTSIDE;
        }
        int taught = now.hidden[accused] | 1 << word;
        if (taught == now.hidden[accused]) {
            return STATE;
        }
        now.hidden[accused] = taught;
        now.changes++;
        return Integer.bitCount(taught);
    }

    public int unlearn(int accused) {
        if (!isAccused(accused)) {
            return UNKNOWN;
        }
        int hid = Integer.bitCount(now.hidden[accused]);
        now.hidden[accused] = 0;
        now.changes++;
        return hid;
    }

    // ---- what would be

    public int brief(int what) {
        if (what != 0 && (what < 10 || what >= 10 + MOST_BRIEF_WORDS)) {
            return OUTSIDE;
        }
        if (!hasCourt() || briefsDone >= MOST_BRIEFS) {
            return STATE;
        }
        briefsDone++;
        shortest.seek(near);
        if (what == 0) {
            return shortest.size() == 0 ? NONE : shortest.size();
        }
        return shortest.at(what - 10);
    }

    public int hide(int accused, int lessons, int what) {
        if (!isAccused(accused)) {
            return UNKNOWN;
        }
        if (lessons < 0 || lessons > WORDS || what < 0 || what > 1) {
            return OUTSIDE;
        }
        int places = wouldAlter(accused, now.sheet, deedOf(accused), 0);
        int hidden = wordsToHide(places, lessons);
        return what == 0 ? hidden : Integer.bitCount(places & ~now.sheet.placesOf(hidden));
    }

    // ---- what is heard

    public int hear(int accused, int place, boolean altered) {
        if (!isAccused(accused) || !now.sheet.has(place)) {
            return UNKNOWN;
        }
        // Which deeds fit is settled here and now: sheet and lessons may change, kind and court do not.
        int altering = deedsAltering(accused, place);
        int fitting = altered ? altering : ALL_DEEDS & ~altering;
        return now.heard.add(accused, fitting) ? now.heard.size() : FULL;
    }

    public int forget() {
        int had = now.heard.size();
        now.heard.clear();
        return had;
    }

    public int trials(int sheets, int seed, int what) {
        if (sheets < 1 || sheets > MOST_TRIALS || seed < 0 || what < 0 || what > 2) {
            return OUTSIDE;
        }
        if (!hasCourt()) {
            return STATE;
        }
        int hanged = 0;
        int places = 0;
        int next = seed;
        for (int sheet = 0; sheet < sheets; sheet++) {
            next = drawSheet(next);
            hanged += hangingAt(drawn);
            places += allAltering(drawn);
        }
        if (what == 0) {
            return hanged;
        }
        return what == 1 ? places : next;
    }

    // ---- what is told of all

    public int image() {
        if (!hasCourt()) {
            return STATE;
        }
        kept.copyFrom(now);
        imageKept = true;
        return now.changes;
    }

    public int restore() {
        if (!imageKept) {
            return STATE;
        }
        now.copyFrom(kept);
        return now.changes;
    }

    public int count(int what) {
        switch (what) {
            case 0: return now.sheet.size();
            case 1: return now.limit;
            case 2: return now.men;
            case 3: return hangingAt(now.sheet);
            case 4: return now.sheet.unlikeWords();
            case 5: return now.changes;
            case 6: return now.heard.size();
            case 7: return page.size();
            case 8: return courtsRead;
            case 9: return briefsDone;
            default: return OUTSIDE;
        }
    }

    public long digest() {
        long sum = 1019;
        for (int deed = 0; deed < DEEDS && hasCourt(); deed++) {
            sum = 31 * sum + near(deed);
        }
        for (int place = 0; place < now.sheet.size(); place++) {
            sum = 31 * sum + now.sheet.at(place);
        }
        for (int accused = 0; accused < now.men; accused++) {
            for (int what = 0; what <= 7; what++) {
                sum = 31 * sum + about(accused, what);
            }
            sum = 31 * sum + hide(accused, 2, 0);
            sum = 31 * sum + hide(accused, 2, 1);
        }
        for (int place = 0; place < page.size(); place++) {
            sum = 31 * sum + page.codeAt(place);
        }
        for (int what = 0; what <= 9; what++) {
            sum = 31 * sum + count(what);
        }
        return sum;
    }

    // ---- helpers: what is what

    private boolean hasCourt() {
        return courtsRead > 0;
    }

    private boolean isAccused(int number) {
        return number >= 0 && number < now.men && number < MOST_MEN;
    }

    private static boolean isWord(int word) {
        return word >= 0 && word < WORDS;
    }

    private static boolean isKind(int kind) {
        return kind >= 0 && kind < KINDS;
    }

    /** The accused of this number; null, if the number names nobody. */
    private Man manOf(int number) {
        return isAccused(number) ? men[number] : null;
    }

    private int deedOf(int number) {
        Man man = manOf(number);
        return man == null ? TRUE_DEEDS : man.deed();
    }

    private int hiddenBy(int number) {
        return isAccused(number) ? now.hidden[number] : 0;
    }

    private static Man manOfKind(int kind, int deed) {
        switch (kind) {
            case 1: return new Stammerer(deed);
            case 2: return new Actor(deed);
            case 3: return new Boy(deed);
            case 4: return new Weeper(deed);
            default: return new Man(deed);
        }
    }

    private static boolean isOfKind(Man man, int kind) {
        switch (kind) {
            case 1: return man instanceof Stammerer;
            case 2: return man instanceof Actor;
            case 3: return man instanceof Boy;
            case 4: return man instanceof Weeper;
            default: return man != null;
        }
    }

    // ---- helpers: reading a court

    /** THE PAGE is known to be a court; all that was before it is gone. */
    private void readCourt() {
        now.begin();
        for (int deed = 0; deed < DEEDS; deed++) {
            near[deed] = 0;
        }
        int part = 0;
        for (int place = 0; place < page.size(); place++) {
            int word = page.codeAt(place) - 'a';
            if (!isWord(word)) {
                part++;
            } else if (part < TRUE_DEEDS) {
                near[part] |= 1 << word;
            } else {
                now.sheet.add(word);
            }
        }
    }

    // ---- helpers: who alters where

    /** At which places he would alter, had he done this deed and did he hide these words. */
    private int wouldAlter(int accused, Sheet sheet, int deed, int hidden) {
        Man man = manOf(accused);
        if (man == null || sheet == null || deed < 0 || deed >= DEEDS) {
            return 0;
        }
        int places = man.placesByDeed(sheet, near[deed]) | man.placesAnyhow(sheet);
        return places & ~sheet.placesOf(hidden);
    }

    private int alteredBy(int accused, Sheet sheet) {
        return wouldAlter(accused, sheet, deedOf(accused), hiddenBy(accused));
    }

    private int hangingAt(Sheet sheet) {
        int hanging = 0;
        for (int accused = 0; accused < now.men; accused++) {
            if (Integer.bitCount(alteredBy(accused, sheet)) >= now.limit) {
                hanging++;
            }
        }
        return hanging;
    }

    private int allAltering(Sheet sheet) {
        int places = 0;
        for (int accused = 0; accused < now.men; accused++) {
            places += Integer.bitCount(alteredBy(accused, sheet));
        }
        return places;
    }

    /** With which deeds he would alter at this place now, as bits. */
    private int deedsAltering(int accused, int place) {
        int deeds = 0;
        for (int deed = 0; deed < DEEDS; deed++) {
            int places = wouldAlter(accused, now.sheet, deed, hiddenBy(accused));
            deeds |= (places >> place & 1) << deed;
        }
        return deeds;
    }

    /** The place that leaves fewest deeds, whichever of the two is heard there. */
    private int placeToListen(int accused) {
        int left = now.heard.deedsLeft(accused);
        if (left == 0) {
            return NONE;
        }
        int best = NONE;
        int fewest = DEEDS + 1;
        for (int place = 0; place < now.sheet.size(); place++) {
            int altering = deedsAltering(accused, place);
            int worst = Math.max(Integer.bitCount(left & altering), Integer.bitCount(left & ~altering));
            if (worst < fewest) {
                fewest = worst;
                best = place;
            }
        }
        return best;
    }

    // ---- helpers: what would be

    /**
     * The words to hide of one who alters at these places. Each word hides its own places and no
     * other's, so the heaviest word first is best; one without a place is not worth a lesson.
     */
    private int wordsToHide(int places, int lessons) {
        int hidden = 0;
        for (int lesson = 0; lesson < lessons; lesson++) {
            int word = heaviestWord(places & ~now.sheet.placesOf(hidden));
            if (word == NONE) {
                return hidden;
            }
            hidden |= 1 << word;
        }
        return hidden;
    }

    /** The word that stands at most of these places, of like ones the least; NONE, if none does. */
    private int heaviestWord(int places) {
        int heaviest = NONE;
        int most = 0;
        for (int word = 0; word < WORDS; word++) {
            int weight = Integer.bitCount(places & now.sheet.placesOf(1 << word));
            if (weight > most) {
                most = weight;
                heaviest = word;
            }
        }
        return heaviest;
    }

    /** Draws as many words as THE SHEET has; answers the seed then. */
    private int drawSheet(int seed) {
        int next = seed;
        drawn.clear();
        for (int place = 0; place < now.sheet.size(); place++) {
            // int arithmetic wraps at 2 to the 32, so the mask leaves the rest by 2 to the 31.
            next = 1103515245 * next + 12345 & 0x7fffffff;
            drawn.add(next / 65536 % WORDS);
        }
        return next;
    }

    // ---- the classes inside

    /** The letters that came and are not yet read as a court. */
    private static final class Page {
        private final int[] codes = new int[MOST_LETTERS];
        private final Walk walk = new Walk();
        private int size;

        int size() {
            return size;
        }

        int codeAt(int place) {
            return place >= 0 && place < size ? codes[place] : NONE;
        }

        /** Whether there was room for it. */
        boolean add(int code) {
            if (size >= codes.length) {
                return false;
            }
            codes[size] = code;
            size++;
            return true;
        }

        void clear() {
            size = 0;
        }

        int faultPlace() {
            walk.begin();
            int place = 0;
            while (place < size && walk.passes(codes[place])) {
                place++;
            }
            return place;
        }

        boolean isCourt() {
            return faultPlace() == size && walk.isWhole();
        }
    }

    /** Goes over a text letter by letter and knows what a court may have next. */
    private static final class Walk {
        /** 0 to 3: the words near that deed; 4: the sheet. */
        private int part;
        private int wordsOfPart;
        private int lastWord;

        void begin() {
            enter(0);
        }

        /** Whether a court may have this letter here; if so, the walk goes on behind it. */
        boolean passes(int code) {
            int word = code - 'a';
            if (isWord(word)) {
                return passesWord(word);
            }
            if (part >= TRUE_DEEDS || wordsOfPart == 0) {
                return false;
            }
            if (code != (part == TRUE_DEEDS - 1 ? ';' : ',')) {
                return false;
            }
            enter(part + 1);
            return true;
        }

        boolean isWhole() {
            return part == TRUE_DEEDS && wordsOfPart > 0;
        }

        private void enter(int next) {
            part = next;
            wordsOfPart = 0;
            lastWord = NONE;
        }

        private boolean passesWord(int word) {
            boolean fits;
            if (part < TRUE_DEEDS) {
                fits = wordsOfPart < MOST_NEAR && word > lastWord;
            } else {
                fits = wordsOfPart < MOST_PLACES;
            }
            if (fits) {
                wordsOfPart++;
                lastWord = word;
            }
            return fits;
        }
    }

    /** A sheet that is read aloud: a word at each place. */
    private static final class Sheet {
        private final int[] words = new int[MOST_PLACES];
        private int size;

        int size() {
            return size;
        }

        boolean has(int place) {
            return place >= 0 && place < size;
        }

        int at(int place) {
            return has(place) ? words[place] : NONE;
        }

        void set(int place, int word) {
            if (has(place)) {
                words[place] = word;
            }
        }

        void add(int word) {
            if (size < words.length) {
                words[size] = word;
                size++;
            }
        }

        void clear() {
            size = 0;
        }

        void copyFrom(Sheet other) {
            System.arraycopy(other.words, 0, words, 0, words.length);
            size = other.size;
        }

        /** At which places one of these words stands. */
        int placesOf(int wanted) {
            int places = 0;
            for (int place = 0; place < size; place++) {
                places |= (wanted >> words[place] & 1) << place;
            }
            return places;
        }

        /** At which places one of these words stands that stands nowhere ahead. */
        int firstPlacesOf(int wanted) {
            int places = 0;
            int unseen = wanted;
            for (int place = 0; place < size; place++) {
                places |= (unseen >> words[place] & 1) << place;
                unseen &= ~(1 << words[place]);
            }
            return places;
        }

        /** The places right behind these; there is none behind the last. */
        int placesBehind(int places) {
            return places << 1 & (1 << size) - 1;
        }

        int unlikeWords() {
            int seen = 0;
            for (int place = 0; place < size; place++) {
                seen |= 1 << words[place];
            }
            return Integer.bitCount(seen);
        }
    }

    /** What is heard: of whom, and which deeds he can have done by that alone. */
    private static final class Heard {
        private final int[] whom = new int[MOST_HEARD];
        private final int[] deeds = new int[MOST_HEARD];
        private int size;

        int size() {
            return size;
        }

        /** Whether there was room for it. */
        boolean add(int accused, int fitting) {
            if (size >= whom.length || size >= deeds.length) {
                return false;
            }
            whom[size] = accused;
            deeds[size] = fitting;
            size++;
            return true;
        }

        void clear() {
            size = 0;
        }

        void copyFrom(Heard other) {
            System.arraycopy(other.whom, 0, whom, 0, whom.length);
            System.arraycopy(other.deeds, 0, deeds, 0, deeds.length);
            size = other.size;
        }

        int deedsLeft(int accused) {
            int left = ALL_DEEDS;
            for (int i = 0; i < size; i++) {
                if (whom[i] == accused) {
                    left &= deeds[i];
                }
            }
            return left;
        }
    }

    /** All that an image keeps. */
    private static final class State {
        final Sheet sheet = new Sheet();
        final Heard heard = new Heard();
        /** Of each accused the words that he hides. */
        final int[] hidden = new int[MOST_MEN];
        int limit;
        int men;
        int changes;

        /** As it is when a court has just been read, but for its sheet. */
        void begin() {
            sheet.clear();
            heard.clear();
            limit = FIRST_LIMIT;
            men = 0;
            changes = 0;
        }

        void copyFrom(State other) {
            sheet.copyFrom(other.sheet);
            heard.copyFrom(other.heard);
            System.arraycopy(other.hidden, 0, hidden, 0, hidden.length);
            limit = other.limit;
            men = other.men;
            changes = other.changes;
        }
    }

    /** The shortest sheet by which all deeds are told apart. */
    private static final class Brief {
        private static final int ALL_PAIRS = 1023;

        /** Of each word which pairs of deeds it tells apart: those of which it is near one alone. */
        private final int[] pairsTold = new int[WORDS];
        private final int[] words = new int[MOST_BRIEF_WORDS];
        private int size;

        /** 0, if there is none. */
        int size() {
            return size;
        }

        int at(int place) {
            return place >= 0 && place < size ? words[place] : NONE;
        }

        void seek(int[] near) {
            for (int word = 0; word < WORDS; word++) {
                pairsTold[word] = pairsToldBy(word, near);
            }
            size = 0;
            int code = NONE;
            for (int length = 1; length <= MOST_BRIEF_WORDS && code == NONE; length++) {
                code = firstSheet(pairsTold, length, 0, 0, 0);
                size = code == NONE ? 0 : length;
            }
            for (int place = 0; place < size; place++) {
                words[place] = code >> 3 * (size - 1 - place) & WORDS - 1;
            }
        }

        private static int pairsToldBy(int word, int[] near) {
            int pairs = 0;
            int pair = 0;
            for (int one = 0; one < near.length; one++) {
                for (int other = one + 1; other < near.length; other++) {
                    pairs |= ((near[one] ^ near[other]) >> word & 1) << pair;
                    pair++;
                }
            }
            return pairs;
        }

        /**
         * The first sheet of so many more words, none below least, that tells all pairs apart: each
         * word three bits of a number; NONE, if there is none. Only rising sheets are tried: in the
         * shortest no word stands twice, and in which order words stand does not alter what they tell.
         */
        private static int firstSheet(int[] pairsTold, int more, int least, int told, int code) {
            if (more <= 0) {
                return told == ALL_PAIRS ? code : NONE;
            }
            for (int word = least; word < pairsTold.length; word++) {
                int found = firstSheet(pairsTold, more - 1, word + 1, told | pairsTold[word], code << 3 | word);
                if (found != NONE) {
                    return found;
                }
            }
            return NONE;
        }
    }

    /** One accused; the kinds below him are men of a kind of their own. */
    private static class Man {
        private final int deed;

        Man(int deed) {
            this.deed = deed;
        }

        int deed() {
            return deed;
        }

        int kind() {
            return 0;
        }

        /** Where he alters because these words are near his deed. */
        int placesByDeed(Sheet sheet, int nearWords) {
            return sheet.placesOf(nearWords);
        }

        /** Where he alters whatever he did. */
        int placesAnyhow(Sheet sheet) {
            return 0;
        }
    }

    private static class Stammerer extends Man {
        Stammerer(int deed) {
            super(deed);
        }

        int kind() {
            return 1;
        }

        int placesAnyhow(Sheet sheet) {
            return 1;
        }
    }

    private static final class Actor extends Man {
        Actor(int deed) {
            super(deed);
        }

        int kind() {
            return 2;
        }

        int placesByDeed(Sheet sheet, int nearWords) {
            return sheet.firstPlacesOf(nearWords);
        }
    }

    private static final class Boy extends Man {
        Boy(int deed) {
            super(deed);
        }

        int kind() {
            return 3;
        }

        int placesByDeed(Sheet sheet, int nearWords) {
            return sheet.placesBehind(sheet.placesOf(nearWords));
        }
    }

    private static final class Weeper extends Stammerer {
        private static final int H = 1 << 7;

        Weeper(int deed) {
            super(deed);
        }

        int kind() {
            return 4;
        }

        int placesAnyhow(Sheet sheet) {
            return super.placesAnyhow(sheet) | sheet.placesOf(H);
        }
    }
}
