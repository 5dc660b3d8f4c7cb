import java.math.BigInteger;
import java.util.ArrayList;
import java.util.List;
import java.util.function.BiFunction;
import java.util.function.IntSupplier;

/**
 * One test for each sentence of the document that names a boundary case: too small, too large, empty,
 * full, a wrap-around, a refused call. Each is told by the sentence's own words, in the document's order.
 *
 * What is due was worked out by hand from the document.
 */
public final class BoundaryTest {
    private static final int A = 0, B = 1, C = 2, D = 3, E = 4, F = 5, G = 6, H = 7;
    private static final int MAN = 0, STAMMERER = 1, ACTOR = 2, BOY = 3, WEEPER = 4, NOTHING = 4;
    private static final int NONE = -1, UNKNOWN = -101, OUTSIDE = -102, STATE = -103, FULL = -104;
    private static final int LEAST = Integer.MIN_VALUE, MOST = Integer.MAX_VALUE;
    private static final int ALL_DEEDS = 31;

    private static final String ONE_WORD = "a,b,c,d;a";
    private static final String TEN_WORDS = "a,b,c,d;aaaaaaaaaa";
    /** As long as a court can be: 26 letters. */
    private static final String LONGEST = "abc,bcd,cde,def;abcdefghab";

    private static String sentence = "";
    private static int sentences = 0;
    private static int wrong = 0;

    // ---- helpers

    private static void says(String words) {
        sentence = words;
        sentences++;
    }

    private static void due(String call, long got, long want) {
        if (got != want) {
            wrong++;
            System.out.println(sentence + ": " + call + " answered " + got + ", due is " + want);
        }
    }

    /** The call is refused, and nothing that digest() tells is another behind it. */
    private static void refused(ReadAloud x, String call, IntSupplier made, int why) {
        long before = x.digest();
        due(call, made.getAsInt(), why);
        due("digest() behind the refused " + call, x.digest(), before);
    }

    private static ReadAloud none() {
        return new ReadAloud();
    }

    private static void spell(ReadAloud x, String text) {
        for (int i = 0; i < text.length(); i++) x.letter(text.charAt(i));
    }

    private static ReadAloud page(String text) {
        ReadAloud x = new ReadAloud();
        spell(x, text);
        return x;
    }

    private static ReadAloud court(String text) {
        ReadAloud x = page(text);
        x.court();
        return x;
    }

    private static ReadAloud courtWith(String text, int kind, int deed) {
        ReadAloud x = court(text);
        x.accuse(kind, deed);
        return x;
    }

    private static int bits(int... numbers) {
        int all = 0;
        for (int number : numbers) all |= 1 << number;
        return all;
    }

    private static void dueFault(String text, int place) {
        due("fault() of " + text, page(text).fault(), place);
        int whole = text.length() == place && text.matches(".*;.+") ? text.length() - text.indexOf(';') - 1 : STATE;
        due("court() of " + text, page(text).court(), whole);
    }

    private static void dueAlters(String text, int kind, int deed, int... places) {
        due("where kind " + kind + " of deed " + deed + " alters at " + text,
            courtWith(text, kind, deed).about(0, 2), bits(places));
    }

    // ---- What it is: what a court is

    private static void fourDeeds() {
        says("of each of four DEEDS (0 to 3)");
        dueFault("a,b,c;a", 5);
        dueFault("a;a", 1);
        dueFault("a,b,c,d,a", 7);
        dueFault("a,b,c,d,e;a", 7);
        dueFault("a,b,c,d;a", 9);
    }

    private static void nearWords() {
        says("one to three WORDS that are NEAR it");
        dueFault(",b,c,d;a", 0);
        dueFault("a,,c,d;a", 2);
        dueFault("a,b,,d;a", 4);
        dueFault("a,b,c,;a", 6);
        dueFault("abc,abc,abc,abc;a", 17);
        dueFault("abcd,b,c,d;a", 3);
        dueFault("a,bcde,c,d;a", 5);
        dueFault("a,b,cdef,d;a", 7);
        dueFault("a,b,c,defg;a", 9);
    }

    private static void nearLetters() {
        says("letters 'a' to 'h'");
        String[] beside = {"`", "i", "A", "H", "z", " ", "0", "\u0001", "~"};
        for (String letter : beside) {
            dueFault(letter + ",b,c,d;a", 0);
            dueFault("a,b,c,d" + letter + ";a", 7);
        }
        dueFault("ah,ah,ah,ah;a", 13);
    }

    private static void nearRising() {
        says("rising");
        dueFault("aa,b,c,d;a", 1);
        dueFault("ba,b,c,d;a", 1);
        dueFault("a,b,c,hh;a", 7);
        dueFault("a,b,c,adb;a", 8);
        dueFault("fgh,efg,b,a;a", 13);
    }

    private static void signsBetween() {
        says("',' between the DEEDS; then ';'");
        dueFault("a;b,c,d;a", 1);
        dueFault("a,b,c,d,", 7);
        dueFault("a,b,c,d;;a", 8);
        dueFault("a,b,c,d;,a", 8);
        dueFault("a,b,c,d;a;", 9);
        dueFault("a,b,c,d;a,", 9);
        dueFault("a.b,c,d;a", 1);
    }

    private static void sheetWords() {
        says("THE SHEET, one to ten WORDS");
        dueFault("a,b,c,d;", 8);
        dueFault("a,b,c,d", 7);
        dueFault("a,b,c,d;h", 9);
        dueFault("a,b,c,d;abcdefghab", 18);
        dueFault("a,b,c,d;abcdefghabc", 18);
        due("the first word of one", court("a,b,c,d;h").word(0), H);
        due("the last word of ten", court("a,b,c,d;abcdefghah").word(9), H);
    }

    private static void sheetLetters() {
        says("each a letter 'a' to 'h' (WORDS 0 to 7)");
        String[] beside = {"`", "i", "A", "H", ",", ";", " "};
        for (String letter : beside) {
            dueFault("a,b,c,d;" + letter, 8);
            dueFault("a,b,c,d;hha" + letter, 11);
        }
        ReadAloud x = court("a,b,c,d;hgfedcba");
        for (int place = 0; place < 8; place++) due("word(" + place + ")", x.word(place), 7 - place);
    }

    private static void lastCall() {
        says("An object is used for at most 512 calls");
        ReadAloud x = court(LONGEST);
        for (int kind = 0; kind < 4; kind++) x.accuse(kind, 0);
        for (int call = 26 + 1 + 4 + 1; call < 512; call++) due("trials(40, 0, 2)", x.trials(40, 0, 2), seedAfter(0, 400));
        due("count(2), the 512th call", x.count(2), 4);
    }

    // ---- Terms: the accused

    private static void noCourtAtFirst() {
        says("At first there is none");
        ReadAloud x = none();
        for (int what = 0; what <= 9; what++) due("count(" + what + ")", x.count(what), 0);
        due("fault()", x.fault(), 0);
        due("blank()", x.blank(), 0);
        due("forget()", x.forget(), 0);
        refused(x, "court()", x::court, STATE);
        refused(x, "word(0)", () -> x.word(0), UNKNOWN);
        refused(x, "put(0, 0)", () -> x.put(0, 0), UNKNOWN);
        refused(x, "limit(2)", () -> x.limit(2), STATE);
        refused(x, "accuse(0, 0)", () -> x.accuse(0, 0), STATE);
        refused(x, "about(0, 0)", () -> x.about(0, 0), UNKNOWN);
        refused(x, "as(0, 0)", () -> x.as(0, 0), UNKNOWN);
        refused(x, "lesson(0, 0)", () -> x.lesson(0, 0), UNKNOWN);
        refused(x, "unlearn(0)", () -> x.unlearn(0), UNKNOWN);
        refused(x, "brief(0)", () -> x.brief(0), STATE);
        refused(x, "hide(0, 0, 0)", () -> x.hide(0, 0, 0), UNKNOWN);
        refused(x, "hear(0, 0, true)", () -> x.hear(0, 0, true), UNKNOWN);
        refused(x, "trials(1, 0, 0)", () -> x.trials(1, 0, 0), STATE);
        refused(x, "image()", x::image, STATE);
        refused(x, "restore()", x::restore, STATE);
    }

    private static void deedOfNothing() {
        says("DEED 4 is nothing: no WORD is NEAR it");
        due("near(4)", court(LONGEST).near(4), 0);
        String text = "abc,bcd,cde,def;abcdefghab";
        dueAlters(text, MAN, NOTHING);
        dueAlters(text, STAMMERER, NOTHING, 0);
        dueAlters(text, ACTOR, NOTHING);
        dueAlters(text, BOY, NOTHING);
        dueAlters(text, WEEPER, NOTHING, 0, 7);
    }

    private static void eachNearWord() {
        says("One who reads THE SHEET ALTERS at each WORD that is NEAR his DEED");
        dueAlters(ONE_WORD, MAN, 0, 0);
        dueAlters(ONE_WORD, MAN, 1);
        dueAlters(TEN_WORDS, MAN, 0, 0, 1, 2, 3, 4, 5, 6, 7, 8, 9);
        dueAlters(TEN_WORDS, MAN, 3);
        dueAlters("a,b,c,fgh;haaaaaaaag", MAN, 3, 0, 9);
    }

    private static void fourAccused() {
        says("ACCUSED (4 at most, numbered)");
        ReadAloud x = court(ONE_WORD);
        for (int number = 0; number < 4; number++) due("accuse(0, 0)", x.accuse(0, 0), number);
        refused(x, "accuse(0, 0), the fifth", () -> x.accuse(0, 0), FULL);
        due("count(2)", x.count(2), 4);
        due("about(3, 0)", x.about(3, 0), MAN);
    }

    private static void firstWord() {
        says("a STAMMERER also at the first WORD of it");
        dueAlters("b,a,c,d;a", STAMMERER, 0, 0);
        dueAlters("b,a,c,d;aaaaaaaaaa", STAMMERER, 0, 0);
        dueAlters("b,a,c,d;aaaaaaaaab", STAMMERER, 0, 0, 9);
        dueAlters("b,a,c,d;b", STAMMERER, 0, 0);
        dueAlters("b,a,c,d;a", WEEPER, 0, 0);
    }

    private static void nowhereAhead() {
        says("an ACTOR only where a WORD stands that stands nowhere ahead of it");
        dueAlters("a,b,c,d;a", ACTOR, 0, 0);
        dueAlters(TEN_WORDS, ACTOR, 0, 0);
        dueAlters("a,b,c,d;bbbbbbbbba", ACTOR, 0, 9);
        dueAlters("ab,c,d,e;baab", ACTOR, 0, 0, 1);
        dueAlters("a,b,c,d;bcda", ACTOR, NOTHING);
    }

    private static void notAtTheFirst() {
        says("a BOY where the WORD ahead of it is NEAR his DEED (not at the first one)");
        dueAlters("a,b,c,d;a", BOY, 0);
        dueAlters("a,b,c,d;ab", BOY, 0, 1);
        dueAlters("a,b,c,d;ba", BOY, 0);
        dueAlters(TEN_WORDS, BOY, 0, 1, 2, 3, 4, 5, 6, 7, 8, 9);
        dueAlters("a,b,c,d;bbbbbbbbab", BOY, 0, 9);
        dueAlters("a,b,c,d;bbbbbbbbba", BOY, 0);
    }

    private static void eachH() {
        says("a WEEPER also at each \"h\"");
        dueAlters("a,b,c,d;bbbb", WEEPER, 0, 0);
        dueAlters("a,b,c,d;hhhhhhhhhh", WEEPER, 0, 0, 1, 2, 3, 4, 5, 6, 7, 8, 9);
        dueAlters("a,b,c,d;bgaghbbbbh", WEEPER, 0, 0, 2, 4, 9);
    }

    private static void eightLessons() {
        says("Where he HIDES the WORD that stands there (by a LESSON; 8 at most) he does not ALTER");
        for (int kind = MAN; kind <= WEEPER; kind++) {
            ReadAloud x = courtWith("abc,bcd,cde,fgh;habcdefgha", kind, 3);
            x.limit(1);
            for (int word = A; word <= H; word++) {
                due("lesson(0, " + word + ") of kind " + kind, x.lesson(0, word), word + 1);
                due("what he hides", x.about(0, 5), (2 << word) - 1);
            }
            due("where kind " + kind + " alters with eight lessons", x.about(0, 2), 0);
            due("whether he hangs", x.about(0, 4), 0);
            for (int word = A; word <= H; word++) due("a ninth lesson", x.lesson(0, word), STATE);
        }
        ReadAloud boy = courtWith("a,b,c,d;ab", BOY, 0);
        boy.lesson(0, A);
        due("a boy who hides the word ahead", boy.about(0, 2), bits(1));
        boy.lesson(0, B);
        due("a boy who hides the word there", boy.about(0, 2), 0);
    }

    private static void asManyAsLimit() {
        says("One HANGS who ALTERS at as many places as LIMIT tells, or more");
        ReadAloud x = courtWith("a,b,c,d;aaab", MAN, 0);
        int[] hangs = {1, 1, 1, 0, 0, 0, 0, 0, 0, 0};
        for (int limit = 1; limit <= 10; limit++) {
            x.limit(limit);
            due("about(0, 4) at LIMIT " + limit, x.about(0, 4), hangs[limit - 1]);
            due("count(3) at LIMIT " + limit, x.count(3), hangs[limit - 1]);
        }
    }

    private static void limitAtFirst() {
        says("LIMIT (2 at first)");
        ReadAloud x = courtWith("a,b,c,d;aab", MAN, 0);
        x.accuse(MAN, 1);
        due("count(1)", x.count(1), 2);
        due("one who alters at two", x.about(0, 4), 1);
        due("one who alters at one", x.about(1, 4), 0);
        x.limit(7);
        spell(x, ONE_WORD);
        x.court();
        due("count(1) of another court", x.count(1), 2);
    }

    private static void limitOneToTen() {
        says("LIMIT (1 to 10)");
        ReadAloud x = courtWith(TEN_WORDS, MAN, 0);
        x.accuse(MAN, 1);
        x.limit(10);
        due("ten places at ten", x.about(0, 4), 1);
        x.put(9, B);
        due("nine places at ten", x.about(0, 4), 0);
        x.limit(1);
        due("one place at one", x.about(1, 4), 1);
        x.put(9, A);
        due("no place at one", x.about(1, 4), 0);
    }

    // ---- Terms: what would be

    private static void dueBrief(String text, int... words) {
        ReadAloud x = court(text);
        due("brief(0) of " + text, x.brief(0), words.length == 0 ? NONE : words.length);
        for (int i = 0; i < 4; i++) {
            due("brief(" + (10 + i) + ") of " + text, x.brief(10 + i), i < words.length ? words[i] : NONE);
        }
    }

    private static void shortOneToFour() {
        says("the shortest SHEET (1 to 4 WORDS)");
        // Five deeds are never told apart by fewer than three words, and four always do, if any do.
        dueBrief("a,b,ab,c;h", A, B, C);
        dueBrief("a,b,c,d;h", A, B, C, D);
        dueBrief("e,f,g,h;a", E, F, G, H);
        dueBrief("abc,abd,abe,abf;h", A, C, D, E);
    }

    private static void fiveDeedsApart() {
        says("each two of the five DEEDS are told apart");
        // By 'a' and 'b' the four deeds are told apart, but not the last of them and nothing.
        dueBrief("a,b,ab,h;h", A, B, H);
        dueBrief("ab,ac,bc,h;h", A, B, H);
        dueBrief("ab,bc,ac,abc;h", A, B, C);
    }

    private static void firstByWords() {
        says("of like ones the first by WORDS");
        dueBrief("abc,bcd,cde,def;a", A, C, E);
        dueBrief("gh,ah,ag,h;a", A, G, H);
        dueBrief("ah,bh,abh,c;a", A, B, C);
    }

    private static void noShortSheet() {
        says("the shortest SHEET ..; none");
        dueBrief("a,a,b,c;abc");
        dueBrief("abc,d,e,abc;abcde");
        dueBrief("h,h,h,h;h");
    }

    private static void dueHide(ReadAloud x, int accused, int[] which, int[] places) {
        for (int lessons = 0; lessons <= 8; lessons++) {
            int last = Math.min(lessons, which.length - 1);
            due("hide(" + accused + ", " + lessons + ", 0)", x.hide(accused, lessons, 0), which[last]);
            due("hide(" + accused + ", " + lessons + ", 1)", x.hide(accused, lessons, 1), places[last]);
        }
    }

    private static void lessonsOrFewer() {
        says("HIDE for one, with so many LESSONS (0 to 8; or fewer)");
        ReadAloud x = courtWith("a,b,c,fgh;habcdafgha", WEEPER, 3);
        due("where he alters", x.about(0, 2), bits(0, 6, 7, 8));
        dueHide(x, 0, new int[] {0, bits(H), bits(F, H), bits(F, G, H)}, new int[] {4, 2, 1, 0});
    }

    private static void placeOfLessons() {
        says("in place of those he has");
        ReadAloud x = courtWith("ab,c,d,e;aaab", MAN, 0);
        for (int word = A; word <= H; word++) x.lesson(0, word);
        dueHide(x, 0, new int[] {0, bits(A), bits(A, B)}, new int[] {4, 1, 0});
        due("what he hides, still", x.about(0, 5), 255);
    }

    private static void fewestHidden() {
        says("of like ones the fewest");
        ReadAloud x = courtWith("b,c,d,e;aabaa", MAN, 0);
        x.accuse(MAN, NOTHING);
        x.accuse(STAMMERER, NOTHING);
        dueHide(x, 0, new int[] {0, bits(B)}, new int[] {1, 0});
        dueHide(x, 1, new int[] {0}, new int[] {0});
        dueHide(x, 2, new int[] {0, bits(A)}, new int[] {1, 0});
    }

    private static void leastBits() {
        says("of these the least bits");
        ReadAloud x = courtWith("fgh,b,c,d;hhggff", MAN, 0);
        dueHide(x, 0, new int[] {0, bits(F), bits(F, G), bits(F, G, H)}, new int[] {6, 4, 2, 0});
        ReadAloud y = courtWith("abh,c,d,e;hbahb", MAN, 0);
        dueHide(y, 0, new int[] {0, bits(B), bits(B, H), bits(A, B, H)}, new int[] {5, 3, 1, 0});
    }

    // ---- Terms: what is heard

    private static void eightHeard() {
        says("HEARD (8 at most)");
        ReadAloud x = court(TEN_WORDS);
        for (int kind = 0; kind < 4; kind++) x.accuse(kind, 0);
        for (int i = 0; i < 8; i++) due("hear(" + i % 4 + ", " + i + ", true)", x.hear(i % 4, i, true), i + 1);
        for (int accused = 0; accused < 4; accused++) {
            int one = accused;
            refused(x, "hear(" + one + ", 9, false), the ninth", () -> x.hear(one, 9, false), FULL);
        }
        due("forget()", x.forget(), 8);
        due("hear(3, 9, true) then", x.hear(3, 9, true), 1);
    }

    private static void sheetAndLessonsThen() {
        says("as it was then, with his LESSONS then");
        ReadAloud x = courtWith("a,b,c,d;ab", MAN, 0);
        x.hear(0, 0, true);
        x.put(0, B);
        due("which deeds, when another word stands there", x.about(0, 6), bits(0));
        x.lesson(0, A);
        due("which deeds, when he hides the word", x.about(0, 6), bits(0));
        x.forget();
        x.put(0, A);
        x.hear(0, 0, false);
        due("which deeds of a hidden word", x.about(0, 6), ALL_DEEDS);
        x.unlearn(0);
        due("which deeds, when he hides it no more", x.about(0, 6), ALL_DEEDS);
        x.hear(0, 0, false);
        due("which deeds, not a", x.about(0, 6), bits(1, 2, 3, 4));
    }

    private static void whichDeeds() {
        says("WHICH DEEDS (0 to 4) he can have done, so that all that is HEARD of him is so");
        ReadAloud x = courtWith("a,b,c,d;abcd", MAN, 0);
        x.accuse(MAN, 0);
        due("which deeds of one of whom nothing is heard", x.about(0, 6), ALL_DEEDS);
        for (int deed = 0; deed < 4; deed++) x.hear(0, deed, false);
        due("which deeds, nothing alone", x.about(0, 6), bits(NOTHING));
        x.hear(0, 3, true);
        due("which deeds, none", x.about(0, 6), 0);
        due("which deeds of another", x.about(1, 6), ALL_DEEDS);
        x.hear(1, 3, true);
        due("which deeds, d", x.about(1, 6), bits(3));
    }

    private static void listenNow() {
        says("LISTEN: at which place of THE SHEET, as it is now, so that fewest of these are left at worst");
        ReadAloud x = courtWith("ab,ac,d,e;eda", MAN, 0);
        due("where to listen", x.about(0, 7), 2);
        x.lesson(0, A);
        due("where to listen when a is hidden", x.about(0, 7), 0);
        x.unlearn(0);
        x.put(1, A);
        due("where to listen when a stands ahead", x.about(0, 7), 1);
        due("where to listen, the last of ten", courtWith("ab,ac,d,e;eeeeeeeeea", MAN, 0).about(0, 7), 9);
    }

    private static void listenLeast() {
        says("LISTEN .. of like ones the least");
        due("all places are like", courtWith(TEN_WORDS, MAN, 0).about(0, 7), 0);
        due("a at three places", courtWith("ab,ac,d,e;eaaa", MAN, 0).about(0, 7), 1);
        ReadAloud x = courtWith("a,b,c,d;abcd", MAN, 0);
        x.hear(0, 2, true);
        due("one deed is left", x.about(0, 7), 0);
    }

    private static void listenNone() {
        says("LISTEN .. none, if no such DEED is left");
        ReadAloud x = courtWith(ONE_WORD, MAN, 0);
        due("about(0, 7)", x.about(0, 7), 0);
        x.hear(0, 0, true);
        due("about(0, 7) with one left", x.about(0, 7), 0);
        x.hear(0, 0, false);
        due("about(0, 7) with none left", x.about(0, 7), NONE);
        x.forget();
        due("about(0, 7) when it is forgotten", x.about(0, 7), 0);
    }

    // ---- Terms: trials and images

    private static long seedAfter(long seed, int draws) {
        long next = seed;
        for (int i = 0; i < draws; i++) next = (1103515245L * next + 12345L) % 2147483648L;
        return next;
    }

    private static void seedWraps() {
        says("the next SEED: 1103515245 times it and 12345, its rest by 2 to the 31");
        ReadAloud x = court(ONE_WORD);
        due("trials(1, 0, 2)", x.trials(1, 0, 2), 12345);
        due("trials(1, 1, 2)", x.trials(1, 1, 2), 1103527590);
        due("trials(1, 2, 2)", x.trials(1, 2, 2), 59559187);
        due("trials(1, most, 2)", x.trials(1, MOST, 2), 1043980748);
        due("trials(2, 0, 2)", x.trials(2, 0, 2), 1406932606);
        for (int sheets = 1; sheets <= 40; sheets++) {
            due("trials(" + sheets + ", most, 2)", x.trials(sheets, MOST, 2), seedAfter(MOST, sheets));
        }
    }

    private static void drawRounded() {
        says("then that by 65536 (rounded down), its rest (by 8)");
        // The first draws behind these seeds, each a word of its own.
        long[] seeds = new long[8];
        for (int seed = 0; seed < 4000; seed++) seeds[(int) Math.floorMod(seedAfter(seed, 1) / 65536, 8L)] = seed;
        for (int word = A; word <= H; word++) {
            for (int deed = 0; deed < 4; deed++) {
                ReadAloud x = courtWith("ab,cd,ef,gh;a", MAN, deed);
                due("trials(1, " + seeds[word] + ", 1) of deed " + deed,
                    x.trials(1, (int) seeds[word], 1), word / 2 == deed ? 1 : 0);
            }
        }
        // 1043980748 by 65536 is 15929 and a rest: word b, whatever the rest is.
        due("trials(1, most, 1) of b", courtWith("b,c,d,e;a", MAN, 0).trials(1, MOST, 1), 1);
    }

    private static void asManyWords() {
        says("so many SHEETS, each of as many WORDS as THE SHEET has");
        due("40 sheets of one", court(ONE_WORD).trials(40, 0, 2), seedAfter(0, 40));
        due("40 sheets of ten", court(TEN_WORDS).trials(40, 0, 2), seedAfter(0, 400));
        due("a sheet of ten", court(TEN_WORDS).trials(1, 0, 2), seedAfter(0, 10));
        // Each sheet is drawn anew: how often a word comes in all draws.
        for (int word = A; word <= D; word++) {
            int times = 0;
            for (int draw = 1; draw <= 400; draw++) if (seedAfter(0, draw) / 65536 % 8 == word) times++;
            due("places of word " + word, courtWith(TEN_WORDS, MAN, word).trials(40, 0, 1), times);
        }
        // A stammerer of nothing alters once a sheet, whatever is drawn.
        ReadAloud x = courtWith(TEN_WORDS, STAMMERER, NOTHING);
        x.limit(1);
        due("places at 40 sheets", x.trials(40, 7, 1), 40);
        due("hang at 40 sheets", x.trials(40, 7, 0), 40);
        due("places at one sheet", x.trials(1, 7, 1), 1);
    }

    private static void trialsAsTheyAre() {
        says("read by all ACCUSED (LESSONS, LIMIT as they are)");
        ReadAloud x = court(ONE_WORD);
        due("places of none", x.trials(40, 0, 1), 0);
        due("hang of none", x.trials(40, 0, 0), 0);
        for (int i = 0; i < 4; i++) x.accuse(STAMMERER, NOTHING);
        due("hang of four at 2", x.trials(40, 0, 0), 0);
        x.limit(1);
        due("hang of four at 1", x.trials(40, 0, 0), 160);
        due("places of four", x.trials(40, 0, 1), 160);
        for (int word = A; word <= H; word++) x.lesson(3, word);
        due("hang of four, one of them with all lessons", x.trials(40, 0, 0), 120);
        due("places of four, one of them with all lessons", x.trials(40, 0, 1), 120);
    }

    private static void imageKeeps() {
        says("An IMAGE keeps THE SHEET, LIMIT, ACCUSED, LESSONS, how often anything was changed, HEARD");
        ReadAloud x = courtWith("a,b,c,d;abcd", MAN, 0);
        x.put(0, B);
        x.limit(10);
        x.lesson(0, H);
        x.hear(0, 3, false);
        x.image();
        x.put(0, C);
        x.put(3, C);
        x.limit(1);
        x.unlearn(0);
        x.lesson(0, A);
        x.hear(0, 1, true);
        due("restore()", x.restore(), 3);
        due("word(0)", x.word(0), B);
        due("word(3)", x.word(3), D);
        due("count(1)", x.count(1), 10);
        due("about(0, 5)", x.about(0, 5), bits(H));
        due("count(5)", x.count(5), 3);
        due("count(6)", x.count(6), 1);
        due("about(0, 6)", x.about(0, 6), bits(0, 1, 2, 4));
        x.forget();
        x.accuse(MAN, 0);
        for (int i = 0; i < 8; i++) x.hear(1, 2, true);
        x.restore();
        due("count(6) when it was forgotten since", x.count(6), 1);
        due("about(0, 6) when it was forgotten since", x.about(0, 6), bits(0, 1, 2, 4));
    }

    private static void goneByRestore() {
        says("those that come since are gone by restore()");
        ReadAloud x = court(ONE_WORD);
        x.image();
        for (int i = 0; i < 4; i++) x.accuse(WEEPER, 0);
        x.lesson(0, A);
        x.hear(0, 0, true);
        x.restore();
        due("count(2)", x.count(2), 0);
        refused(x, "about(0, 0)", () -> x.about(0, 0), UNKNOWN);
        refused(x, "as(0, 0)", () -> x.as(0, 0), UNKNOWN);
        refused(x, "lesson(0, 1)", () -> x.lesson(0, B), UNKNOWN);
        refused(x, "unlearn(0)", () -> x.unlearn(0), UNKNOWN);
        refused(x, "hide(0, 1, 0)", () -> x.hide(0, 1, 0), UNKNOWN);
        refused(x, "hear(0, 0, true)", () -> x.hear(0, 0, true), UNKNOWN);
        due("accuse(0, 1)", x.accuse(MAN, 1), 0);
        due("about(0, 0) of the new one", x.about(0, 0), MAN);
        due("about(0, 5) of the new one", x.about(0, 5), 0);
        due("about(0, 6) of the new one", x.about(0, 6), ALL_DEEDS);
        for (int number = 1; number < 4; number++) due("accuse(0, 1)", x.accuse(MAN, 1), number);
        x.image();
        x.restore();
        due("count(2), those that came ahead of the image", x.count(2), 4);
    }

    private static void firstRefusal() {
        says("Refusals, of several the first as told by each call");
        ReadAloud x = none();
        refused(x, "limit(0) without a court", () -> x.limit(0), OUTSIDE);
        refused(x, "limit(11) without a court", () -> x.limit(11), OUTSIDE);
        refused(x, "accuse(5, 0) without a court", () -> x.accuse(5, 0), OUTSIDE);
        refused(x, "accuse(0, 5) without a court", () -> x.accuse(0, 5), OUTSIDE);
        refused(x, "brief(1) without a court", () -> x.brief(1), OUTSIDE);
        refused(x, "trials(0, 0, 0) without a court", () -> x.trials(0, 0, 0), OUTSIDE);
        refused(x, "trials(1, -1, 0) without a court", () -> x.trials(1, -1, 0), OUTSIDE);
        refused(x, "trials(1, 0, 3) without a court", () -> x.trials(1, 0, 3), OUTSIDE);
        refused(x, "put(0, 8) without a court", () -> x.put(0, 8), UNKNOWN);
        ReadAloud y = courtWith(ONE_WORD, MAN, 0);
        for (int i = 1; i < 4; i++) y.accuse(MAN, 0);
        for (int i = 0; i < 8; i++) y.hear(0, 0, true);
        spell(y, "abcdefghabcdefghabcdefghabcd");
        refused(y, "letter(127) when full", () -> y.letter(127), OUTSIDE);
        refused(y, "put(1, 8)", () -> y.put(1, 8), UNKNOWN);
        refused(y, "accuse(5, 0) when full", () -> y.accuse(5, 0), OUTSIDE);
        refused(y, "accuse(0, 5) when full", () -> y.accuse(0, 5), OUTSIDE);
        refused(y, "about(4, 8)", () -> y.about(4, 8), UNKNOWN);
        refused(y, "as(4, 5)", () -> y.as(4, 5), UNKNOWN);
        refused(y, "lesson(4, 8)", () -> y.lesson(4, 8), UNKNOWN);
        refused(y, "hide(4, 9, 2)", () -> y.hide(4, 9, 2), UNKNOWN);
        refused(y, "hear(4, 0, true) when full", () -> y.hear(4, 0, true), UNKNOWN);
        refused(y, "hear(0, 1, true) when full", () -> y.hear(0, 1, true), UNKNOWN);
    }

    private static void refusalsChangeNothing() {
        says("Refusals .. change nothing");
        ReadAloud x = courtWith("a,b,c,d;abcd", WEEPER, 0);
        x.lesson(0, H);
        x.hear(0, 1, true);
        x.image();
        long kept = x.digest();
        spell(x, "a,");
        List<IntSupplier> calls = new ArrayList<>();
        for (int odd : new int[] {-1, 50, 127, LEAST, MOST}) {
            if (odd != 50) calls.add(() -> x.letter(odd));
            calls.add(() -> x.near(odd));
            calls.add(() -> x.word(odd));
            calls.add(() -> x.put(odd, 0));
            calls.add(() -> x.put(0, odd));
            calls.add(() -> x.limit(odd));
            calls.add(() -> x.accuse(odd, 0));
            calls.add(() -> x.accuse(0, odd));
            calls.add(() -> x.about(odd, 0));
            calls.add(() -> x.about(0, odd));
            calls.add(() -> x.as(odd, 0));
            calls.add(() -> x.as(0, odd));
            calls.add(() -> x.lesson(odd, 0));
            calls.add(() -> x.lesson(0, odd));
            calls.add(() -> x.unlearn(odd));
            calls.add(() -> x.brief(odd));
            calls.add(() -> x.hide(odd, 0, 0));
            calls.add(() -> x.hide(0, odd, 0));
            calls.add(() -> x.hide(0, 0, odd));
            calls.add(() -> x.hear(odd, 0, true));
            calls.add(() -> x.hear(0, odd, true));
            calls.add(() -> x.trials(odd, 0, 0));
            calls.add(() -> x.trials(1, 0, odd));
            calls.add(() -> x.count(odd));
        }
        calls.add(x::court);
        calls.add(() -> x.lesson(0, H));
        long before = x.digest();
        for (IntSupplier call : calls) {
            due("whether a call is refused", call.getAsInt() <= UNKNOWN ? 1 : 0, 1);
            due("digest() behind it", x.digest(), before);
        }
        x.blank();
        due("restore() behind them", x.restore(), 1);
        due("digest() of the image", x.digest(), kept);
    }

    // ---- Promises 1 to 9: the court

    private static void newObject() {
        says("Promise 1: No COURT");
        ReadAloud x = none();
        long empty = 1019;
        for (int what = 0; what <= 9; what++) empty *= 31;
        due("digest()", x.digest(), empty);
        due("near(4)", x.near(4), UNKNOWN);
        due("image()", x.image(), STATE);
        ReadAloud y = court(ONE_WORD);
        due("near(0) of one with a court", y.near(0), bits(A));
        due("near(0) of another new one", none().near(0), UNKNOWN);
    }

    private static void letterCodes() {
        says("Promise 2: OUTSIDE: code (1 to 126)");
        ReadAloud x = none();
        for (int odd : new int[] {0, 127, -1, 128, 256 + 97, 65536 + 97, LEAST, MOST}) {
            refused(x, "letter(" + odd + ")", () -> x.letter(odd), OUTSIDE);
        }
        due("letter(1)", x.letter(1), 1);
        due("letter(126)", x.letter(126), 2);
        due("fault()", x.fault(), 0);
    }

    private static void letterFull() {
        says("Promise 2: FULL: above 28");
        ReadAloud x = page("abc,abc,abc,abc;abcdefghaba");
        due("letter(98), the 28th", x.letter('b'), 28);
        refused(x, "letter(98), the 29th", () -> x.letter('b'), FULL);
        due("count(7)", x.count(7), 28);
        due("fault()", x.fault(), 26);
        due("blank()", x.blank(), 28);
        due("letter(98) then", x.letter('b'), 1);
    }

    private static void blankPage() {
        says("Promise 3: THE PAGE is empty: how many letters it had");
        ReadAloud x = none();
        due("blank() of an empty page", x.blank(), 0);
        x.letter(126);
        due("blank() of one letter", x.blank(), 1);
        due("blank() again", x.blank(), 0);
        spell(x, "aaaaaaaaaaaaaaaaaaaaaaaaaaaa");
        due("blank() of a full page", x.blank(), 28);
        due("count(7)", x.count(7), 0);
        due("fault()", x.fault(), 0);
        spell(x, ONE_WORD);
        due("court() then", x.court(), 1);
    }

    private static void faultPlace() {
        says("Promise 4: The place (from 0) of the first letter that no COURT has there, behind those ahead");
        due("fault() at the first letter", page(",").fault(), 0);
        due("fault() at the last letter", page("a,b,c,d;aa,").fault(), 10);
        due("fault(), the first of several", page("a,bb,cc,dd;").fault(), 3);
        due("fault() behind the longest court", page(LONGEST + "a").fault(), 26);
        due("fault() of a full page", page(LONGEST + "aa").fault(), 26);
    }

    private static void faultNone() {
        says("Promise 4: how many letters it has, if there is none");
        due("fault() of an empty page", none().fault(), 0);
        for (int end = 0; end <= LONGEST.length(); end++) {
            due("fault() of " + LONGEST.substring(0, end), page(LONGEST.substring(0, end)).fault(), end);
        }
        due("fault() of h", page("h").fault(), 1);
        due("fault() behind a court", court(ONE_WORD).fault(), 0);
    }

    private static void courtWords() {
        says("Promise 5: how many WORDS THE SHEET has; THE PAGE is empty then");
        String ten = "hgfedcbahg";
        for (int words = 1; words <= 10; words++) {
            ReadAloud x = page("a,b,c,d;" + ten.substring(0, words));
            due("court() of " + words, x.court(), words);
            due("count(0)", x.count(0), words);
            due("word() of the last", x.word(words - 1), ten.charAt(words - 1) - 'a');
            due("word() behind it", x.word(words), UNKNOWN);
            due("count(7)", x.count(7), 0);
        }
    }

    private static void courtRefused() {
        says("Promise 5: STATE: it is none");
        String[] texts = {"", "a", "a,b,c,d", "a,b,c,d;", "a,b,c,d;ai", "a,b,c,d;aaaaaaaaaaa", LONGEST + "a", LONGEST + "aa"};
        for (String text : texts) {
            ReadAloud x = page(text);
            refused(x, "court() of " + text, x::court, STATE);
            due("count(7), the page stays", x.count(7), text.length());
            ReadAloud y = courtWith(TEN_WORDS, MAN, 0);
            y.image();
            spell(y, text);
            refused(y, "court() of " + text + " behind a court", y::court, STATE);
            due("restore(), the image stays", y.restore(), 0);
            due("count(8)", y.count(8), 1);
        }
    }

    private static void anotherCourt() {
        says("Promise 5: another one is gone, with all that was");
        ReadAloud x = court("abc,bcd,cde,fgh;abcdefghab");
        for (int i = 0; i < 4; i++) x.accuse(WEEPER, 3);
        for (int word = A; word <= H; word++) x.lesson(0, word);
        for (int i = 0; i < 8; i++) x.hear(0, i, true);
        x.limit(10);
        x.image();
        spell(x, "e,d,b,a;g");
        due("court()", x.court(), 1);
        int[] near = {bits(E), bits(D), bits(B), bits(A), 0};
        for (int deed = 0; deed <= 4; deed++) due("near(" + deed + ")", x.near(deed), near[deed]);
        int[] counts = {1, 2, 0, 0, 1, 0, 0, 0, 2, 0};
        for (int what = 0; what <= 9; what++) due("count(" + what + ")", x.count(what), counts[what]);
        due("word(1)", x.word(1), UNKNOWN);
        due("put(1, 0)", x.put(1, 0), UNKNOWN);
        due("about(0, 0)", x.about(0, 0), UNKNOWN);
        due("restore()", x.restore(), STATE);
        due("forget()", x.forget(), 0);
        due("accuse(0, 0)", x.accuse(MAN, 0), 0);
        due("about(0, 5)", x.about(0, 5), 0);
        due("about(0, 6)", x.about(0, 6), ALL_DEEDS);
    }

    private static void nearDeeds() {
        says("Promise 6: as bits (0 of 4). UNKNOWN: deed (0 to 4; also without a COURT)");
        ReadAloud x = court("a,h,fgh,abc;a");
        int[] near = {bits(A), bits(H), bits(F, G, H), bits(A, B, C), 0};
        for (int deed = 0; deed <= 4; deed++) {
            int one = deed;
            ReadAloud no = none();
            due("near(" + deed + ")", x.near(deed), near[deed]);
            refused(no, "near(" + deed + ") without a court", () -> no.near(one), UNKNOWN);
        }
        for (int odd : new int[] {-1, 5, LEAST, MOST}) refused(x, "near(" + odd + ")", () -> x.near(odd), UNKNOWN);
        ReadAloud unread = page(ONE_WORD);
        due("near(0) ahead of court()", unread.near(0), UNKNOWN);
    }

    private static void wordPlaces() {
        says("Promise 7: UNKNOWN: place");
        ReadAloud one = court("a,b,c,d;h");
        ReadAloud ten = court("a,b,c,d;haaaaaaaag");
        due("word(0) of one", one.word(0), H);
        due("word(0) of ten", ten.word(0), H);
        due("word(9) of ten", ten.word(9), G);
        for (int odd : new int[] {-1, 1, 2, 9, 10, LEAST, MOST}) {
            refused(one, "word(" + odd + ") of one", () -> one.word(odd), UNKNOWN);
        }
        for (int odd : new int[] {-1, 10, 11, 32, LEAST, MOST}) {
            refused(ten, "word(" + odd + ") of ten", () -> ten.word(odd), UNKNOWN);
        }
    }

    private static void putPlaces() {
        says("Promise 8: UNKNOWN: place");
        ReadAloud one = court("a,b,c,d;h");
        ReadAloud ten = court("a,b,c,d;haaaaaaaag");
        for (int odd : new int[] {-1, 1, 9, 10, LEAST, MOST}) {
            refused(one, "put(" + odd + ", 0) of one", () -> one.put(odd, A), UNKNOWN);
        }
        for (int odd : new int[] {-1, 10, 11, LEAST, MOST}) {
            refused(ten, "put(" + odd + ", 0) of ten", () -> ten.put(odd, A), UNKNOWN);
        }
        due("put(0, 1)", ten.put(0, B), H);
        due("put(9, 2)", ten.put(9, C), G);
        due("word(0)", ten.word(0), B);
        due("word(9)", ten.word(9), C);
    }

    private static void putWords() {
        says("Promise 8: OUTSIDE: word (0 to 7)");
        ReadAloud x = court("a,b,c,d;b");
        for (int odd : new int[] {-1, 8, 9, 97, LEAST, MOST}) {
            refused(x, "put(0, " + odd + ")", () -> x.put(0, odd), OUTSIDE);
        }
        due("put(0, 0)", x.put(0, A), B);
        due("put(0, 7)", x.put(0, H), A);
        due("word(0)", x.word(0), H);
    }

    private static void limitRefused() {
        says("Promise 9: OUTSIDE: limit (1 to 10)");
        ReadAloud x = court(ONE_WORD);
        for (int odd : new int[] {0, 11, -1, LEAST, MOST}) {
            refused(x, "limit(" + odd + ")", () -> x.limit(odd), OUTSIDE);
        }
        due("limit(1)", x.limit(1), 2);
        due("limit(10)", x.limit(10), 1);
        due("limit(10) again", x.limit(10), 10);
        due("count(1)", x.count(1), 10);
    }

    private static void limitWithoutCourt() {
        says("Promise 9: STATE: no COURT");
        ReadAloud x = page(ONE_WORD);
        for (int limit = 1; limit <= 10; limit++) {
            int one = limit;
            refused(x, "limit(" + one + ")", () -> x.limit(one), STATE);
        }
        x.court();
        due("limit(1) then", x.limit(1), 2);
    }

    // ---- Promises 10 to 14: the accused

    private static void accuseOutside() {
        says("Promise 10: OUTSIDE: kind, deed (0 to 4)");
        ReadAloud x = court(ONE_WORD);
        for (int odd : new int[] {-1, 5, LEAST, MOST}) {
            refused(x, "accuse(" + odd + ", 0)", () -> x.accuse(odd, 0), OUTSIDE);
            refused(x, "accuse(0, " + odd + ")", () -> x.accuse(0, odd), OUTSIDE);
            refused(x, "accuse(" + odd + ", " + odd + ")", () -> x.accuse(odd, odd), OUTSIDE);
        }
        for (int kind = 0; kind <= 4; kind++) {
            for (int deed = 0; deed <= 4; deed++) {
                ReadAloud y = courtWith(ONE_WORD, kind, deed);
                due("kind of accuse(" + kind + ", " + deed + ")", y.about(0, 0), kind);
                due("deed of accuse(" + kind + ", " + deed + ")", y.about(0, 1), deed);
            }
        }
    }

    private static void accuseWithoutCourt() {
        says("Promise 10: STATE: no COURT");
        ReadAloud x = page(ONE_WORD);
        refused(x, "accuse(0, 0)", () -> x.accuse(0, 0), STATE);
        refused(x, "accuse(4, 4)", () -> x.accuse(4, 4), STATE);
        x.court();
        due("accuse(0, 0) then", x.accuse(0, 0), 0);
    }

    private static void accuseFull() {
        says("Promise 10: FULL");
        ReadAloud x = court(ONE_WORD);
        for (int number = 0; number < 4; number++) due("accuse(4, 4)", x.accuse(4, 4), number);
        refused(x, "accuse(4, 4), the fifth", () -> x.accuse(4, 4), FULL);
        refused(x, "accuse(0, 0), the fifth", () -> x.accuse(0, 0), FULL);
        spell(x, ONE_WORD);
        x.court();
        due("accuse(4, 4) before another court", x.accuse(4, 4), 0);
    }

    /** Of each call that wants an accused: which numbers name none. */
    private static void dueUnknownAccused(String call, BiFunction<ReadAloud, Integer, Integer> made) {
        ReadAloud two = courtWith("a,b,c,d;abcd", WEEPER, 0);
        two.accuse(WEEPER, 1);
        for (int odd : new int[] {-1, 2, 3, 4, 5, LEAST, MOST}) {
            refused(two, call + " of " + odd + " among two", () -> made.apply(two, odd), UNKNOWN);
        }
        for (int odd : new int[] {0, 1}) {
            due(call + " of " + odd + " among two is no UNKNOWN", made.apply(two, odd) == UNKNOWN ? 1 : 0, 0);
        }
        ReadAloud four = court("a,b,c,d;abcd");
        for (int odd : new int[] {0, 1}) {
            refused(four, call + " of " + odd + " among none", () -> made.apply(four, odd), UNKNOWN);
        }
        for (int i = 0; i < 4; i++) four.accuse(MAN, 0);
        for (int odd : new int[] {-1, 4, 5, LEAST, MOST}) {
            refused(four, call + " of " + odd + " among four", () -> made.apply(four, odd), UNKNOWN);
        }
        due(call + " of 3 among four is no UNKNOWN", made.apply(four, 3) == UNKNOWN ? 1 : 0, 0);
    }

    private static void aboutUnknown() {
        says("Promise 11: UNKNOWN");
        for (int what = 0; what <= 7; what++) {
            int one = what;
            dueUnknownAccused("about(.., " + what + ")", (x, accused) -> x.about(accused, one));
        }
    }

    private static void aboutOutside() {
        says("Promise 11: OUTSIDE");
        ReadAloud x = courtWith(ONE_WORD, WEEPER, NOTHING);
        for (int odd : new int[] {-1, 8, 9, 10, LEAST, MOST}) {
            refused(x, "about(0, " + odd + ")", () -> x.about(0, odd), OUTSIDE);
        }
        int[] told = {WEEPER, NOTHING, 1, 1, 0, 0, ALL_DEEDS, 0};
        for (int what = 0; what <= 7; what++) due("about(0, " + what + ")", x.about(0, what), told[what]);
    }

    private static void aboutHangs() {
        says("Promise 11: 4 whether he HANGS (1, 0)");
        ReadAloud x = courtWith("a,b,c,d;aab", MAN, 0);
        due("about(0, 4) of two at 2", x.about(0, 4), 1);
        x.put(0, B);
        due("about(0, 4) of one at 2", x.about(0, 4), 0);
        x.put(0, A);
        x.put(2, A);
        due("about(0, 4) of three at 2", x.about(0, 4), 1);
    }

    private static void aboutListenNone() {
        says("Promise 11: 7 LISTEN (NONE)");
        ReadAloud x = courtWith("a,b,c,d;abcd", BOY, 0);
        due("about(0, 7)", x.about(0, 7), 1);
        x.hear(0, 0, true);
        due("about(0, 6), a boy at the first word", x.about(0, 6), 0);
        due("about(0, 7), a boy at the first word", x.about(0, 7), NONE);
    }

    private static void asNone() {
        says("Promise 12: his own number, not that of the KIND; NONE: he is none such");
        // All are men; a weeper is a stammerer, too.
        int[] taken = {bits(0), bits(0, 1), bits(0, 2), bits(0, 3), bits(0, 1, 4)};
        for (int kind = 0; kind <= 4; kind++) {
            ReadAloud x = court(ONE_WORD);
            for (int number = 0; number < 4; number++) x.accuse(kind, 0);
            for (int number = 0; number < 4; number++) {
                for (int as = 0; as <= 4; as++) {
                    due("as(" + number + ", " + as + ") of kind " + kind,
                        x.as(number, as), (taken[kind] >> as & 1) == 1 ? number : NONE);
                }
            }
        }
    }

    private static void asUnknown() {
        says("Promise 12: UNKNOWN");
        for (int kind = 0; kind <= 4; kind++) {
            int one = kind;
            dueUnknownAccused("as(.., " + kind + ")", (x, accused) -> x.as(accused, one));
        }
    }

    private static void asOutside() {
        says("Promise 12: OUTSIDE");
        for (int kind = 0; kind <= 4; kind++) {
            ReadAloud x = courtWith(ONE_WORD, kind, 0);
            for (int odd : new int[] {-1, 5, 6, LEAST, MOST}) {
                refused(x, "as(0, " + odd + ")", () -> x.as(0, odd), OUTSIDE);
            }
        }
    }

    private static void lessonUnknown() {
        says("Promise 13: UNKNOWN: accused");
        dueUnknownAccused("lesson(.., 0)", (x, accused) -> x.lesson(accused, A));
    }

    private static void lessonOutside() {
        says("Promise 13: OUTSIDE: word (0 to 7)");
        ReadAloud x = courtWith(ONE_WORD, MAN, 0);
        for (int odd : new int[] {-1, 8, 31, 32, 39, LEAST, MOST}) {
            refused(x, "lesson(0, " + odd + ")", () -> x.lesson(0, odd), OUTSIDE);
        }
        due("lesson(0, 0)", x.lesson(0, A), 1);
        due("lesson(0, 7)", x.lesson(0, H), 2);
        due("about(0, 5)", x.about(0, 5), bits(A, H));
    }

    private static void lessonAlready() {
        says("Promise 13: STATE: he HIDES it already");
        ReadAloud x = courtWith(ONE_WORD, MAN, 0);
        x.accuse(MAN, 0);
        for (int word = A; word <= H; word++) {
            int one = word;
            x.lesson(0, word);
            refused(x, "lesson(0, " + word + ") again", () -> x.lesson(0, one), STATE);
        }
        due("lesson(1, 0) of another", x.lesson(1, A), 1);
        x.unlearn(0);
        due("lesson(0, 0) when it is forgotten", x.lesson(0, A), 1);
    }

    private static void unlearnAll() {
        says("Promise 14: All LESSONS of his are forgotten: how many WORDS he did HIDE");
        ReadAloud x = courtWith(ONE_WORD, MAN, 0);
        x.accuse(MAN, 0);
        due("unlearn(0) of none", x.unlearn(0), 0);
        for (int word = A; word <= H; word++) x.lesson(0, word);
        x.lesson(1, H);
        due("unlearn(0) of eight", x.unlearn(0), 8);
        due("about(0, 5)", x.about(0, 5), 0);
        due("about(1, 5) of another", x.about(1, 5), bits(H));
        due("unlearn(0) again", x.unlearn(0), 0);
    }

    private static void unlearnUnknown() {
        says("Promise 14: UNKNOWN");
        dueUnknownAccused("unlearn(..)", (x, accused) -> x.unlearn(accused));
    }

    // ---- Promises 15 and 16: what would be

    private static void briefNone() {
        says("Promise 15: 10 to 13 the so-manieth (NONE: there is none); NONE: there is none");
        ReadAloud three = court("a,b,ab,c;h");
        due("brief(12) of three", three.brief(12), C);
        due("brief(13) of three", three.brief(13), NONE);
        ReadAloud four = court("a,b,c,d;h");
        due("brief(13) of four", four.brief(13), D);
        ReadAloud no = court("a,a,c,d;h");
        due("brief(0) of none", no.brief(0), NONE);
        for (int what = 10; what <= 13; what++) due("brief(" + what + ") of none", no.brief(what), NONE);
    }

    private static void briefOutside() {
        says("Promise 15: OUTSIDE");
        ReadAloud x = court("a,b,c,d;h");
        for (int odd : new int[] {-1, 1, 2, 3, 4, 9, 14, 15, LEAST, MOST}) {
            refused(x, "brief(" + odd + ")", () -> x.brief(odd), OUTSIDE);
        }
        due("brief(0)", x.brief(0), 4);
        due("brief(10)", x.brief(10), A);
        due("brief(13)", x.brief(13), D);
    }

    private static void briefWithoutCourt() {
        says("Promise 15: STATE: no COURT");
        ReadAloud x = page("a,b,c,d;h");
        refused(x, "brief(0)", () -> x.brief(0), STATE);
        for (int what = 10; what <= 13; what++) {
            int one = what;
            refused(x, "brief(" + what + ")", () -> x.brief(one), STATE);
        }
        x.court();
        due("brief(0) then", x.brief(0), 4);
    }

    private static void briefThirtyTimes() {
        says("Promise 15: STATE: brief() was done 30 times ever (refusals do not count, all else does)");
        ReadAloud x = none();
        for (int i = 0; i < 31; i++) due("brief(0) without a court", x.brief(0), STATE);
        spell(x, "a,b,c,d;h");
        x.court();
        for (int i = 0; i < 31; i++) due("brief(1)", x.brief(1), OUTSIDE);
        x.image();
        for (int i = 1; i <= 10; i++) due("brief(0), time " + i, x.brief(0), 4);
        x.restore();
        for (int i = 11; i <= 20; i++) due("brief(13), time " + i, x.brief(13), D);
        spell(x, "a,a,a,a;a");
        x.court();
        for (int i = 21; i <= 29; i++) due("brief(10), time " + i, x.brief(10), NONE);
        due("brief(0), time 30", x.brief(0), NONE);
        refused(x, "brief(0), time 31", () -> x.brief(0), STATE);
        refused(x, "brief(13), time 31", () -> x.brief(13), STATE);
        refused(x, "brief(14), time 31", () -> x.brief(14), OUTSIDE);
        spell(x, "a,b,c,d;h");
        x.court();
        refused(x, "brief(0), ever", () -> x.brief(0), STATE);
        due("count(9)", x.count(9), 30);
    }

    private static void hideUnknown() {
        says("Promise 16: UNKNOWN");
        dueUnknownAccused("hide(.., 0, 0)", (x, accused) -> x.hide(accused, 0, 0));
        dueUnknownAccused("hide(.., 8, 1)", (x, accused) -> x.hide(accused, 8, 1));
    }

    private static void hideOutside() {
        says("Promise 16: OUTSIDE: lessons (0 to 8), what");
        ReadAloud x = courtWith(ONE_WORD, MAN, 0);
        for (int odd : new int[] {-1, 9, 10, LEAST, MOST}) {
            refused(x, "hide(0, " + odd + ", 0)", () -> x.hide(0, odd, 0), OUTSIDE);
            refused(x, "hide(0, " + odd + ", 1)", () -> x.hide(0, odd, 1), OUTSIDE);
        }
        for (int odd : new int[] {-1, 2, 3, LEAST, MOST}) {
            refused(x, "hide(0, 0, " + odd + ")", () -> x.hide(0, 0, odd), OUTSIDE);
            refused(x, "hide(0, 8, " + odd + ")", () -> x.hide(0, 8, odd), OUTSIDE);
        }
        due("hide(0, 0, 0)", x.hide(0, 0, 0), 0);
        due("hide(0, 0, 1)", x.hide(0, 0, 1), 1);
        due("hide(0, 8, 0)", x.hide(0, 8, 0), bits(A));
        due("hide(0, 8, 1)", x.hide(0, 8, 1), 0);
    }

    // ---- Promises 17 to 19: what is heard

    private static void hearUnknown() {
        says("Promise 17: UNKNOWN: accused, place");
        dueUnknownAccused("hear(.., 0, true)", (x, accused) -> x.hear(accused, 0, true));
        ReadAloud one = courtWith(ONE_WORD, MAN, 0);
        for (int odd : new int[] {-1, 1, 9, 10, 32, LEAST, MOST}) {
            refused(one, "hear(0, " + odd + ", true) of one", () -> one.hear(0, odd, true), UNKNOWN);
            refused(one, "hear(0, " + odd + ", false) of one", () -> one.hear(0, odd, false), UNKNOWN);
        }
        ReadAloud ten = courtWith(TEN_WORDS, MAN, 0);
        for (int odd : new int[] {-1, 10, 11, LEAST, MOST}) {
            refused(ten, "hear(0, " + odd + ", true) of ten", () -> ten.hear(0, odd, true), UNKNOWN);
        }
        due("hear(0, 0, true)", ten.hear(0, 0, true), 1);
        due("hear(0, 9, true)", ten.hear(0, 9, true), 2);
        due("about(0, 6)", ten.about(0, 6), bits(0));
    }

    private static void hearFull() {
        says("Promise 17: FULL");
        ReadAloud x = courtWith("a,b,c,d;ab", MAN, 0);
        x.accuse(MAN, 0);
        for (int i = 1; i <= 8; i++) due("hear(0, 0, true)", x.hear(0, 0, true), i);
        refused(x, "hear(0, 1, true), the ninth", () -> x.hear(0, 1, true), FULL);
        refused(x, "hear(1, 0, true), the ninth", () -> x.hear(1, 0, true), FULL);
        due("about(0, 6)", x.about(0, 6), bits(0));
        due("about(1, 6)", x.about(1, 6), ALL_DEEDS);
    }

    private static void forgetAll() {
        says("Promise 18: Nothing is HEARD any more: how much was");
        ReadAloud x = courtWith(ONE_WORD, MAN, 0);
        x.accuse(MAN, 0);
        due("forget() of nothing", x.forget(), 0);
        for (int i = 0; i < 8; i++) x.hear(i % 2, 0, i < 4);
        due("about(0, 6)", x.about(0, 6), 0);
        due("forget() of eight", x.forget(), 8);
        due("count(6)", x.count(6), 0);
        due("about(0, 6) then", x.about(0, 6), ALL_DEEDS);
        due("about(1, 6) then", x.about(1, 6), ALL_DEEDS);
        due("forget() again", x.forget(), 0);
        due("hear(0, 0, true)", x.hear(0, 0, true), 1);
    }

    private static void trialsSheets() {
        says("Promise 19: OUTSIDE: sheets (1 to 40)");
        ReadAloud x = court(ONE_WORD);
        for (int odd : new int[] {0, -1, 41, LEAST, MOST}) {
            for (int what = 0; what <= 2; what++) {
                int one = what;
                refused(x, "trials(" + odd + ", 0, " + what + ")", () -> x.trials(odd, 0, one), OUTSIDE);
            }
        }
        due("trials(1, 0, 2)", x.trials(1, 0, 2), 12345);
        due("trials(40, 0, 2)", x.trials(40, 0, 2), seedAfter(0, 40));
    }

    private static void trialsSeed() {
        says("Promise 19: OUTSIDE: seed (0 at least)");
        ReadAloud x = court(ONE_WORD);
        for (int odd : new int[] {-1, -2, LEAST}) {
            refused(x, "trials(1, " + odd + ", 2)", () -> x.trials(1, odd, 2), OUTSIDE);
        }
        due("trials(1, 0, 2)", x.trials(1, 0, 2), 12345);
        due("trials(1, most, 2)", x.trials(1, MOST, 2), seedAfter(MOST, 1));
    }

    private static void trialsWhat() {
        says("Promise 19: OUTSIDE: what");
        ReadAloud x = courtWith(ONE_WORD, STAMMERER, NOTHING);
        for (int odd : new int[] {-1, 3, 4, LEAST, MOST}) {
            refused(x, "trials(1, 0, " + odd + ")", () -> x.trials(1, 0, odd), OUTSIDE);
        }
        due("trials(1, 0, 0)", x.trials(1, 0, 0), 0);
        due("trials(1, 0, 1)", x.trials(1, 0, 1), 1);
        due("trials(1, 0, 2)", x.trials(1, 0, 2), 12345);
    }

    private static void trialsWithoutCourt() {
        says("Promise 19: STATE: no COURT");
        ReadAloud x = page(ONE_WORD);
        for (int what = 0; what <= 2; what++) {
            int one = what;
            refused(x, "trials(1, 0, " + what + ")", () -> x.trials(1, 0, one), STATE);
            refused(x, "trials(40, most, " + what + ")", () -> x.trials(40, MOST, one), STATE);
        }
        x.court();
        due("trials(1, 0, 2) then", x.trials(1, 0, 2), 12345);
    }

    // ---- Promises 20 to 23: what is told of all

    private static void imageLatest() {
        says("Promise 20: An IMAGE is kept (one; the latest)");
        ReadAloud x = court("a,b,c,d;a");
        due("image()", x.image(), 0);
        x.put(0, B);
        due("image() later", x.image(), 1);
        x.put(0, C);
        due("restore()", x.restore(), 1);
        due("word(0)", x.word(0), B);
        x.put(0, D);
        due("restore() again", x.restore(), 1);
        due("word(0), not of the first image", x.word(0), B);
    }

    private static void imageWithoutCourt() {
        says("Promise 20: STATE: no COURT");
        ReadAloud x = page(ONE_WORD);
        refused(x, "image()", x::image, STATE);
        due("restore()", x.restore(), STATE);
        x.court();
        due("restore() behind court()", x.restore(), STATE);
        due("image() then", x.image(), 0);
    }

    private static void restoreWithoutImage() {
        says("Promise 21: STATE: none was kept");
        ReadAloud x = courtWith(ONE_WORD, MAN, 0);
        x.lesson(0, A);
        refused(x, "restore()", x::restore, STATE);
        x.image();
        due("restore() of the image", x.restore(), 1);
        due("restore() of it again", x.restore(), 1);
        ReadAloud no = none();
        refused(no, "restore() of a new one", no::restore, STATE);
    }

    private static void restoreBehindCourt() {
        says("Promise 21: STATE: a COURT was read since (of the same text, too)");
        ReadAloud x = courtWith(ONE_WORD, MAN, 0);
        x.image();
        spell(x, ONE_WORD);
        x.court();
        refused(x, "restore() behind a court of the same text", x::restore, STATE);
        x.image();
        due("restore() of a new image", x.restore(), 0);
        due("count(2)", x.count(2), 0);
        spell(x, "e,f,g,h;bb");
        due("restore() with a text on the page", x.restore(), 0);
        x.court();
        refused(x, "restore() behind another court", x::restore, STATE);
        due("word(1)", x.word(1), B);
        spell(x, "a,b,c,d;");
        x.image();
        x.court();
        due("restore() behind a refused court()", x.restore(), 0);
    }

    private static void countAtMost() {
        says("Promise 22: How many (of all as many as there can be)");
        ReadAloud x = court("abc,bcd,cde,def;abcdefghab");
        for (int i = 0; i < 4; i++) x.accuse(WEEPER, 0);
        for (int i = 0; i < 8; i++) x.hear(3, 9, true);
        for (int place = 0; place < 10; place++) x.put(place, place % 8);
        for (int limit = 1; limit <= 10; limit++) x.limit(limit);
        for (int i = 0; i < 30; i++) x.brief(0);
        spell(x, "abcdefghabcdefghabcdefghabcd");
        int[] told = {10, 10, 4, 0, 8, 20, 8, 28, 1, 30};
        for (int what = 0; what <= 9; what++) due("count(" + what + ")", x.count(what), told[what]);
        for (int place = 0; place < 10; place++) x.put(place, H);
        due("count(3), all hang", x.count(3), 4);
        due("count(4), all like", x.count(4), 1);
    }

    private static void countNoCourt() {
        says("Promise 22: 1 LIMIT (0: no COURT)");
        ReadAloud x = page(ONE_WORD);
        due("count(1)", x.count(1), 0);
        x.limit(5);
        due("count(1) behind a refused limit()", x.count(1), 0);
        x.court();
        due("count(1) of a court", x.count(1), 2);
    }

    private static void countUnlike() {
        says("Promise 22: 4 unlike WORDS of THE SHEET");
        due("count(4) without a court", none().count(4), 0);
        due("count(4) of one", court(ONE_WORD).count(4), 1);
        due("count(4) of ten like", court(TEN_WORDS).count(4), 1);
        due("count(4) of all", court("a,b,c,d;abcdefghab").count(4), 8);
        due("count(4), the first unlike", court("a,b,c,d;ahhhhhhhhh").count(4), 2);
        due("count(4), the last unlike", court("a,b,c,d;aaaaaaaaah").count(4), 2);
        due("count(4), the first and the last like", court("a,b,c,d;ahhhhhhhha").count(4), 2);
    }

    private static void countChanges() {
        says("Promise 22: put(), limit(), lesson(), unlearn(): each that was no refusal, also where all stays");
        ReadAloud x = courtWith(ONE_WORD, MAN, 0);
        due("count(5) at first", x.count(5), 0);
        x.put(0, A);
        due("count(5) behind put() of the same word", x.count(5), 1);
        x.limit(2);
        due("count(5) behind limit() of the same", x.count(5), 2);
        x.unlearn(0);
        due("count(5) behind unlearn() of none", x.count(5), 3);
        x.lesson(0, A);
        due("count(5) behind lesson()", x.count(5), 4);
        x.lesson(0, A);
        x.put(0, 8);
        x.put(1, A);
        x.limit(11);
        x.unlearn(1);
        due("count(5) behind refusals", x.count(5), 4);
        x.hear(0, 0, true);
        x.forget();
        x.accuse(MAN, 0);
        x.brief(0);
        x.trials(1, 0, 0);
        x.letter('a');
        x.blank();
        x.image();
        x.restore();
        due("count(5) behind all other calls", x.count(5), 4);
    }

    private static void countOn() {
        says("Promise 22: 8 and 9 count on, whatever is read or restored");
        ReadAloud x = court("a,b,c,d;h");
        x.image();
        x.brief(0);
        x.brief(13);
        x.restore();
        due("count(8) restored", x.count(8), 1);
        due("count(9) restored", x.count(9), 2);
        for (int times = 2; times <= 12; times++) {
            spell(x, ONE_WORD);
            x.court();
            due("count(8) of court " + times, x.count(8), times);
            due("count(9) of court " + times, x.count(9), 2);
        }
        x.court();
        x.brief(14);
        due("count(8) behind a refused court()", x.count(8), 12);
        due("count(9) behind a refused brief()", x.count(9), 2);
    }

    private static void countOutside() {
        says("Promise 22: OUTSIDE");
        ReadAloud x = courtWith("a,b,c,d;aab", MAN, 0);
        ReadAloud no = none();
        for (int odd : new int[] {-1, 10, 11, LEAST, MOST}) {
            refused(x, "count(" + odd + ")", () -> x.count(odd), OUTSIDE);
            refused(no, "count(" + odd + ") without a court", () -> no.count(odd), OUTSIDE);
        }
        int[] told = {3, 2, 1, 1, 2, 0, 0, 0, 1, 0};
        for (int what = 0; what <= 9; what++) due("count(" + what + ")", x.count(what), told[what]);
    }

    /** The sum over these numbers without a bound, and its rest as a long is cut off at the end. */
    private static long wrapped(List<Integer> numbers) {
        BigInteger sum = BigInteger.valueOf(1019);
        for (int number : numbers) sum = sum.multiply(BigInteger.valueOf(31)).add(BigInteger.valueOf(number));
        return sum.longValue();
    }

    private static void digestWraps() {
        says("Promise 23: 31 times h, and it (as longs, wrapping)");
        ReadAloud x = none();
        List<Integer> letters = new ArrayList<>();
        for (int many = 0; many <= 28; many++) {
            List<Integer> numbers = new ArrayList<>(letters);
            numbers.addAll(List.of(0, 0, 0, 0, 0, 0, 0, many, 0, 0));
            due("digest() of " + many + " letters", x.digest(), wrapped(numbers));
            x.letter(126 - many);
            letters.add(126 - many);
        }
    }

    private static void digestNumbers() {
        says("Promise 23: each of these numbers, in order (with a COURT; NONE of LISTEN is one, too)");
        ReadAloud x = court("a,b,c,d;ab");
        List<Integer> court = List.of(1, 2, 4, 8, 0, 0, 1);
        List<Integer> numbers = new ArrayList<>(court);
        numbers.addAll(List.of(2, 2, 0, 0, 2, 0, 0, 0, 1, 0));
        due("digest() of a court without accused", x.digest(), wrapped(numbers));
        x.accuse(BOY, 0);
        x.accuse(WEEPER, 1);
        x.accuse(ACTOR, 2);
        x.accuse(STAMMERER, NOTHING);
        x.hear(0, 0, true);
        x.letter(1);
        numbers = new ArrayList<>(court);
        numbers.addAll(List.of(BOY, 0, 2, 1, 0, 0, 0, NONE, 2, 0));
        numbers.addAll(List.of(WEEPER, 1, 3, 2, 1, 0, 31, 1, 3, 0));
        numbers.addAll(List.of(ACTOR, 2, 0, 0, 0, 0, 31, 0, 0, 0));
        numbers.addAll(List.of(STAMMERER, 4, 1, 1, 0, 0, 31, 1, 1, 0));
        numbers.addAll(List.of(1, 2, 2, 4, 1, 2, 0, 1, 1, 1, 0));
        due("digest() with four accused", x.digest(), wrapped(numbers));
        ReadAloud y = courtWith("abc,d,e,f;cba", MAN, 0);
        due("digest(), HIDE with 2 LESSONS of one who wants three", y.digest(),
            wrapped(List.of(7, 8, 16, 32, 0, 2, 1, 0, 0, 0, 7, 3, 1, 0, 31, 0, 3, 1, 3, 2, 1, 1, 3, 0, 0, 0, 1, 0)));
    }

    // ---- all of them

    private static void theCourt() {
        fourDeeds();
        nearWords();
        nearLetters();
        nearRising();
        signsBetween();
        sheetWords();
        sheetLetters();
        lastCall();
    }

    private static void theTerms() {
        noCourtAtFirst();
        deedOfNothing();
        eachNearWord();
        fourAccused();
        firstWord();
        nowhereAhead();
        notAtTheFirst();
        eachH();
        eightLessons();
        asManyAsLimit();
        limitAtFirst();
        limitOneToTen();
        shortOneToFour();
        fiveDeedsApart();
        firstByWords();
        noShortSheet();
        lessonsOrFewer();
        placeOfLessons();
        fewestHidden();
        leastBits();
        eightHeard();
        sheetAndLessonsThen();
        whichDeeds();
        listenNow();
        listenLeast();
        listenNone();
        seedWraps();
        drawRounded();
        asManyWords();
        trialsAsTheyAre();
        imageKeeps();
        goneByRestore();
        firstRefusal();
        refusalsChangeNothing();
    }

    private static void promisesOfTheCourt() {
        newObject();
        letterCodes();
        letterFull();
        blankPage();
        faultPlace();
        faultNone();
        courtWords();
        courtRefused();
        anotherCourt();
        nearDeeds();
        wordPlaces();
        putPlaces();
        putWords();
        limitRefused();
        limitWithoutCourt();
    }

    private static void promisesOfTheAccused() {
        accuseOutside();
        accuseWithoutCourt();
        accuseFull();
        aboutUnknown();
        aboutOutside();
        aboutHangs();
        aboutListenNone();
        asNone();
        asUnknown();
        asOutside();
        lessonUnknown();
        lessonOutside();
        lessonAlready();
        unlearnAll();
        unlearnUnknown();
    }

    private static void promisesOfTheRest() {
        briefNone();
        briefOutside();
        briefWithoutCourt();
        briefThirtyTimes();
        hideUnknown();
        hideOutside();
        hearUnknown();
        hearFull();
        forgetAll();
        trialsSheets();
        trialsSeed();
        trialsWhat();
        trialsWithoutCourt();
        imageLatest();
        imageWithoutCourt();
        restoreWithoutImage();
        restoreBehindCourt();
        countAtMost();
        countNoCourt();
        countUnlike();
        countChanges();
        countOn();
        countOutside();
        digestWraps();
        digestNumbers();
    }

    public static void main(String[] args) {
        theCourt();
        theTerms();
        promisesOfTheCourt();
        promisesOfTheAccused();
        promisesOfTheRest();
        System.out.println(wrong == 0 ? "all " + sentences + " sentences hold" : wrong + " answers are not as due");
        if (wrong != 0) System.exit(1);
    }
}
