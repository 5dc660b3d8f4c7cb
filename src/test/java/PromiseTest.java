/**
 * Each promise of the document in turn: ordinary inputs, the edges that it names, wrong inputs.
 *
 * Most of it is about one court, of which all that is due was worked out by hand:
 * near the deeds are a c, b d, c e h, g; on the sheet stand b a c h g a h c.
 */
public final class PromiseTest {
    private static final String COURT = "ac,bd,ceh,g;bachgahc";
    private static final int A = 0, B = 1, C = 2, D = 3, E = 4, F = 5, G = 6, H = 7;
    private static final int MAN = 0, STAMMERER = 1, ACTOR = 2, BOY = 3, WEEPER = 4, NOTHING = 4;
    private static final int NONE = -1, UNKNOWN = -101, OUTSIDE = -102, STATE = -103, FULL = -104;
    private static final int LEAST = Integer.MIN_VALUE, MOST = Integer.MAX_VALUE;

    private static int promise = 0;
    private static int wrong = 0;

    private static void due(String call, long got, long want) {
        if (got != want) {
            wrong++;
            System.out.println("promise " + promise + ": " + call + " answered " + got + ", due is " + want);
        }
    }

    private static void spell(ReadAloud x, String text) {
        for (int i = 0; i < text.length(); i++) x.letter(text.charAt(i));
    }

    private static ReadAloud page(String text) {
        ReadAloud x = new ReadAloud();
        spell(x, text);
        return x;
    }

    private static ReadAloud court(String text) {
        ReadAloud x = page(text);
        x.court();
        return x;
    }

    private static ReadAloud courtWith(int kind, int deed) {
        ReadAloud x = court(COURT);
        x.accuse(kind, deed);
        return x;
    }

    /** What count() tells for 0 to 9, one behind the other. */
    private static String counts(ReadAloud x) {
        StringBuilder all = new StringBuilder();
        for (int what = 0; what <= 9; what++) all.append(x.count(what)).append(' ');
        return all.toString().trim();
    }

    private static void dueCounts(String when, ReadAloud x, String want) {
        if (!counts(x).equals(want)) {
            wrong++;
            System.out.println("promise " + promise + ": " + when + " counts are " + counts(x) + ", due is " + want);
        }
    }

    private static void newObject() {
        promise = 1;
        ReadAloud x = new ReadAloud();
        dueCounts("new:", x, "0 0 0 0 0 0 0 0 0 0");
        due("fault()", x.fault(), 0);
        due("blank()", x.blank(), 0);
        due("court()", x.court(), STATE);
        due("near(0)", x.near(0), UNKNOWN);
        due("word(0)", x.word(0), UNKNOWN);
        due("put(0, 0)", x.put(0, 0), UNKNOWN);
        due("limit(1)", x.limit(1), STATE);
        due("accuse(0, 0)", x.accuse(0, 0), STATE);
        due("about(0, 0)", x.about(0, 0), UNKNOWN);
        due("as(0, 0)", x.as(0, 0), UNKNOWN);
        due("lesson(0, 0)", x.lesson(0, 0), UNKNOWN);
        due("unlearn(0)", x.unlearn(0), UNKNOWN);
        due("brief(0)", x.brief(0), STATE);
        due("hide(0, 0, 0)", x.hide(0, 0, 0), UNKNOWN);
        due("hear(0, 0, true)", x.hear(0, 0, true), UNKNOWN);
        due("forget()", x.forget(), 0);
        due("trials(1, 0, 0)", x.trials(1, 0, 0), STATE);
        due("image()", x.image(), STATE);
        due("restore()", x.restore(), STATE);
        dueCounts("after refusals:", x, "0 0 0 0 0 0 0 0 0 0");
    }

    private static void letter() {
        promise = 2;
        ReadAloud x = new ReadAloud();
        due("letter(0)", x.letter(0), OUTSIDE);
        due("letter(127)", x.letter(127), OUTSIDE);
        due("letter(-1)", x.letter(-1), OUTSIDE);
        due("letter(least)", x.letter(LEAST), OUTSIDE);
        due("letter(most)", x.letter(MOST), OUTSIDE);
        due("letter(1)", x.letter(1), 1);
        due("letter(126)", x.letter(126), 2);
        for (int i = 3; i <= 28; i++) due("letter(97)", x.letter(97), i);
        due("letter(97), the 29th", x.letter(97), FULL);
        due("letter(127) when full", x.letter(127), OUTSIDE);
        due("count(7)", x.count(7), 28);
        x.blank();
        due("letter(98) on an empty page", x.letter(98), 1);
    }

    private static void blank() {
        promise = 3;
        ReadAloud x = page("xyz");
        due("blank()", x.blank(), 3);
        due("blank() again", x.blank(), 0);
        due("count(7)", x.count(7), 0);
        spell(x, COURT);
        due("court()", x.court(), 8);
        spell(x, "ab");
        due("blank() with a court", x.blank(), 2);
        due("count(0)", x.count(0), 8);
    }

    private static void fault() {
        promise = 4;
        Object[][] texts = {
            {"", 0}, {"a", 1}, {"h", 1}, {"i", 0}, {"`", 0}, {"A", 0}, {",", 0}, {";", 0}, {" ", 0}, {"\u0001", 0},
            {"ab", 2}, {"aa", 1}, {"ba", 1}, {"ha", 1}, {"h,", 2}, {"abc", 3}, {"abcd", 3}, {"fgh,", 4},
            {"a;", 1}, {"a,", 2}, {"a,,", 2}, {"a,;", 2}, {"a,b,c,d", 7}, {"a,b,c,d,", 7}, {"a,b,c;", 5},
            {"a,b,c,d;", 8}, {"a,b,c,d;;", 8}, {"a,b,c,d;,", 8}, {"a,b,c,d;i", 8},
            {"a,b,c,d;a", 9}, {"a,b,c,d;aab,", 11}, {"a,b,c,d;hgfedcba", 16}, {"a,b,c,d;aaaaaaaaaa", 18},
            {"a,b,c,d;aaaaaaaaaaa", 18}, {"abc,abc,abc,abc;abcdefgha", 25}, {"abc,abc,abc,abc;abcdefghab", 26},
            {"abc,abc,abc,abc;abcdefghabcd", 26}, {"ac,bd,ceh,g;bachgahc", 20}, {"ac,db,ceh,g;bachgahc", 4},
            {"h,a,a,a;a", 9}, {"a,a,a,ha;a", 7},
        };
        for (Object[] text : texts) {
            ReadAloud x = page((String) text[0]);
            due("fault() of " + text[0], x.fault(), (int) text[1]);
            due("fault() of " + text[0] + " again", x.fault(), (int) text[1]);
            due("count(7)", x.count(7), ((String) text[0]).length());
        }
    }

    private static void courtRead() {
        promise = 5;
        String[] none = {"", "a", "a,b,c,d", "a,b,c,d;", "a,b,c;a", "a,b,c,d;i", "a,b,c,d;aaaaaaaaaaa", "aa,b,c,d;a",
            "a,b,c,d;a,", "a,b,c,d,e;a", "abcd,b,c,d;a"};
        for (String text : none) {
            ReadAloud x = page(text);
            due("court() of " + text, x.court(), STATE);
            dueCounts("refused:", x, "0 0 0 0 0 0 0 " + text.length() + " 0 0");
        }
        due("court() of one word", page("a,b,c,d;a").court(), 1);
        due("court() of ten words", page("abc,abc,abc,fgh;abcdefghab").court(), 10);
        ReadAloud x = page(COURT);
        due("court()", x.court(), 8);
        dueCounts("read:", x, "8 2 0 0 5 0 0 0 1 0");
        due("court() of an empty page", x.court(), STATE);
        anotherCourt(x);
    }

    private static void anotherCourt(ReadAloud x) {
        x.accuse(WEEPER, 0);
        x.accuse(MAN, 1);
        x.lesson(0, H);
        x.limit(5);
        x.put(0, H);
        x.hear(0, 0, true);
        x.brief(0);
        x.image();
        dueCounts("filled:", x, "8 5 2 0 4 3 1 0 1 1");
        spell(x, "a,b,c,d;,");
        due("court() refused", x.court(), STATE);
        due("restore() after a refused court()", x.restore(), 3);
        x.blank();
        spell(x, "b,a,d,c;ca");
        due("another court()", x.court(), 2);
        dueCounts("another:", x, "2 2 0 0 2 0 0 0 2 1");
        due("near(0)", x.near(0), 2);
        due("near(1)", x.near(1), 1);
        due("word(0)", x.word(0), C);
        due("word(1)", x.word(1), A);
        due("word(2)", x.word(2), UNKNOWN);
        due("about(0, 0)", x.about(0, 0), UNKNOWN);
        due("restore()", x.restore(), STATE);
        due("accuse(0, 1)", x.accuse(MAN, 1), 0);
        due("about(0, 5)", x.about(0, 5), 0);
        due("about(0, 6)", x.about(0, 6), 31);
    }

    private static void near() {
        promise = 6;
        ReadAloud x = court(COURT);
        int[] want = {5, 10, 148, 64, 0};
        for (int deed = 0; deed < 5; deed++) due("near(" + deed + ")", x.near(deed), want[deed]);
        int[] beside = {-1, 5, LEAST, MOST};
        for (int deed : beside) due("near(" + deed + ")", x.near(deed), UNKNOWN);
        for (int deed = 0; deed < 5; deed++) due("near() without a court", new ReadAloud().near(deed), UNKNOWN);
        x.put(0, H);
        due("near(2) after put()", x.near(2), 148);
    }

    private static void word() {
        promise = 7;
        ReadAloud x = court(COURT);
        int[] want = {B, A, C, H, G, A, H, C};
        for (int place = 0; place < 8; place++) due("word(" + place + ")", x.word(place), want[place]);
        int[] beside = {-1, 8, 9, 10, LEAST, MOST};
        for (int place : beside) due("word(" + place + ")", x.word(place), UNKNOWN);
        due("word(9) of ten", court("a,b,c,d;aaaaaaaaah").word(9), H);
    }

    private static void put() {
        promise = 8;
        ReadAloud x = court(COURT);
        due("put(0, 7)", x.put(0, H), B);
        due("word(0)", x.word(0), H);
        due("put(7, 0)", x.put(7, A), C);
        due("word(7)", x.word(7), A);
        due("put(7, 0) again", x.put(7, A), A);
        due("count(5)", x.count(5), 3);
        due("put(8, 0)", x.put(8, 0), UNKNOWN);
        due("put(-1, 8)", x.put(-1, 8), UNKNOWN);
        due("put(least, 0)", x.put(LEAST, 0), UNKNOWN);
        due("put(most, 0)", x.put(MOST, 0), UNKNOWN);
        due("put(0, 8)", x.put(0, 8), OUTSIDE);
        due("put(0, -1)", x.put(0, -1), OUTSIDE);
        due("put(0, least)", x.put(0, LEAST), OUTSIDE);
        due("put(0, most)", x.put(0, MOST), OUTSIDE);
        due("word(0) after refusals", x.word(0), H);
        due("count(5) after refusals", x.count(5), 3);
    }

    private static void limit() {
        promise = 9;
        ReadAloud x = court(COURT);
        due("limit(1)", x.limit(1), 2);
        due("limit(10)", x.limit(10), 1);
        due("limit(10) again", x.limit(10), 10);
        due("count(1)", x.count(1), 10);
        due("count(5)", x.count(5), 3);
        int[] beside = {0, 11, -1, LEAST, MOST};
        for (int limit : beside) {
            due("limit(" + limit + ")", x.limit(limit), OUTSIDE);
            due("limit(" + limit + ") without a court", new ReadAloud().limit(limit), OUTSIDE);
        }
        due("count(1) after refusals", x.count(1), 10);
        due("count(5) after refusals", x.count(5), 3);
        ReadAloud none = new ReadAloud();
        due("limit(3) without a court", none.limit(3), STATE);
        due("count(1) without a court", none.count(1), 0);
    }

    private static void accuse() {
        promise = 10;
        ReadAloud x = court(COURT);
        int[] beside = {-1, 5, LEAST, MOST};
        for (int odd : beside) {
            due("accuse(" + odd + ", 0)", x.accuse(odd, 0), OUTSIDE);
            due("accuse(0, " + odd + ")", x.accuse(0, odd), OUTSIDE);
            due("accuse(" + odd + ", 0) without a court", new ReadAloud().accuse(odd, 0), OUTSIDE);
        }
        due("accuse(0, 0) without a court", new ReadAloud().accuse(0, 0), STATE);
        due("accuse(0, 0)", x.accuse(0, 0), 0);
        due("accuse(4, 4)", x.accuse(4, 4), 1);
        due("accuse(3, 1)", x.accuse(3, 1), 2);
        due("accuse(2, 2)", x.accuse(2, 2), 3);
        due("accuse(1, 1)", x.accuse(1, 1), FULL);
        due("accuse(5, 1) when full", x.accuse(5, 1), OUTSIDE);
        due("count(2)", x.count(2), 4);
        due("count(5)", x.count(5), 0);
    }

    private static void aboutKinds() {
        promise = 11;
        int[] places = {166, 167, 6, 76, 239};
        int[] many = {4, 5, 2, 3, 7};
        int[] withoutDeed = {0, 1, 0, 0, 73};
        for (int kind = 0; kind < 5; kind++) {
            String who = "kind " + kind + ", ";
            ReadAloud x = courtWith(kind, 0);
            due(who + "about 0", x.about(0, 0), kind);
            due(who + "about 1", x.about(0, 1), 0);
            due(who + "about 2", x.about(0, 2), places[kind]);
            due(who + "about 3", x.about(0, 3), many[kind]);
            due(who + "about 4", x.about(0, 4), 1);
            x.limit(many[kind]);
            due(who + "about 4, as many as LIMIT", x.about(0, 4), 1);
            x.limit(many[kind] + 1);
            due(who + "about 4, one less than LIMIT", x.about(0, 4), 0);
            x.accuse(kind, NOTHING);
            due(who + "about 1 of deed 4", x.about(1, 1), NOTHING);
            due(who + "about 2 of deed 4", x.about(1, 2), withoutDeed[kind]);
        }
        int[] beside = {-1, 8, LEAST, MOST};
        ReadAloud x = courtWith(MAN, 0);
        for (int odd : beside) {
            due("about(0, " + odd + ")", x.about(0, odd), OUTSIDE);
            due("about(" + odd + ", 0)", x.about(odd, 0), UNKNOWN);
        }
        due("about(1, 8)", x.about(1, 8), UNKNOWN);
    }

    private static void aboutLessons() {
        promise = 11;
        ReadAloud x = court(COURT);
        for (int kind = 0; kind < 4; kind++) x.accuse(kind, 0);
        x.lesson(MAN, A);
        due("a man who hides a", x.about(MAN, 2), 132);
        due("what he hides", x.about(MAN, 5), 1);
        x.lesson(MAN, H);
        due("what he hides then", x.about(MAN, 5), 129);
        x.lesson(STAMMERER, B);
        due("a stammerer who hides the first word", x.about(STAMMERER, 2), 166);
        x.lesson(ACTOR, A);
        due("an actor who hides a", x.about(ACTOR, 2), 4);
        x.lesson(BOY, H);
        due("a boy who hides what stands behind", x.about(BOY, 2), 4);
        x.lesson(BOY, A);
        due("a boy who hides what stands ahead", x.about(BOY, 2), 4);
        ReadAloud y = courtWith(WEEPER, NOTHING);
        y.lesson(0, H);
        due("a weeper who hides h", y.about(0, 2), 1);
        y.put(1, B);
        due("the first word at the second place", y.about(0, 2), 1);
        ReadAloud z = court("h,a,a,a;hhhh");
        for (int kind = 1; kind < 5; kind++) z.accuse(kind, 0);
        due("a stammerer all h", z.about(0, 2), 15);
        due("an actor all h", z.about(1, 2), 1);
        due("a boy all h", z.about(2, 2), 14);
        due("a weeper all h", z.about(3, 2), 15);
        ReadAloud w = court("a,b,c,d;bbbbbbbbbb");
        for (int kind = 1; kind < 5; kind++) w.accuse(kind, 0);
        int[] want = {1, 0, 0, 1};
        for (int i = 0; i < 4; i++) due("none of ten words near, kind " + (i + 1), w.about(i, 2), want[i]);
        w.put(9, A);
        int[] atLast = {513, 512, 0, 513};
        for (int i = 0; i < 4; i++) due("the last of ten near, kind " + (i + 1), w.about(i, 2), atLast[i]);
    }

    private static void aboutHeard() {
        promise = 11;
        ReadAloud x = courtWith(MAN, 3);
        x.accuse(MAN, 3);
        due("which deeds at first", x.about(0, 6), 31);
        due("where to listen at first", x.about(0, 7), 2);
        x.hear(0, 2, true);
        due("which deeds, c", x.about(0, 6), 5);
        due("where to listen, c", x.about(0, 7), 1);
        due("which deeds of another", x.about(1, 6), 31);
        x.hear(0, 1, false);
        due("which deeds, c, not a", x.about(0, 6), 4);
        due("where to listen with one left", x.about(0, 7), 0);
        x.hear(0, 0, true);
        due("which deeds, none", x.about(0, 6), 0);
        due("where to listen, none", x.about(0, 7), NONE);
        due("where to listen of another", x.about(1, 7), 2);
        x.lesson(1, C);
        due("where to listen when c is hidden", x.about(1, 7), 0);
        x.put(3, E);
        x.put(7, D);
        x.unlearn(1);
        due("where to listen, still", x.about(1, 7), 2);
        x.put(2, B);
        due("where to listen as it is now", x.about(1, 7), 0);
    }

    private static void heardByKind() {
        promise = 11;
        ReadAloud x = court(COURT);
        for (int kind = 0; kind < 4; kind++) x.accuse(kind, 0);
        x.hear(STAMMERER, 0, true);
        due("a stammerer at the first word", x.about(STAMMERER, 6), 31);
        x.hear(STAMMERER, 0, false);
        due("a stammerer not at the first word", x.about(STAMMERER, 6), 0);
        x.hear(ACTOR, 7, false);
        due("an actor not at c again", x.about(ACTOR, 6), 31);
        x.hear(ACTOR, 2, false);
        due("an actor not at the first c", x.about(ACTOR, 6), 26);
        x.hear(BOY, 3, true);
        due("a boy behind c", x.about(BOY, 6), 5);
        x.hear(BOY, 4, false);
        due("a boy not behind h", x.about(BOY, 6), 1);
        ReadAloud y = courtWith(WEEPER, 4);
        y.hear(0, 3, true);
        due("a weeper at h", y.about(0, 6), 31);
        y.hear(0, 4, true);
        due("a weeper at g", y.about(0, 6), 8);
    }

    private static void as() {
        promise = 12;
        // Of each kind, as which kinds he can be taken.
        int[][] taken = {{1, 0, 0, 0, 0}, {1, 1, 0, 0, 0}, {1, 0, 1, 0, 0}, {1, 0, 0, 1, 0}, {1, 1, 0, 0, 1}};
        for (int kind = 0; kind < 5; kind++) {
            ReadAloud x = courtWith(MAN, 0);
            x.accuse(BOY, 1);
            x.accuse(kind, 2);
            for (int other = 0; other < 5; other++) {
                due("kind " + kind + " as " + other, x.as(2, other), taken[kind][other] == 1 ? 2 : NONE);
            }
            int[] beside = {-1, 5, LEAST, MOST};
            for (int odd : beside) {
                due("as(2, " + odd + ")", x.as(2, odd), OUTSIDE);
                due("as(" + odd + ", 0)", x.as(odd, 0), UNKNOWN);
            }
            due("as(3, 5)", x.as(3, 5), UNKNOWN);
        }
    }

    private static void lesson() {
        promise = 13;
        ReadAloud x = courtWith(MAN, 0);
        x.accuse(MAN, 1);
        int[] words = {H, A, D, B, G, C, F, E};
        for (int i = 0; i < 8; i++) due("lesson(0, " + words[i] + ")", x.lesson(0, words[i]), i + 1);
        for (int i = 0; i < 8; i++) due("lesson(0, " + i + ") again", x.lesson(0, i), STATE);
        due("about(0, 5)", x.about(0, 5), 255);
        due("about(1, 5)", x.about(1, 5), 0);
        due("count(5)", x.count(5), 8);
        int[] beside = {-1, 8, LEAST, MOST};
        for (int odd : beside) {
            due("lesson(1, " + odd + ")", x.lesson(1, odd), OUTSIDE);
            due("lesson(" + odd + ", 0)", x.lesson(odd, 0), UNKNOWN);
        }
        due("lesson(2, 8)", x.lesson(2, 8), UNKNOWN);
        due("about(1, 5) after refusals", x.about(1, 5), 0);
        due("count(5) after refusals", x.count(5), 8);
    }

    private static void unlearn() {
        promise = 14;
        ReadAloud x = courtWith(MAN, 0);
        x.accuse(MAN, 1);
        x.lesson(0, A);
        x.lesson(0, H);
        x.lesson(1, C);
        due("unlearn(0)", x.unlearn(0), 2);
        due("about(0, 5)", x.about(0, 5), 0);
        due("about(1, 5)", x.about(1, 5), 4);
        due("unlearn(0) again", x.unlearn(0), 0);
        due("count(5)", x.count(5), 5);
        int[] beside = {-1, 2, 4, LEAST, MOST};
        for (int odd : beside) due("unlearn(" + odd + ")", x.unlearn(odd), UNKNOWN);
        due("count(5) after refusals", x.count(5), 5);
        due("lesson(0, 0) once more", x.lesson(0, A), 1);
    }

    private static void dueBrief(String text, int... words) {
        ReadAloud x = court(text);
        due("brief(0) of " + text, x.brief(0), words.length == 0 ? NONE : words.length);
        for (int i = 0; i < 4; i++) {
            due("brief(" + (10 + i) + ") of " + text, x.brief(10 + i), i < words.length ? words[i] : NONE);
        }
        due("count(9)", x.count(9), 5);
    }

    private static void brief() {
        promise = 15;
        dueBrief("a,b,c,d;abcd", A, B, C, D);
        dueBrief("h,gh,fgh,a;h", A, F, G, H);
        dueBrief("abc,bcd,cde,def;a", A, C, E);
        dueBrief("e,f,g,h;a", E, F, G, H);
        dueBrief("a,a,b,c;abc");
        dueBrief("a,ab,abc,abd;h", A, B, C, D);
        dueBrief("ab,ac,bc,abc;h", A, B, C);
        dueBrief("a,b,c,abc;h", A, B, C);
        int[] beside = {-1, 1, 9, 14, LEAST, MOST};
        ReadAloud x = court("a,b,c,d;abcd");
        for (int odd : beside) {
            due("brief(" + odd + ")", x.brief(odd), OUTSIDE);
            due("brief(" + odd + ") without a court", new ReadAloud().brief(odd), OUTSIDE);
        }
        due("brief(0) without a court", new ReadAloud().brief(0), STATE);
        x.put(0, H);
        x.accuse(WEEPER, 0);
        x.lesson(0, A);
        due("brief(10) whatever stands on the sheet", x.brief(10), A);
        due("count(9)", x.count(9), 1);
        due("count(5)", x.count(5), 2);
        briefThirtyTimes(x);
    }

    private static void briefThirtyTimes(ReadAloud x) {
        x.image();
        for (int i = 2; i <= 15; i++) due("brief(13)", x.brief(13), D);
        x.restore();
        due("count(9) after restore()", x.count(9), 15);
        spell(x, "a,a,a,a;a");
        x.court();
        due("count(9) after court()", x.count(9), 15);
        for (int i = 16; i <= 30; i++) due("brief(0)", x.brief(0), NONE);
        due("brief(0), the 31st", x.brief(0), STATE);
        due("brief(1), then", x.brief(1), OUTSIDE);
        spell(x, "a,b,c,d;a");
        x.court();
        due("brief(0), ever", x.brief(0), STATE);
        due("count(9) then", x.count(9), 30);
    }

    private static void dueHide(String who, ReadAloud x, int accused, int[] which, int[] places) {
        for (int lessons = 0; lessons <= 8; lessons++) {
            int last = Math.min(lessons, which.length - 1);
            due(who + ", which with " + lessons, x.hide(accused, lessons, 0), which[last]);
            due(who + ", places with " + lessons, x.hide(accused, lessons, 1), places[last]);
        }
    }

    private static void hide() {
        promise = 16;
        ReadAloud x = court(COURT);
        for (int kind = 1; kind < 5; kind++) x.accuse(kind, 0);
        dueHide("a stammerer", x, 0, new int[] {0, 1, 5, 7}, new int[] {5, 3, 1, 0});
        dueHide("an actor", x, 1, new int[] {0, 1, 5}, new int[] {2, 1, 0});
        dueHide("a boy", x, 2, new int[] {0, 128, 132}, new int[] {3, 1, 0});
        dueHide("a weeper", x, 3, new int[] {0, 1, 5, 133, 135}, new int[] {7, 5, 3, 1, 0});
        ReadAloud y = court("abc,d,e,f;aabbcccddh");
        y.accuse(MAN, 0);
        y.accuse(MAN, NOTHING);
        dueHide("a man, c most often", y, 0, new int[] {0, 4, 5, 7}, new int[] {7, 4, 2, 0});
        dueHide("a man of nothing", y, 1, new int[] {0}, new int[] {0});
        y.lesson(0, C);
        dueHide("in place of those he has", y, 0, new int[] {0, 4, 5, 7}, new int[] {7, 4, 2, 0});
        due("about(0, 5)", y.about(0, 5), 4);
        due("count(5)", y.count(5), 1);
        int[] beside = {-1, LEAST, MOST};
        for (int odd : beside) {
            due("hide(" + odd + ", 0, 0)", y.hide(odd, 0, 0), UNKNOWN);
            due("hide(0, " + odd + ", 0)", y.hide(0, odd, 0), OUTSIDE);
            due("hide(0, 0, " + odd + ")", y.hide(0, 0, odd), OUTSIDE);
        }
        due("hide(2, 9, 2)", y.hide(2, 9, 2), UNKNOWN);
        due("hide(0, 9, 0)", y.hide(0, 9, 0), OUTSIDE);
        due("hide(0, 8, 2)", y.hide(0, 8, 2), OUTSIDE);
    }

    private static void hear() {
        promise = 17;
        ReadAloud x = courtWith(MAN, 0);
        x.accuse(MAN, 1);
        due("hear(0, 2, true)", x.hear(0, 2, true), 1);
        x.put(2, G);
        due("as the sheet was then", x.about(0, 6), 5);
        x.lesson(1, B);
        due("hear(1, 0, false)", x.hear(1, 0, false), 2);
        due("of a hidden word", x.about(1, 6), 31);
        due("hear(1, 1, true)", x.hear(1, 1, true), 3);
        x.lesson(1, A);
        due("with his lessons then", x.about(1, 6), 1);
        due("hear(1, 1, true), hidden", x.hear(1, 1, true), 4);
        due("of a hidden word he altered", x.about(1, 6), 0);
        int[] beside = {-1, 8, 10, LEAST, MOST};
        for (int odd : beside) {
            due("hear(" + odd + ", 0, true)", x.hear(odd, 0, true), UNKNOWN);
            due("hear(0, " + odd + ", true)", x.hear(0, odd, true), UNKNOWN);
        }
        due("hear(2, 0, true)", x.hear(2, 0, true), UNKNOWN);
        due("count(6)", x.count(6), 4);
        for (int i = 5; i <= 8; i++) due("hear(0, 7, true)", x.hear(0, 7, true), i);
        due("hear(0, 7, false), the ninth", x.hear(0, 7, false), FULL);
        due("hear(2, 7, false) when full", x.hear(2, 7, false), UNKNOWN);
        due("about(0, 6) after FULL", x.about(0, 6), 5);
        due("count(6) after FULL", x.count(6), 8);
        due("count(5)", x.count(5), 3);
    }

    private static void forget() {
        promise = 18;
        ReadAloud x = courtWith(MAN, 0);
        x.hear(0, 0, true);
        x.hear(0, 1, true);
        due("about(0, 6)", x.about(0, 6), 0);
        due("forget()", x.forget(), 2);
        due("about(0, 6) then", x.about(0, 6), 31);
        due("count(6)", x.count(6), 0);
        due("count(5)", x.count(5), 0);
        due("forget() again", x.forget(), 0);
        due("hear(0, 0, true)", x.hear(0, 0, true), 1);
        due("about(0, 6) anew", x.about(0, 6), 2);
    }

    private static void trials() {
        promise = 19;
        // From seed 0 the seeds are 12345, 1406932606, 654583775, 1449466924: words a, e, e, f.
        ReadAloud x = court("a,e,f,h;a");
        due("seed after 1", x.trials(1, 0, 2), 12345);
        due("seed after 2", x.trials(2, 0, 2), 1406932606);
        due("seed after 4", x.trials(4, 0, 2), 1449466924);
        due("without accused, hang", x.trials(4, 0, 0), 0);
        x.accuse(MAN, 1);
        due("places of a man, e", x.trials(4, 0, 1), 2);
        due("hang at 2", x.trials(4, 0, 0), 0);
        x.limit(1);
        due("hang at 1", x.trials(4, 0, 0), 2);
        x.accuse(STAMMERER, 4);
        due("places of two", x.trials(4, 0, 1), 6);
        due("hang of two", x.trials(4, 0, 0), 6);
        x.lesson(1, E);
        due("places of two, e hidden by one", x.trials(4, 0, 1), 4);
        due("places of two, one sheet", x.trials(1, 0, 1), 1);
        due("seed of two", x.trials(4, 0, 2), 1449466924);
        due("the sheet is as it was", x.word(0), A);
        due("nothing was changed", x.count(5), 2);
        // The same four draws on one sheet of four words: a e e f.
        ReadAloud y = court("a,e,f,h;hhhh");
        y.accuse(MAN, 1);
        y.accuse(ACTOR, 1);
        y.accuse(BOY, 0);
        y.accuse(WEEPER, 2);
        due("seed of four words", y.trials(1, 0, 2), 1449466924);
        due("places of four", y.trials(1, 0, 1), 2 + 1 + 1 + 2);
        due("hang of four", y.trials(1, 0, 0), 2);
        due("seed of the most", y.trials(40, MOST, 2), seedAfter(MOST, 160));
        trialsRefused(y);
    }

    private static long seedAfter(long seed, int draws) {
        long next = seed;
        for (int i = 0; i < draws; i++) next = (1103515245L * next + 12345L) % 2147483648L;
        return next;
    }

    private static void trialsRefused(ReadAloud y) {
        int[] beside = {0, -1, 41, LEAST, MOST};
        for (int odd : beside) {
            due("trials(" + odd + ", 0, 0)", y.trials(odd, 0, 0), OUTSIDE);
            due("trials(" + odd + ", 0, 0) without a court", new ReadAloud().trials(odd, 0, 0), OUTSIDE);
        }
        due("trials(1, -1, 0)", y.trials(1, -1, 0), OUTSIDE);
        due("trials(1, least, 0)", y.trials(1, LEAST, 0), OUTSIDE);
        due("trials(1, 0, 3)", y.trials(1, 0, 3), OUTSIDE);
        due("trials(1, 0, -1)", y.trials(1, 0, -1), OUTSIDE);
        due("trials(40, 0, 2) without a court", new ReadAloud().trials(40, 0, 2), STATE);
    }

    private static void image() {
        promise = 20;
        ReadAloud x = courtWith(MAN, 0);
        due("image()", x.image(), 0);
        x.put(0, H);
        x.limit(3);
        due("image() later", x.image(), 2);
        x.put(0, A);
        due("restore() to the latest", x.restore(), 2);
        due("word(0)", x.word(0), H);
        due("count(1)", x.count(1), 3);
        due("image() without a court", new ReadAloud().image(), STATE);
        due("count(5)", x.count(5), 2);
    }

    private static void restore() {
        promise = 21;
        ReadAloud x = courtWith(BOY, 0);
        due("restore() without an image", x.restore(), STATE);
        x.lesson(0, G);
        x.limit(4);
        x.put(0, D);
        x.hear(0, 1, true);
        x.image();
        String counts = counts(x);
        long digest = x.digest();
        x.accuse(WEEPER, 1);
        x.lesson(0, A);
        x.lesson(1, B);
        x.unlearn(0);
        x.limit(9);
        x.put(0, F);
        x.put(7, F);
        x.hear(0, 2, true);
        x.hear(1, 3, true);
        due("restore()", x.restore(), 3);
        dueCounts("restored:", x, counts);
        due("digest()", x.digest(), digest);
        due("about(1, 0)", x.about(1, 0), UNKNOWN);
        due("accuse(0, 1)", x.accuse(MAN, 1), 1);
        due("about(1, 5) of a new one", x.about(1, 5), 0);
        due("about(1, 6) of a new one", x.about(1, 6), 31);
        x.forget();
        x.hear(1, 0, false);
        due("restore() again", x.restore(), 3);
        due("about(0, 6) as it was heard", x.about(0, 6), 2);
        due("forget(), all of it", x.forget(), 1);
        due("restore() a third time", x.restore(), 3);
        due("digest() again", x.digest(), digest);
        restoreAndTheRest(x);
    }

    private static void restoreAndTheRest(ReadAloud x) {
        spell(x, "ab");
        x.brief(0);
        x.restore();
        due("the page goes on", x.count(7), 2);
        due("brief() counts on", x.count(9), 1);
        due("courts count on", x.count(8), 1);
        x.blank();
        spell(x, COURT);
        x.court();
        due("restore() after a court of the same text", x.restore(), STATE);
        due("count(8)", x.count(8), 2);
        due("image()", x.image(), 0);
        due("restore() after an image of it", x.restore(), 0);
        due("count(8) then", x.count(8), 2);
        due("restore() without a court", new ReadAloud().restore(), STATE);
    }

    private static void count() {
        promise = 22;
        ReadAloud x = court(COURT);
        dueCounts("court:", x, "8 2 0 0 5 0 0 0 1 0");
        x.accuse(MAN, 0);
        x.accuse(ACTOR, 0);
        x.accuse(STAMMERER, NOTHING);
        dueCounts("accused:", x, "8 2 3 2 5 0 0 0 1 0");
        x.limit(1);
        dueCounts("limit 1:", x, "8 1 3 3 5 1 0 0 1 0");
        x.limit(5);
        dueCounts("limit 5:", x, "8 5 3 0 5 2 0 0 1 0");
        x.put(0, A);
        x.lesson(0, A);
        x.unlearn(0);
        x.unlearn(0);
        x.hear(0, 0, true);
        x.brief(13);
        x.trials(3, 3, 1);
        x.letter(100);
        dueCounts("all:", x, "8 5 3 1 4 6 1 1 1 1");
        x.put(0, A);
        x.put(0, H);
        dueCounts("put:", x, "8 5 3 0 4 8 1 1 1 1");
        x.put(0, F);
        dueCounts("another word:", x, "8 5 3 0 5 9 1 1 1 1");
        int[] beside = {-1, 10, LEAST, MOST};
        for (int odd : beside) {
            due("count(" + odd + ")", x.count(odd), OUTSIDE);
            due("count(" + odd + ") without a court", new ReadAloud().count(odd), OUTSIDE);
        }
    }

    private static long sum(long... numbers) {
        long h = 1019;
        for (long number : numbers) h = 31 * h + number;
        return h;
    }

    private static void digest() {
        promise = 23;
        due("digest() of a new one", new ReadAloud().digest(), sum(0, 0, 0, 0, 0, 0, 0, 0, 0, 0));
        due("digest() of a page", page("a~").digest(), sum(97, 126, 0, 0, 0, 0, 0, 0, 0, 2, 0, 0));
        ReadAloud x = court(COURT);
        due("digest() of a court", x.digest(),
            sum(5, 10, 148, 64, 0, 1, 0, 2, 7, 6, 0, 7, 2, 8, 2, 0, 0, 5, 0, 0, 0, 1, 0));
        x.accuse(WEEPER, 0);
        x.lesson(0, H);
        x.accuse(BOY, 0);
        x.hear(1, 3, true);
        x.letter(59);
        x.brief(0);
        due("digest() of two", x.digest(),
            sum(5, 10, 148, 64, 0, 1, 0, 2, 7, 6, 0, 7, 2,
                4, 0, 167, 5, 1, 128, 31, 2, 5, 3,
                3, 0, 76, 3, 1, 0, 5, 2, 132, 0,
                59, 8, 2, 2, 2, 5, 1, 1, 1, 1, 1));
        due("digest() again", x.digest(), x.digest());
    }

    public static void main(String[] args) {
        newObject();
        letter();
        blank();
        fault();
        courtRead();
        near();
        word();
        put();
        limit();
        accuse();
        aboutKinds();
        aboutLessons();
        aboutHeard();
        heardByKind();
        as();
        lesson();
        unlearn();
        brief();
        hide();
        hear();
        forget();
        trials();
        image();
        restore();
        count();
        digest();
        System.out.println(wrong == 0 ? "all promises hold" : wrong + " answers are not as due");
        if (wrong != 0) System.exit(1);
    }
}
