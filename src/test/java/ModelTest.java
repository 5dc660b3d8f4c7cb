import java.util.ArrayList;
import java.util.HashMap;
import java.util.HashSet;
import java.util.List;
import java.util.Map;
import java.util.Random;
import java.util.Set;
import java.util.TreeSet;

/**
 * Random runs of calls against a second reading of the document, as plain as can be: it keeps what
 * was heard with the whole sheet of then, and tries every sheet and every set of words.
 */
public final class ModelTest {
    private static final int RUNS = 600;
    private static final int CALLS = 512;
    private static final int UNKNOWN = -101, OUTSIDE = -102, STATE = -103, FULL = -104, NONE = -1;

    private static final class Accused {
        final int kind;
        final int deed;
        Set<Integer> lessons = new TreeSet<>();

        Accused(int kind, int deed) {
            this.kind = kind;
            this.deed = deed;
        }
    }

    private record Hearing(int accused, int place, boolean altered, List<Integer> sheet, Set<Integer> lessons) {
    }

    private record Kept(List<Integer> sheet, int limit, int men, List<Set<Integer>> lessons, int changes,
            List<Hearing> heard) {
    }

    private static final class Model {
        private static final List<String> NEAR_TEXTS = nearTexts();
        private static final Map<List<String>, List<Integer>> SHORTEST = new HashMap<>();

        String page = "";
        List<String> near;
        List<Integer> sheet = new ArrayList<>();
        int limit;
        List<Accused> men = new ArrayList<>();
        List<Hearing> heard = new ArrayList<>();
        Kept kept;
        int changes;
        int courts;
        int briefs;

        private static List<String> nearTexts() {
            List<String> all = new ArrayList<>();
            for (char a = 'a'; a <= 'h'; a++) {
                all.add("" + a);
                for (char b = (char) (a + 1); b <= 'h'; b++) {
                    all.add("" + a + b);
                    for (char c = (char) (b + 1); c <= 'h'; c++) {
                        all.add("" + a + b + c);
                    }
                }
            }
            return all;
        }

        /** Whether some court begins with this text. */
        static boolean beginsCourt(String text) {
            String rest = text;
            for (int deed = 0; deed < 4; deed++) {
                int end = rest.indexOf(deed < 3 ? ',' : ';');
                if (end < 0) {
                    String last = rest;
                    return rest.isEmpty() || NEAR_TEXTS.stream().anyMatch(t -> t.startsWith(last));
                }
                if (!NEAR_TEXTS.contains(rest.substring(0, end))) {
                    return false;
                }
                rest = rest.substring(end + 1);
            }
            return rest.matches("[a-h]{0,10}");
        }

        int fault() {
            for (int place = 0; place < page.length(); place++) {
                if (!beginsCourt(page.substring(0, place + 1))) {
                    return place;
                }
            }
            return page.length();
        }

        int letter(int code) {
            if (code < 1 || code > 126) return OUTSIDE;
            if (page.length() == 28) return FULL;
            page += (char) code;
            return page.length();
        }

        int blank() {
            int had = page.length();
            page = "";
            return had;
        }

        int court() {
            String[] halves = page.split(";", -1);
            if (fault() != page.length() || halves.length != 2 || halves[1].isEmpty()) return STATE;
            near = new ArrayList<>(List.of(halves[0].split(",")));
            near.add("");
            sheet = new ArrayList<>();
            for (char c : halves[1].toCharArray()) sheet.add(c - 'a');
            limit = 2;
            men = new ArrayList<>();
            heard = new ArrayList<>();
            kept = null;
            changes = 0;
            courts++;
            page = "";
            return sheet.size();
        }

        boolean isNear(int word, int deed) {
            return near.get(deed).indexOf('a' + word) >= 0;
        }

        int near(int deed) {
            if (near == null || deed < 0 || deed > 4) return UNKNOWN;
            int bits = 0;
            for (int word = 0; word < 8; word++) if (isNear(word, deed)) bits += 1 << word;
            return bits;
        }

        boolean isPlace(int place) {
            return place >= 0 && place < sheet.size();
        }

        boolean isMan(int accused) {
            return accused >= 0 && accused < men.size();
        }

        int word(int place) {
            return isPlace(place) ? sheet.get(place) : UNKNOWN;
        }

        int put(int place, int word) {
            if (!isPlace(place)) return UNKNOWN;
            if (word < 0 || word > 7) return OUTSIDE;
            changes++;
            return sheet.set(place, word);
        }

        int limit(int limit) {
            if (limit < 1 || limit > 10) return OUTSIDE;
            if (near == null) return STATE;
            int was = this.limit;
            this.limit = limit;
            changes++;
            return was;
        }

        int accuse(int kind, int deed) {
            if (kind < 0 || kind > 4 || deed < 0 || deed > 4) return OUTSIDE;
            if (near == null) return STATE;
            if (men.size() == 4) return FULL;
            men.add(new Accused(kind, deed));
            return men.size() - 1;
        }

        boolean alters(int kind, int deed, List<Integer> read, Set<Integer> lessons, int place) {
            int word = read.get(place);
            if (lessons.contains(word)) return false;
            switch (kind) {
                case 0: return isNear(word, deed);
                case 1: return isNear(word, deed) || place == 0;
                case 2: return isNear(word, deed) && !read.subList(0, place).contains(word);
                case 3: return place > 0 && isNear(read.get(place - 1), deed);
                default: return isNear(word, deed) || place == 0 || word == 7;
            }
        }

        int bits(int kind, int deed, List<Integer> read, Set<Integer> lessons) {
            int bits = 0;
            for (int place = 0; place < read.size(); place++) {
                if (alters(kind, deed, read, lessons, place)) bits += 1 << place;
            }
            return bits;
        }

        int bits(Accused man, List<Integer> read) {
            return bits(man.kind, man.deed, read, man.lessons);
        }

        Set<Integer> deedsLeft(int accused) {
            Set<Integer> left = new TreeSet<>();
            for (int deed = 0; deed < 5; deed++) {
                boolean fits = true;
                for (Hearing h : heard) {
                    if (h.accused == accused && h.altered
                            != alters(men.get(accused).kind, deed, h.sheet, h.lessons, h.place)) {
                        fits = false;
                    }
                }
                if (fits) left.add(deed);
            }
            return left;
        }

        int listen(int accused) {
            Accused man = men.get(accused);
            Set<Integer> left = deedsLeft(accused);
            int best = NONE;
            int fewest = 99;
            for (int place = 0; place < sheet.size() && !left.isEmpty(); place++) {
                int yes = 0;
                for (int deed : left) if (alters(man.kind, deed, sheet, man.lessons, place)) yes++;
                int worst = Math.max(yes, left.size() - yes);
                if (worst < fewest) {
                    fewest = worst;
                    best = place;
                }
            }
            return best;
        }

        static int asBits(Set<Integer> numbers) {
            int bits = 0;
            for (int n : numbers) bits += 1 << n;
            return bits;
        }

        int about(int accused, int what) {
            if (!isMan(accused)) return UNKNOWN;
            if (what < 0 || what > 7) return OUTSIDE;
            Accused man = men.get(accused);
            int bits = bits(man, sheet);
            int[] told = {man.kind, man.deed, bits, Integer.bitCount(bits), Integer.bitCount(bits) >= limit ? 1 : 0,
                asBits(man.lessons), asBits(deedsLeft(accused)), listen(accused)};
            return told[what];
        }

        int as(int accused, int kind) {
            if (!isMan(accused)) return UNKNOWN;
            if (kind < 0 || kind > 4) return OUTSIDE;
            int own = men.get(accused).kind;
            return kind == 0 || kind == own || kind == 1 && own == 4 ? accused : NONE;
        }

        int lesson(int accused, int word) {
            if (!isMan(accused)) return UNKNOWN;
            if (word < 0 || word > 7) return OUTSIDE;
            if (!men.get(accused).lessons.add(word)) return STATE;
            changes++;
            return men.get(accused).lessons.size();
        }

        int unlearn(int accused) {
            if (!isMan(accused)) return UNKNOWN;
            int had = men.get(accused).lessons.size();
            men.get(accused).lessons.clear();
            changes++;
            return had;
        }

        /** Tries every sheet, the shorter first, of like ones the first by words. */
        List<Integer> shortest() {
            for (int length = 1; length <= 4; length++) {
                for (int code = 0; code < Math.pow(8, length); code++) {
                    List<Integer> tried = new ArrayList<>();
                    for (int i = length - 1; i >= 0; i--) tried.add((int) (code / Math.pow(8, i)) % 8);
                    Set<Integer> unlike = new HashSet<>();
                    for (int deed = 0; deed < 5; deed++) unlike.add(bits(0, deed, tried, Set.of()));
                    if (unlike.size() == 5) return tried;
                }
            }
            return List.of();
        }

        int brief(int what) {
            if (what != 0 && what != 10 && what != 11 && what != 12 && what != 13) return OUTSIDE;
            if (near == null || briefs == 30) return STATE;
            briefs++;
            if (!SHORTEST.containsKey(near)) SHORTEST.put(near, shortest());
            List<Integer> found = SHORTEST.get(near);
            if (found.isEmpty()) return NONE;
            if (what == 0) return found.size();
            return what - 10 < found.size() ? found.get(what - 10) : NONE;
        }

        int hide(int accused, int lessons, int what) {
            if (!isMan(accused)) return UNKNOWN;
            if (lessons < 0 || lessons > 8 || what < 0 || what > 1) return OUTSIDE;
            Accused man = men.get(accused);
            int best = -1;
            int fewest = 99;
            for (int size = 0; size <= lessons; size++) {
                for (int bits = 0; bits < 256; bits++) {
                    if (Integer.bitCount(bits) != size) continue;
                    Set<Integer> hidden = new TreeSet<>();
                    for (int word = 0; word < 8; word++) if ((bits >> word & 1) == 1) hidden.add(word);
                    int places = Integer.bitCount(bits(man.kind, man.deed, sheet, hidden));
                    if (places < fewest) {
                        fewest = places;
                        best = bits;
                    }
                }
            }
            return what == 0 ? best : fewest;
        }

        int hear(int accused, int place, boolean altered) {
            if (!isMan(accused) || !isPlace(place)) return UNKNOWN;
            if (heard.size() == 8) return FULL;
            heard.add(new Hearing(accused, place, altered, List.copyOf(sheet), Set.copyOf(men.get(accused).lessons)));
            return heard.size();
        }

        int forget() {
            int had = heard.size();
            heard.clear();
            return had;
        }

        int trials(int sheets, int seed, int what) {
            if (sheets < 1 || sheets > 40 || seed < 0 || what < 0 || what > 2) return OUTSIDE;
            if (near == null) return STATE;
            long next = seed;
            int hang = 0;
            int places = 0;
            for (int i = 0; i < sheets; i++) {
                List<Integer> drawn = new ArrayList<>();
                for (int j = 0; j < sheet.size(); j++) {
                    next = (1103515245L * next + 12345L) % (1L << 31);
                    drawn.add((int) (next / 65536 % 8));
                }
                for (Accused man : men) {
                    int altered = Integer.bitCount(bits(man, drawn));
                    places += altered;
                    if (altered >= limit) hang++;
                }
            }
            return what == 0 ? hang : what == 1 ? places : (int) next;
        }

        int image() {
            if (near == null) return STATE;
            List<Set<Integer>> lessons = new ArrayList<>();
            for (Accused man : men) lessons.add(Set.copyOf(man.lessons));
            kept = new Kept(List.copyOf(sheet), limit, men.size(), lessons, changes, List.copyOf(heard));
            return changes;
        }

        int restore() {
            if (kept == null) return STATE;
            sheet = new ArrayList<>(kept.sheet);
            limit = kept.limit;
            men = new ArrayList<>(men.subList(0, kept.men));
            for (int i = 0; i < kept.men; i++) men.get(i).lessons = new TreeSet<>(kept.lessons.get(i));
            changes = kept.changes;
            heard = new ArrayList<>(kept.heard);
            return changes;
        }

        int count(int what) {
            int hang = 0;
            for (Accused man : men) if (Integer.bitCount(bits(man, sheet)) >= limit) hang++;
            int[] told = {sheet.size(), near == null ? 0 : limit, men.size(), hang, new HashSet<>(sheet).size(),
                changes, heard.size(), page.length(), courts, briefs};
            return what < 0 || what > 9 ? OUTSIDE : told[what];
        }

        long digest() {
            List<Integer> numbers = new ArrayList<>();
            for (int deed = 0; deed < 5 && near != null; deed++) numbers.add(near(deed));
            numbers.addAll(sheet);
            for (int accused = 0; accused < men.size(); accused++) {
                for (int what = 0; what < 8; what++) numbers.add(about(accused, what));
                numbers.add(hide(accused, 2, 0));
                numbers.add(hide(accused, 2, 1));
            }
            for (char c : page.toCharArray()) numbers.add((int) c);
            for (int what = 0; what < 10; what++) numbers.add(count(what));
            long h = 1019;
            for (int number : numbers) h = 31 * h + number;
            return h;
        }
    }

    private final Random random;
    private final int run;
    private final ReadAloud real = new ReadAloud();
    private final Model model = new Model();
    private int calls;
    private int wrong;

    private ModelTest(int run) {
        this.run = run;
        this.random = new Random(run);
    }

    private void same(String call, long got, long due) {
        calls++;
        if (got != due) {
            wrong++;
            System.out.println("run " + run + ", call " + calls + ": " + call + " answered " + got + ", due is " + due);
        }
    }

    /** Mostly a number from 0 up to below the bound, now and then one beside it or far off. */
    private int number(int bound) {
        if (random.nextInt(12) != 0) return random.nextInt(bound);
        int[] odd = {-1, bound, bound + 1, Integer.MIN_VALUE, Integer.MAX_VALUE, 100, -7};
        return odd[random.nextInt(odd.length)];
    }

    private String courtText() {
        StringBuilder text = new StringBuilder();
        List<String> some = Model.NEAR_TEXTS;
        for (int deed = 0; deed < 4; deed++) {
            text.append(some.get(random.nextInt(some.size()))).append(deed < 3 ? ',' : ';');
        }
        int words = 1 + random.nextInt(10);
        int kinds = 1 + random.nextInt(8);
        for (int i = 0; i < words; i++) text.append((char) ('a' + random.nextInt(kinds)));
        return text.toString();
    }

    private void spell(String text) {
        same("blank()", real.blank(), model.blank());
        for (char c : text.toCharArray()) same("letter(" + (int) c + ")", real.letter(c), model.letter(c));
        same("fault()", real.fault(), model.fault());
        same("court()", real.court(), model.court());
    }

    private String spoilt(String text) {
        String signs = "abcdefgh,;,;iA ~";
        char sign = signs.charAt(random.nextInt(signs.length()));
        int place = random.nextInt(text.length());
        switch (random.nextInt(3)) {
            case 0: return text.substring(0, place) + sign + text.substring(place + 1);
            case 1: return text.substring(0, place) + sign + text.substring(place);
            default: return text.substring(0, place) + text.substring(place + 1);
        }
    }

    private void aCall() {
        int a = number(4);
        int place = number(model.sheet.isEmpty() ? 10 : model.sheet.size());
        int word = number(8);
        switch (random.nextInt(24)) {
            case 0: {
                int code = random.nextInt(3) == 0 ? number(127) : ",;abcdefgh".charAt(random.nextInt(10));
                same("letter(" + code + ")", real.letter(code), model.letter(code));
                break;
            }
            case 1: {
                int chance = random.nextInt(20);
                if (chance == 0) spell(courtText());
                else if (chance == 1) spell(spoilt(courtText()));
                else same("fault()", real.fault(), model.fault());
                break;
            }
            case 2: same("near(" + a + ")", real.near(a), model.near(a)); break;
            case 3: same("word(" + place + ")", real.word(place), model.word(place)); break;
            case 4: case 5: same("put(" + place + ", " + word + ")", real.put(place, word), model.put(place, word)); break;
            case 6: {
                int limit = number(11);
                same("limit(" + limit + ")", real.limit(limit), model.limit(limit));
                break;
            }
            case 7: case 8: {
                int kind = number(5);
                int deed = number(5);
                same("accuse(" + kind + ", " + deed + ")", real.accuse(kind, deed), model.accuse(kind, deed));
                break;
            }
            case 9: case 10: {
                int what = number(8);
                same("about(" + a + ", " + what + ")", real.about(a, what), model.about(a, what));
                break;
            }
            case 11: {
                int kind = number(5);
                same("as(" + a + ", " + kind + ")", real.as(a, kind), model.as(a, kind));
                break;
            }
            case 12: case 13: same("lesson(" + a + ", " + word + ")", real.lesson(a, word), model.lesson(a, word)); break;
            case 14: same("unlearn(" + a + ")", real.unlearn(a), model.unlearn(a)); break;
            case 15: {
                int what = random.nextInt(3) == 0 ? number(14) : random.nextInt(4) + 10;
                same("brief(" + what + ")", real.brief(what), model.brief(what));
                break;
            }
            case 16: {
                int lessons = number(9);
                int what = number(2);
                same("hide(" + a + ", " + lessons + ", " + what + ")", real.hide(a, lessons, what),
                    model.hide(a, lessons, what));
                break;
            }
            case 17: case 18: {
                boolean altered = random.nextBoolean();
                same("hear(" + a + ", " + place + ", " + altered + ")", real.hear(a, place, altered),
                    model.hear(a, place, altered));
                break;
            }
            case 19: {
                int sheets = number(41);
                int seed = random.nextInt(8) == 0 ? number(10) : random.nextInt() & 0x7fffffff;
                int what = number(3);
                same("trials(" + sheets + ", " + seed + ", " + what + ")", real.trials(sheets, seed, what),
                    model.trials(sheets, seed, what));
                break;
            }
            case 20: same("image()", real.image(), model.image()); break;
            case 21: same("restore()", real.restore(), model.restore()); break;
            case 22: {
                if (random.nextInt(3) == 0) same("forget()", real.forget(), model.forget());
                else if (random.nextInt(6) == 0) same("blank()", real.blank(), model.blank());
                else same("court()", real.court(), model.court());
                break;
            }
            default: {
                int what = number(10);
                same("count(" + what + ")", real.count(what), model.count(what));
            }
        }
    }

    private int play() {
        for (int i = random.nextInt(20); i > 0; i--) aCall();
        spell(courtText());
        while (calls < CALLS - 40 && wrong == 0) {
            aCall();
            if (random.nextInt(4) == 0) same("digest()", real.digest(), model.digest());
        }
        return wrong;
    }

    public static void main(String[] args) {
        int wrong = 0;
        for (int run = 1; run <= RUNS; run++) wrong += new ModelTest(run).play();
        System.out.println(wrong == 0 ? "all answers are as the model's" : wrong + " answers are not as the model's");
        if (wrong != 0) System.exit(1);
    }
}
