import java.util.ArrayList;
import java.util.List;

/** The edges of TEXT (the Description's part 2), and of the promises 23 to 32: what a SERIES, or two, are asked. */
public final class EdgeAskedTest extends Edges {
    private static final String SERIES = "2. Series";

    private static void daily(Daywall w) {
        w.series(0, 1, 0, 0, 0);
    }

    /** Each fifth DAY, 10 to 20. */
    private static void fifths(Daywall w) {
        w.series(0, 5, 0, 0, 10);
        w.until(0, 24);
    }

    // ---- TEXT and how it is read

    @Says(at = SERIES, value = "TEXT: ten WORDS with one blank between: the name of the FORM as above, EVERY, A, B, START, LAST, MINUTE,"
        + " LENGTH, the set of PEOPLE, 1 if it SKIPS, otherwise 0.")
    static void texts() {
        String[] names = {"days", "weeks", "month", "place", "year", "easter"};
        int[][] rules = {{1, 0, 0, 0}, {60, 127, 0, LAST}, {9, -31, 1, 10}, {10, 64, -8, 99}, {59, 1231, 0, 100}, {2, -80, 0, 9999}};
        for (int form = 0; form <= 5; form++) {
            int[] r = rules[form];
            Daywall w = new Daywall();
            w.series(form, r[0], r[1], r[2], r[3]);
            String rule = names[form] + " " + r[0] + " " + r[1] + " " + r[2] + " " + r[3] + " ";
            due(rule + "36524 540 60 1 0", w.text(0));
            w.time(0, 0, 1440);
            w.people(0, 63);
            w.skips(0, true);
            w.until(0, LAST - 1 > r[3] ? LAST - 1 : LAST);
            due(rule + (LAST - 1 > r[3] ? LAST - 1 : LAST) + " 0 1440 63 1", w.text(0));
            w.time(0, 1439, 1);
            w.people(0, 10);
            w.skips(0, false);
            w.until(0, r[3]);
            due(rule + r[3] + " 1439 1 10 0", w.text(0));
        }
    }

    /** The sign that a number means. */
    private static char sign(int number) {
        return "0123456789- ".charAt(number);
    }

    private static boolean isIn(String word, int low, int high) {
        return word.matches("-?[0-9]{1,6}") && Integer.parseInt(word) >= low && Integer.parseInt(word) <= high;
    }

    /** The FAULT by the document's words: each word, in its turn, against its bounds. */
    private static int faultByWords(String text) {
        List<String> words = new ArrayList<>();
        for (String word : text.split(" ")) {
            if (!word.isEmpty()) {
                words.add(word);
            }
        }
        int form = words.isEmpty() ? -1 : List.of("days", "weeks", "month", "place", "year", "easter").indexOf(words.get(0));
        if (form < 0) {
            return 0;
        }
        int[] lowest = {0, 1, 0, 0, 0, 0, 0, 1, 1, 0};
        int[] highest = {0, 60, 0, 0, LAST, LAST, 1439, 1440, 63, 1};
        for (int k = 1; k < 10; k++) {
            if (k >= words.size()) {
                return k;
            }
            String word = words.get(k);
            boolean isRight = k == 2 ? isA(form, word) : k == 3 ? isB(form, word) : isIn(word, lowest[k], highest[k]);
            if (!isRight) {
                return k;
            }
            if (k == 4) {
                lowest[5] = Integer.parseInt(word);
            }
            if (k == 6) {
                highest[7] = 1440 - Integer.parseInt(word);
            }
        }
        return words.size() > 10 ? 10 : -1;
    }

    private static boolean isA(int form, String word) {
        switch (form) {
            case 0:
                return isIn(word, 0, 0);
            case 2:
                return isIn(word, -31, -1) || isIn(word, 1, 31);
            case 4:
                for (int day = 0; day < 366; day++) {
                    int a = 100 * dateOf(day).getMonthValue() + dateOf(day).getDayOfMonth();
                    if (isIn(word, a, a)) {
                        return true;
                    }
                }
                return false;
            case 5:
                return isIn(word, -80, 240);
            default:
                return isIn(word, 1, 127);
        }
    }

    private static boolean isB(int form, String word) {
        return form == 3 ? isIn(word, -8, -1) || isIn(word, 1, 8) : isIn(word, 0, form == 2 || form == 4 ? 1 : 0);
    }

    /** Of many texts, with each sign at each place. */
    @Says(at = SERIES, value = {"Read: WORDS (none is empty) are what stands between blanks;", "A spoiled TEXT is read as it stands then."})
    static void allSpoiledTexts() {
        int[][] rules = {{0, 1, 0, 0, 0}, {0, 60, 0, 0, LAST}, {1, 12, 127, 0, 10}, {1, 1, 1, 0, 9}, {2, 6, -31, 1, 100}, {2, 10, 31, 0, 3652},
            {3, 5, 12, -8, 999}, {3, 59, 100, 8, 1000}, {4, 4, 229, 1, 36000}, {4, 1, 1012, 0, 7}, {4, 9, 131, 0, 36524}, {5, 6, -80, 0, 1},
            {5, 1, 240, 0, 20000}, {5, 1, 0, 0, 12345}};
        int[][] settings = {{540, 60, 1, 0, LAST}, {0, 1440, 63, 1, LAST}, {1439, 1, 10, 0, 0}, {1400, 40, 6, 1, 9}, {60, 4, 36, 0, 9999}};
        for (int[] r : rules) {
            for (int[] s : settings) {
                Steps steps = w -> {
                    w.series(r[0], r[1], r[2], r[3], r[4]);
                    w.time(0, s[0], s[1]);
                    w.people(0, s[2]);
                    w.skips(0, s[3] == 1);
                    w.until(0, Math.max(s[4], r[4]));
                };
                String text = made(steps).text(0);
                for (int at = 0; at < text.length(); at++) {
                    Daywall w = made(steps);
                    for (int number = 0; number <= 11; number++) {
                        String spoiled = text.substring(0, at) + sign(number) + text.substring(at + 1);
                        due(faultByWords(spoiled), w.spoiled(0, at, number));
                    }
                    due(text, w.text(0));
                }
            }
        }
    }

    /** The FAULT of a text of one SERIES, with one sign changed: the place is told by what stands ahead of it. */
    private static int fault(Steps steps, String ahead, String sign) {
        Daywall w = made(steps);
        due(true, w.text(0).startsWith(ahead));
        return w.spoiled(0, ahead.length(), "0123456789- ".indexOf(sign));
    }

    @Says(at = SERIES, value = "the FAULT is the number (from 0) of the first that is not right, 10 if ten are right and there are more,"
        + " NONE if all is right.")
    static void faults() {
        Steps steps = w -> {
            w.series(0, 3, 0, 0, 2);
            w.time(0, 410, 40);
            w.people(0, 12);
        };
        // days 3 0 0 2 36524 410 40 12 0
        due(0, fault(steps, "", "-"));
        due(0, fault(steps, "day", " "));
        due(1, fault(steps, "days ", "0"));
        due(2, fault(steps, "days 3 ", "1"));
        due(3, fault(steps, "days 3 0 ", "1"));
        due(4, fault(steps, "days 3 0 0 ", "-"));
        due(5, fault(steps, "days 3 0 0 2 ", "4"));
        due(6, fault(steps, "days 3 0 0 2 36524 ", "-"));
        due(7, fault(steps, "days 3 0 0 2 36524 410 ", "-"));
        due(8, fault(steps, "days 3 0 0 2 36524 410 40 ", "9"));
        due(9, fault(steps, "days 3 0 0 2 36524 410 40 12 ", "2"));
        due(-1, fault(steps, "days 3 0 0 2 36524 410 40 12 ", "1"));
        due(-1, fault(steps, "days 3 0 0 2 36524 410 4", " "));
        // Ten are right and one more is there: LAST 365, MINUTE 4, LENGTH 540, the set 60, SKIPS 1, and 0.
        due(10, fault(EdgeAskedTest::daily, "days 1 0 0 0 365", " "));
        // Of several the first: there are eleven, and of the ten the last, 12, is not right; LAST 3, MINUTE 524 and so on.
        due(9, fault(steps, "days 3 0 0 2 3", " "));
        due(7, fault(steps, "days 3 0 0 2 36524 4", " "));
    }

    @Says(at = SERIES, value = "The number of a missing one is a FAULT.")
    static void missingWords() {
        Steps steps = w -> {
            w.series(0, 1, 0, 0, 0);
            w.until(0, 9);
            w.people(0, 5);
            w.skips(0, true);
        };
        // days 1 0 0 0 9 540 60 5 1: without its last word; and B "000", START 9, LAST 540, MINUTE 60, LENGTH 5, the set 1.
        due(9, fault(steps, "days 1 0 0 0 9 540 60 5 ", " "));
        due(9, fault(steps, "days 1 0 0", "0"));
        // One less in the midst: LAST 540, MINUTE 60, LENGTH 5, the set 1, no SKIPS.
        due(9, fault(steps, "days 1 0 0 0 ", " "));
        due(1, fault(steps, "days 1", "0"));
        due(0, fault(steps, "days", "0"));
    }

    @Says(at = SERIES, value = "Right is a name, and a number, with \"-\" ahead or not, of 1 to 6 digits, that is in the bounds told above")
    static void rightWords() {
        // A name is right as a whole: each sign of it at each place makes it wrong.
        String[] names = {"days", "weeks", "month", "place", "year", "easter"};
        int[][] rules = {{0, 0}, {1, 0}, {1, 0}, {1, 1}, {101, 0}, {0, 0}};
        for (int form = 0; form <= 5; form++) {
            Daywall w = new Daywall();
            w.series(form, 1, rules[form][0], rules[form][1], 0);
            for (int at = 0; at <= names[form].length(); at++) {
                for (int number = 0; number <= 11; number++) {
                    boolean isBlankBehind = at == names[form].length() && number == 11;
                    due(isBlankBehind ? -1 : 0, w.spoiled(0, at, number));
                }
            }
        }
        // "-" ahead of a number that may be below nought, or is nought; alone, twice, or in its midst it is none.
        Steps month = w -> w.series(2, 1, 12, 0, 10);
        due(-1, fault(month, "month 1 ", "-"));
        due(2, fault(month, "month 1 1", "-"));
        due(1, fault(month, "month ", "-"));
        due(0, fault(month, "month", "-"));
        Steps back = w -> w.series(2, 1, -12, 0, 0);
        due(2, fault(back, "month 1 -", "-"));
        due(2, fault(back, "month 1 ", "1"));
        due(2, fault(back, "month 1 -1", "-"));
        due(1, fault(back, "month 1", "-"));
        Steps easter = w -> w.series(5, 1, 10, 0, 0);
        due(-1, fault(easter, "easter 1 ", "-"));
        due(3, fault(easter, "easter 1 10 ", "-"));
        // START and LAST in one word: of six digits it is a number (and LAST is at fault), of seven it is none.
        Steps six = w -> {
            daily(w);
            w.until(0, 9999);
        };
        due("days 1 0 0 0 9999 540 60 1 0", made(six).text(0));
        due(5, fault(six, "days 1 0 0 0", "0"));
        due(4, fault(EdgeAskedTest::daily, "days 1 0 0 0", "0"));
        due(5, fault(six, "days 1 0 0 0", "1"));
        due(4, fault(six, "days 1 0 0 0", "9"));
    }

    @Says(at = SERIES, value = "that is in the bounds told above")
    static void oneBelowNoughtIsInNoBounds() {
        // A word of 11 is -1 then: of all of them only A (of an EASTER) and B (of a place) may be.
        Steps steps = w -> {
            w.series(5, 11, 11, 0, 11);
            w.until(0, 11);
            w.time(0, 11, 11);
            w.people(0, 11);
        };
        String[] words = made(steps).text(0).split(" ");
        due("easter 11 11 0 11 11 11 11 11 0", String.join(" ", words));
        StringBuilder ahead = new StringBuilder();
        for (int k = 0; k < 10; k++) {
            due(k == 2 ? -1 : k, fault(steps, ahead.toString(), "-"));
            ahead.append(words[k]).append(' ');
        }
        Steps place = w -> w.series(3, 11, 11, 1, 0);
        due(2, fault(place, "place 11 ", "-"));
        due(3, fault(place, "place 11 11 ", "-"));
        Steps week = w -> w.series(1, 11, 11, 0, 0);
        due(2, fault(week, "weeks 11 ", "-"));
        Steps year = w -> w.series(4, 11, 1111, 0, 0);
        due(2, fault(year, "year 11 ", "-"));
    }

    @Says(at = SERIES, value = "(noughts ahead are let;")
    static void noughtsAhead() {
        Steps steps = w -> {
            w.series(1, 12, 127, 0, 1234);
            w.people(0, 63);
            w.time(0, 540, 60);
        };
        due(-1, fault(steps, "weeks ", "0"));
        due(-1, fault(steps, "weeks 12 ", "0"));
        due(-1, fault(steps, "weeks 12 127 0 ", "0"));
        due(-1, fault(steps, "weeks 12 127 0 1234 36524 ", "0"));
        due(-1, fault(steps, "weeks 12 127 0 1234 36524 540 60 ", "0"));
        due(-1, fault(steps, "weeks 12 127 0 1234 36524 540 60 63 ", "0"));
        Steps below = w -> w.series(2, 1, -12, 0, 0);
        due(-1, fault(below, "month 1 -", "0"));
        // A word of noughts alone is 0; B and START in one are "005" or "000".
        Steps none = w -> w.series(2, 1, 10, 0, 5);
        due(2, fault(none, "month 1 ", "0"));
        due(3, fault(none, "month 1 10 0", "0"));
        due(5, fault(w -> w.series(2, 1, 10, 0, 0), "month 1 10 0", "0"));
    }

    @Says(at = SERIES, value = "A and B by FORM;")
    static void boundsOfAAndBByForm() {
        Steps weeks = w -> w.series(1, 1, 127, 0, 0);
        due(2, fault(weeks, "weeks 1 12", "8"));
        due(-1, fault(weeks, "weeks 1 12", "6"));
        due(2, fault(weeks, "weeks 1 ", "2"));
        due(3, fault(weeks, "weeks 1 127 ", "1"));
        due(2, fault(w -> w.series(1, 1, 1, 0, 0), "weeks 1 ", "0"));
        Steps month = w -> w.series(2, 1, 31, 1, 0);
        due(2, fault(month, "month 1 3", "2"));
        due(-1, fault(month, "month 1 3", "0"));
        due(3, fault(month, "month 1 31 ", "2"));
        due(-1, fault(month, "month 1 31 ", "0"));
        due(2, fault(w -> w.series(2, 1, 1, 1, 0), "month 1 ", "0"));
        Steps place = w -> w.series(3, 1, 127, -8, 0);
        due(3, fault(place, "place 1 127 -", "9"));
        due(-1, fault(place, "place 1 127 -", "1"));
        due(3, fault(place, "place 1 127 -", "0"));
        due(2, fault(place, "place 1 12", "8"));
        Steps year = w -> w.series(4, 1, 229, 1, 0);
        due(2, fault(year, "year 1 2", "3"));
        due(-1, fault(year, "year 1 ", "1"));
        due(2, fault(year, "year 1 ", "0"));
        due(3, fault(year, "year 1 229 ", "2"));
        due(2, fault(w -> w.series(4, 1, 1231, 0, 0), "year 1 1", "3"));
        due(2, fault(w -> w.series(4, 1, 131, 0, 0), "year 1 13", "2"));
        Steps easter = w -> w.series(5, 1, 240, 0, 0);
        due(2, fault(easter, "easter 1 24", "1"));
        due(2, fault(easter, "easter 1 ", "3"));
        due(-1, fault(easter, "easter 1 ", "0"));
        due(2, fault(w -> w.series(5, 1, -80, 0, 0), "easter 1 -8", "1"));
        due(3, fault(easter, "easter 1 240 ", "1"));
        due(2, fault(EdgeAskedTest::daily, "days 1 ", "1"));
        due(-1, fault(EdgeAskedTest::daily, "days 1 0", " "));
    }

    @Says(at = SERIES, value = "LAST from START to 36524;")
    static void boundsOfLast() {
        Steps steps = w -> {
            w.series(0, 1, 0, 0, 25);
            w.until(0, 25);
        };
        due(5, fault(steps, "days 1 0 0 25 2", "4"));
        due(-1, fault(steps, "days 1 0 0 25 2", "6"));
        due(5, fault(steps, "days 1 0 0 2", "6"));
        due(-1, fault(steps, "days 1 0 0 2", "4"));
        due(5, fault(EdgeAskedTest::daily, "days 1 0 0 0 3652", "5"));
        due(-1, fault(EdgeAskedTest::daily, "days 1 0 0 0 3652", "3"));
        Steps last = w -> w.series(0, 1, 0, 0, LAST);
        due(4, fault(last, "days 1 0 0 3652", "5"));
        due(-1, fault(last, "days 1 0 0 3652", "3"));
        due(5, fault(last, "days 1 0 0 36524 3652", "3"));
    }

    @Says(at = SERIES, value = "MINUTE 0 to 1439;")
    static void boundsOfMinute() {
        Steps steps = w -> {
            daily(w);
            w.time(0, 1439, 1);
        };
        String ahead = "days 1 0 0 0 36524 ";
        due(6, fault(steps, ahead + "1", "5"));
        due(6, fault(steps, ahead + "14", "4"));
        due(-1, fault(steps, ahead + "143", "8"));
        due(-1, fault(steps, ahead, "0"));
        due(6, fault(steps, ahead, "-"));
        // 1430 with a 4 at its third place is 1440.
        due(6, fault(w -> {
            daily(w);
            w.time(0, 1430, 1);
        }, ahead + "14", "4"));
        due(-1, fault(w -> {
            daily(w);
            w.time(0, 1, 1);
        }, ahead, "0"));
    }

    @Says(at = SERIES, value = "LENGTH 1 to 1440 - MINUTE;")
    static void boundsOfLength() {
        Steps steps = w -> {
            daily(w);
            w.time(0, 1401, 39);
        };
        String ahead = "days 1 0 0 0 36524 ";
        due(7, fault(steps, ahead + "140", "2"));
        due(-1, fault(steps, ahead + "140", "0"));
        due(7, fault(steps, ahead + "1401 ", "4"));
        due(-1, fault(steps, ahead + "1401 3", "8"));
        due(7, fault(w -> {
            daily(w);
            w.time(0, 0, 1);
        }, ahead + "0 ", "0"));
        due(7, fault(w -> {
            daily(w);
            w.time(0, 0, 1440);
        }, ahead + "0 144", "1"));
        due(7, fault(w -> {
            daily(w);
            w.time(0, 0, 1440);
        }, ahead, "1"));
    }

    @Says(at = SERIES, value = "the set 1 to 63).")
    static void boundsOfSet() {
        String ahead = "days 1 0 0 0 36524 540 60 ";
        Steps steps = w -> {
            daily(w);
            w.people(0, 63);
        };
        due(8, fault(steps, ahead + "6", "4"));
        due(-1, fault(steps, ahead + "6", "2"));
        due(8, fault(EdgeAskedTest::daily, ahead, "0"));
        due(-1, fault(EdgeAskedTest::daily, ahead, "9"));
        due(8, fault(steps, ahead, "-"));
        // SKIPS is 0 or 1.
        due(9, fault(EdgeAskedTest::daily, ahead + "1 ", "2"));
        due(-1, fault(EdgeAskedTest::daily, ahead + "1 ", "1"));
    }

    // ---- 23. on

    @Says(at = "Promise 23", value = "Returns 0 if it is no RULE DAY, 2 if it is STRUCK, 3 if it is MOVED,")
    static void ruleDaysStruckAndMoved() {
        Daywall w = made(EdgeAskedTest::fifths);
        w.strike(0, 10);
        w.move(0, 20, 0, 0);
        int[][] due = {{0, 8}, {9, 0}, {10, 2}, {11, 0}, {15, 1}, {19, 0}, {20, 3}, {25, 0}, {LAST, 0}};
        for (int[] d : due) {
            due(d[1], w.on(0, d[0]));
        }
    }

    @Says(at = "Promise 23", value = "4 if it has no OCCURRENCE as it is a HOLIDAY, otherwise 1;")
    static void holidaysOfOn() {
        Daywall w = made(EdgeAskedTest::fifths);
        w.holiday(4, 116, 0);
        w.holiday(4, 117, 0);
        due(1, w.on(0, 15));
        w.skips(0, true);
        due(4, w.on(0, 15));
        due(0, w.on(0, 16));
        due(1, w.on(0, 10));
        // An EXCEPTION goes ahead of the HOLIDAY.
        w.strike(0, 15);
        due(2, w.on(0, 15));
        w.mend(0, 15);
        w.move(0, 15, 15, 0);
        due(3 + 8, w.on(0, 15));
        w.mend(0, 15);
        w.until(0, 14);
        due(0, w.on(0, 15));
    }

    @Says(at = "Promise 23", value = "and 8 more for each MOVED OCCURRENCE that comes to that DAY.")
    static void eightForEachThatComes() {
        for (int to : new int[] {0, 9, 10, 11, 400, LAST}) {
            Daywall w = new Daywall();
            w.series(0, 5, 0, 0, 10);
            int own = to == 10 || to == 400 ? 1 : 0;
            due(own, w.on(0, to));
            for (int k = 1; k <= 12; k++) {
                w.move(0, 10 + 5 * k, to, k % 2 == 0 ? 0 : 1380);
                due(own + 8 * k, w.on(0, to));
                due(3, w.on(0, 10 + 5 * k));
            }
            due(0, w.on(0, to == 0 ? 1 : to - 1) / 8);
            due(0, w.on(0, to == LAST ? 0 : to + 1) / 8);
            w.mend(0, 15);
            due(own + 8 * 11, w.on(0, to));
        }
    }

    @Says(at = "Promise 23", value = "Throws IndexOutOfBoundsException if there is no such SERIES, or the WALL has no such DAY")
    static void refusesOn() {
        seriesNumbers((w, x) -> w.on(x, 0));
        days(EdgeAskedTest::fifths, (w, x) -> w.on(0, x));
    }

    // ---- 24. kth, 25. next, 26. many

    @Says(at = "Promise 24", value = {"k: 0 to 400", "Returns its RULE DAY with k before it; NONE, if there is none."})
    static void kthDays() {
        Daywall w = new Daywall();
        w.series(0, 3, 0, 0, 5);
        for (int k : new int[] {0, 1, 2, 399, 400}) {
            due(5 + 3 * k, w.kth(0, k));
        }
        w.strike(0, 5);
        due(5, w.kth(0, 0));
        w.until(0, 11);
        due(11, w.kth(0, 2));
        due(-1, w.kth(0, 3));
        due(-1, w.kth(0, 400));
        w.until(0, 10);
        due(8, w.kth(0, 1));
        due(-1, w.kth(0, 2));
        w.until(0, 5);
        due(5, w.kth(0, 0));
        due(-1, w.kth(0, 1));
        w.series(2, 12, 30, 0, 31);
        due(-1, w.kth(1, 0));
        w.series(5, 1, 0, 0, 0);
        due(date(2099, 4, 12), w.kth(2, 99));
        due(-1, w.kth(2, 100));
        due(-1, w.kth(2, 400));
        w.series(0, 1, 0, 0, LAST);
        due(LAST, w.kth(3, 0));
        due(-1, w.kth(3, 1));
        // The wall's last WEEK goes on without DAYS: it has a Thursday, but no Friday.
        w.series(1, 1, 8 + 16, 0, LAST - 1);
        due(LAST, w.kth(4, 0));
        due(-1, w.kth(4, 1));
        due(LAST, w.next(4, LAST - 1, false));
        w.drop(4);
        // A first RULE DAY after START, and after LAST.
        w.series(1, 1, 1, 0, 3);
        due(9, w.kth(4, 0));
        w.until(4, 8);
        due(-1, w.kth(4, 0));
    }

    @Says(at = "Promise 24", value = "Throws IndexOutOfBoundsException if there is no such SERIES")
    static void refusesSeriesOfKth() {
        seriesNumbers((w, x) -> w.kth(x, 0));
    }

    @Says(at = "Promise 24", value = "Throws IllegalArgumentException if k is not in its bounds")
    static void refusesKsOfKth() {
        bounds(ARGUMENT, EdgeAskedTest::daily, 0, 400, (w, x) -> w.kth(0, x));
    }

    @Says(at = "Promise 25", value = {"isBack: whether backwards", "Returns its first RULE DAY from that DAY on (backwards: its last one till"
        + " that DAY, with it); NONE, if there is none."})
    static void nextDays() {
        Daywall w = made(EdgeAskedTest::fifths);
        int[][] due = {{0, 10, -1}, {9, 10, -1}, {10, 10, 10}, {11, 15, 10}, {14, 15, 10}, {15, 15, 15}, {16, 20, 15}, {20, 20, 20},
            {21, -1, 20}, {24, -1, 20}, {25, -1, 20}, {LAST, -1, 20}};
        for (int[] d : due) {
            due(d[1], w.next(0, d[0], false));
            due(d[2], w.next(0, d[0], true));
        }
        // EXCEPTIONS are RULE DAYS.
        w.strike(0, 15);
        due(15, w.next(0, 11, false));
        due(15, w.next(0, 19, true));
        // The wall's ends.
        w.series(0, 1, 0, 0, 0);
        due(0, w.next(1, 0, false));
        due(0, w.next(1, 0, true));
        due(LAST, w.next(1, LAST, false));
        due(LAST, w.next(1, LAST, true));
        w.until(1, 0);
        due(-1, w.next(1, 1, false));
        due(0, w.next(1, LAST, true));
        w.series(2, 12, 30, 0, 31);
        due(-1, w.next(2, 0, false));
        due(-1, w.next(2, LAST, true));
        // Backwards over years that have none.
        w.series(4, 1, 229, 0, 0);
        for (int year = 2000; year <= 2007; year++) {
            due(date(year < 2004 ? 2000 : 2004, 2, 29), w.next(3, date(year, 12, 31), true));
            due(date(year <= 2004 ? 2004 : 2008, 2, 29), w.next(3, date(year, 12, 31) - (year == 2004 ? 366 : 0), false));
        }
        w.drop(3);
        w.series(4, 60, 1231, 0, 0);
        due(date(2060, 12, 31), w.next(3, 366, false));
        due(-1, w.next(3, date(2061, 1, 1), false));
        due(365, w.next(3, date(2060, 12, 30), true));
    }

    /** Each form, from both sides, against each DAY asked by itself. */
    @Says(at = "Promise 25", value = "Returns its first RULE DAY from that DAY on (backwards: its last one till that DAY, with it);")
    static void nextDaysOfEachForm() {
        int[][] rules = {{4, 1, 229, 0}, {0, 4, 0, 0}, {1, 2, 73, 0}, {1, 1, 64, 0}, {1, 3, 1, 0}, {2, 1, 31, 0}, {2, 2, -31, 1}, {2, 1, 29, 1}, {3, 1, 21, 5},
            {3, 2, 96, -8}, {3, 1, 127, 8}, {4, 1, 229, 1}, {4, 1, 1231, 0}, {5, 1, -80, 0}, {5, 1, 240, 0}};
        for (int[] r : rules) {
            for (int start : new int[] {0, 3, 59, LAST - 190}) {
                Steps steps = w -> {
                    w.series(r[0], r[1], r[2], r[3], start);
                    w.until(0, Math.min(LAST, start + 180));
                };
                Daywall w = made(steps);
                int from = Math.max(0, start - 5);
                int back = -1;
                List<Integer> days = new ArrayList<>();
                for (int day = from; day <= Math.min(LAST, start + 190); day++) {
                    if (w.on(0, day) == 1) {
                        days.add(day);
                    }
                }
                w = made(steps);
                int found = 0;
                for (int day = from; day <= Math.min(LAST, start + 190); day++) {
                    if (days.contains(day)) {
                        back = day;
                    }
                    due(found < days.size() ? days.get(found) : -1, w.next(0, day, false));
                    due(back, w.next(0, day, true));
                    found += days.contains(day) ? 1 : 0;
                }
            }
        }
    }

    @Says(at = "Promise 25", value = "Throws IndexOutOfBoundsException if there is no such SERIES, or the WALL has no such DAY")
    static void refusesNext() {
        for (int k = 0; k <= 1; k++) {
            boolean isBack = k == 1;
            seriesNumbers((w, x) -> w.next(x, 0, isBack));
            days(EdgeAskedTest::fifths, (w, x) -> w.next(0, x, isBack));
        }
    }

    @Says(at = "Promise 26", value = "Returns how many RULE DAYS it has from that one to this one, with both.")
    static void howMany() {
        Daywall w = made(EdgeAskedTest::fifths);
        int[][] due = {{10, 10, 1}, {9, 9, 0}, {10, 20, 3}, {11, 20, 2}, {10, 19, 2}, {11, 19, 1}, {11, 14, 0}, {0, 9, 0}, {21, 4021, 0},
            {0, 4000, 3}, {20, 24, 1}, {25, 25, 0}};
        for (int[] d : due) {
            due(d[2], w.many(0, d[0], d[1]));
        }
        w.strike(0, 10);
        w.move(0, 15, 16, 0);
        due(3, w.many(0, 0, 4000));
        w.series(0, 1, 0, 0, 0);
        due(4001, w.many(1, 0, 4000));
        due(1, w.many(1, 0, 0));
        due(4001, w.many(1, LAST - 4000, LAST));
        due(1, w.many(1, LAST, LAST));
        w.until(1, 5);
        due(6, w.many(1, 0, 4000));
        due(1, w.many(1, 5, 4005));
        due(0, w.many(1, 6, 4006));
    }

    @Says(at = "Promise 26", value = "Throws IndexOutOfBoundsException if there is no such SERIES, or the WALL has no such DAY as from or to")
    static void refusesMany() {
        seriesNumbers((w, x) -> w.many(x, 0, 0));
        refusesDays((w, from, to) -> w.many(0, from, to));
    }

    @Says(at = "Promise 26", value = "Throws IllegalArgumentException if to is not from to from + 4000")
    static void refusesSpansOfMany() {
        refusesSpans(4000, (w, from, to) -> w.many(0, from, to));
    }

    // ---- 27. text, 28. spoiled

    @Says(at = "Promise 27", value = "Returns TEXT.")
    static void textOfEach() {
        Daywall w = made(EdgeAskedTest::fifths);
        daily(w);
        due("days 5 0 0 10 24 540 60 1 0", w.text(0));
        due("days 1 0 0 0 36524 540 60 1 0", w.text(1));
    }

    @Says(at = "Promise 27", value = "Throws IndexOutOfBoundsException if there is no such SERIES")
    static void refusesSeriesOfText() {
        seriesNumbers((w, x) -> w.text(x));
    }

    @Says(at = "Promise 28", value = {"at: the place of a sign of its TEXT, from 0", "sign: 0 to 9 that digit, 10 \"-\", 11 a blank",
        "Returns the FAULT of TEXT with that sign at that place; NONE without one."})
    static void signsOfSpoiled() {
        // days 1 0 0 0 9 0 1 1 0: each sign in place of LAST, and at the first and the last place.
        Daywall w = made(EdgeAskedTest::daily);
        w.until(0, 9);
        w.time(0, 0, 1);
        due(22, w.text(0).length());
        for (int digit = 0; digit <= 9; digit++) {
            due(-1, w.spoiled(0, 13, digit));
            due(0, w.spoiled(0, 0, digit));
            due(digit <= 1 ? -1 : 9, w.spoiled(0, 21, digit));
        }
        due(5, w.spoiled(0, 13, 10));
        due(8, w.spoiled(0, 13, 11));
        due(0, w.spoiled(0, 0, 10));
        due(0, w.spoiled(0, 0, 11));
        due(9, w.spoiled(0, 21, 10));
        due(9, w.spoiled(0, 21, 11));
        due("days 1 0 0 0 9 0 1 1 0", w.text(0));
    }

    @Says(at = "Promise 28", value = "Throws IndexOutOfBoundsException if there is no such SERIES or place")
    static void refusesPlaces() {
        seriesNumbers((w, x) -> w.spoiled(x, 0, 0));
        bounds(INDEX, EdgeAskedTest::daily, 0, "days 1 0 0 0 36524 540 60 1 0".length() - 1, (w, x) -> w.spoiled(0, x, 5));
        bounds(INDEX, w -> {
            w.series(5, 60, -80, 0, 12345);
            w.people(0, 63);
        }, 0, "easter 60 -80 0 12345 36524 540 60 63 0".length() - 1, (w, x) -> w.spoiled(0, x, 11));
    }

    @Says(at = "Promise 28", value = "Throws IllegalArgumentException if sign is not 0 to 11")
    static void refusesSigns() {
        bounds(ARGUMENT, EdgeAskedTest::daily, 0, 11, (w, x) -> w.spoiled(0, 0, x));
        bounds(ARGUMENT, EdgeAskedTest::daily, 0, 11, (w, x) -> w.spoiled(0, 28, x));
    }

    // ---- 29. same, 30. period, 31. differs

    @Says(at = "Promise 29", value = "Returns the first DAY, from the later START of both to 36524, that is one of the RULE of only one of them")
    static void firstUnlikeDay() {
        // At the later START itself, and on the DAY after it; what is unlike before it is left aside.
        dueSame(9, new int[] {0, 2, 0, 0, 0}, new int[] {0, 2, 0, 0, 9});
        dueSame(11, new int[] {0, 2, 0, 0, 0}, new int[] {0, 1, 0, 0, 10});
        dueSame(-1, new int[] {0, 2, 0, 0, 0}, new int[] {0, 2, 0, 0, 10});
        // On the wall's last DAY, of either one, or of both.
        dueSame(LAST, new int[] {4, 1, 1231, 0, LAST - 300}, new int[] {4, 1, 101, 0, LAST - 300});
        dueSame(LAST, new int[] {0, 1, 0, 0, LAST}, new int[] {0, 2, 0, 0, LAST - 1});
        dueSame(-1, new int[] {0, 1, 0, 0, LAST}, new int[] {0, 2, 0, 0, LAST - 2});
        dueSame(LAST - 1, new int[] {0, 1, 0, 0, LAST - 1}, new int[] {0, 2, 0, 0, LAST - 2});
        // On the last DAY of the PERIOD: the first Friday from a Saturday on.
        dueSame(6, new int[] {1, 1, 32 + 64, 0, 0}, new int[] {1, 1, 32 + 64 + 16, 0, 0});
        // Years later: 29 February, and the last day of February against its 28th.
        dueSame(date(2004, 2, 29), new int[] {4, 4, 229, 0, 0}, new int[] {4, 12, 229, 0, 0});
        dueSame(date(2004, 2, 28), new int[] {2, 12, 28, 0, 397}, new int[] {2, 12, -1, 0, 397});
        dueSame(date(2004, 2, 28), new int[] {4, 1, 228, 0, 366}, new int[] {4, 1, 229, 1, 366});
        dueSame(date(2099, 4, 12), new int[] {5, 1, 0, 0, date(2099, 4, 12)}, new int[] {5, 60, 1, 0, date(2099, 4, 12)});
        dueSame(date(2002, 4, 1), new int[] {4, 1, 401, 0, date(2001, 4, 16)}, new int[] {5, 60, 0, 0, date(2001, 4, 16)});
    }

    @Says(at = "Promise 29", value = "(from START on, LAST left aside);")
    static void lastIsLeftAside() {
        Daywall w = new Daywall();
        pair(w, new int[] {0, 2, 0, 0, 0}, new int[] {0, 3, 0, 0, 12});
        due(14, w.same(0, 1));
        w.until(0, 0);
        w.until(1, 12);
        due(14, w.same(0, 1));
        w.strike(0, 0);
        w.move(1, 12, 14, 0);
        due(14, w.same(0, 1));
    }

    @Says(at = "Promise 29", value = "NONE, if there is none.")
    static void alikeForAllTime() {
        int[][][] alike = {{{0, 7, 0, 0, 2}, {1, 1, 1, 0, 0}}, {{0, 14, 0, 0, 2}, {1, 2, 1, 0, 2}}, {{2, 12, 1, 0, 0}, {4, 1, 101, 0, 0}},
            {{3, 1, 127, 1, 0}, {2, 1, 1, 0, 0}}, {{3, 1, 127, -1, 31}, {2, 1, 31, 1, 0}}, {{2, 1, -31, 1, 0}, {2, 1, 1, 0, 31}},
            {{4, 1, 229, 0, 0}, {4, 4, 229, 1, 0}}, {{2, 48, 29, 0, 31}, {4, 4, 229, 0, 0}}, {{2, 12, 30, 0, 31}, {3, 1, 1, 8, 0}},
            {{5, 1, 0, 0, date(2099, 1, 1)}, {4, 1, 412, 0, date(2099, 1, 1)}}, {{4, 1, 101, 0, LAST}, {4, 1, 102, 0, LAST - 300}},
            {{1, 1, 127, 0, 5}, {0, 1, 0, 0, 9}},
            // Neither has a DAY from the later START on; before it the first one has 1 April, which is left aside.
            {{4, 1, 401, 0, LAST - 300}, {4, 1, 101, 0, LAST - 200}}, {{0, 60, 0, 0, LAST - 55}, {4, 1, 101, 0, LAST - 50}},
            // A WEEK that goes on after the wall's last DAY.
            {{1, 1, 127, 0, LAST}, {0, 1, 0, 0, LAST}}, {{1, 1, 16, 0, LAST}, {4, 1, 101, 0, LAST}}, {{1, 1, 8 + 16, 0, LAST}, {1, 1, 8, 0, 3}}};
        for (int[][] two : alike) {
            dueSame(-1, two[0], two[1]);
        }
    }

    private static void dueSame(int want, int[] one, int[] other) {
        Daywall w = new Daywall();
        pair(w, one, other);
        due(want, w.same(0, 1));
        due(want, w.same(1, 0));
        due(-1, w.same(0, 0));
        due(-1, w.same(1, 1));
    }

    private static void pair(Daywall w, int[] one, int[] other) {
        w.series(one[0], one[1], one[2], one[3], one[4]);
        w.series(other[0], other[1], other[2], other[3], other[4]);
    }

    @Says(at = "Promise 29", value = "Throws IndexOutOfBoundsException if there is no such SERIES as a or b")
    static void refusesSeriesOfSame() {
        seriesNumbers((w, x) -> w.same(x, 0));
        seriesNumbers((w, x) -> w.same(0, x));
        seriesNumbers((w, x) -> w.same(x, x));
    }

    @Says(at = "Promise 30", value = "Returns the PERIOD of both.")
    static void periodOfBoth() {
        int[][] two = {{0, 6, 0, 4, 12}, {0, 59, 0, 60, 3540}, {1, 60, 0, 59, 24780}, {0, 1, 0, 1, 1}, {2, 1, 4, 1, 10227}, {2, 2, 0, 2, 20454},
            {3, 9, 0, 1, 30681}, {2, 5, 0, 1, 36525}, {2, 4, 4, 4, 10227}, {5, 1, 5, 60, 36525}, {5, 1, 0, 1, 36525}, {4, 3, 2, 2, 30681},
            {3, 32, 0, 1, 20454}, {4, 8, 0, 1, 20454}, {2, 1, 0, 4, 36525}, {2, 1, 0, 21, 10227}};
        int[][] valid = {{0, 0}, {1, 0}, {1, 0}, {1, 1}, {101, 0}, {0, 0}};
        for (int[] t : two) {
            Daywall w = new Daywall();
            pair(w, new int[] {t[0], t[1], valid[t[0]][0], valid[t[0]][1], 3}, new int[] {t[2], t[3], valid[t[2]][0], valid[t[2]][1], 400});
            due(t[4], w.period(0, 1));
            due(t[4], w.period(1, 0));
        }
    }

    @Says(at = "Promise 30", value = "Throws IndexOutOfBoundsException if there is no such SERIES as a or b")
    static void refusesSeriesOfPeriod() {
        seriesNumbers((w, x) -> w.period(x, 0));
        seriesNumbers((w, x) -> w.period(0, x));
        seriesNumbers((w, x) -> w.period(x, x));
    }

    @Says(at = "Promise 31", value = "Returns how many DAYS from that one to this one are RULE DAYS of only one of them.")
    static void howManyDiffer() {
        Daywall w = new Daywall();
        pair(w, new int[] {0, 2, 0, 0, 10}, new int[] {0, 3, 0, 0, 12});
        // The first has 10, 12, 14, 16, 18 ..., the second 12, 15, 18 ...
        int[][] due = {{0, 9, 0}, {0, 10, 1}, {10, 10, 1}, {11, 11, 0}, {12, 12, 0}, {11, 15, 2}, {15, 15, 1}, {10, 21, 6}};
        for (int[] d : due) {
            due(d[2], w.differs(0, 1, d[0], d[1]));
            due(d[2], w.differs(1, 0, d[0], d[1]));
        }
        due(0, w.differs(0, 0, 0, 400));
        // After LAST of one all RULE DAYS of the other differ; EXCEPTIONS do not matter.
        w.until(1, 14);
        w.strike(0, 12);
        due(0, w.differs(0, 1, 12, 12));
        due(0, w.differs(0, 1, 15, 15));
        due(1, w.differs(0, 1, 18, 18));
        w.until(0, 17);
        due(0, w.differs(0, 1, 18, 418));
        // All of the longest span, at both ends of the wall.
        Daywall v = new Daywall();
        pair(v, new int[] {0, 1, 0, 0, 0}, new int[] {0, 60, 0, 0, LAST});
        due(401, v.differs(0, 1, 0, 400));
        due(400, v.differs(0, 1, LAST - 400, LAST));
        due(1, v.differs(0, 1, 0, 0));
        due(0, v.differs(0, 1, LAST, LAST));
    }

    @Says(at = "Promise 31", value = "Throws IndexOutOfBoundsException if there is no such SERIES as a or b, or the WALL has no such DAY as from or to")
    static void refusesDiffers() {
        seriesNumbers((w, x) -> w.differs(x, 0, 0, 0));
        seriesNumbers((w, x) -> w.differs(0, x, 0, 0));
        refusesDays((w, from, to) -> w.differs(0, 0, from, to));
    }

    private interface SpanCall {
        Object on(Daywall w, int from, int to);
    }

    /** DAYS that the wall has not, as the first, as the last, and as both of a span. */
    private static void refusesDays(SpanCall call) {
        for (int day : new int[] {-1, -2, LAST + 1, LAST + 2, LEAST, MOST}) {
            refused(INDEX, EdgeAskedTest::daily, w -> call.on(w, day, day));
            refused(INDEX, EdgeAskedTest::daily, w -> call.on(w, day, 5));
            refused(INDEX, EdgeAskedTest::daily, w -> call.on(w, LAST, day));
        }
        let(EdgeAskedTest::daily, w -> call.on(w, 0, 0));
        let(EdgeAskedTest::daily, w -> call.on(w, LAST, LAST));
    }

    /** Spans on the wall that are too short, or too long. */
    private static void refusesSpans(int longest, SpanCall call) {
        for (int from : new int[] {0, 7, 20000, LAST - longest - 1}) {
            refused(ARGUMENT, EdgeAskedTest::daily, w -> call.on(w, from, from + longest + 1));
            refused(ARGUMENT, EdgeAskedTest::daily, w -> call.on(w, from + 1, from));
            let(EdgeAskedTest::daily, w -> call.on(w, from, from));
            let(EdgeAskedTest::daily, w -> call.on(w, from, from + longest));
        }
        refused(ARGUMENT, EdgeAskedTest::daily, w -> call.on(w, 0, LAST));
        refused(ARGUMENT, EdgeAskedTest::daily, w -> call.on(w, LAST, 0));
    }

    @Says(at = "Promise 31", value = "Throws IllegalArgumentException if to is not from to from + 400")
    static void refusesSpansOfDiffers() {
        refusesSpans(400, (w, from, to) -> w.differs(0, 0, from, to));
    }

    // ---- 32. agenda

    @Says(at = "Promise 32", value = "Returns all OCCURRENCES, and MEETINGS that STAND, with their TIME in these DAYS,")
    static void allInASpan() {
        Daywall w = new Daywall();
        due("", w.agenda(0, 13));
        w.series(0, 7, 0, 0, 0);
        w.time(0, 0, 1440);
        w.series(0, 7, 0, 0, 6);
        w.time(1, 1439, 1);
        w.meet(0, -1, 7, 0, 1, 0);
        w.meet(0, 0, 13, 1439, 1, 0);
        w.meet(0, 1, 20, 600, 60, 0);
        due("0s0 10079s1 10080s0 10080m0 20159s1 20159m1", w.agenda(0, 13));
        due("10079s1 10080s0 10080m0", w.agenda(6, 7));
        due("10079s1", w.agenda(6, 6));
        due("10080s0 10080m0", w.agenda(7, 7));
        due("", w.agenda(1, 5));
        due("20160s0 29400m2 30239s1", w.agenda(14, 20));
        // MOVED ones, the minute before a span, its first and its last one, and the minute after it.
        Daywall v = new Daywall();
        v.series(0, 60, 0, 0, 30);
        v.time(0, 600, 1);
        v.move(0, 30, 4, 1439);
        v.move(0, 90, 5, 0);
        v.move(0, 150, 6, 1439);
        v.move(0, 210, 7, 0);
        due("7200s0 10079s0", v.agenda(5, 6));
        due("7199s0", v.agenda(4, 4));
        due("10080s0", v.agenda(7, 20));
        // What lasts into a span from before has not its TIME in it.
        w.meet(0, -1, 2, 0, 1440, 0);
        due("", w.agenda(3, 5));
        w.cancel(2);
        w.cancel(0);
        due("20160s0 30239s1", w.agenda(14, 20));
        due("10080s0", w.agenda(7, 7));
        // On the wall's last DAY.
        w.meet(0, -1, LAST, 1439, 1, 0);
        due("52595999m4", w.agenda(LAST, LAST));
    }

    @Says(at = "Promise 32", value = "by TIME (of one TIME OCCURRENCES first, by number of the SERIES, then by RULE DAY; then MEETINGS by number),")
    static void orderOfOneTime() {
        Daywall w = new Daywall();
        w.meet(0, -1, 13, 540, 60, 0);
        w.meet(0, -1, 13, 540, 60, 0);
        for (int k = 0; k < 3; k++) {
            w.series(0, 13, 0, 0, 0);
        }
        // The MOVED ones are told against the order of their RULE DAYS, and one is of a later SERIES.
        w.move(2, 26, 13, 540);
        w.move(0, 39, 13, 540);
        w.move(0, 0, 13, 540);
        w.move(1, 26, 13, 541);
        w.move(1, 39, 13, 539);
        due("540s1 540s2 19259s1 19260s0 19260s0 19260s0 19260s1 19260s2 19260s2 19260m0 19260m1 19261s1", w.agenda(0, 13));
        w.put(0, 13, 539);
        w.put(1, 13, 541);
        due("19259s1 19259m0 19260s0 19260s0 19260s0 19260s1 19260s2 19260s2 19261s1 19261m1", w.agenda(13, 13));
    }

    @Says(at = "Promise 32", value = "each as TIME and \"s\" and the number of its SERIES, or \"m\" and that of the MEETING,"
        + " with one blank between (\"17820s0 17820m1\").")
    static void wordsOfAgenda() {
        Daywall w = new Daywall();
        for (int k = 0; k < 10; k++) {
            w.series(0, 60, 0, 0, 12);
            w.meet(0, -1, 9, 600, 60, 0);
            w.cancel(k);
        }
        for (int k = 0; k < 9; k++) {
            w.drop(1);
        }
        for (int k = 10; k < 24; k++) {
            w.meet(0, -1, 12, k == 10 ? 540 : 541, 60, 0);
            if (k > 11 && k < 23) {
                w.cancel(k);
            }
        }
        due("17820s0 17820m10 17821m11 17821m23", w.agenda(12, 12));
        due("", w.agenda(9, 9));
        // As full as it can be: 14 DAYS of each of 10 SERIES, 12 MOVED to each, and 24 MEETINGS.
        Daywall v = new Daywall();
        for (int k = 0; k < 10; k++) {
            v.series(0, 1, 0, 0, 0);
            for (int n = 0; n < 12; n++) {
                v.move(k, 100 + n, 13, n);
            }
        }
        for (int n = 0; n < 24; n++) {
            v.meet(0, -1, 0, n, 1, 0);
        }
        String[] words = v.agenda(0, 13).split(" ");
        due(10 * (14 + 12) + 24, words.length);
        due("0m0", words[0]);
        due("19260s9", words[words.length - 1]);
    }

    @Says(at = "Promise 32", value = "Throws IndexOutOfBoundsException if the WALL has no such DAY as from or to")
    static void refusesDaysOfAgenda() {
        refusesDays((w, from, to) -> w.agenda(from, to));
    }

    @Says(at = "Promise 32", value = "Throws IllegalArgumentException if to is not from to from + 13")
    static void refusesSpansOfAgenda() {
        refusesSpans(13, (w, from, to) -> w.agenda(from, to));
    }

    public static void main(String[] args) {
        run(EdgeAskedTest.class);
    }
}
