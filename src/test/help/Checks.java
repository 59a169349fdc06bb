/** What tests share: an object, how it is told things, and how its answers are held against what is due. */
abstract class Checks {
    static final int NONE = SaidShallow.NONE;
    static final int LEAST = Integer.MIN_VALUE;
    static final int LARGEST = Integer.MAX_VALUE;

    static int wrong;
    static int checks;
    /** What is being checked, told with each wrong answer. */
    static String about = "";

    SaidShallow it = new SaidShallow();

    static void due(String what, long got, long want) {
        due(what, Long.toString(got), Long.toString(want));
    }

    static void due(String what, boolean got, boolean want) {
        due(what, Boolean.toString(got), Boolean.toString(want));
    }

    static void due(String what, String got, String want) {
        checks++;
        if (!got.equals(want)) {
            wrong++;
            System.out.println(about + ": " + what + " answered \"" + got + "\", due is \"" + want + "\"");
        }
    }

    static String times(String piece, int n) {
        return piece.repeat(n);
    }

    void tape(String bytes) {
        StringBuilder padded = new StringBuilder(bytes);
        while (padded.length() % 20 != 0) {
            padded.append('!');
        }
        it.end(0);
        for (int i = 0; i < padded.length(); i += 20) {
            int[] numbers = new int[5];
            for (int k = 0; k < 20; k++) {
                numbers[k / 4] = numbers[k / 4] << 8 | padded.charAt(i + k);
            }
            it.feed(numbers[0], numbers[1], numbers[2], numbers[3], numbers[4]);
        }
        it.end(bytes.length());
    }

    /** How many bytes the TAPE has, found without changing it. */
    int tapeLength() {
        int length = it.feed(0, 0, 0, 0, 0) - 20;
        if (length >= 0) {
            it.end(length);
            return length;
        }
        length = 600;
        while (length > 0 && !it.end(length)) {
            length--;
        }
        return length;
    }

    int tell(String text) {
        tape(text);
        return it.text();
    }

    /** A new object that is told a text without a FAULT. */
    void fresh(String text) {
        it = new SaidShallow();
        int rules = tell(text);
        if (rules == NONE) {
            due("text() of " + text + " at " + it.fault(1), rules, 0);
        }
    }

    int say(String word) {
        tape(word);
        return it.say();
    }

    int hear(String word) {
        tape(word);
        return it.hear();
    }

    int understand(String word) {
        tape(word);
        return it.understand();
    }

    int walk(String row) {
        tape(row);
        return it.walk();
    }

    int ages(String word) {
        tape(word);
        return it.ages();
    }

    int example(String couple, boolean right) {
        tape(couple);
        return it.example(right);
    }

    /** What was found, by the letters given, words parted by commas. */
    String words(String letters) {
        StringBuilder all = new StringBuilder();
        for (int i = 0; it.found(i, NONE) != NONE; i++) {
            all.append(i > 0 ? "," : "");
            for (int k = 0; k < it.found(i, NONE); k++) {
                all.append(letters.charAt(it.found(i, k)));
            }
        }
        return all.toString();
    }

    String agedWord(String letters) {
        StringBuilder word = new StringBuilder();
        for (int k = 0; it.aged(k) != NONE; k++) {
            word.append(letters.charAt(it.aged(k)));
        }
        return word.toString();
    }

    /** A new object finds this FAULT in the text. */
    void fault(String text, int kind, int place) {
        it = new SaidShallow();
        due("text() of \"" + text + "\"", tell(text), NONE);
        due("fault(0) of \"" + text + "\"", it.fault(0), kind);
        due("fault(1) of \"" + text + "\"", it.fault(1), place);
    }

    /** A new object finds no FAULT in the text. */
    void sound(String text, int rules) {
        it = new SaidShallow();
        due("text() of \"" + text + "\"", tell(text), rules);
        due("fault(0) of \"" + text + "\"", it.fault(0), 0);
        due("fault(1) of \"" + text + "\"", it.fault(1), NONE);
    }
}
