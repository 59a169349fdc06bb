import java.util.function.IntBinaryOperator;
import java.util.function.IntUnaryOperator;

/** Each sentence of the promises that names a boundary or a refused call, on both of its sides. */
public final class PromiseBoundaryTest extends Checks {
    /** Numbers far beside all that a call can mean. */
    private static final int[] FAR = {LEAST, LEAST + 1, -1000, -256, 256, 1000, 65536, 1 << 30, LARGEST - 1, LARGEST};
    private static final String TONGUE = "letters abc;class A ab;pair a:b;pair a:0;rule a:b=>c_;rule a:b<=c_;stem c;stem a;end;end a;";

    private static int sentences;
    private int promise;

    public static void main(String[] args) {
        PromiseBoundaryTest test = new PromiseBoundaryTest();
        test.newObject();
        test.feed();
        test.end();
        test.text();
        test.faultOfText();
        test.use();
        test.slack();
        test.sayAndHear();
        test.found();
        test.understandAndMeant();
        test.walkAndWhere();
        test.agesAndAged();
        test.order();
        test.lives();
        test.orders();
        test.quarrel();
        test.parts();
        test.idle();
        test.fewest();
        test.example();
        test.fitsLearnForced();
        test.rule();
        test.image();
        test.look();
        System.out.println(sentences + " sentences of the promises, " + checks + " checks, " + wrong + " wrong");
        System.exit(wrong == 0 ? 0 : 1);
    }

    private void says(int number, String sentence) {
        sentences++;
        promise = number;
        about = "promise " + promise + ", \"" + sentence + "\"";
        it = new SaidShallow();
    }

    private void each(String call, IntUnaryOperator answer, int want, int... arguments) {
        for (int argument : arguments) {
            due(call + " of " + argument, answer.applyAsInt(argument), want);
        }
    }

    private void eachOfTwo(String call, IntBinaryOperator answer, int want, int[] ones, int[] others) {
        for (int one : ones) {
            for (int other : others) {
                due(call + " of " + one + ", " + other, answer.applyAsInt(one, other), want);
            }
        }
    }

    private static int truth(boolean answer) {
        return answer ? 1 : 0;
    }

    private static int[] numbers(int... some) {
        return some;
    }

    /** All that calls tell of an object, but the TAPE; asking changes nothing. */
    private String all() {
        return standing() + " found " + findings() + " fault " + it.fault(0) + " " + it.fault(1);
    }

    private String standing() {
        StringBuilder all = new StringBuilder();
        for (int what = 0; what < 60; what++) {
            all.append(it.look(what)).append(' ');
        }
        for (int k = 0; k < it.look(2); k++) {
            for (int what = 0; what < 5; what++) {
                all.append(it.rule(k, what)).append(' ');
            }
        }
        for (int set = 0; set < 1 << Math.min(it.look(2), 3); set++) {
            all.append(it.fits(set)).append(' ');
        }
        return all.toString();
    }

    private String findings() {
        StringBuilder all = new StringBuilder();
        for (int i = 0; i < 4; i++) {
            for (int k = NONE; k < 3; k++) {
                all.append(it.found(i, k)).append(' ');
            }
            all.append(it.meant(i, 0)).append(' ').append(it.meant(i, 1)).append(' ').append(it.aged(i)).append(' ');
        }
        return all.append(it.where()).toString();
    }

    /** A tongue with all that can be told and found standing. */
    private void busy() {
        fresh(TONGUE);
        it.use(1);
        it.slack(0);
        it.order(0, 1);
        example("ca:cb", true);
        example("aa:ab", false);
        say("ca");
        understand("cb");
        walk("aaab");
        ages("ca");
        due("there are words", it.found(1, NONE), 2);
        due("there are couples", it.meant(0, 0), 0);
        due("there is a place", it.where(), 1);
        due("there are letters", it.aged(1), 1);
    }

    // ---- 1 .. 5: the tape and the text

    private void newObject() {
        says(1, "An empty tongue");
        int[] first = {0, 0, 0, 0, 0, 0, 1, 0};
        for (int what = 0; what < first.length; what++) {
            due("look(" + what + ")", it.look(what), first[what]);
        }
        for (int what = 10; what < 16; what++) {
            due("look(" + what + ")", it.look(what), 0);
        }
        each("look", it::look, NONE, 8, 9, 16, 19, 20, 39, 40, 49, 50, 51);
        due("nothing is found", findings().replace("-1", "").isBlank(), true);
        due("the TAPE is empty", tapeLength(), 0);
        due("say()", it.say(), NONE);
        due("hear()", it.hear(), NONE);
        due("understand()", it.understand(), NONE);
        due("walk()", it.walk(), NONE - 1);
        due("ages()", it.ages(), NONE);
        due("example()", it.example(true), NONE);
        due("learn()", it.learn(), 0);
        each("fits", it::fits, 1, 0);
        each("fits", it::fits, NONE, 1, 255, NONE);
        each("forced", it::forced, NONE, 0, 1, NONE);
        each("fewest", it::fewest, 0, 1, 2);
        eachOfTwo("idle", it::idle, NONE, numbers(0, 1), numbers(1, 2, 3));
        eachOfTwo("quarrel", it::quarrel, NONE, numbers(0, 1), numbers(0, 1));
        eachOfTwo("orders", it::orders, 0, numbers(1, 2), numbers(0, 1));
        eachOfTwo("orders", it::orders, NONE, numbers(1, 2), numbers(10, 11));
        each("lives", n -> it.lives(0, 0, n), NONE, 1, 2, 3);
        each("lives", n -> it.lives(1, 1, n), NONE, 1, 2, 3);
    }

    private void feed() {
        says(2, "how many it has");
        for (int i = 1; i <= 30; i++) {
            due("feed", it.feed(i, i, i, i, i), 20 * i);
        }
        says(2, "NONE, and nothing comes, if there would be more than 600");
        for (int before = 575; before <= 600; before++) {
            it = new SaidShallow();
            tape(times(" ", before));
            boolean fits = before <= 580;
            due("feed behind " + before, it.feed(-1, -1, -1, -1, -1), fits ? before + 20 : NONE);
            due("the TAPE behind it", tapeLength(), fits ? before + 20 : before);
            due("its bytes", it.text(), fits ? NONE : 0);
            due("the first that came", it.fault(1), fits ? before : NONE);
            due("the TAPE is empty", tapeLength(), 0);
        }
        says(2, "of each number the highest first");
        int[] order = {0x6c657474, 0x65727320, 0x61623b20, 0x656e6420, 0x62613b0a};
        due("feed", it.feed(order[0], order[1], order[2], order[3], order[4]), 20);
        due("letters ab; end ba;", it.text(), 0);
        due("an end", it.look(40), 2);
        it.feed(0x80ffffff, LEAST, LARGEST, 0, -1);
        due("no byte is a sign", it.text(), NONE);
        due("at the first", it.fault(1), 0);
        it.feed(0x6c657474, 0x65727320, 0x61623be1, 0, 0);
        due("a byte above 127", it.text(), NONE);
        due("is no small letter", it.fault(0) * 100 + it.fault(1), 111);
        it.feed(0x6c657474, 0x65727320, 0x61623b0a, 0x20202020, 0x200a200a);
        due("behind calls that took the TAPE", it.text(), 0);
    }

    private void end() {
        says(3, "The TAPE has its first n bytes alone: true");
        tape("letters abc;letters d;;");
        due("23", it.end(23), true);
        due("22", it.end(22), true);
        due("text() of the first 22", it.text(), 0);
        due("LETTERS", it.look(0), 4);
        tape("letters abc;letters d;;");
        due("12", it.end(12), true);
        due("not 13", it.end(13), false);
        due("text() of the first 12", it.text(), 0);
        due("LETTERS", it.look(0), 3);
        tape("letters abc;");
        due("0", it.end(0), true);
        due("text() of none", it.text(), 0);
        due("LETTERS", it.look(0), 0);
        says(3, "false, changing nothing, if it has not so many, or n is below 0");
        each("end of an empty TAPE", n -> truth(it.end(n)), 0, 1, 2, 600, -1);
        each("end of an empty TAPE", n -> truth(it.end(n)), 0, FAR);
        due("0 of an empty TAPE", it.end(0), true);
        tape("letters a;letters b;letters c;");
        each("end of 30", n -> truth(it.end(n)), 0, 31, 40, 600, 601, -1, -2, -30);
        each("end of 30", n -> truth(it.end(n)), 0, FAR);
        due("30 as ever", tapeLength(), 30);
        due("feed goes on behind them", it.feed(0x656e643b, 0x656e643b, 0x656e643b, 0x656e643b, 0x656e643b), 50);
        due("as they were", it.text(), 0);
        due("LETTERS", it.look(0), 3);
        due("ends", it.look(4), 5);
        tape(times(" ", 600));
        each("end of 600", n -> truth(it.end(n)), 0, 601, 602);
        due("600", it.end(600), true);
    }

    private void text() {
        says(4, "The TAPE, empty then, is the TONGUE: how many RULES");
        for (int rules = 0; rules <= 8; rules++) {
            due("RULES", tell("letters ab;" + times("rule a:b=>_;", rules)), rules);
            due("look(2)", it.look(2), rules);
            due("all are IN USE", it.look(5), (1 << rules) - 1);
            due("the TAPE is empty", tapeLength(), 0);
        }
        due("8, then none", tell(""), 0);
        due("look(2)", it.look(2), 0);
        says(4, "(EXAMPLES are gone, what SAY and others found, too; all RULES are IN USE)");
        busy();
        due("text()", tell(TONGUE), 2);
        due("EXAMPLES", it.look(7), 0);
        due("nothing is found", findings().replace("-1", "").isBlank(), true);
        due("IN USE", it.look(5), 3);
        due("ORDER", it.look(50) * 10 + it.look(51), 1);
        due("SLACK is not told anew", it.look(6), 0);
        due("EXAMPLES begin anew", example("a:a", true), 0);
        fresh("letters ab;pair a:b;rule a:b/<=_;");
        example("a:a", true);
        example("b:b", true);
        tell("letters ab;pair a:b;rule a:b/<=_;");
        due("another first one", example("a:b", false), 0);
        due("is wrong", it.fits(0), 0);
        due("is not SAID", it.fits(1), 1);
        anew();
        says(4, "NONE: a FAULT (all stays as it was)");
        String[] bad = {"letters abc;class A a;pair a:c;rule b:c=>_;stem b;end b;@", "letters aa;", "letters abcdefghi;", "@",
            "class A a;", "letters x;rule x:x=>_;rule x:x=>_;rule x:x=>_;rule"};
        for (String one : bad) {
            busy();
            String before = standing() + findings();
            due("a FAULT", tell(one), NONE);
            due("the TAPE is empty", tapeLength(), 0);
            due("as it was", standing() + findings(), before);
        }
        due("the old LETTERS", say("ca"), 2);
        due("the old PAIRS", walk("ac"), NONE - 1);
        it = new SaidShallow();
        due("a FAULT at first", tell("letters a;@"), NONE);
        due("no LETTERS", it.look(0), 0);
    }

    /** Nothing of a text that was told earlier shines through a later one. */
    private void anew() {
        String[] texts = {
            "letters abcdefgh;class A abc;class F h;pair a:b;pair b:a;pair c:0;pair 0:d;rule a:b<=>#A*?:0 b*_a*#|#_#|b*_;"
                + "rule b:a/<=#b*_a*b*a*b*#;rule c:0<=_#;stem abcdef;stem a;end;end abc;",
            "letters ab;rule a:b=>a_;rule b:a=>_a;rule a:0=>a a_a a;stem a;end b;",
            "letters hgfab;rule a:b/<=b_;rule h:g<=_;",
            "letters ba;pair a:b;",
            ""};
        for (String first : texts) {
            for (String second : texts) {
                fresh(first);
                example("a:b", true);
                example("aa:aa", true);
                due("told anew", tell(second), tellAlone(second));
                String after = answers();
                fresh(second);
                due("as if it were the first", after, answers());
            }
        }
    }

    private int tellAlone(String text) {
        SaidShallow before = it;
        it = new SaidShallow();
        int rules = tell(text);
        it = before;
        return rules;
    }

    private String answers() {
        StringBuilder all = new StringBuilder(standing());
        for (String word : new String[] {"a", "ab", "aab", "abba", "cab", "hgf"}) {
            all.append(hear(word)).append(it.found(0, 0)).append(say(word)).append(understand(word)).append(ages(word));
            all.append(it.found(0, NONE)).append(it.found(0, 0)).append(it.found(1, 0)).append(it.meant(0, 0)).append(it.aged(0));
        }
        for (String row : new String[] {"ab", "abaa", "aaab", "bbbaaa", "aaaaa0aaaa", "c0", "0dab"}) {
            all.append(walk(row)).append(it.where());
        }
        all.append(example("a:b", false)).append(example(":b", true)).append(it.learn());
        return all.append(it.quarrel(0, 1)).append(it.parts(0, 1, 2)).append(it.orders(2, 0)).toString();
    }

    private void faultOfText() {
        says(5, "Of the latest text(): what 0 the FAULT (0 without one), 1 its place (NONE)");
        due("fault(0) ahead of all", it.fault(0), 0);
        due("fault(1) ahead of all", it.fault(1), NONE);
        String[] texts = {"@", "letters aa;", "letters a;", "letters abcdefghi;", "", "letters a"};
        int[][] told = {{1, 0}, {2, 9}, {0, NONE}, {3, 16}, {0, NONE}, {1, 9}};
        for (int i = 0; i < texts.length; i++) {
            tell(texts[i]);
            due("fault(0) of " + texts[i], it.fault(0), told[i][0]);
            due("fault(1) of " + texts[i], it.fault(1), told[i][1]);
        }
        say("a");
        walk("a");
        example("a", true);
        it.image(true);
        it.image(false);
        due("other calls leave it", it.fault(0) * 100 + it.fault(1), 109);
        says(5, "NONE for another what");
        for (String text : texts) {
            tell(text);
            each("fault", it::fault, NONE, -2, -1, 2, 3, 10);
            each("fault", it::fault, NONE, FAR);
        }
    }

    // ---- 6, 7

    private void use() {
        says(6, "IN USE is a set of RULES: true");
        for (int rules = 0; rules <= 8; rules++) {
            fresh("letters ab;" + times("rule a:b=>_;", rules));
            int most = (1 << rules) - 1;
            due("none", it.use(0), true);
            due("look(5)", it.look(5), 0);
            due("all", it.use(most), true);
            due("look(5)", it.look(5), most);
            due("the last alone", it.use(most - most / 2), true);
            due("look(5)", it.look(5), most - most / 2);
        }
        says(6, "false if one can't be");
        for (int rules = 0; rules <= 8; rules++) {
            fresh("letters ab;" + times("rule a:b=>_;", rules));
            it.use(rules > 0 ? 1 : 0);
            String before = all();
            each("use", n -> truth(it.use(n)), 0, 1 << rules, (1 << rules) + 1, -1, -2, -128);
            each("use", n -> truth(it.use(n)), 0, FAR);
            due("as it was", all(), before);
        }
    }

    private void slack() {
        says(7, "SLACK: true");
        due("0", it.slack(0), true);
        due("look(6)", it.look(6), 0);
        due("1", it.slack(1), true);
        due("look(6)", it.look(6), 1);
        says(7, "false if it can't be");
        for (int standing = 0; standing < 2; standing++) {
            it.slack(standing);
            each("slack", n -> truth(it.slack(n)), 0, -2, -1, 2, 3);
            each("slack", n -> truth(it.slack(n)), 0, FAR);
            due("as it was", it.look(6), standing);
        }
    }

    // ---- 8 .. 12: words found

    private static final String[] NO_WORDS = {"", "aaaaaaaaa", "d", "ad", "da", "A", "aA", "0", "a0", " ", "a ", " a", "a\n",
        "a:b", "?", "#", "\0", "a\0", "\u0080", "\u00e1", "`", "{", "aaaaaaaa ", "aaaaaaad"};

    private void sayAndHear() {
        says(8, "SAY the TAPE (empty then; LETTERS alone): how many words");
        fresh(TONGUE);
        due("say", say("c"), 1);
        due("the TAPE is empty", tapeLength(), 0);
        due("say of 8", say("bbbbbbbb"), 1);
        due("none left", it.say(), NONE);
        fresh("letters a;rule a:a/<=_;");
        due("no words are no NONE", say("a"), 0);
        due("none found", it.found(0, NONE), NONE);
        says(8, "NONE if it can't be (then none are kept)");
        for (String word : NO_WORDS) {
            fresh(TONGUE);
            due("say", say("ca"), 1);
            due("say of \"" + word + "\"", say(word), NONE);
            due("none are kept", it.found(0, NONE), NONE);
            due("none are kept", it.found(0, 0), NONE);
            due("the TAPE is empty", tapeLength(), 0);
            due("say", say("c"), 1);
        }
        says(8, "NONE - 1: TOO MANY");
        fresh("letters ab;pair a:b;");
        due("128", say("aaaaaaa"), 128);
        due("256", say("aaaaaaaa"), NONE - 1);
        due("none are kept", it.found(0, NONE), NONE);
        due("the TAPE is empty", tapeLength(), 0);
        due("goes on", say("a"), 2);
        says(9, "HEAR the TAPE, likewise");
        fresh(TONGUE);
        for (String word : NO_WORDS) {
            due("hear", hear("c"), 2);
            due("hear of \"" + word + "\"", hear(word), NONE);
            due("none are kept", it.found(0, NONE), NONE);
            due("none are kept", it.found(0, 0), NONE);
            due("the TAPE is empty", tapeLength(), 0);
        }
        fresh("letters ab;pair b:a;rule b:b/<=_;");
        due("no words are no NONE", hear("b"), 0);
        due("128", hear("aaaaaaa"), 128);
        due("256", hear("aaaaaaaa"), NONE - 1);
        due("none are kept", it.found(0, NONE), NONE);
        due("the TAPE is empty", tapeLength(), 0);
    }

    private void found() {
        says(10, "its letter k (0 .. 7: number of LETTERS), k NONE: how many letters");
        fresh("letters abc;pair a:b;pair b:0;");
        say("ab");
        due("words", words("abc"), "a,ab,b,bb");
        due("of the first", it.found(0, NONE), 1);
        due("its letter", it.found(0, 0), 0);
        due("of the last", it.found(3, NONE), 2);
        due("its letter", it.found(3, 1), 1);
        hear("c");
        due("of hear() now", words("abc"), "bc,c,cb");
        say("cccccccc");
        due("8", it.found(0, NONE), 8);
        due("the last letter", it.found(0, 7), 2);
        say("b");
        due("no letters", it.found(0, NONE), 0);
        says(10, "NONE if there is none such");
        fresh("letters abc;pair a:b;pair b:0;");
        say("ab");
        each("found(i, -1)", i -> it.found(i, NONE), NONE, -2, -1, 4, 5, 199, 200);
        each("found(i, -1)", i -> it.found(i, NONE), NONE, FAR);
        each("found(i, 0)", i -> it.found(i, 0), NONE, -2, -1, 4, 5, 199, 200);
        each("found(i, 0)", i -> it.found(i, 0), NONE, FAR);
        each("found(0, k)", k -> it.found(0, k), NONE, -3, -2, 1, 2, 7, 8, 9, 10);
        each("found(0, k)", k -> it.found(0, k), NONE, FAR);
        each("found(3, k)", k -> it.found(3, k), NONE, -3, -2, 2, 3, 7, 8, 9, 10);
        eachOfTwo("found", it::found, NONE, FAR, FAR);
        say("b");
        each("of a word of no letters", k -> it.found(0, k), NONE, -2, 0, 1, 7, 8);
        say("cccccccc");
        each("of a word of 8", k -> it.found(0, k), NONE, -2, 8, 9, 10);
        due("and its last", it.found(0, 7), 2);
    }

    private void understandAndMeant() {
        says(11, "UNDERSTAND the TAPE (empty then): how many couples");
        fresh(TONGUE);
        due("couples", understand("cb"), 1);
        due("the TAPE is empty", tapeLength(), 0);
        due("none", understand("bb"), 0);
        due("none are kept of the others", it.meant(0, 0), NONE);
        fresh("letters ab;" + times("stem a;", 12) + times("end;", 8));
        due("96", understand("a"), 96);
        says(11, "NONE if it can't be (then none are kept)");
        for (String word : NO_WORDS) {
            fresh(TONGUE);
            due("couples", understand("cb"), 1);
            due("understand of \"" + word + "\"", understand(word), NONE);
            due("none are kept", it.meant(0, 0), NONE);
            due("none are kept", it.meant(0, 1), NONE);
            due("the TAPE is empty", tapeLength(), 0);
        }
        says(12, "Of the i-th couple that the latest understand() found what 0 the stem, 1 the end");
        fresh("letters ab;" + times("stem a;", 12) + times("end;", 8));
        understand("a");
        due("the first", it.meant(0, 0) * 10 + it.meant(0, 1), 0);
        due("the last", it.meant(95, 0) * 10 + it.meant(95, 1), 117);
        says(12, "NONE if there is none such, or another what");
        fresh("letters ab;" + times("stem a;", 12) + times("end;", 8));
        understand("a");
        eachOfTwo("meant", it::meant, NONE, numbers(-2, -1, 96, 97), numbers(0, 1));
        eachOfTwo("meant", it::meant, NONE, FAR, numbers(0, 1));
        eachOfTwo("meant", it::meant, NONE, numbers(0, 1, 95), numbers(-2, -1, 2, 3));
        eachOfTwo("meant", it::meant, NONE, numbers(0, 1, 95), FAR);
        eachOfTwo("meant", it::meant, NONE, FAR, FAR);
        due("none of no couple", understand("b"), 0);
        eachOfTwo("meant", it::meant, NONE, numbers(-1, 0, 1, 95), numbers(0, 1));
    }

    // ---- 13 .. 17: rows and ages

    private void walkAndWhere() {
        says(13, "WALK the TAPE (empty then): the RULE; NONE if it is ALLOWED");
        fresh(TONGUE);
        due("a RULE", walk("aaab"), 0);
        due("the TAPE is empty", tapeLength(), 0);
        due("another RULE", walk("ccaa"), 1);
        due("ALLOWED", walk("ccab"), NONE);
        due("the TAPE is empty", tapeLength(), 0);
        says(13, "NONE - 1 if it can't be (no PAIRS, or what is none)");
        String[] none = {"", "a", "aaa", "ac", "aaac", "acaa", "00", "aa00", "0a", "c0", "ad", "da", "a?", "A0", "aA", "a ", "aa ",
            " aa", "aa aa", "aa  ", "a:b", "a1", "aa\0\0", "\u00e1a", times("aa", 16) + "a", times("aa", 17), times("aa", 300)};
        for (String row : none) {
            fresh(TONGUE);
            due("a RULE", walk("aaab"), 0);
            due("walk of \"" + row + "\"", walk(row), NONE - 1);
            due("no place", it.where(), NONE);
            due("the TAPE is empty", tapeLength(), 0);
        }
        says(14, "The place at which the latest walk() found that RULE not KEPT");
        fresh(TONGUE);
        for (int place = 0; place < 16; place++) {
            due("a RULE", walk(times("bb", place) + "ab" + times("bb", 15 - place)), 0);
            due("its place", it.where(), place);
        }
        says(14, "NONE if there is none");
        fresh(TONGUE);
        due("ahead of all", it.where(), NONE);
        walk("ab");
        due("a place", it.where(), 0);
        walk("aa");
        due("ALLOWED", it.where(), NONE);
        walk("ab");
        it.walk();
        due("what can't be", it.where(), NONE);
        walk("ab");
        tell("");
        due("behind text()", it.where(), NONE);
    }

    private void agesAndAged() {
        says(15, "AGES of the TAPE (empty then): how many letters it has behind all");
        fresh("letters abc;rule a:0=>_;");
        due("none", ages("a"), 0);
        due("the TAPE is empty", tapeLength(), 0);
        due("one", ages("b"), 1);
        due("4 of 8", ages("abababab"), 4);
        due("8", ages("bbbbbbbb"), 8);
        says(15, "NONE if it can't be (then none are kept)");
        for (String word : NO_WORDS) {
            fresh(TONGUE);
            due("ages", ages("ca"), 2);
            due("ages of \"" + word + "\"", ages(word), NONE);
            due("none are kept", it.aged(0), NONE);
            due("none are kept", it.aged(1), NONE);
            due("the TAPE is empty", tapeLength(), 0);
        }
        says(16, "Letter k of what the latest ages() left");
        fresh("letters abcdefgh;rule a:0=>_;");
        ages("hgfedcba");
        for (int k = 0; k < 7; k++) {
            due("letter " + k, it.aged(k), 7 - k);
        }
        ages("hhhhhhhh");
        due("letter 7", it.aged(7), 7);
        says(16, "NONE if there is none such");
        fresh("letters abcdefgh;rule a:0=>_;");
        each("ahead of all", it::aged, NONE, -1, 0, 1);
        ages("hgfedcba");
        each("aged", it::aged, NONE, -2, -1, 7, 8, 9);
        each("aged", it::aged, NONE, FAR);
        ages("hhhhhhhh");
        each("aged", it::aged, NONE, -1, 8, 9);
        ages("aaaaaaaa");
        each("aged", it::aged, NONE, -1, 0, 1, 7, 8);
        each("aged", it::aged, NONE, FAR);
    }

    private String ordered() {
        StringBuilder all = new StringBuilder();
        for (int i = 0; it.look(50 + i) != NONE; i++) {
            all.append(it.look(50 + i));
        }
        return all.toString();
    }

    private void order() {
        says(17, "RULE k stands at place i of the ORDER (what stood there stands where k was): true");
        fresh("letters a;" + times("rule a:a=>_;", 8));
        due("at first", ordered(), "01234567");
        due("the last at the first place", it.order(0, 7), true);
        due("ORDER", ordered(), "71234560");
        due("the first at the last place", it.order(7, 7), true);
        due("ORDER", ordered(), "01234567");
        due("where it stands", it.order(3, 3), true);
        due("ORDER", ordered(), "01234567");
        due("one further", it.order(4, 3), true);
        due("ORDER", ordered(), "01243567");
        due("and once more", it.order(4, 3), true);
        due("ORDER", ordered(), "01243567");
        fresh("letters a;rule a:a=>_;");
        due("the only one", it.order(0, 0), true);
        due("ORDER", ordered(), "0");
        says(17, "false if one can't be");
        for (int rules = 0; rules <= 8; rules++) {
            fresh("letters a;" + times("rule a:a=>_;", rules));
            if (rules > 1) {
                it.order(0, rules - 1);
            }
            String before = ordered();
            int[] none = {-2, -1, rules, rules + 1, 8, 9};
            int[] some = {0, Math.max(0, rules - 1)};
            IntBinaryOperator call = (i, k) -> truth(it.order(i, k));
            eachOfTwo("order", call, 0, none, some);
            eachOfTwo("order", call, 0, some, none);
            eachOfTwo("order", call, 0, FAR, some);
            eachOfTwo("order", call, 0, some, FAR);
            eachOfTwo("order", call, 0, none, none);
            due("ORDER", ordered(), before);
        }
    }

    // ---- 18 .. 23: sets of rules

    private void lives() {
        says(18, "Whether a PAIR LIVES up to n: 1 or 0");
        fresh("letters abcdefgh;pair h:0;pair 0:h;rule h:0/<=_;");
        for (int n = 1; n <= 3; n++) {
            due("a:a", it.lives(1, 1, n), 1);
            due("h:h", it.lives(8, 8, n), 1);
            due("0:h", it.lives(0, 8, n), 1);
            due("h:0", it.lives(8, 0, n), 0);
        }
        says(18, "NONE if one can't be (no PAIR; signs 0 silence, else 1 more than the LETTER's number)");
        fresh("letters ab;pair a:0;pair 0:b;");
        int[][] none = {{0, 0}, {0, 1}, {2, 0}, {1, 2}, {2, 1}, {3, 3}, {9, 9}, {1, 3}, {3, 1}, {-1, -1}, {-1, 1}, {1, -1}, {0, -1},
            {-1, 0}, {10, 1}, {1, 10}};
        for (int[] pair : none) {
            each("lives of no PAIR", n -> it.lives(pair[0], pair[1], n), NONE, 1, 2, 3);
        }
        eachOfTwo("lives of far signs", (d, s) -> it.lives(d, s, 1), NONE, FAR, numbers(-1, 0, 1, 2, 3));
        eachOfTwo("lives of far signs", (d, s) -> it.lives(d, s, 1), NONE, numbers(-1, 0, 1, 2, 3), FAR);
        eachOfTwo("lives of far signs", (d, s) -> it.lives(d, s, 1), NONE, FAR, FAR);
        int[][] some = {{1, 1}, {2, 2}, {1, 0}, {0, 2}};
        for (int[] pair : some) {
            each("lives", n -> it.lives(pair[0], pair[1], n), 1, 1, 2, 3);
            each("lives of a wrong n", n -> it.lives(pair[0], pair[1], n), NONE, -2, -1, 0, 4, 5);
            each("lives of a far n", n -> it.lives(pair[0], pair[1], n), NONE, FAR);
        }
        fresh("letters abcdefgh;");
        due("the 8th LETTER", it.lives(8, 8, 1), 1);
        due("no 9th", it.lives(9, 9, 1), NONE);
    }

    private void orders() {
        says(19, "BEST ORDER for n what 0 how many words AGREE, 1 how many there are, 10 + i the i-th RULE");
        fresh("letters ab;rule a:b<=_b;rule b:a<=#_;");
        due("how many there are", it.orders(1, 1) * 10 + it.orders(2, 1), 26);
        due("up to 1", it.orders(1, 0), 2);
        due("the first", it.orders(1, 10), 0);
        due("the second", it.orders(1, 11), 1);
        says(19, "NONE if one can't be (more than six IN USE)");
        fresh("letters ab;" + times("rule a:b=>_;", 8));
        int[] whats = {0, 1, 10, 11, 15, 16, 17};
        eachOfTwo("8 IN USE", it::orders, NONE, numbers(1, 2), whats);
        it.use(254);
        eachOfTwo("7 IN USE", it::orders, NONE, numbers(1, 2), whats);
        it.use(126);
        due("6 IN USE", it.orders(1, 1), 2);
        due("the last", it.orders(2, 15), 6);
        eachOfTwo("a wrong n", it::orders, NONE, numbers(-2, -1, 0, 3, 4), whats);
        eachOfTwo("a far n", it::orders, NONE, FAR, whats);
        says(19, "or another what");
        fresh("letters ab;" + times("rule a:b=>_;", 8));
        it.use(126);
        eachOfTwo("6 IN USE", it::orders, NONE, numbers(1, 2), numbers(-2, -1, 2, 3, 8, 9, 16, 17, 18));
        eachOfTwo("6 IN USE", it::orders, NONE, numbers(1, 2), FAR);
        eachOfTwo("6 IN USE", it::orders, NONE, FAR, FAR);
        it.use(1);
        eachOfTwo("1 IN USE", it::orders, 0, numbers(1, 2), numbers(10));
        eachOfTwo("1 IN USE", it::orders, NONE, numbers(1, 2), numbers(-1, 2, 9, 11, 12));
        it.use(0);
        eachOfTwo("none IN USE", it::orders, NONE, numbers(1, 2), numbers(-1, 2, 9, 10, 11));
        due("none IN USE", it.orders(2, 0), 6);
    }

    private void quarrel() {
        says(20, "NONE if they don't, or one can't be (the same)");
        fresh("letters abc;rule a:b<=_;rule a:c<=_;rule a:b=>_;");
        due("they do", it.quarrel(0, 1), 1);
        due("they do", it.quarrel(1, 0), 1);
        due("they don't", it.quarrel(0, 2), NONE);
        each("the same", k -> it.quarrel(k, k), NONE, 0, 1, 2, 3, -1);
        eachOfTwo("quarrel", it::quarrel, NONE, numbers(-2, -1, 3, 4, 7, 8), numbers(0, 1, 2));
        eachOfTwo("quarrel", it::quarrel, NONE, numbers(0, 1, 2), numbers(-2, -1, 3, 4, 7, 8));
        eachOfTwo("quarrel", it::quarrel, NONE, FAR, numbers(0, 1));
        eachOfTwo("quarrel", it::quarrel, NONE, numbers(0, 1), FAR);
        eachOfTwo("quarrel", it::quarrel, NONE, FAR, FAR);
        fresh("letters abc;rule a:b<=_;" + times("rule a:a=>_;", 6) + "rule a:c<=_;");
        due("the first and the 8th", it.quarrel(0, 7), 1);
        due("the 8th and the first", it.quarrel(7, 0), 1);
        due("no 9th", it.quarrel(0, 8), NONE);
        tell("letters abc;rule a:b<=_;");
        due("no more", it.quarrel(0, 7), NONE);
    }

    private void parts() {
        says(21, "as its number (by length, then in order, from 0)");
        fresh("letters ab;pair a:b;pair b:a;rule a:b/<=#_;rule b:a/<=#_#;rule a:b/<=a_#;rule b:a/<=b b_#;");
        due("a", it.parts(0, 1, 1), 0);
        due("b", it.parts(0, 2, 1), 1);
        due("aa", it.parts(0, 4, 2), 2);
        due("bbb", it.parts(0, 8, 3), 13);
        says(21, "NONE if they are SAME, or without LETTERS");
        fresh("letters ab;pair a:b;pair b:a;rule a:b/<=#_;rule b:a/<=#_#;rule a:b/<=a_#;rule b:a/<=b b_#;");
        eachOfTwo("the same", (set, n) -> it.parts(set, set, n), NONE, numbers(0, 1, 7, 15), numbers(1, 2, 3));
        due("aa is longer", it.parts(0, 4, 1), NONE);
        due("bbb is longer", it.parts(0, 8, 2), NONE);
        tell("");
        each("without LETTERS", n -> it.parts(0, 0, n), NONE, 1, 2, 3);
        says(21, "NONE - 1 if one can't be");
        each("without LETTERS", n -> it.parts(0, 0, n), NONE - 1, -1, 0, 4, 5);
        eachOfTwo("without RULES", (a, b) -> it.parts(a, b, 1), NONE - 1, numbers(1, -1, 255), numbers(0, 1));
        fresh("letters ab;pair a:b;rule a:b/<=_;rule a:b/<=#_;rule a:b=>_;");
        due("all can be", it.parts(0, 7, 3), 0);
        eachOfTwo("no such set", (a, b) -> it.parts(a, b, 1), NONE - 1, numbers(-2, -1, 8, 9, 255, 256), numbers(0, 7, 8));
        eachOfTwo("no such set", (a, b) -> it.parts(a, b, 1), NONE - 1, numbers(0, 7, 8), numbers(-2, -1, 8, 9, 255, 256));
        eachOfTwo("no such set", (a, b) -> it.parts(a, b, 1), NONE - 1, FAR, FAR);
        eachOfTwo("no such set", (a, b) -> it.parts(a, b, 1), NONE - 1, FAR, numbers(0, 7));
        eachOfTwo("no such set", (a, b) -> it.parts(a, b, 1), NONE - 1, numbers(0, 7), FAR);
        each("the same far set", set -> it.parts(set, set, 1), NONE - 1, FAR);
        each("no such n", n -> it.parts(0, 7, n), NONE - 1, -2, -1, 0, 4, 5);
        each("no such n", n -> it.parts(0, 7, n), NONE - 1, FAR);
        each("no such n, one set", n -> it.parts(7, 7, n), NONE - 1, FAR);
        fresh("letters ab;pair a:b;" + times("rule a:b/<=_;", 8));
        due("255", it.parts(255, 0, 1), 0);
        due("256", it.parts(256, 0, 1), NONE - 1);
    }

    private void idle() {
        says(22, "1 if a RULE IN USE is IDLE up to n, else 0");
        fresh("letters ab;pair a:b;rule a:b/<=a_;rule a:b/<=a a_;rule a:b/<=_b b;");
        it.use(4);
        due("up to 1", it.idle(2, 1), 1);
        due("up to 2", it.idle(2, 2), 1);
        due("up to 3", it.idle(2, 3), 0);
        it.use(3);
        each("held by the other", n -> it.idle(1, n), 1, 1, 2, 3);
        due("up to 2", it.idle(0, 2), 0);
        says(22, "NONE if one can't be");
        fresh("letters ab;pair a:b;rule a:b/<=a_;rule a:b/<=a a_;rule a:b/<=_b b;");
        it.use(5);
        due("one can", it.idle(0, 2), 0);
        eachOfTwo("no RULE", it::idle, NONE, numbers(-2, -1, 3, 4, 7, 8, 31, 32, 33), numbers(1, 2, 3));
        eachOfTwo("no RULE", it::idle, NONE, FAR, numbers(1, 2, 3));
        eachOfTwo("no such n", it::idle, NONE, numbers(0, 2), numbers(-2, -1, 0, 4, 5));
        eachOfTwo("no such n", it::idle, NONE, numbers(0, 2), FAR);
        eachOfTwo("neither", it::idle, NONE, FAR, FAR);
        each("not IN USE", n -> it.idle(1, n), NONE, 1, 2, 3);
        due("IN USE as it was", it.look(5), 5);
        fresh("letters ab;pair a:b;" + times("rule a:b/<=_;", 8));
        due("the 8th", it.idle(7, 3), 1);
        due("no 9th", it.idle(8, 3), NONE);
    }

    private void fewest() {
        says(23, "FEWEST for n; NONE if one can't be");
        fresh("letters ab;pair a:b;rule a:b/<=_;rule a:b/<=a_;");
        each("fewest", it::fewest, 1, 1, 2);
        each("fewest", it::fewest, NONE, -2, -1, 0, 3, 4);
        each("fewest", it::fewest, NONE, FAR);
        due("IN USE as it was", it.look(5), 3);
        it.use(0);
        each("of none", it::fewest, 0, 1, 2);
        each("of none", it::fewest, NONE, -1, 0, 3);
        fresh("letters ab;pair a:b;" + times("rule a:b=>_;", 7) + "rule a:b/<=_;");
        each("the 8th", it::fewest, 128, 1, 2);
    }

    // ---- 24 .. 27: examples

    private void example() {
        says(24, "An EXAMPLE by the TAPE (empty then): the deep word, a :, the said word: its number");
        fresh(TONGUE);
        due("the first", example("a:b", true), 0);
        due("the TAPE is empty", tapeLength(), 0);
        due("the second", example("abcabcab:cbacbacb", false), 1);
        due("the third", example(":a", true), 2);
        due("the fourth", example("a:", true), 3);
        due("the first once more", example("a:b", true), 4);
        due("and wrong as well", example("a:b", false), 5);
        due("look(7)", it.look(7), 6);
        says(24, "NONE if it can't be");
        String[] none = {"", ":", "a", "ab", "abcabcab", "::", "a::", "::a", "a:b:", ":a:b", "a:b:c", "aaaaaaaaa:a", "a:aaaaaaaaa",
            "aaaaaaaaa:", ":aaaaaaaaa", "aaaaaaaaa:aaaaaaaaa", "d:a", "a:d", "ad:a", "a:da", "A:a", "a:A", "0:a", "a:0", " a:a", "a :a",
            "a: a", "a:a ", "a:a\n", "a;a", "a:?", "a\0:a", "a:a\0", "\u00e1:a", times("a", 300) + ":" + times("a", 299)};
        for (String couple : none) {
            fresh(TONGUE);
            example("ca:cb", true);
            String before = standing();
            due("right \"" + couple + "\"", example(couple, true), NONE);
            due("the TAPE is empty", tapeLength(), 0);
            due("wrong \"" + couple + "\"", example(couple, false), NONE);
            due("the TAPE is empty", tapeLength(), 0);
            due("as it was", standing(), before);
        }
        says(24, "or there are twelve");
        fresh(TONGUE);
        for (int i = 0; i < 12; i++) {
            due("number", example("ca:cb", true), i);
        }
        String before = all();
        due("a right one", example("a:b", true), NONE);
        due("the TAPE is empty", tapeLength(), 0);
        due("a wrong one", example("a:a", false), NONE);
        due("what can't be", example(":", true), NONE);
        due("as it was", all(), before);
        tell(TONGUE);
        due("behind text() there are none", example("ca:cb", true), 0);
    }

    private void fitsLearnForced() {
        says(25, "Whether a set of RULES FITS: 1 or 0; NONE if it can't be");
        fresh("letters abc;pair a:b;rule a:b/<=_;rule a:b/<=c_;rule a:b=>c_;");
        each("without EXAMPLES", it::fits, 1, 0, 1, 2, 3, 4, 5, 6, 7);
        each("no set", it::fits, NONE, -2, -1, 8, 9, 255, 256);
        each("no set", it::fits, NONE, FAR);
        example("a:b", false);
        each("it fits", it::fits, 1, 1, 3, 4, 5, 6, 7);
        each("it doesn't", it::fits, 0, 0, 2);
        each("no set", it::fits, NONE, -1, 8);
        fresh("letters ab;" + times("rule a:b/<=_;", 8));
        due("255", it.fits(255), 1);
        due("256", it.fits(256), NONE);
        says(26, "LEARN; NONE if none fits");
        fresh("letters abc;pair a:b;rule a:b/<=_;rule a:b/<=c_;rule a:b=>c_;");
        due("without EXAMPLES", it.learn(), 0);
        example("a:b", false);
        due("one", it.learn(), 1);
        example("ca:cb", true);
        due("another", it.learn(), 4);
        example("c:b", true);
        due("no PAIR makes it", it.learn(), NONE);
        fresh("letters abc;" + times("rule a:b=>_;", 7) + "rule a:b/<=_;");
        example("a:b", false);
        due("the 8th", it.learn(), 128);
        fresh("letters abc;");
        example("a:b", true);
        due("without RULES", it.learn(), NONE);
        fresh("letters abc;");
        example("a:b", false);
        due("without RULES", it.learn(), 0);
        says(27, "NONE if it is not of it, or none fits");
        fresh("letters abc;pair a:b;rule a:b/<=_;rule a:b/<=c_;rule a:b=>c_;");
        each("of none", it::forced, NONE, -1, 0, 1, 2, 3);
        example("ca:cb", true);
        example("a:b", false);
        due("of it", it.forced(2), 1);
        each("not of it", it::forced, NONE, -2, -1, 0, 1, 3, 4, 8, 31, 32, 34);
        each("not of it", it::forced, NONE, FAR);
        example("c:b", true);
        each("none fits", it::forced, NONE, -1, 0, 1, 2, 3);
        fresh("letters abc;" + times("rule a:b=>_;", 7) + "rule a:b/<=_;");
        for (int i = 0; i < 11; i++) {
            example("a:a", true);
        }
        example("a:b", false);
        due("the 8th by the 12th", it.forced(7), 11);
        due("no 9th", it.forced(8), NONE);
    }

    // ---- 28 .. 30

    private void rule() {
        says(28, "3 how many CONTEXTS, 4 1 if it is IN USE, else 0");
        fresh("letters abcdefgh;rule a:h=>_;rule h:a<=_|_;rule h:0<=>_|_|_;rule 0:h/<=_;");
        it.use(10);
        int[][] told = {{1, 8, 0, 1, 0}, {8, 1, 1, 2, 1}, {8, 0, 2, 3, 0}, {0, 8, 3, 1, 1}};
        for (int k = 0; k < 4; k++) {
            for (int what = 0; what < 5; what++) {
                due("rule(" + k + ", " + what + ")", it.rule(k, what), told[k][what]);
            }
        }
        says(28, "NONE if there is none such, or another what");
        fresh("letters abcdefgh;rule a:h=>_;rule h:a<=_|_;rule h:0<=>_|_|_;rule 0:h/<=_;");
        int[] whats = {0, 1, 2, 3, 4};
        eachOfTwo("none such", it::rule, NONE, numbers(-2, -1, 4, 5, 7, 8), whats);
        eachOfTwo("none such", it::rule, NONE, FAR, whats);
        eachOfTwo("another what", it::rule, NONE, numbers(0, 3), numbers(-2, -1, 5, 6, 10));
        eachOfTwo("another what", it::rule, NONE, numbers(0, 3), FAR);
        eachOfTwo("neither", it::rule, NONE, FAR, FAR);
        fresh("letters ab;" + times("rule a:b=>_;", 8));
        due("the 8th", it.rule(7, 1), 2);
        due("no 9th", it.rule(8, 1), NONE);
        tell("letters ab;rule a:b=>_;");
        due("no second", it.rule(1, 1), NONE);
    }

    private void image() {
        says(29, "THE IMAGE is taken (true), or gone back to (false): true; false if there is none");
        due("none at first", it.image(false), false);
        busy();
        String before = all();
        due("none", it.image(false), false);
        due("as it was", all(), before);
        busy();
        due("taken", it.image(true), true);
        due("as it was", all(), before);
        due("gone back to at once", it.image(false), true);
        due("as it was", all(), before);
        busy();
        String standing = standing();
        it.image(true);
        tell("letters x;stem x;");
        due("gone back to", it.image(false), true);
        due("as it was", standing(), standing);
        due("a FAULT", tell("@"), NONE);
        due("gone back to", it.image(false), true);
        due("as it was", standing(), standing);
        it = new SaidShallow();
        due("an empty one taken", it.image(true), true);
        tell(TONGUE);
        it.slack(0);
        due("gone back to", it.image(false), true);
        due("no LETTERS", it.look(0), 0);
        due("no RULES", it.look(2), 0);
        due("IN USE", it.look(5), 0);
        due("SLACK", it.look(6), 1);
        due("no word", say("a"), NONE);
    }

    private void look() {
        says(30, "What 0 LETTERS, 1 PAIRS, 2 RULES, 3 stems, 4 ends, 5 IN USE, 6 SLACK, 7 EXAMPLES");
        fresh("letters abcdefgh;pair a:b;" + times("rule a:c=>_;", 8) + times("stem a;", 12) + times("end a;", 8));
        it.use(129);
        it.slack(0);
        for (int i = 0; i < 12; i++) {
            example("a:b", true);
        }
        int[] told = {8, 10, 8, 12, 8, 129, 0, 12};
        for (int what = 0; what < told.length; what++) {
            due("look(" + what + ")", it.look(what), told[what]);
        }
        says(30, "10 + k how many LETTERS CLASS k has (0 .. 5 for A .. F; 0 if it is not told)");
        fresh("letters abcdefgh;class A abcdefgh;class B a;class F bc;class F aab;");
        int[] classes = {8, 1, 0, 0, 0, 2};
        for (int k = 0; k < 6; k++) {
            due("CLASS " + k, it.look(10 + k), classes[k]);
        }
        each("beside them", it::look, NONE, 8, 9, 16, 17, 18, 19);
        tell("letters a;class B a;");
        due("not told any more", it.look(10), 0);
        due("told", it.look(11), 1);
        says(30, "20 + i letters of stem i, 40 + i of end i, 50 + i the RULE at place i of the ORDER");
        fresh("letters a;" + times("rule a:a=>_;", 8) + "stem a;" + times("stem aaa;", 10) + "stem aaaaaa;end;"
            + times("end aa;", 6) + "end aaaaaa;");
        due("the first stem", it.look(20), 1);
        due("the 12th", it.look(31), 6);
        due("the first end", it.look(40), 0);
        due("the 8th", it.look(47), 6);
        due("the first place", it.look(50), 0);
        due("the 8th", it.look(57), 7);
        says(30, "NONE for another what (no such stem, end, place)");
        fresh("letters a;" + times("rule a:a=>_;", 8) + times("stem a;", 12) + times("end a;", 8));
        each("full", it::look, NONE, -2, -1, 8, 9, 16, 17, 18, 19, 32, 33, 38, 39, 48, 49, 58, 59, 60, 70, 100);
        each("full", it::look, NONE, FAR);
        fresh("letters a;rule a:a=>_;stem a;end a;");
        each("one of each", it::look, NONE, 21, 22, 31, 32, 41, 42, 47, 48, 51, 52, 57, 58);
        fresh("letters a;");
        each("none of each", it::look, NONE, 20, 21, 31, 40, 41, 47, 50, 51, 57);
    }
}
