import java.util.ArrayList;
import java.util.Arrays;
import java.util.List;
import java.util.TreeMap;
import java.util.TreeSet;

/** Each sentence of the document's Terms that names a boundary, on both of its sides. */
public final class TermsBoundaryTest extends Checks {
    private static int sentences;

    public static void main(String[] args) {
        TermsBoundaryTest test = new TermsBoundaryTest();
        test.statements();
        test.signsAndBlanks();
        test.lettersAndClasses();
        test.pairs();
        test.whichFaultIsFirst();
        test.faultsOfOneAndTwo();
        test.limits();
        test.items();
        test.contexts();
        test.rulesAreKept();
        test.slackOfSaid();
        test.saidByAllowedRows();
        test.wordsFound();
        test.understandAndWalk();
        test.agesOfWords();
        test.quarrels();
        test.sameUpTo();
        test.livesUpTo();
        test.bestOrders();
        test.examples();
        test.theImage();
        System.out.println(sentences + " sentences of the terms, " + checks + " checks, " + wrong + " wrong");
        System.exit(wrong == 0 ? 0 : 1);
    }

    /** The sentence that the checks from here on hold to its word. */
    private void says(String sentence) {
        sentences++;
        about = "\"" + sentence + "\"";
        it = new SaidShallow();
    }

    // ---- part 1: the text

    private void statements() {
        says("A TONGUE is a TEXT (empty at first) = {STATEMENT ;}");
        due("LETTERS at first", it.look(0), 0);
        due("RULES at first", it.look(2), 0);
        sound("", 0);
        sound("letters a;", 0);
        sound("letters a;letters b;", 0);
        fault("letters a", 1, 9);
        fault("letters a letters b;", 2, 13);
        fault(";", 1, 0);
        fault("letters a;;", 1, 10);
        fault("letters a;b;", 1, 10);
        fault("0;", 1, 0);

        says("letters L {L}");
        fault("letters;", 1, 7);
        fault("letters", 1, 7);
        fault("letters 0;", 1, 8);
        fault("letters a 0;", 1, 10);
        sound("letters a;", 0);
        due("one", it.look(0), 1);
        sound("letters ab;", 0);
        due("two", it.look(0), 2);

        says("class G L {L}");
        fault("letters a;class", 1, 15);
        fault("letters a;class;", 1, 15);
        fault("letters a;class A", 1, 17);
        fault("letters a;class A;", 1, 17);
        fault("letters a;class A B;", 1, 18);
        fault("letters a;class A ?;", 1, 18);
        fault("letters a;class A a B;", 1, 20);
        sound("letters ab;class A a;", 0);
        due("one", it.look(10), 1);
        sound("letters ab;class A b a;", 0);
        due("two", it.look(10), 2);

        says("P = S : S.  S = L | 0");
        fault("letters ab;pair", 1, 15);
        fault("letters ab;pair;", 1, 15);
        fault("letters ab;pair a;", 1, 17);
        fault("letters ab;pair a:;", 1, 18);
        fault("letters ab;pair :a;", 1, 16);
        fault("letters ab;pair a::b;", 1, 18);
        fault("letters ab;pair a:b b;", 1, 20);
        fault("letters ab;class A a;pair A:a;", 1, 26);
        fault("letters ab;class A a;pair a:A;", 1, 28);
        fault("letters ab;pair ?:a;", 1, 16);
        fault("letters ab;pair a:?;", 1, 18);
        fault("letters ab;pair a:b*;", 1, 19);
        sound("letters ab;pair a:b;pair a:0;pair 0:a;", 0);
        due("PAIRS", it.look(1), 5);

        says("rule P OP CONTEXT {| CONTEXT}");
        fault("letters a;rule", 1, 14);
        fault("letters a;rule;", 1, 14);
        fault("letters a;rule a:a;", 1, 18);
        fault("letters a;rule a:a_;", 1, 18);
        fault("letters a;rule a:a=>;", 1, 20);
        fault("letters a;rule a:a=>_|;", 1, 22);
        fault("letters a;rule a:a=>_||_;", 1, 22);
        fault("letters a;rule a:a=>|_;", 1, 20);
        fault("letters a;rule a:a=>_ =>_;", 1, 22);
        sound("letters a;rule a:a=>_;", 1);
        due("one CONTEXT", it.rule(0, 3), 1);
        sound("letters a;rule a:a=>_|_;", 1);
        due("two", it.rule(0, 3), 2);

        says("stem L {L} | end {L}");
        fault("letters a;stem;", 1, 14);
        fault("letters a;stem", 1, 14);
        fault("letters a;stem 0;", 1, 15);
        fault("letters a;end", 1, 13);
        fault("letters a;end 0;", 1, 14);
        sound("letters a;stem a;end;", 0);
        due("a stem of one", it.look(20), 1);
        due("an end of none", it.look(40), 0);
        sound("letters a;stem aa;end a;", 0);
        due("a stem of two", it.look(20), 2);
        due("an end of one", it.look(40), 1);

        says("CONTEXT = [#] {ITEM} _ {ITEM} [#]");
        String rule = "letters ab;rule a:b=>";
        int at = rule.length();
        for (String whole : List.of("_", "#_", "_#", "#_#", "a_", "_a", "#a_", "_a#", "#ab_ba#")) {
            sound(rule + whole + ";", 1);
        }
        fault(rule + "a;", 1, at + 1);
        fault(rule + "#;", 1, at + 1);
        fault(rule + "##_;", 1, at + 1);
        fault(rule + "a#_;", 1, at + 1);
        fault(rule + "__;", 1, at + 1);
        fault(rule + "_#a;", 1, at + 2);
        fault(rule + "_##;", 1, at + 2);
        fault(rule + "_a_;", 1, at + 2);
        fault(rule + "_", 1, at + 1);
        fault(rule + "_#", 1, at + 2);

        says("ITEM = X [: X] [*].  X = L | G | 0 | ?");
        for (String item : List.of("a", "a*", "a:b", "a:b*", "0", "0*", "?", "?*", "?:0", "0:?", "A", "A*", "A:0*", "?:A")) {
            sound("letters ab;class A a;rule a:b=>" + item + "_;", 1);
            sound("letters ab;class A a;rule a:b=>_" + item + ";", 1);
        }
        fault(rule + "*_;", 1, at);
        fault(rule + ":a_;", 1, at);
        fault(rule + "a**_;", 1, at + 2);
        fault(rule + "a:*_;", 1, at + 2);
        fault(rule + "a:_;", 1, at + 2);
        fault(rule + "a::b_;", 1, at + 2);
        fault(rule + "a:b:a_;", 1, at + 3);
        fault(rule + "a*:b_;", 1, at + 2);
        fault(rule + "a:#_;", 1, at + 2);
        fault(rule + "a:_b;", 1, at + 2);
        fault(rule + "_a:;", 1, at + 3);
    }

    private static final String[][] KEYWORDS = {{"letters", " c;"}, {"class", " B b;"}, {"pair", " a:b;"},
        {"rule", " a:b=>_;"}, {"stem", " a;"}, {"end", " a;"}};

    private void signsAndBlanks() {
        says("KEYWORDS (letters, class, pair, rule, stem, end) are as many small letters as stand together");
        String ahead = "letters ab;class A a;";
        int at = ahead.length();
        for (String[] keyword : KEYWORDS) {
            String name = keyword[0];
            sound(ahead + name + keyword[1], name.equals("rule") ? 1 : 0);
            fault(ahead + name.substring(0, name.length() - 1) + keyword[1], 1, at);
            fault(ahead + name.substring(1) + keyword[1], 1, at);
            fault(ahead + name + "s" + keyword[1], 1, at);
            fault(ahead + "s" + name + keyword[1], 1, at);
            fault(ahead + name + name + keyword[1], 1, at);
            fault(ahead + name.substring(0, 1).toUpperCase() + name.substring(1) + keyword[1], 1, at);
            for (int i = 0; i < name.length(); i++) {
                fault(ahead + name.substring(0, i) + "z" + name.substring(i + 1) + keyword[1], 1, at);
            }
            fault(ahead + " \n" + name + "x" + keyword[1], 1, at + 2);
        }
        fault("lettersa;", 1, 0);
        fault(ahead + "enda;", 1, at);
        fault(ahead + "stema;", 1, at);
        fault(ahead + "paira:b;", 1, at);
        sound(ahead + "pair0:b;", 0);
        sound(ahead + "rule0:b=>_;", 1);
        sound(ahead + "classB a;", 0);
        sound(ahead + "end;", 0);

        says("where a STATEMENT begins; what is behind is read sign by sign");
        sound("letters stem;stem stem;", 0);
        due("a stem of s, t, e, m", it.look(20), 4);
        sound("letters end;end end;", 0);
        due("an end of e, n, d", it.look(40), 3);
        sound("letters pair;class A pair;stem pair;end pair;", 0);
        due("a CLASS of p, a, i, r", it.look(10), 4);

        says("L a small letter");
        sound("letters az;stem za;", 0);
        due("a and z", it.look(0), 2);
        fault("letters `;", 1, 8);
        fault("letters {;", 1, 8);
        fault("letters a`;", 1, 9);
        fault("letters z{;", 1, 9);
        fault("letters Z;", 1, 8);
        fault("letters 1;", 1, 8);
        fault("letters a;end" + (char) 225 + ";", 1, 13);

        says("G a great letter A .. F");
        sound("letters ab;class A a;class F ab;rule a:b=>A F_;", 1);
        due("A", it.look(10), 1);
        due("F", it.look(15), 2);
        fault("letters a;class @ a;", 1, 16);
        fault("letters a;class G a;", 1, 16);
        fault("letters a;class Z a;", 1, 16);
        fault("letters a;rule a:a=>@_;", 1, 20);
        fault("letters a;rule a:a=>G_;", 1, 20);
        fault("letters a;rule a:a=>a:G_;", 1, 22);

        says("the OPS (each as long as it can be)");
        ops();

        says("Blanks (32, 10) may stand between all of these");
        blanksBetweenAll();

        says("not within a KEYWORD or an OP");
        for (String[] keyword : KEYWORDS) {
            for (int cut = 1; cut < keyword[0].length(); cut++) {
                String broken = keyword[0].substring(0, cut) + " " + keyword[0].substring(cut);
                fault(ahead + broken + keyword[1], 1, at);
            }
        }
        String rule = "letters ab;rule a:b";
        at = rule.length();
        for (String blank : List.of(" ", "\n")) {
            fault(rule + "=" + blank + ">_;", 1, at);
            fault(rule + "<" + blank + "=_;", 1, at);
            fault(rule + "<" + blank + "=>_;", 1, at);
            fault(rule + "<=" + blank + ">_;", 1, at + 3);
            fault(rule + "/" + blank + "<=_;", 1, at);
            fault(rule + "/<" + blank + "=_;", 1, at);
        }
    }

    private void ops() {
        String rule = "letters ab;rule a:b";
        int at = rule.length();
        String[] ops = {"=>", "<=", "<=>", "/<="};
        for (int op = 0; op < ops.length; op++) {
            sound(rule + ops[op] + "_;", 1);
            due(ops[op], it.rule(0, 2), op);
            sound(rule + "  " + ops[op] + "  _;", 1);
            due(ops[op], it.rule(0, 2), op);
            fault(rule + ops[op], 1, at + ops[op].length());
            fault(rule + ops[op].substring(0, ops[op].length() - 1), 1,
                ops[op].equals("<=>") ? at + 2 : at);
        }
        fault(rule + "<=>>_;", 1, at + 3);
        fault(rule + "<==>_;", 1, at + 2);
        fault(rule + "=>>_;", 1, at + 2);
        fault(rule + "=><=_;", 1, at + 2);
        fault(rule + "/<=>_;", 1, at + 3);
        fault(rule + "//<=_;", 1, at);
        fault(rule + "/=>_;", 1, at);
        fault(rule + "/_;", 1, at);
        fault(rule + ">=_;", 1, at);
        fault(rule + "=_;", 1, at);
    }

    private static final List<String> TOLD = List.of("letters", "a", "b", ";", "class", "A", "a", "b", ";", "pair", "a",
        ":", "0", ";", "rule", "a", ":", "b", "<=>", "#", "A", ":", "?", "*", "b", "*", "_", "0", ":", "?", "a", "#", "|",
        "_", ";", "rule", "b", ":", "a", "/<=", "_", ";", "stem", "a", "b", ";", "end", ";", "end", "b", ";");

    private void blanksBetweenAll() {
        String close = joined(-1, "");
        sound(close, 2);
        String told = lookAll();
        for (String blank : List.of(" ", "\n", "  ", " \n", "\n\n ")) {
            for (int gap = 0; gap <= TOLD.size(); gap++) {
                sound(joined(gap, blank), 2);
                due("with a blank at gap " + gap, lookAll(), told);
            }
        }
        for (int sign : new int[] {0, 1, 9, 11, 12, 13, 31, 33, 127, 160, 255}) {
            for (int gap = 0; gap <= TOLD.size(); gap++) {
                String bad = joined(gap, String.valueOf((char) sign));
                fault(bad, 1, bad.indexOf(sign));
            }
        }
    }

    /** The signs told close together but for one gap; a KEYWORD has a blank behind it if it must. */
    private static String joined(int gap, String there) {
        StringBuilder text = new StringBuilder();
        for (int i = 0; i < TOLD.size(); i++) {
            text.append(i == gap ? there : "").append(TOLD.get(i));
            boolean isKeyword = TOLD.get(i).length() > 2 && Character.isLetter(TOLD.get(i).charAt(0));
            boolean isSmall = i + 1 < TOLD.size() && Character.isLowerCase(TOLD.get(i + 1).charAt(0));
            text.append(isKeyword && isSmall && i + 1 != gap ? " " : "");
        }
        return text.append(gap == TOLD.size() ? there : "").toString();
    }

    private String lookAll() {
        StringBuilder all = new StringBuilder();
        for (int what = 0; what < 60; what++) {
            all.append(it.look(what)).append(' ');
        }
        for (int k = 0; k < 8; k++) {
            for (int what = 0; what < 5; what++) {
                all.append(it.rule(k, what)).append(' ');
            }
        }
        return all.append(walk("aaab")).append(walk("abaaab")).append(walk("ab")).toString();
    }

    private void lettersAndClasses() {
        says("LETTERS: those that \"letters\" told, 8 at most, in their order");
        sound("letters abcdefgh;", 0);
        due("8", it.look(0), 8);
        sound("letters abcd;letters efgh;", 0);
        due("8", it.look(0), 8);
        fault("letters abcdefghi;", 3, 16);
        fault("letters abcd;letters efghi;", 3, 25);
        fresh("letters ba;letters c;");
        say("cab");
        due("c, the last", it.found(0, 0), 2);
        due("a", it.found(0, 1), 1);
        due("b, the first", it.found(0, 2), 0);

        says("G: a CLASS of LETTERS (as it was told last ahead; told anew it is what is told then");
        fresh("letters abc;class A ab;class A c;rule a:b/<=A_;");
        due("it has c alone", it.look(10), 1);
        due("a is of it no more", walk("aaab"), NONE);
        due("c is", walk("ccab"), 0);
        fresh("letters abc;class A a;class A abc;class B b;");
        due("A", it.look(10), 3);
        due("B", it.look(11), 1);
        due("C is not told", it.look(12), 0);

        says("RULES keep it as it was)");
        fresh("letters abc;class A a;rule a:b/<=A_;class A c;rule a:c/<=A_;");
        due("the first by a", walk("aaab"), 0);
        due("the first not by c", walk("ccab"), NONE);
        due("the second by c", walk("ccac"), 1);
        due("the second not by a", walk("aaac"), NONE);
    }

    private void pairs() {
        says("PAIRS: each LETTER with itself; those told by \"pair\" and as P of a RULE (each once)");
        sound("letters abc;", 0);
        due("with themselves", it.look(1), 3);
        sound("letters abc;pair a:a;pair b:b;rule c:c=>_;", 1);
        due("no more", it.look(1), 3);
        sound("letters abc;pair a:b;pair a:b;rule a:b=>_;rule a:b<=_;", 2);
        due("one more", it.look(1), 4);
        sound("letters abc;rule a:b=>_;pair a:b;pair b:a;", 1);
        due("two more", it.look(1), 5);
        sound("letters a;pair a:0;letters b;", 0);
        due("LETTERS told later", it.look(1), 3);
        due("an ITEM tells no PAIR", tell("letters ab;rule a:a=>a:b _ b:0;"), 1);
        due("PAIRS", it.look(1), 2);
        due("no PAIR", walk("ab"), NONE - 1);
        due("a PAIR", walk("bb"), NONE);

        says("0 is silence");
        fresh("letters ab;pair a:0;pair 0:b;");
        say("a");
        due("words", words("ab"), ",a,ab,ba");
        hear("b");
        due("words", words("ab"), ",ab,b,ba");
    }

    private static final String TWELVE = "letters abcdefgh;pair a:b;pair a:c;pair a:d;pair b:a;pair b:c;pair b:d;"
        + "pair c:a;pair c:b;pair c:d;pair d:a;pair d:b;pair d:c;";

    private void whichFaultIsFirst() {
        says("FAULTS, the first by its place");
        fault("letters a;pair a:b;@", 2, 17);
        fault("letters a;@pair a:b;", 1, 10);
        fault("letters aa;pair a:b", 2, 9);
        fault("letters abcdefghi;letters aa;", 3, 16);
        fault("letters aabcdefghi;", 2, 9);
        fault(TWELVE + "rule 0:e<=_;", 3, TWELVE.length() + 5);
        fault(TWELVE + "rule e:0 x_;", 3, TWELVE.length() + 5);
        fault(TWELVE + "pair e:z;", 2, TWELVE.length() + 7);
        fault(TWELVE + "pair e;", 1, TWELVE.length() + 6);
        fault("letters a;rule 0:a<=z_;", 2, 18);
        fault("letters a;rule 0:a=>z_;", 2, 20);
        String eight = "letters a;" + times("rule a:a=>_;", 8);
        fault(eight + "rule z:a=>_;", 3, eight.length());
        fault(eight + "pair z:a;rule a:a=>_;", 2, eight.length() + 5);
        fault("letters a;rule a:a=>z_|_|_|_;", 2, 20);
        fault("letters a;rule a:a=>_|_|_|z_;", 3, 25);
        fault("letters a;rule a:a=>_|_|z_|_;", 2, 24);
        fault("letters a;rule a:a=>aaaaaa:z_;", 3, 25);
        fault("letters a;rule a:a=>aaaaa:za_;", 2, 26);
        fault("letters a;stem aaaaaaaz;", 3, 21);
        fault("letters a;stem aaaaaz;", 2, 20);

        says("at one place the least");
        fault("letters abcdefgha;", 2, 16);
        fault("letters abcdefghh;", 2, 16);
        fault("letters abcdefgh;letters a;", 2, 25);
        fault("letters abcdefgh;letters i;", 3, 25);
        fault(TWELVE + "pair 0:0;", 2, TWELVE.length() + 5);
        fault(TWELVE + "rule 0:0=>_;", 2, TWELVE.length() + 5);
        fault(TWELVE + "pair z:a;", 2, TWELVE.length() + 5);
        fault("letters a;rule a:a=>aaaaaz_;", 2, 25);
        fault("letters a;rule a:a=>aaaaaA_;", 2, 25);
        fault("letters a;rule a:a=>aaaaa0:0_;", 2, 25);
        fault("letters a;rule a:a=>_aaaaaz;", 2, 26);
        fault("letters a;stem aaaaaaz;", 2, 21);
        fault("letters a;end aaaaaaz;", 2, 20);

        says("1 what can't stand there (the end: the text's length)");
        fault("letters", 1, 7);
        fault("letters ", 1, 8);
        fault("letters a\n\n", 1, 11);
        fault("letters a;class", 1, 15);
        fault("letters a;class A a ", 1, 20);
        fault("letters a;pair a", 1, 16);
        fault("letters a;pair a :", 1, 18);
        fault("letters a;pair a:a ", 1, 19);
        fault("letters a;rule a:a\n", 1, 19);
        fault("letters a;rule a:a=> ", 1, 21);
        fault("letters a;rule a:a=>#", 1, 21);
        fault("letters a;rule a:a=>a:", 1, 22);
        fault("letters a;rule a:a=>_a* ", 1, 24);
        fault("letters a;rule a:a=>_#|", 1, 23);
        fault("letters a;stem ", 1, 15);
        fault("letters a;end ", 1, 14);
        fault("letters a;en", 1, 10);
        String full = "letters a;" + times(" ", 589);
        sound(full, 0);
        fault(full + ";", 1, 599);
        fault("letters a" + times("\n", 591), 1, 600);
        sound("letters a" + times("\n", 590) + ";", 0);
        whatStoodBehindTheEnd();
    }

    /** A text that is cut off in the midst of what an earlier, longer one had there. */
    private void whatStoodBehindTheEnd() {
        String whole = "letters ab;class A a;pair a:0;rule a:b/<=#a:b*_b#|_;stem ab;end b;";
        for (int length = 0; length < whole.length(); length++) {
            fresh(whole);
            int after = tell(whole.substring(0, length));
            String faults = it.fault(0) + " at " + it.fault(1);
            it = new SaidShallow();
            due("text() of the first " + length, after, tell(whole.substring(0, length)));
            due("its FAULT", faults, it.fault(0) + " at " + it.fault(1));
        }
        fresh(whole);
        due("a KEYWORD cut off", tell("letters ab;class A a;pair a:0;rul"), NONE);
        due("at its first sign", it.fault(1), 30);
        fresh(whole);
        due("an OP cut off", tell("letters ab;class A a;pair a:0;rule a:b/<"), NONE);
        due("at its first sign", it.fault(1), 38);
    }

    private void faultsOfOneAndTwo() {
        says("2 (at it) a small letter that is no LETTER yet");
        String[] holders = {"class A %;", "pair %:a;", "pair a:%;", "pair 0:%;", "rule %:a=>_;", "rule a:%=>_;",
            "rule a:a=>%_;", "rule a:a=>_%;", "rule a:a=>%:a_;", "rule a:a=>a:%_;", "rule a:a=>_?:%;", "rule a:a=>_|_%;",
            "stem %;", "stem a%;", "end %;", "end a%;"};
        for (String holder : holders) {
            String ahead = "letters a;" + holder;
            fault(ahead.replace('%', 'b'), 2, ahead.indexOf('%'));
            fault(ahead.replace('%', 'b') + "letters b;", 2, ahead.indexOf('%'));
            sound("letters b;" + ahead.replace('%', 'b'), holder.startsWith("rule") ? 1 : 0);
        }

        says("(in \"letters\": that is one already)");
        fault("letters aa;", 2, 9);
        fault("letters a;letters a;", 2, 18);
        fault("letters ab;letters cb;", 2, 20);
        sound("letters a;letters b;", 0);
        sound("letters ab;class A aab;stem aa;end aa;", 0);

        says("a G that is not told yet");
        for (String holder : List.of("A_", "_A", "A:a_", "a:A_", "_|A*_")) {
            String rule = "rule a:a=>" + holder + ";";
            fault("letters a;" + rule, 2, 10 + rule.indexOf('A'));
            fault("letters a;" + rule + "class A a;", 2, 10 + rule.indexOf('A'));
            fault("letters a;class B a;" + rule, 2, 20 + rule.indexOf('A'));
            sound("letters a;class A a;" + rule, 1);
        }

        says("0 : 0 (at its first 0)");
        fault("letters a;pair 0:0;", 2, 15);
        fault("letters a;pair  0 : 0;", 2, 16);
        fault("letters a;rule 0:0=>_;", 2, 15);
        fault("letters a;rule 0\n:\n0/<=_;", 2, 15);
        fault("letters a;rule a:a=>0:0_;", 2, 20);
        fault("letters a;rule a:a=>_a 0:0*;", 2, 23);
        sound("letters a;pair a:0;pair 0:a;rule a:0=>_;rule 0:a=>_;", 2);
        sound("letters a;rule a:a=>0:a a:0 0:? ?:0 _;", 1);

        says("an OP <= or <=> with P's deep S 0");
        fault("letters a;rule 0:a<=_;", 2, 18);
        fault("letters a;rule 0:a<=>_;", 2, 18);
        fault("letters a;rule 0:a  <= ;", 2, 20);
        sound("letters a;rule 0:a=>_;", 1);
        sound("letters a;rule 0:a/<=_;", 1);
        sound("letters a;rule a:0<=_;rule a:0<=>_;", 2);
    }

    private void limits() {
        says("3 (at it) the 9th LETTER");
        sound("letters a b c d e f g h;", 0);
        fault("letters a b c d e f g h i;", 3, 24);
        fault("letters abcdefgh;stem h;letters z;", 3, 32);

        says("a PAIR that would be the 13th besides those of LETTERS with themselves");
        sound(TWELVE, 0);
        due("20 PAIRS", it.look(1), 20);
        sound(TWELVE + "pair a:a;pair e:e;pair a:b;rule d:c=>_;rule h:h=>_;", 2);
        due("20 PAIRS", it.look(1), 20);
        fault(TWELVE + "pair e:f;", 3, TWELVE.length() + 5);
        fault(TWELVE + "pair\n e:0;", 3, TWELVE.length() + 6);
        fault(TWELVE + "pair 0:h;", 3, TWELVE.length() + 5);
        fault(TWELVE + "rule e:f=>_;", 3, TWELVE.length() + 5);
        String eleven = TWELVE.substring(0, TWELVE.length() - 9);
        sound(eleven + "rule e:f=>_;", 1);
        due("20 PAIRS", it.look(1), 20);
        fault(eleven + "rule e:f=>_;rule  f:e=>_;", 3, eleven.length() + 18);

        says("or the 4th of one deep S");
        sound("letters abcde;pair a:b;pair a:c;pair a:d;pair a:a;pair a:b;", 0);
        fault("letters abcde;pair a:b;pair a:c;pair a:d;pair a:e;", 3, 46);
        fault("letters abcde;pair a:b;pair a:c;pair a:d;pair a:0;", 3, 46);
        fault("letters abcde;pair a:b;pair a:0;rule a:d=>_;rule a:e=>_;", 3, 49);
        sound("letters abcde;pair a:b;pair a:c;pair a:d;pair b:e;", 0);

        says("or of one said S");
        sound("letters abcde;pair b:a;pair c:a;pair d:a;pair a:a;pair b:a;", 0);
        fault("letters abcde;pair b:a;pair c:a;pair d:a;pair e:a;", 3, 46);
        fault("letters abcde;pair b:a;pair c:a;pair d:a;pair 0:a;", 3, 46);
        fault("letters abcde;pair b:a;pair 0:a;rule d:a=>_;rule e:a=>_;", 3, 49);
        sound("letters abcde;pair b:a;pair c:a;pair d:a;pair e:b;", 0);

        says("(those with themselves not counted; 0 is an S as well)");
        sound("letters abcde;pair a:a;pair a:b;pair a:c;pair a:d;pair b:a;pair c:a;pair d:a;", 0);
        sound("letters abcde;pair 0:b;pair 0:c;pair 0:d;", 0);
        fault("letters abcde;pair 0:b;pair 0:c;pair 0:d;pair 0:e;", 3, 46);
        sound("letters abcde;pair b:0;pair c:0;pair d:0;", 0);
        fault("letters abcde;pair b:0;pair c:0;pair d:0;pair e:0;", 3, 46);
        sound("letters abcde;pair b:0;pair c:0;pair d:0;pair 0:b;pair 0:c;pair 0:d;", 0);

        says("(at its KEYWORD) the 9th RULE, the 13th stem, the 9th end");
        String rules = "letters a;" + times("rule a:a=>_;", 8);
        sound(rules, 8);
        fault(rules + "rule a:a=>_;", 3, rules.length());
        fault(rules + "  rule", 3, rules.length() + 2);
        fault(rules + "rul", 1, rules.length());
        String stems = "letters a;" + times("stem a;", 12);
        sound(stems, 0);
        due("12", it.look(3), 12);
        fault(stems + "stem a;", 3, stems.length());
        fault(stems + "\nstem", 3, stems.length() + 1);
        fault(stems + "ste", 1, stems.length());
        String ends = "letters a;" + times("end a;", 8);
        sound(ends, 0);
        due("8", it.look(4), 8);
        fault(ends + "end a;", 3, ends.length());
        fault(ends + " end", 3, ends.length() + 1);
        fault(ends + "en", 1, ends.length());
        sound("letters a;" + times("rule a:a=>_;", 8) + times("stem a;", 12) + times("end a;", 8), 8);

        says("the 4th CONTEXT of a RULE (at the | ahead of it)");
        sound("letters a;rule a:a=>_|_|_;rule a:a=>_|_|_;", 2);
        due("3", it.rule(1, 3), 3);
        fault("letters a;rule a:a=>_|_|_|_;", 3, 25);
        fault("letters a;rule a:a=>_|_|_  |  _;", 3, 27);
        fault("letters a;rule a:a=>_|_|_|", 3, 25);
        fault("letters a;rule a:a=>_;rule a:a=>_|_|_|_;", 3, 37);

        says("the 6th ITEM on one side of one _");
        sound("letters a;rule a:a=>aaaaa_aaaaa|aaaaa_aaaaa|#aaaaa_aaaaa#;", 1);
        sound("letters a;rule a:a=>a:a*?:?*a*?*0*_0:?*a:0*???;", 1);
        fault("letters a;rule a:a=>aaaaaa_;", 3, 25);
        fault("letters a;rule a:a=>#aaaaaa_;", 3, 26);
        fault("letters a;rule a:a=>_aaaaaa;", 3, 26);
        fault("letters a;rule a:a=>_|aaaaaa_;", 3, 27);
        fault("letters a;rule a:a=>aaaaa_aaaaaa;", 3, 31);
        fault("letters a;rule a:a=>_ a:a* a:a* a:a* a:a* a:a* ?;", 3, 47);
        fault("letters a;rule a:a=>_aaaaa 0:a;", 3, 27);
        fault("letters a;rule a:a=>aaaaa#_;", 1, 25);
        fault("letters a;rule a:a=>aaaaa*:_;", 1, 26);

        says("the 7th L of a stem or an end");
        sound("letters ab;stem aaaaaa;stem bbbbbb;end aaaaaa;end bbbbbb;", 0);
        due("6", it.look(21), 6);
        due("6", it.look(41), 6);
        fault("letters a;stem aaaaaaa;", 3, 21);
        fault("letters a;stem a a a a a a  a;", 3, 28);
        fault("letters a;stem aaaaaa?;", 1, 21);
        fault("letters a;end aaaaaaa;", 3, 20);
        fault("letters a;end\naaaaaa\naaa", 3, 21);
    }

    private static final List<String> SOME_PAIRS = List.of("aa", "bb", "cc", "ab", "bc", "a0", "0c");
    private static final String SOME_TONGUE = "letters abc;class A ab;pair a:b;pair b:c;pair a:0;pair 0:c;";

    /** The ITEM takes these of SOME_PAIRS and no other, on the left and on the right of the place. */
    private void takes(String item, String... taken) {
        for (boolean isLeft : new boolean[] {true, false}) {
            fresh(SOME_TONGUE + "rule c:c/<=" + (isLeft ? item + "_;" : "_" + item + ";"));
            for (String pair : SOME_PAIRS) {
                int broken = walk(isLeft ? pair + "cc" : "cc" + pair);
                due(item + " takes " + pair, broken == 0, Arrays.asList(taken).contains(pair));
            }
            due(item + " takes no PAIR at all", walk("cc"), NONE);
        }
    }

    private void items() {
        String[] all = SOME_PAIRS.toArray(new String[0]);
        says("An ITEM X alone is X : X");
        takes("a", "aa");
        takes("b", "bb");
        takes("c", "cc");
        takes("0");
        says("but for ? : any PAIR");
        takes("?", all);
        says("and G: a LETTER of it with itself");
        takes("A", "aa", "bb");
        says("X : Y is each PAIR with a deep S of X and a said S of Y: L that LETTER");
        takes("a:b", "ab");
        takes("b:c", "bc");
        takes("b:a");
        takes("c:c", "cc");
        says("G any LETTER of the CLASS");
        takes("A:A", "aa", "bb", "ab");
        takes("a:A", "aa", "ab");
        takes("A:b", "bb", "ab");
        takes("A:c", "bc");
        takes("c:A");
        takes("0:A");
        says("0 silence");
        takes("a:0", "a0");
        takes("0:c", "0c");
        takes("b:0");
        takes("0:a");
        takes("A:0", "a0");
        says("? any, 0 as well");
        takes("a:?", "aa", "ab", "a0");
        takes("?:c", "cc", "bc", "0c");
        takes("?:0", "a0");
        takes("0:?", "0c");
        takes("A:?", "aa", "bb", "ab", "bc", "a0");
        takes("?:A", "aa", "bb", "ab");
        takes("?:?", all);

        says("With * as many such ones as stand there, none as well");
        fresh("letters abc;pair a:b;rule c:c/<=#a:?*_;");
        due("none", walk("cc"), 0);
        due("one", walk("aacc"), 0);
        due("two", walk("abaacc"), 0);
        due("fifteen", walk(times("ab", 15) + "cc"), 0);
        due("at its place", it.where(), 15);
        due("another among them", walk("aabbaacc"), NONE);
        fresh("letters abc;pair a:b;rule c:c/<=_a:?*#;");
        due("none", walk("cc"), 0);
        due("one", walk("ccab"), 0);
        due("fifteen", walk("cc" + times("ab", 15)), 0);
        due("another among them", walk("ccaabbaa"), NONE);
        fresh("letters abc;rule c:c/<=a b*c_;");
        due("none between", walk("aacccc"), 0);
        due("some between", walk("aabbbbcccc"), 0);
        due("at its place", it.where(), 4);
        due("the first is missing", walk("bbbbcccc"), NONE);
        fresh("letters abc;rule c:c/<=a*b*a*b*a*_#|#_c;");
        due("all may be none", walk("bbcc"), 0);
        due("at its place", it.where(), 1);
        fresh("letters abc;rule c:c/<=#a*b*a*b*a*_#;");
        due("none", walk("cc"), 0);
        due("of each some", walk("aaaabbbbaabbaacc"), 0);
        due("of some none", walk("bbaabbcc"), 0);
        due("of the last alone", walk("aacc"), 0);
        due("one too many", walk("bbaabbaabbcc"), NONE);
        fresh("letters abc;rule c:c/<=#a*a a_;");
        due("one is too few", walk("aacc"), NONE);
        due("two", walk("aaaacc"), 0);
        due("three", walk("aaaaaacc"), 0);
        fresh("letters abc;rule c:c/<=#0*_0*#;");
        due("0* of none", walk("cc"), 0);
        due("0* takes nothing", walk("aacc"), NONE);
        due("0* takes nothing", walk("ccaa"), NONE);
    }

    // ---- part 2: rows and rules

    private void contexts() {
        says("if its left ITEMS are PAIRS that end just ahead of i");
        fresh("letters abc;rule c:c/<=a b_;");
        due("there", walk("aabbcc"), 0);
        due("at its place", it.where(), 2);
        due("with more ahead", walk("bbbbaabbcc"), 0);
        due("one between", walk("aabbbbcc"), NONE);
        due("one alone", walk("bbcc"), NONE);
        due("the other way round", walk("bbaacc"), NONE);
        due("behind it", walk("ccaabb"), NONE);
        due("none at all", walk("cc"), NONE);

        says("(with # : the first of them is the ROW's first PAIR");
        fresh("letters abc;rule c:c/<=#a b_;");
        due("the first", walk("aabbcc"), 0);
        due("the second", walk("bbaabbcc"), NONE);
        due("the second of its like", walk("aaaabbcc"), NONE);
        fresh("letters abc;rule c:c/<=#a*b_;");
        due("some", walk("aaaabbcc"), 0);
        due("none of them", walk("bbcc"), 0);
        due("not the first", walk("bbbbcc"), NONE);

        says("or, without any such PAIR, i is 0)");
        fresh("letters abc;rule c:c/<=#_;");
        due("i is 0", walk("ccaa"), 0);
        due("its place", it.where(), 0);
        due("i is 1", walk("aacc"), NONE);
        due("i is 0 and 1", walk("cccc"), 0);
        due("its place", it.where(), 0);
        fresh("letters abc;rule c:c=>#_;");
        due("i is 1", walk("cccc"), 0);
        due("its place", it.where(), 1);
        fresh("letters abc;rule c:c/<=#a*_;");
        due("none of them, i is 0", walk("cc"), 0);
        due("none of them, i is 1", walk("bbcc"), NONE);
        due("one, i is 1", walk("aacc"), 0);

        says("its right ITEMS PAIRS that begin just behind i");
        fresh("letters abc;rule c:c/<=_a b;");
        due("there", walk("ccaabb"), 0);
        due("its place", it.where(), 0);
        due("with more behind", walk("ccaabbaaaa"), 0);
        due("one between", walk("ccaaaabb"), NONE);
        due("one alone", walk("ccaa"), NONE);
        due("the other way round", walk("ccbbaa"), NONE);
        due("ahead of it", walk("aabbcc"), NONE);
        due("none at all", walk("cc"), NONE);

        says("(with #: the last one is the ROW's last, or i is)");
        fresh("letters abc;rule c:c/<=_a b#;");
        due("the last", walk("ccaabb"), 0);
        due("the last but one", walk("ccaabbaa"), NONE);
        fresh("letters abc;rule c:c/<=_#;");
        due("i is", walk("aacc"), 0);
        due("its place", it.where(), 1);
        due("i is not", walk("ccaa"), NONE);
        fresh("letters abc;rule c:c/<=_a b*#;");
        due("none of them", walk("ccaa"), 0);
        due("some", walk("ccaabbbb"), 0);
        due("one behind them", walk("ccaabbaa"), NONE);
        fresh("letters abc;rule c:c/<=_a*#;");
        due("none of them, i is the last", walk("bbcc"), 0);
        due("none of them, i is not", walk("ccbb"), NONE);
        fresh("letters abc;rule c:c/<=#_#;");
        due("a ROW of one", walk("cc"), 0);
        due("one ahead", walk("aacc"), NONE);
        due("one behind", walk("ccaa"), NONE);
        fresh("letters abc;rule c:c/<=#a_b#;");
        due("the first and the last", walk("aaccbb"), 0);
        due("one ahead", walk("bbaaccbb"), NONE);
        due("one behind", walk("aaccbbbb"), NONE);

        says("A CONTEXT holds at place i of a ROW");
        fresh("letters ab;pair a:b;rule a:b/<=_;");
        due("the first of 16", walk("ab" + times("aa", 15)), 0);
        due("its place", it.where(), 0);
        due("the last of 16", walk(times("aa", 15) + "ab"), 0);
        due("its place", it.where(), 15);
        fresh("letters ab;pair a:b;rule a:b=>?????_;");
        due("five ahead", walk(times("aa", 5) + "ab"), NONE);
        due("four ahead", walk(times("aa", 4) + "ab"), 0);
        fresh("letters ab;pair a:b;rule a:b=>_?????;");
        due("five behind", walk("ab" + times("aa", 5)), NONE);
        due("four behind", walk("ab" + times("aa", 4)), 0);
    }

    private void rulesAreKept() {
        String pairs = "letters abc;pair a:b;pair a:c;pair b:c;pair a:0;";
        says("=> is KEPT, if at each place with P one of its CONTEXTS holds");
        fresh(pairs + "rule a:b=>c_|b_;");
        due("the first holds", walk("ccab"), NONE);
        due("the second holds", walk("bbab"), NONE);
        due("none holds", walk("aaab"), 0);
        due("at one place none holds", walk("ccabab"), 0);
        due("its place", it.where(), 2);
        due("no place with P", walk("aaac"), NONE);
        says("<= is KEPT, if at no place with the deep S d and another said S one of its CONTEXTS holds");
        fresh(pairs + "rule a:b<=c_|b_;");
        due("d with itself", walk("ccaa"), 0);
        due("d with another", walk("bbac"), 0);
        due("d with silence", walk("cca0"), 0);
        due("P", walk("ccab"), NONE);
        due("where none holds", walk("aaac"), NONE);
        due("another deep S", walk("ccbc"), NONE);
        due("P where none holds", walk("aaab"), NONE);
        says("<=> is KEPT, if both are so");
        fresh(pairs + "rule a:b<=>c_;");
        due("both", walk("ccabaa"), NONE);
        due("not the one", walk("aaab"), 0);
        due("not the other", walk("ccaa"), 0);
        says("/<= is KEPT, if at no place with P one of its CONTEXTS holds");
        fresh(pairs + "rule a:b/<=c_|b_;");
        due("the first holds", walk("ccab"), 0);
        due("the second holds", walk("bbab"), 0);
        due("none holds", walk("aaab"), NONE);
        due("another PAIR", walk("ccac"), NONE);

        says("RULES 0 .. are numbered as they come; IN USE is a set of them (rule k counts 2 to the k; all behind text())");
        fresh("letters a;" + times("rule a:a/<=_;", 8));
        due("all", it.look(5), 255);
        for (int k = 0; k < 8; k++) {
            it.use(1 << k);
            due("2 to the " + k, walk("aa"), k);
        }
        due("text()", tell("letters a;rule a:a=>_;"), 1);
        due("all", it.look(5), 1);

        says("A ROW is ALLOWED, if all RULES IN USE are KEPT");
        fresh("letters a;rule a:a/<=_;rule a:a/<=#_;");
        due("not so", walk("aa"), 0);
        it.use(2);
        due("not so", walk("aaaa"), 1);
        it.use(0);
        due("none IN USE", walk("aa"), NONE);
    }

    private void slackOfSaid() {
        says("with SLACK (0, 1; 1 at first) PAIRS with silence at most");
        due("at first", it.look(6), 1);
        fresh("letters ab;pair a:0;pair 0:b;");
        due("one", say("a"), 4);
        due("words", words("ab"), ",a,ab,ba");
        due("not one silent and one said alone", hear("b"), 4);
        due("words", words("ab"), ",ab,b,ba");
        due("one of two at most", say("aa"), 5);
        due("words", words("ab"), "a,aa,aab,aba,baa");
        it.slack(0);
        due("none", say("aa"), 1);
        due("words", words("ab"), "aa");
        due("none", hear("b"), 1);
        due("words", words("ab"), "b");
        it.slack(1);
        due("one again", say("a"), 4);
        fresh("letters ab;pair a:0;rule a:a/<=_;");
        due("one must be silent", say("a"), 1);
        due("two must", say("aa"), 0);
        it.slack(0);
        due("one must be silent", say("a"), 0);
    }

    private static final List<String> LEFTS = List.of("", "#", "a", "#a", "a*", "#a*", "b?*", "#b*a:?", "a:0", "?:b*a", "0:b*", "????");
    private static final List<String> RIGHTS = List.of("", "#", "b", "b#", "b*", "b*#", "?*a", "?:b*b#", "a:0", "a?:b*", "0:b*", "????");

    private void saidByAllowedRows() {
        says("A word DEEP is SAID as another one, if there is an ALLOWED ROW of deep S, silence left out, that word, "
            + "and of said S likewise the other one");
        String[] heads = {"a:b=>", "a:0<=", "a:b/<=", "a:b<=>", "0:b=>", "a:a/<=", "b:b=>"};
        for (int i = 0; i < LEFTS.size(); i++) {
            for (int k = 0; k < heads.length; k++) {
                String one = LEFTS.get(i) + "_" + RIGHTS.get((i + k) % RIGHTS.size());
                String other = LEFTS.get((i + 5 * k + 1) % LEFTS.size()) + "_" + RIGHTS.get((i + 3 * k + 2) % RIGHTS.size());
                String text = "letters ab;pair a:b;pair a:0;pair 0:b;rule " + heads[k] + one + "|" + other + ";rule "
                    + heads[(k + 2) % heads.length] + other + ";";
                holdSaidToRows(text, (i + k) % 4 == 0 ? 0 : 1);
            }
        }
    }

    /** By walk() alone: all ROWS of all deep words of up to three LETTERS; then say() and hear() must tell the same. */
    private void holdSaidToRows(String text, int slack) {
        TreeMap<String, TreeSet<String>> said = new TreeMap<>();
        TreeMap<String, TreeSet<String>> heard = new TreeMap<>();
        fresh(text);
        for (String deep : wordsUpTo(3)) {
            said.put(deep, new TreeSet<>());
            walkRows(text, deep, 0, slack, "", said.get(deep));
            for (String word : said.get(deep)) {
                heard.computeIfAbsent(word, none -> new TreeSet<>()).add(deep);
            }
        }
        fresh(text);
        it.slack(slack);
        for (String word : List.of("a", "b", "ab", "ba", "bb", "aab", "abb", "baa")) {
            due("how many say() of " + word + " by " + text, say(word), said.get(word).size());
            due("say() of " + word + " by " + text, words("ab"), String.join(",", said.get(word)));
        }
        fresh(text);
        it.slack(slack);
        for (String word : List.of("a", "b", "ab", "bb")) {
            TreeSet<String> deeps = heard.getOrDefault(word, new TreeSet<>());
            due("how many hear() of " + word + " by " + text, hear(word), deeps.size());
            due("hear() of " + word + " by " + text, words("ab"), String.join(",", deeps));
        }
    }

    private static List<String> wordsUpTo(int length) {
        List<String> all = new ArrayList<>(List.of(""));
        for (int i = 0; i < (1 << length) - 1; i++) {
            all.add(all.get(i) + "a");
            all.add(all.get(i) + "b");
        }
        return all;
    }

    private int walked;

    private void walkRows(String text, String deep, int at, int slackLeft, String row, TreeSet<String> said) {
        if (at == deep.length() && !row.isEmpty()) {
            walked++;
            if (walked % 100 == 0) {
                fresh(text);
            }
            if (walk(row) == NONE) {
                said.add(saidOf(row));
            }
        }
        for (String pair : List.of("aa", "bb", "ab", "a0", "0b")) {
            boolean isSilent = pair.contains("0");
            boolean takes = pair.charAt(0) == '0' || (at < deep.length() && pair.charAt(0) == deep.charAt(at));
            if (takes && (slackLeft > 0 || !isSilent)) {
                walkRows(text, deep, pair.charAt(0) == '0' ? at : at + 1, isSilent ? slackLeft - 1 : slackLeft, row + pair, said);
            }
        }
    }

    private static String saidOf(String row) {
        StringBuilder said = new StringBuilder();
        for (int i = 1; i < row.length(); i += 2) {
            said.append(row.charAt(i) == '0' ? "" : row.substring(i, i + 1));
        }
        return said.toString();
    }

    // ---- part 3: words

    private void wordsFound() {
        says("SAY: all words as which a told deep word (1 .. 8 LETTERS) is SAID");
        fresh("letters ab;");
        due("0", say(""), NONE);
        due("1", say("a"), 1);
        due("8", say("abababab"), 1);
        due("its length", it.found(0, NONE), 8);
        due("9", say("ababababa"), NONE);
        due("600", say(times("a", 600)), NONE);

        says("each once");
        fresh("letters ab;pair a:0;pair a:b;pair 0:b;");
        due("by several ROWS", say("aa"), 13);
        due("words", words("ab"), "a,aa,aab,ab,aba,abb,b,ba,baa,bab,bb,bba,bbb");

        says("in order (letter by letter by the order of LETTERS, a word ahead of what it begins");
        fresh("letters ba;pair a:0;pair a:b;");
        due("words", say("aa"), 6);
        due("words", words("ba"), "b,bb,ba,a,ab,aa");
        fresh("letters zya;pair a:z;pair a:y;");
        due("words", say("aa"), 9);
        due("words", words("zya"), "zz,zy,za,yz,yy,ya,az,ay,aa");

        says("one may have no letters)");
        fresh("letters ab;pair a:0;pair 0:b;");
        say("a");
        due("the first", it.found(0, NONE), 0);
        due("has no letter", it.found(0, 0), NONE);
        hear("b");
        due("the first", it.found(0, NONE), 0);
        due("has no letter", it.found(0, 0), NONE);
        it.slack(0);
        say("a");
        due("not without SLACK", it.found(0, NONE), 1);

        says("200 at most; more: TOO MANY, none are kept");
        twoHundred();

        says("HEAR: all deep words that are SAID as a told word (1 .. 8), likewise");
        fresh("letters ab;pair a:b;");
        due("0", hear(""), NONE);
        due("1", hear("b"), 2);
        due("words", words("ab"), "a,b");
        due("7", hear("bbbbbbb"), 128);
        due("8", hear("aaaaaaab"), 2);
        due("8", hear("bbbbbbbb"), NONE - 1);
        due("9", hear("aaaaaaaaa"), NONE);
        fresh("letters ba;pair a:b;pair a:0;");
        due("likewise in order", hear("b"), 5);
        due("words", words("ba"), "b,ba,a,ab,aa");
    }

    /** 256 words of four places: 56 of them are barred, then 55, told deep and heard. */
    private void twoHundred() {
        for (boolean isDeep : new boolean[] {true, false}) {
            String[] p = isDeep ? new String[] {"a:b", "a:c", "a:d"} : new String[] {"b:a", "c:a", "d:a"};
            String pairs = "letters abcd;pair " + p[0] + ";pair " + p[1] + ";pair " + p[2] + ";";
            String bar48 = "rule " + p[0] + "/<=#_" + p[0] + "|#_" + p[1] + "|#_" + p[2] + ";";
            String bar7 = "rule " + p[1] + "/<=#_" + p[1] + " " + p[1] + "|#_" + p[1] + " " + p[2] + " a|#_" + p[1] + " "
                + p[2] + " " + p[0] + ";rule " + p[2] + "/<=#_" + p[2] + " " + p[2] + " " + p[2] + "#;";
            String bar1 = "rule a:a/<=#_a a a#;";
            fresh(pairs + bar48 + bar7 + bar1);
            due("200", isDeep ? say("aaaa") : hear("aaaa"), 200);
            due("the first", it.found(0, NONE), 4);
            due("the first", it.found(0, 3), 1);
            due("the last", it.found(199, 3), 2);
            due("no more", it.found(200, NONE), NONE);
            it.use(7);
            due("201", isDeep ? say("aaaa") : hear("aaaa"), NONE - 1);
            due("none are kept", it.found(0, NONE), NONE);
            due("none are kept", it.found(199, 0), NONE);
            it.use(15);
            due("200 again", isDeep ? say("aaaa") : hear("aaaa"), 200);
            it.use(0);
            due("256", isDeep ? say("aaaa") : hear("aaaa"), NONE - 1);
            due("64", isDeep ? say("aaa") : hear("aaa"), 64);
            due("are kept", it.found(63, NONE), 3);
        }
    }

    private void understandAndWalk() {
        says("UNDERSTAND: all couples of a stem and an end that together, as a deep word, are SAID as a told word (1 .. 8)");
        fresh("letters ab;pair a:b;pair a:0;stem aaaaaa;stem a;end aa;end;end aaa;end aaaaaa;");
        due("0", understand(""), NONE);
        due("1", understand("b"), 1);
        due("the stem alone", it.meant(0, 0) * 10 + it.meant(0, 1), 11);
        due("8 of 8 and of 9", understand("bbbbbbbb"), 2);
        due("of 8", it.meant(0, 0) * 10 + it.meant(0, 1), 0);
        due("of 9", it.meant(1, 0) * 10 + it.meant(1, 1), 2);
        due("9", understand("bbbbbbbbb"), NONE);
        it.slack(0);
        due("8 of 8", understand("bbbbbbbb"), 1);

        says("by stem, then end");
        fresh("letters ab;pair b:a;stem b;stem a;end b;end a;");
        due("all", understand("aa"), 4);
        for (int i = 0; i < 4; i++) {
            due("couple " + i, it.meant(i, 0) * 2 + it.meant(i, 1), i);
        }

        says("WALK: a told ROW (1 .. 16 PAIRS, each told by two signs, LETTERS or 0)");
        fresh("letters ab;pair a:0;pair 0:b;rule b:b/<=_;");
        due("0", walk(""), NONE - 1);
        due("half a PAIR", walk("a"), NONE - 1);
        due("1", walk("aa"), NONE);
        due("1 and a half", walk("aaa"), NONE - 1);
        due("with 0", walk("a00b"), NONE);
        due("16", walk(times("aa", 16)), NONE);
        due("16 and a half", walk(times("aa", 16) + "a"), NONE - 1);
        due("17", walk(times("aa", 17)), NONE - 1);
        due("300", walk(times("aa", 300)), NONE - 1);
        due("other signs", walk("a?"), NONE - 1);
        due("other signs", walk("?b"), NONE - 1);
        due("no LETTER", walk("cb"), NONE - 1);
        tape("aaaa");
        it.end(3);
        due("cut off within a PAIR", it.walk(), NONE - 1);
        due("other signs", walk("A0"), NONE - 1);
        due("no LETTER", walk("ac"), NONE - 1);
        due("a blank", walk("aa aa "), NONE - 1);

        says("the first RULE IN USE that is not KEPT, and the first place at which it is not");
        fresh("letters ab;rule b:b/<=a_;rule a:a/<=#_;rule b:b/<=_;");
        due("the first RULE, not the first place", walk("aaaabbaabb"), 0);
        due("its first place", it.where(), 2);
        it.use(6);
        due("the second RULE", walk("aaaabbaabb"), 1);
        due("its first place", it.where(), 0);
        it.use(4);
        due("the third RULE", walk("aaaabbaabb"), 2);
        due("its first place", it.where(), 2);
        it.use(2);
        due("KEPT", walk("bbaaaa"), NONE);
    }

    private void agesOfWords() {
        says("AGES: a told deep word (1 .. 8) goes through all RULES IN USE in their ORDER");
        fresh("letters abc;rule a:b=>_;rule b:c=>_;");
        due("0", ages(""), NONE);
        due("1", ages("a"), 1);
        due("word", agedWord("abc"), "c");
        due("8", ages("abcabcab"), 8);
        due("word", agedWord("abc"), "cccccccc");
        due("9", ages("abcabcabc"), NONE);
        it.order(0, 1);
        ages("ab");
        due("the other way round", agedWord("abc"), "bc");
        it.use(1);
        ages("ab");
        due("IN USE alone", agedWord("abc"), "bb");

        says("(0, 1, 2 .. at first, behind text() again)");
        due("text()", tell("letters abc;rule a:b=>_;rule b:c=>_;rule c:a=>_;"), 3);
        for (int i = 0; i < 3; i++) {
            due("at first", it.look(50 + i), i);
        }
        it.order(0, 2);
        due("not any more", it.look(50), 2);
        tell("letters a");
        due("behind a FAULT as it was", it.look(50), 2);
        tell("letters ab;rule a:b=>_;rule b:a=>_;");
        due("again", it.look(50) * 10 + it.look(51), 1);

        says("by each, all at once");
        fresh("letters ab;rule a:b<=>_b;");
        ages("aaab");
        due("one place alone", agedWord("ab"), "aabb");
        fresh("letters ab;rule a:b=>b_;");
        ages("baaa");
        due("one place alone", agedWord("ab"), "bbaa");

        says("each place of the word (as a ROW of LETTERS with themselves, as it is then)");
        fresh("letters abc;pair a:b;rule a:0<=#_;rule b:c<=#_;rule c:b<=_#;");
        due("the first is gone, the second is the first", ages("ab"), 1);
        due("word", agedWord("abc"), "b");
        due("word", ages("aba"), 2);
        due("word", agedWord("abc"), "ca");
        fresh("letters abc;pair a:b;rule b:c=>a:b_|b:a_;");
        ages("abb");
        due("no PAIR but LETTERS with themselves", agedWord("abc"), "abb");

        says("that has the LETTER d and at which one of its CONTEXTS holds becomes s (0: it is gone)");
        fresh("letters abc;rule a:b=>#_|_#;");
        ages("aaaa");
        due("the first and the last", agedWord("abc"), "baab");
        fresh("letters abc;rule a:0<=_b|_#;");
        due("three are gone", ages("abaabca"), 4);
        due("word", agedWord("abc"), "babc");
        fresh("letters abc;rule a:a<=_;");
        due("with itself", ages("abc"), 3);

        says("(0: it is gone)");
        fresh("letters ab;rule a:0=>_;rule a:b=>_;rule b:a=>#_#;");
        due("none", ages("a"), 0);
        due("no letter", it.aged(0), NONE);
        due("none of 8", ages("aaaaaaaa"), 0);
        due("one", ages("aba"), 1);
        due("letter", it.aged(0), 0);

        says("RULES /<= and those with a deep 0 do nothing");
        fresh("letters ab;rule a:b/<=_;rule 0:b=>_;rule 0:a/<=_;");
        due("nothing", ages("ab"), 2);
        due("word", agedWord("ab"), "ab");
        for (String op : List.of("=>", "<=", "<=>")) {
            fresh("letters ab;rule a:b" + op + "_;");
            ages("ab");
            due(op + " does something", agedWord("ab"), "bb");
        }
    }

    // ---- part 4: sets of rules

    private void quarrel(String one, String other, int want) {
        fresh("letters abc;rule " + one + ";rule " + other + ";");
        due(one + " and " + other, it.quarrel(0, 1), want);
        due(other + " and " + one, it.quarrel(1, 0), want);
        it.use(0);
        due("not IN USE", it.quarrel(0, 1), want);
    }

    private void quarrels() {
        says("QUARREL of two RULES (IN USE or not): both <= or <=>, of one d and unlike s");
        for (String one : List.of("<=", "<=>")) {
            for (String other : List.of("<=", "<=>")) {
                quarrel("a:b" + one + "_", "a:c" + other + "_", 1);
                quarrel("a:b" + one + "_", "a:b" + other + "_", NONE);
                quarrel("a:b" + one + "_", "c:b" + other + "_", NONE);
                quarrel("a:a" + one + "_", "a:0" + other + "_", 1);
            }
            quarrel("a:b" + one + "_", "a:c=>_", NONE);
        }
        quarrel("a:b=>_", "a:c=>_", NONE);

        says("or one <= or <=> and the other one /<= with the same P");
        for (String one : List.of("<=", "<=>")) {
            quarrel("a:b" + one + "_", "a:b/<=_", 1);
            quarrel("a:b" + one + "_", "a:c/<=_", NONE);
            quarrel("a:b" + one + "_", "c:b/<=_", NONE);
        }
        quarrel("a:b=>_", "a:b/<=_", NONE);
        quarrel("a:b/<=_", "a:b/<=_", NONE);
        quarrel("a:b/<=_", "a:c/<=_", NONE);
        quarrel("0:b/<=_", "0:b=>_", NONE);

        says("if there are LEFT PAIRS and RIGHT PAIRS (0 .. 4 each, any PAIRS)");
        quarrel("a:b<=abab_", "a:c<=_", 5);
        quarrel("a:b<=ababa_", "a:c<=_", NONE);
        quarrel("a:b<=a*baba_", "a:c<=_", 5);
        quarrel("a:b<=a*b*a*b*a*_", "a:c<=_", 1);
        quarrel("a:b<=_abab", "a:c<=_", 5);
        quarrel("a:b<=_ababa", "a:c<=_", NONE);
        quarrel("a:b<=_abab*a", "a:c<=_", 5);
        quarrel("a:b<=abab_abab", "a:c<=_", 9);
        quarrel("a:b<=abab_", "a:c<=_abab", 9);
        quarrel("a:b<=#abab_abab#", "a:c<=#abab_abab#", 9);
        quarrel("a:b<=ababa_abab", "a:c<=_", NONE);
        quarrel("a:b<=abab_ababa", "a:c<=_", NONE);
        quarrel("a:b<=????_", "a:c<=????_", 5);
        quarrel("a:b<=?????_", "a:c<=_", NONE);
        quarrel("a:b<=a:b_", "a:c<=?:b_", 2);
        quarrel("a:b<=b:c_", "a:c<=_", NONE);

        says("between which, at one place with d, a CONTEXT of each holds");
        quarrel("a:b<=a_", "a:c<=b_", NONE);
        quarrel("a:b<=a_|b_", "a:c<=c_|b_", 2);
        quarrel("a:b<=#_", "a:c<=a_", NONE);
        quarrel("a:b<=#_", "a:c<=a*_", 1);
        quarrel("a:b<=#a_", "a:c<=#?a_", NONE);
        quarrel("a:b<=#a_", "a:c<=#a_", 2);
        quarrel("a:b<=#?a_", "a:c<=a_", 3);
        quarrel("a:b<=_#", "a:c<=_a", NONE);
        quarrel("a:b<=_#", "a:c<=_a*", 1);
        quarrel("a:b<=_a#", "a:c<=_a?", NONE);
        quarrel("a:b<=_a?#", "a:c<=_a", 3);

        quarrel("a:b<=a_", "a:c<=a b_", NONE);
        quarrel("a:b<=b_", "a:c<=a b_", 3);
        quarrel("a:b<=_b", "a:c<=_a b", NONE);
        quarrel("a:b<=_a", "a:c<=_a b", 3);

        says("the fewest PAIRS together, the place itself counted");
        quarrel("a:b<=_", "a:c<=_", 1);
        quarrel("a:b<=a_b", "a:c<=_", 3);
        quarrel("a:b<=aa_", "a:c<=_bbb", 6);
        quarrel("a:b<=aa_|b_c", "a:c<=_", 3);
        quarrel("a:b<=#a*b_", "a:c<=a_|a b_", 3);
    }

    private void sameUpTo() {
        says("SAME up to n (1 .. 3)");
        String last = "letters abcdefgh;pair h:a;rule h:a/<=h_;rule h:a/<=h h_;rule h:a/<=h h h_;rule h:a/<=_;";
        fresh(last);
        int[][] asked = {{8, 7, 7, 7}, {1, NONE, 71, 71}, {2, NONE, NONE, 583}, {4, NONE, NONE, NONE}};
        for (int[] one : asked) {
            due("n 0", it.parts(0, one[0], 0), NONE - 1);
            for (int n = 1; n <= 3; n++) {
                due("n " + n, it.parts(0, one[0], n), one[n]);
                due("n " + n, it.parts(one[0], 0, n), one[n]);
            }
            due("n 4", it.parts(0, one[0], 4), NONE - 1);
        }
        due("a set and itself", it.parts(15, 15, 3), NONE);
        due("what the others hold", it.parts(8, 15, 3), NONE);
        fresh("letters abcdefgh;pair h:g;pair 0:h;rule h:g/<=h h 0:h_|h 0:h h_|0:h h h_;");
        due("hhh is said hhhh by both, hhhg by one", it.parts(0, 1, 3), 583);
        due("the other way", it.parts(1, 0, 3), 583);
        due("not up to 2", it.parts(0, 1, 2), NONE);
        it.slack(0);
        due("not without SLACK", it.parts(0, 1, 3), NONE);

        says("The first word that PARTS them: by its length, then in order");
        fresh("letters ba;pair a:b;pair b:a;rule a:b/<=b_;rule b:a/<=_;rule a:b/<=_;rule a:b/<=a_;");
        due("b is the first", it.parts(0, 2, 3), 0);
        due("a is the second", it.parts(0, 4, 3), 1);
        due("b ahead of a", it.parts(0, 6, 3), 0);
        due("ba is the fourth", it.parts(0, 1, 3), 3);
        due("aa is the sixth", it.parts(0, 8, 3), 5);
        due("a ahead of ba", it.parts(1, 4, 3), 1);

        says("IDLE is a RULE, if all that are IN USE and those without it are SAME");
        fresh(last);
        it.use(7);
        int[][] idle = {{0, 1, 0, 0}, {1, 1, 1, 1}, {2, 1, 1, 1}};
        for (int[] one : idle) {
            for (int n = 1; n <= 3; n++) {
                due("RULE " + one[0] + " up to " + n, it.idle(one[0], n), one[n]);
            }
        }
        it.use(6);
        due("matters by 3", it.idle(1, 3), 0);
        due("not by 2", it.idle(1, 2), 1);
        it.use(4);
        due("matters by 4", it.idle(2, 3), 1);
        it.use(15);
        due("alone holds all", it.idle(3, 1), 0);
        due("held by another", it.idle(0, 3), 1);

        says("FEWEST for n (1, 2): of all sets of RULES IN USE that are SAME as all IN USE that with the fewest, then the least");
        fresh(last);
        due("n 0", it.fewest(0), NONE);
        due("n 1", it.fewest(1), 8);
        due("n 2", it.fewest(2), 8);
        due("n 3", it.fewest(3), NONE);
        it.use(7);
        due("n 1", it.fewest(1), 0);
        due("n 2", it.fewest(2), 1);
        it.use(6);
        due("n 2", it.fewest(2), 0);
        fresh("letters ab;pair a:b;rule a:b/<=a:?_;rule a:b/<=b_;rule a:b/<=a:?_|b_;rule a:b/<=?_;");
        due("one, the least of two", it.fewest(2), 4);
        it.use(11);
        due("one, not the two lesser ones", it.fewest(2), 8);
        it.use(3);
        due("both", it.fewest(2), 3);
        due("up to 1 none", it.fewest(1), 0);
    }

    private void livesUpTo() {
        says("A PAIR LIVES up to n (1 .. 3), if some ALLOWED ROW has it");
        String[] behind = {"_", "b_", "b b_", "b b b_"};
        for (int least = 1; least <= 4; least++) {
            fresh("letters ab;pair a:b;rule a:b=>" + behind[least - 1] + ";");
            due("n 0", it.lives(1, 2, 0), NONE);
            for (int n = 1; n <= 3; n++) {
                due("up to " + n + " with " + least, it.lives(1, 2, n), n >= least ? 1 : 0);
            }
            due("n 4", it.lives(1, 2, 4), NONE);
        }
        fresh("letters ab;pair a:b;rule a:b/<=_;");
        due("never", it.lives(1, 2, 3), 0);
        it.use(0);
        due("without the RULE", it.lives(1, 2, 1), 1);

        says("with SLACK PAIRS with silence at most");
        fresh("letters ab;pair 0:b;pair a:b;pair b:0;rule a:b=>0:b_;rule b:0=>0:b_;");
        due("one", it.lives(1, 2, 1), 1);
        due("two", it.lives(2, 0, 3), 0);
        due("itself", it.lives(0, 2, 1), 1);
        it.slack(0);
        due("none", it.lives(1, 2, 3), 0);
        due("itself", it.lives(0, 2, 3), 0);
        due("with itself", it.lives(1, 1, 1), 1);

        says("whose deep word has 1 .. n LETTERS");
        fresh("letters ab;pair 0:b;pair 0:a;rule 0:b=>#_#;rule 0:a=>a a a_;");
        due("none", it.lives(0, 2, 3), 0);
        due("3 and one of silence", it.lives(0, 1, 3), 1);
        due("3 are more than 2", it.lives(0, 1, 2), 0);
    }

    private void bestOrders() {
        says("A deep word AGREES by an ORDER, if AGES leave a word as which it is SAID (no letters may be one)");
        fresh("letters ab;rule a:0<=_;");
        due("a and b", it.orders(1, 0), 2);
        due("aa is not, b b, ab and ba are", it.orders(2, 0), 5);
        it.slack(0);
        due("b alone", it.orders(1, 0), 1);
        due("b and bb", it.orders(2, 0), 2);

        says("BEST ORDER for n (1, 2)");
        fresh("letters ab;rule a:0<=_;");
        due("n 0", it.orders(0, 0), NONE);
        due("n 1", it.orders(1, 1), 2);
        due("n 2", it.orders(2, 1), 6);
        due("n 3", it.orders(3, 0), NONE);
        fresh("letters abcdefgh;");
        due("8", it.orders(1, 1), 8);
        due("8 and 64", it.orders(2, 1), 72);
        due("all", it.orders(2, 0), 72);

        says("of all orders of the RULES IN USE (6 at most)");
        fresh("letters a;" + times("rule a:a=>_;", 8));
        int[] sets = {0, 1, 63, 252, 189, 127, 255, 254};
        for (int set : sets) {
            it.use(set);
            int many = Integer.bitCount(set);
            due("how many agree of " + set, it.orders(2, 0), many <= 6 ? 2 : NONE);
            due("how many words of " + set, it.orders(1, 1), many <= 6 ? 1 : NONE);
            due("the first of " + set, it.orders(2, 10), many == 0 || many > 6 ? NONE : Integer.numberOfTrailingZeros(set));
            due("the last of " + set, it.orders(2, 9 + many), many == 0 || many > 6 ? NONE : 31 - Integer.numberOfLeadingZeros(set));
            due("no more of " + set, it.orders(2, 10 + many), NONE);
        }

        says("of several the first (by the first RULE, then the second ..)");
        fresh("letters abc;rule a:b<=_b;rule b:c<=#_;rule c:c<=_;");
        due("all agree", it.orders(2, 0), 12);
        due("1, 0, 2 ahead of 1, 2, 0", it.orders(2, 10) * 100 + it.orders(2, 11) * 10 + it.orders(2, 12), 102);
        due("up to 1 each order", it.orders(1, 10) * 100 + it.orders(1, 11) * 10 + it.orders(1, 12), 12);
    }

    private void examples() {
        says("EXAMPLES, 12 at most");
        fresh("letters ab;pair a:b;rule a:b/<=_;");
        for (int i = 0; i < 12; i++) {
            due("number", example("a:b", false), i);
        }
        due("12", it.look(7), 12);
        due("the 13th", example("a:a", true), NONE);
        due("12", it.look(7), 12);
        due("as they were", it.learn(), 1);

        says("a deep word and a said one (0 .. 8 LETTERS each, not both none)");
        fresh("letters ab;pair a:0;pair 0:b;");
        due("0 and 0", example(":", true), NONE);
        due("0 and 1", example(":b", true), 0);
        due("1 and 0", example("a:", true), 1);
        due("they fit", it.fits(0), 1);
        due("8 and 8", example("abababab:abababab", true), 2);
        due("8 and 0", example("abababab:", false), 3);
        due("0 and 8", example(":abababab", false), 4);
        due("they fit", it.fits(0), 1);
        due("9 and 8", example("ababababa:abababab", true), NONE);
        due("8 and 9", example("abababab:ababababb", true), NONE);
        due("9 and 0", example("ababababa:", false), NONE);
        due("0 and 9", example(":ababababa", false), NONE);
        due("5", it.look(7), 5);

        says("A set of RULES FITS, if each right one is SAID so by that set IN USE and no wrong one is");
        fresh("letters abc;pair a:b;rule a:b/<=_;rule a:b=>c_;");
        due("without any", it.fits(3), 1);
        example("ca:cb", true);
        due("right and SAID", it.fits(0), 1);
        due("right and not SAID", it.fits(1), 0);
        example("a:b", false);
        due("wrong and SAID", it.fits(0), 0);
        due("wrong and not SAID", it.fits(2), 1);
        String[] rows = {"#_", "a_b", "b_#"};
        for (int allowed = 0; allowed < rows.length; allowed++) {
            fresh("letters ab;pair a:0;rule a:0=>" + rows[allowed] + ";rule a:0/<=_;");
            example("aaba:aba", true);
            due("SAID by the ROW with silence at " + allowed, it.fits(1), allowed == 2 ? 0 : 1);
            due("SAID by no ROW", it.fits(2), 0);
            example("aaba:aab", false);
            due("by another ROW", it.fits(1), allowed == 2 ? 0 : 1);
        }

        says("LEARN: of all sets of all RULES that FIT that with the fewest, then the least");
        fresh("letters abc;pair a:b;rule a:b/<=a_;rule a:b/<=b_;rule a:b/<=c_;rule a:b/<=a_|b_|c_;rule a:b/<=?_;");
        due("none are needed", it.learn(), 0);
        example("ba:bb", false);
        due("the least of three", it.learn(), 2);
        example("aa:ab", false);
        due("one, not two lesser ones", it.learn(), 8);
        example("ca:cb", true);
        due("two", it.learn(), 3);
        it.use(0);
        due("of all RULES", it.learn(), 3);
        example("ca:ca", false);
        due("none", it.learn(), NONE);
        fresh("letters abcdefgh;pair h:0;pair a:b;rule a:b/<=#_;rule a:b/<=a_;rule a:b/<=b_;rule a:b/<=c_;rule a:b/<=d_;"
            + "rule a:b/<=e_;rule a:b/<=f_;rule a:b/<=g_;");
        for (String first : List.of("", "a", "b", "c", "d", "e", "f", "g")) {
            example(first + "a:" + first + "b", false);
        }
        due("all eight", it.learn(), 255);
        example("ha:hb", true);
        due("all eight", it.learn(), 255);
        due("the last by the eighth", it.forced(7), 7);

        says("FORCED: a RULE of that set by the first EXAMPLE that is not as it should be with the set without this RULE");
        fresh("letters abc;pair a:b;rule a:b/<=a_;rule a:b/<=b_;");
        example("ca:cb", true);
        example("ba:bb", false);
        example("aa:ab", false);
        example("aba:abb", false);
        due("both", it.learn(), 3);
        due("0 by the third", it.forced(0), 2);
        due("1 by the second", it.forced(1), 1);
    }

    private void theImage() {
        says("THE IMAGE: all that is and was told");
        fresh("letters abc;class A ab;pair a:b;rule a:b=>c_;rule b:a=>A_;stem a;end;end b;");
        it.use(2);
        it.slack(0);
        it.order(1, 0);
        example("ca:cb", true);
        due("taken", it.image(true), true);
        String before = lookAll() + it.fits(1) + it.fits(2) + it.learn();
        due("another text", tell("letters xyzw;class B xy;pair x:0;pair x:y;stem xx;stem y;"), 0);
        it.slack(1);
        due("gone back to", it.image(false), true);
        due("all", lookAll() + it.fits(1) + it.fits(2) + it.learn(), before);
        due("CLASSES too", it.look(10) * 10 + it.look(11), 20);
        due("LETTERS too", say("ca"), 2);
        due("those of the other are none", say("x"), NONE);

        says("but the TAPE, fault(), and what SAY, HEAR, UNDERSTAND, WALK, AGES found");
        fresh("letters ab;pair a:b;rule a:b/<=a_;stem a;stem b;end;");
        it.image(true);
        due("a FAULT", tell("letters aa;"), NONE);
        say("a");
        due("couples", understand("b"), 2);
        walk("aaab");
        ages("aab");
        tape("letters a;");
        it.image(false);
        due("the TAPE stays", tapeLength(), 10);
        due("fault(0) stays", it.fault(0), 2);
        due("fault(1) stays", it.fault(1), 9);
        due("what SAY found stays", words("ab"), "a,b");
        due("what UNDERSTAND found stays", it.meant(1, 0), 1);
        due("what WALK found stays", it.where(), 1);
        due("what AGES found stays", agedWord("ab"), "aab");
        due("the TAPE is as it was", it.text(), 0);
        due("LETTERS", it.look(0), 1);
        it.image(false);
        due("gone behind text(), not back", it.found(0, NONE), NONE);
        due("gone behind text(), not back", it.meant(0, 0), NONE);
        due("gone behind text(), not back", it.where(), NONE);
        due("gone behind text(), not back", it.aged(0), NONE);
        due("fault(0)", it.fault(0), 0);

        says("as it was when it was taken; gone back to it may be more than once");
        fresh("letters ab;pair a:b;rule a:b/<=a_;rule a:b/<=b_;");
        it.use(1);
        it.image(true);
        for (int i = 0; i < 3; i++) {
            it.use(3);
            it.order(0, 1);
            example("a:b", true);
            due("gone back", it.image(false), true);
            due("IN USE", it.look(5), 1);
            due("ORDER", it.look(50), 0);
            due("EXAMPLES", it.look(7), 0);
        }
        it.use(2);
        due("taken anew", it.image(true), true);
        it.use(0);
        for (int i = 0; i < 2; i++) {
            due("gone back", it.image(false), true);
            due("to the new one", it.look(5), 2);
        }
    }
}
