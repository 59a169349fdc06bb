import java.lang.reflect.Constructor;
import java.lang.reflect.Field;
import java.lang.reflect.Method;
import java.lang.reflect.Modifier;
import java.util.Arrays;
import java.util.TreeSet;

/** For each promise of the document: ordinary inputs, the edges it names, wrong inputs. */
public final class PromiseTest extends Checks {
    public static void main(String[] args) {
        for (int promise = 1; promise <= 30; promise++) {
            about = "promise " + promise;
            new PromiseTest().check(promise);
        }
        about = "the face";
        new PromiseTest().checkFace();
        System.out.println(checks + " checks of promises, " + wrong + " wrong");
        System.exit(wrong == 0 ? 0 : 1);
    }

    private void check(int which) {
        switch (which) {
            case 1: newObject(); break;
            case 2: feed(); break;
            case 3: end(); break;
            case 4: text(); break;
            case 5: faults(); break;
            case 6: use(); break;
            case 7: slack(); break;
            case 8: say(); break;
            case 9: hear(); break;
            case 10: found(); break;
            case 11: understand(); break;
            case 12: meant(); break;
            case 13: walk(); break;
            case 14: where(); break;
            case 15: ages(); break;
            case 16: aged(); break;
            case 17: order(); break;
            case 18: lives(); break;
            case 19: orders(); break;
            case 20: quarrel(); break;
            case 21: parts(); break;
            case 22: idle(); break;
            case 23: fewest(); break;
            case 24: example(); break;
            case 25: fits(); break;
            case 26: learn(); break;
            case 27: forced(); break;
            case 28: rule(); break;
            case 29: image(); break;
            default: look();
        }
    }

    // ---- the face

    private void checkFace() {
        TreeSet<String> face = new TreeSet<>();
        for (Method method : SaidShallow.class.getDeclaredMethods()) {
            if (!Modifier.isPrivate(method.getModifiers()) && !method.isSynthetic()) {
                StringBuilder line = new StringBuilder(method.getReturnType().getName());
                line.append(' ').append(method.getName());
                for (Class<?> type : method.getParameterTypes()) {
                    line.append(' ').append(type.getName());
                }
                due("a method is public: " + line, Modifier.isPublic(method.getModifiers()), true);
                face.add(line.toString());
            }
        }
        TreeSet<String> asked = new TreeSet<>(Arrays.asList(
            "int feed int int int int int", "boolean end int", "int text", "int fault int",
            "boolean use int", "boolean slack int", "int say", "int hear", "int found int int",
            "int understand", "int meant int int", "int walk", "int where", "int ages",
            "int aged int", "boolean order int int", "int lives int int int", "int orders int int",
            "int quarrel int int", "int parts int int int", "int idle int int", "int fewest int",
            "int example boolean", "int fits int", "int learn", "int forced int",
            "int rule int int", "boolean image boolean", "int look int"));
        due("the public methods", face.toString(), asked.toString());
        for (Field field : SaidShallow.class.getDeclaredFields()) {
            boolean isPrivate = Modifier.isPrivate(field.getModifiers());
            due("a field is private: " + field.getName(), isPrivate, !field.getName().equals("NONE"));
        }
        Constructor<?>[] made = SaidShallow.class.getConstructors();
        due("public constructors", made.length, 1);
        due("arguments of the constructor", made[0].getParameterCount(), 0);
        due("the class is final", Modifier.isFinal(SaidShallow.class.getModifiers()), true);
        due("NONE", SaidShallow.NONE, -1);
    }

    // ---- 1 .. 7

    private void newObject() {
        int[] first = {0, 0, 0, 0, 0, 0, 1, 0, NONE, NONE};
        for (int what = 0; what < first.length; what++) {
            due("look(" + what + ")", it.look(what), first[what]);
        }
        due("fault(0)", it.fault(0), 0);
        due("fault(1)", it.fault(1), NONE);
        due("end(0)", it.end(0), true);
        due("end(1)", it.end(1), false);
        due("found(0,-1)", it.found(0, NONE), NONE);
        due("meant(0,0)", it.meant(0, 0), NONE);
        due("where()", it.where(), NONE);
        due("aged(0)", it.aged(0), NONE);
        due("say()", it.say(), NONE);
        due("hear()", it.hear(), NONE);
        due("understand()", it.understand(), NONE);
        due("walk()", it.walk(), NONE - 1);
        due("ages()", it.ages(), NONE);
        due("image(false)", it.image(false), false);
        due("learn()", it.learn(), 0);
        due("fits(0)", it.fits(0), 1);
        due("parts(0,0,1)", it.parts(0, 0, 1), NONE);
        due("fewest(1)", it.fewest(1), 0);
        due("orders(2,0)", it.orders(2, 0), 0);
        due("orders(2,1)", it.orders(2, 1), 0);
        due("rule(0,0)", it.rule(0, 0), NONE);
        due("order(0,0)", it.order(0, 0), false);
        due("text()", it.text(), 0);
        SaidShallow other = new SaidShallow();
        tell("letters a;rule a:a=>_;");
        due("another object's look(2)", other.look(2), 0);
        due("this object's look(2)", it.look(2), 1);
    }

    private void feed() {
        for (int i = 1; i <= 30; i++) {
            due("feed() " + i, it.feed(0, 0, 0, 0, 0), 20 * i);
        }
        due("feed() beyond 600", it.feed(1, 2, 3, 4, 5), NONE);
        due("the tape has 600", it.end(600), true);
        due("end(581)", it.end(581), true);
        due("feed() to 601", it.feed(1, 2, 3, 4, 5), NONE);
        due("the tape still has 581", it.end(581), true);
        due("and no more", it.end(582), false);
        due("end(580)", it.end(580), true);
        due("feed() to 600", it.feed(1, 2, 3, 4, 5), 600);
        it = new SaidShallow();
        it.end(0);
        int lett = 'l' << 24 | 'e' << 16 | 't' << 8 | 't';
        int ers = 'e' << 24 | 'r' << 16 | 's' << 8 | ' ';
        int abc = 'a' << 24 | 'b' << 16 | 'c' << 8 | ';';
        due("feed()", it.feed(lett, ers, abc, 0x20202020, 0x0a0a0a20), 20);
        due("the highest byte comes first", it.text(), 0);
        due("letters", it.look(0), 3);
        it.feed(0xff000000, -1, 0, 0, 0);
        it.end(5);
        due("text() of bytes 255", it.text(), NONE);
        due("bytes are not letters", it.fault(0) * 1000 + it.fault(1), 1000);
    }

    private void end() {
        due("end(-1)", it.end(-1), false);
        due("end(0) of none", it.end(0), true);
        it.feed(0, 0, 0, 0, 0);
        due("end(21)", it.end(21), false);
        due("end(-1)", it.end(-1), false);
        due("nothing changed", it.end(20), true);
        due("end(7)", it.end(7), true);
        due("end(8)", it.end(8), false);
        due("end(7) again", it.end(7), true);
        due("feed() behind 7", it.feed(0, 0, 0, 0, 0), 27);
        due("end(MIN)", it.end(Integer.MIN_VALUE), false);
        due("end(MAX)", it.end(Integer.MAX_VALUE), false);
        due("27 stay", tapeLength(), 27);
        due("end(0)", it.end(0), true);
        due("none are left", it.end(1), false);
    }

    private void text() {
        due("text()", tell("letters abc;pair a:b;rule a:b=>c_;rule a:b<=c_;stem a;end;"), 2);
        due("the tape is empty", it.end(1), false);
        due("IN USE", it.look(5), 3);
        it.use(1);
        it.slack(0);
        it.order(0, 1);
        example("ca:cb", true);
        say("ca");
        understand("a");
        walk("aaab");
        ages("ca");
        due("where()", it.where(), 1);
        String before = snapshot();
        due("text() with a fault", tell("letters a;rule a:a=>;"), NONE);
        due("the tape is empty", it.end(1), false);
        due("all stays as it was", snapshot(), before);
        due("text()", tell("letters abc;rule a:b=>c_;rule a:c=>b_;rule b:c=>_;"), 3);
        due("IN USE are all", it.look(5), 7);
        due("SLACK stays", it.look(6), 0);
        due("EXAMPLES are gone", it.look(7), 0);
        due("words are gone", it.found(0, NONE), NONE);
        due("couples are gone", it.meant(0, 0), NONE);
        due("the place is gone", it.where(), NONE);
        due("what ages left is gone", it.aged(0), NONE);
        due("ORDER at first", it.look(50) * 100 + it.look(51) * 10 + it.look(52), 12);
        due("text() of nothing", tell(""), 0);
        due("no LETTERS", it.look(0), 0);
        due("text() of blanks", tell(" \n "), 0);
        StringBuilder longest = new StringBuilder("letters a;");
        while (longest.length() < 600) {
            longest.append(longest.length() % 2 == 0 ? ' ' : '\n');
        }
        due("text() of 600 bytes", tell(longest.toString()), 0);
        due("LETTERS", it.look(0), 1);
        classesStay();
        itemsAndPairs();
    }

    private String snapshot() {
        StringBuilder all = new StringBuilder();
        for (int what = 0; what < 60; what++) {
            all.append(it.look(what)).append(' ');
        }
        for (int i = 0; i < 3; i++) {
            for (int k = NONE; k < 3; k++) {
                all.append(it.found(i, k)).append(' ').append(it.meant(i, k)).append(' ');
                all.append(it.rule(i, k)).append(' ');
            }
            all.append(it.aged(i)).append(' ');
        }
        return all.append(it.where()).toString();
    }

    /** A CLASS told anew is new for RULES behind it alone. */
    private void classesStay() {
        fresh("letters abc;class A a;rule c:b=>A_;class A b;rule c:a=>A_;");
        due("by the first A", walk("aacb"), NONE);
        due("not by the second A", walk("bbcb"), 0);
        due("by the second A", walk("bbca"), NONE);
        due("not by the first A", walk("aaca"), 1);
        due("the latest A", it.look(10), 1);
    }

    private void itemsAndPairs() {
        fresh("letters abc;class A ab;pair a:b;pair b:c;pair a:0;pair 0:c;rule c:c=>A_;");
        due("G alone: with itself", walk("aacc"), NONE);
        due("G alone: no other said S", walk("abcc"), 0);
        due("G alone: one of it", walk("cccc"), 0);
        fresh("letters abc;class A ab;pair a:b;pair b:c;pair a:0;pair 0:c;rule c:c=>A:A_;");
        due("G:G", walk("abcc"), NONE);
        due("G:G with itself", walk("bbcc"), NONE);
        due("G:G not beyond it", walk("bccc"), 0);
        due("G:G no silence", walk("a0cc"), 0);
        fresh("letters abc;class A ab;pair a:b;pair b:c;pair a:0;pair 0:c;rule c:c=>?_;");
        due("? alone", walk("bccc"), NONE);
        due("? alone: silence too", walk("a0cc"), NONE);
        due("? alone: said alone too", walk("0ccc"), NONE);
        due("? alone: one there must be", walk("cc"), 0);
        fresh("letters abc;class A ab;pair a:b;pair b:c;pair a:0;pair 0:c;rule c:c=>?:0_|0:?_|a:?_b;");
        due("?:0", walk("a0cc"), NONE);
        due("0:?", walk("0ccc"), NONE);
        due("a:? and b", walk("abccbb"), NONE);
        due("L alone is L:L", walk("abccbc"), 0);
        due("not one of them", walk("bbcc"), 0);
        fresh("letters ab;rule a:a=>?_;rule b:b=>a:?_;pair b:0;letters c;pair a:c;");
        due("? takes a PAIR told later", walk("b0aa"), NONE);
        due("? takes a LETTER told later", walk("ccaa"), NONE);
        due("a:? takes a PAIR told later", walk("acbb"), NONE);
        due("a:? takes no other", walk("ccbb"), 1);
    }

    private void faults() {
        due("fault(0) at first", it.fault(0), 0);
        due("fault(1) at first", it.fault(1), NONE);
        due("fault(2)", it.fault(2), NONE);
        due("fault(-1)", it.fault(-1), NONE);
        faultsOne();
        faultsTwo();
        faultsThree();
        limitsThatHold();
        fault("letters a;@", 1, 10);
        due("text() mends it", tell("letters a;"), 0);
        due("fault(0)", it.fault(0), 0);
        due("fault(1)", it.fault(1), NONE);
    }

    private void faultsOne() {
        fault("letters", 1, 7);
        fault("letters ", 1, 8);
        fault("letters;", 1, 7);
        fault("letters a", 1, 9);
        fault("letters a  \n", 1, 12);
        fault("letters a;\n letter b;", 1, 12);
        fault("lettersx a;", 1, 0);
        fault("metters a;", 1, 0);
        fault("letterz a;", 1, 0);
        fault("letters a;dnd;", 1, 10);
        fault("letters a;air a:a;", 1, 10);
        fault("letters a;rul e a:a=>_;", 1, 10);
        fault("lettersa;", 1, 0);
        fault(";", 1, 0);
        fault("letters A;", 1, 8);
        fault("letters a:b;", 1, 9);
        fault("letters a;;", 1, 10);
        fault("letters a;LETTERS b;", 1, 10);
        fault("letters a\t;", 1, 9);
        fault("letters a;class;", 1, 15);
        fault("letters a;class a;", 1, 16);
        fault("letters a;class G a;", 1, 16);
        fault("letters a;class A;", 1, 17);
        fault("letters a;class A 0;", 1, 18);
        fault("letters a;class A a", 1, 19);
        fault("letters a;pair a;", 1, 16);
        fault("letters a;pair a:;", 1, 17);
        fault("letters a;pair ?:a;", 1, 15);
        fault("letters a;pair a:A;", 1, 17);
        fault("letters a;pair a:a", 1, 18);
        fault("letters a;pair a:a:a;", 1, 18);
        fault("letters a;rule a:a _;", 1, 19);
        fault("letters a;rule a:a =< _;", 1, 19);
        fault("letters a;rule a:a = > _;", 1, 19);
        fault("letters a;rule a:a >> _;", 1, 19);
        fault("letters a;rule a:a <> _;", 1, 19);
        fault("letters a;rule a:a == _;", 1, 19);
        fault("letters a;rule a:a >=> _;", 1, 19);
        fault("letters a;rule a:a /=> _;", 1, 19);
        fault("letters a;rule a:a ==>_;", 1, 19);
        fault("letters a;rule a:a =>=_;", 1, 21);
        fault("letters a;rule a:a <", 1, 19);
        fault("letters a;rule a:a", 1, 18);
        fault("letters a;rule a:a < = _;", 1, 19);
        fault("letters a;rule a:a /<_;", 1, 19);
        fault("letters a;rule a:a /<=>_;", 1, 22);
        fault("letters a;rule a:a =>", 1, 21);
        fault("letters a;rule a:a =>;", 1, 21);
        fault("letters a;rule a:a => a;", 1, 23);
        fault("letters a;rule a:a => _ _;", 1, 24);
        fault("letters a;rule a:a => ##_;", 1, 23);
        fault("letters a;rule a:a => a#_;", 1, 23);
        fault("letters a;rule a:a => _#a;", 1, 24);
        fault("letters a;rule a:a => *_;", 1, 22);
        fault("letters a;rule a:a => a**_;", 1, 24);
        fault("letters a;rule a:a => a:_;", 1, 24);
        fault("letters a;rule a:a => a:#_;", 1, 24);
        fault("letters a;rule a:a => a:a:a_;", 1, 25);
        fault("letters a;rule a:a => G_;", 1, 22);
        fault("letters a;rule a:a => _|;", 1, 24);
        fault("letters a;rule a:a => |_;", 1, 22);
        fault("letters a;rule a:a => _", 1, 23);
        fault("letters a;stem;", 1, 14);
        fault("letters a;stem 0;", 1, 15);
        fault("letters a;stem a", 1, 16);
        fault("letters a;end A;", 1, 14);
        fault("letters a;end", 1, 13);
    }

    private void faultsTwo() {
        fault("letters aa;", 2, 9);
        fault("letters ab;letters ca;", 2, 20);
        fault("class A a;", 2, 8);
        fault("letters a;class A ab;", 2, 19);
        fault("letters a;pair b:a;", 2, 15);
        fault("letters a;pair a:b;", 2, 17);
        fault("letters a;pair 0:0;", 2, 15);
        fault("letters a;pair 0 : 0 ;", 2, 15);
        fault("letters a;rule 0:0 => _;", 2, 15);
        fault("letters a;rule 0:a <= _;", 2, 19);
        fault("letters a;rule 0:a\n<=> _;", 2, 19);
        fault("letters a;rule a:a => b_;", 2, 22);
        fault("letters a;rule a:a => a:b_;", 2, 24);
        fault("letters a;rule a:a => A_;", 2, 22);
        fault("letters a;rule a:a => a:B_;", 2, 24);
        fault("letters a;rule a:a => _F;class F a;", 2, 23);
        fault("letters a;rule a:a => a 0:0_;", 2, 24);
        fault("letters a;stem ab;", 2, 16);
        fault("letters a;end b;", 2, 14);
        sound("letters a;rule 0:a => _;rule 0:a /<= _;", 2);
    }

    private void faultsThree() {
        fault("letters abcdefghi;", 3, 16);
        fault("letters abcdefgh;letters i;", 3, 25);
        fault("letters abcdefgha;", 2, 16);
        String twelve = "letters abcdefgh;pair a:b;pair a:c;pair a:d;pair b:a;pair b:c;pair b:d;"
            + "pair c:a;pair c:b;pair c:d;pair d:a;pair d:b;pair d:c;";
        fault(twelve + "pair e:f;", 3, twelve.length() + 5);
        fault(twelve + "rule  e:0 <= ;", 3, twelve.length() + 6);
        fault(twelve + "pair e:?;", 1, twelve.length() + 7);
        sound(twelve + "pair e:e;pair d:c;rule a:b=>_;", 1);
        due("PAIRS", it.look(1), 20);
        fault("letters abcde;pair a:b;pair a:c;pair a:0;pair a:d;", 3, 46);
        fault("letters abcde;pair 0:b;pair 0:c;pair 0:e;pair 0:d;", 3, 46);
        fault("letters abcde;pair b:a;pair c:a;pair 0:a;pair d:a;", 3, 46);
        fault("letters abcde;pair b:0;pair c:0;pair e:0;pair d:0;", 3, 46);
        String eight = "letters a;" + times("rule a:a=>_;", 8);
        sound(eight, 8);
        fault(eight + "rule a:a=>_;", 3, eight.length());
        fault(eight + "rule ?", 3, eight.length());
        fault(eight + "rules ?", 1, eight.length());
        fault("letters a;rule a:a => _|_|_|_;", 3, 27);
        fault("letters a;rule a:a => _|_|_|?", 3, 27);
        fault("letters a;rule a:a => a a a a a a _;", 3, 32);
        fault("letters a;rule a:a => _ a a a a a a:;", 3, 34);
        fault("letters a;rule a:a => _ a a a a a b;", 2, 34);
        fault("letters a;rule a:a => _ a a a a a A;", 2, 34);
        fault("letters a;rule a:a => _ a a a a a 0 : 0;", 2, 34);
        fault("letters a;rule a:a => _ a a a a a 0 : b;", 3, 34);
        String stems = "letters a;" + times("stem a;", 12);
        sound(stems, 0);
        fault(stems + "stem;", 3, stems.length());
        String ends = "letters a;" + times("end;", 8);
        sound(ends, 0);
        fault(ends + "end;", 3, ends.length());
        fault("letters a;stem aaaaaaa;", 3, 21);
        fault("letters a;stem aaaaaab;", 2, 21);
        fault("letters a;end aaaaaaa;", 3, 20);
    }

    private void limitsThatHold() {
        sound("letters hgfedcba;", 0);
        due("8 LETTERS", it.look(0), 8);
        sound("letters a b;letters c;", 0);
        due("letters told twice", it.look(0), 3);
        sound("letters a;rule a:a=>?a?*a:0*0:a_?a?*a:0*0:a|_|#_#;", 1);
        due("3 CONTEXTS", it.rule(0, 3), 3);
        sound("letters a;stem aaaaaa;end aaaaaa;end ;", 0);
        due("6 L of a stem", it.look(20), 6);
        due("6 L of an end", it.look(40), 6);
        due("no L of an end", it.look(41), 0);
        sound("letters abcd;pair a:b;pair a:c;pair a:0;pair 0:b;pair 0:c;pair 0:d;", 0);
        due("3 of one deep S", it.look(1), 10);
        sound("letters\na\nb;class A\nab;rule a\n:\nb\n=>\n#\nA\n:\n?\n*\n_\n#\n|\n_\n;end;", 1);
        due("blanks stand between all", it.rule(0, 3), 2);
        sound("letters ab;class Aab;rule a:b<=>A_A;rule a:b=>_;rule a:b<=_;rule a:b/<=_;", 4);
        due("each OP as long as it can be", it.rule(0, 2), 2);
        sound("letters a;class A aaa;", 0);
        due("a LETTER of a CLASS counts once", it.look(10), 1);
    }

    private void use() {
        due("use(0) without RULES", it.use(0), true);
        due("use(1) without RULES", it.use(1), false);
        fresh("letters ab;rule a:b=>b_;rule b:a=>a_;rule a:a=>_;");
        due("use(5)", it.use(5), true);
        due("IN USE", it.look(5), 5);
        due("use(8)", it.use(8), false);
        due("use(-1)", it.use(-1), false);
        due("use(MIN)", it.use(Integer.MIN_VALUE), false);
        due("IN USE still", it.look(5), 5);
        due("rule 1 is not IN USE", walk("ba"), NONE);
        due("use(2)", it.use(2), true);
        due("rule 1 is", walk("ba"), 1);
        due("use(0)", it.use(0), true);
        due("no RULE at all", walk("ab"), NONE);
        fresh("letters a;" + times("rule a:a=>_;", 8));
        due("use(255)", it.use(255), true);
        due("use(256)", it.use(256), false);
    }

    private void slack() {
        due("slack(2)", it.slack(2), false);
        due("slack(-1)", it.slack(-1), false);
        due("SLACK at first", it.look(6), 1);
        fresh("letters ab;pair a:0;pair 0:b;");
        due("say() with SLACK", say("ab"), 4);
        due("words", words("ab"), "ab,abb,b,bab");
        due("slack(0)", it.slack(0), true);
        due("SLACK", it.look(6), 0);
        due("say() without", say("ab"), 1);
        due("words", words("ab"), "ab");
        due("slack(3)", it.slack(3), false);
        due("SLACK stays", it.look(6), 0);
        due("slack(1)", it.slack(1), true);
        due("hear() with SLACK", hear("b"), 4);
        due("words", words("ab"), ",ab,b,ba");
    }

    // ---- 8 .. 17

    private void say() {
        fresh("letters abc;pair a:b;rule a:b=>c_;");
        due("say(ca)", say("ca"), 2);
        due("words", words("abc"), "ca,cb");
        due("say(aa)", say("aa"), 1);
        due("words", words("abc"), "aa");
        due("the tape is empty", it.end(1), false);
        due("say() of no letters", say(""), NONE);
        due("none are kept", it.found(0, NONE), NONE);
        say("ca");
        due("say(cad)", say("cad"), NONE);
        due("none are kept", it.found(0, NONE), NONE);
        due("the tape is empty", it.end(1), false);
        due("say() of a blank", say("c a"), NONE);
        due("say() of 0", say("0"), NONE);
        due("say() of 9", say("aaaaaaaaa"), NONE);
        due("say() of 8", say("cacacaca"), 16);
        due("the last", it.found(15, 7), 1);
        due("the first", it.found(0, 7), 0);
        fresh("letters ba;pair a:b;");
        due("by the order of LETTERS", say("aa"), 4);
        due("words", words("ba"), "bb,ba,ab,aa");
        fresh("letters ab;pair a:0;pair a:b;");
        due("a word ahead of what it begins", say("aa"), 6);
        due("words", words("ab"), "a,aa,ab,b,ba,bb");
        due("a word of no letters", say("a"), 3);
        due("words", words("ab"), ",a,b");
        due("its length", it.found(0, NONE), 0);
        fresh("letters ab;pair 0:b;");
        due("9 letters", say("aaaaaaaa"), 10);
        due("length", it.found(0, NONE), 8);
        due("length", it.found(1, NONE), 9);
        due("the ninth", it.found(1, 8), 1);
        tooMany();
        manyDeadEnds();
        fresh("letters ab;rule a:a/<=_;rule b:b/<=_;");
        due("no words", say("ab"), 0);
        due("none", it.found(0, NONE), NONE);
    }

    /** The RULES remember the last four PAIRS, and none of all the ROWS ends well. */
    private void manyDeadEnds() {
        fresh("letters abcdh;pair a:b;pair a:c;pair a:d;pair 0:a;pair 0:b;pair 0:c;"
            + "rule a:a/<=a:b???0_|a:c???0_|a:d???0_;rule a:b/<=0:a???0_|0:b???0_|0:c???0_;"
            + "rule b:b/<=a:b??0_|a:c??0_|a:d??0_;rule c:c/<=a:b?0_|a:c?0_|a:d?0_;rule h:h/<=_;");
        due("no words", say("aaaaaaah"), 0);
        it.use(15);
        due("more than 200", say("aaaaaaah"), NONE - 1);
        it.use(31);
        due("no words", say("aaaaaaah"), 0);
        due("4 words, and 15 with one said alone", say("a"), 4 + 2 * 12 - 9);
    }

    private void tooMany() {
        fresh("letters abcde;pair a:b;pair a:c;pair a:d;pair d:c;pair e:a;pair e:b;pair e:c;");
        it.slack(0);
        due("256 words", say("aaaa"), NONE - 1);
        due("none are kept", it.found(0, NONE), NONE);
        due("none are kept", it.found(0, 0), NONE);
        due("the tape is empty", it.end(1), false);
        due("128 words", say("aaad"), 128);
        fresh("letters abcdefgh;pair a:b;pair a:c;pair a:d;pair b:c;pair h:a;pair h:b;");
        it.slack(0);
        due("4 * 4 * 4 * 3", say("aaah"), 192);
        due("4 * 4 * 4 * 2 * 2", say("aaabb"), NONE - 1);
        exactly200();
    }

    /** 256 words of four places, and 56 of them barred by RULES; then 55. */
    private void exactly200() {
        String pairs = "letters abcd;pair a:b;pair a:c;pair a:d;";
        String bar48 = "rule a:b/<=#_a:b|#_a:c|#_a:d;";
        String bar8 = "rule a:c/<=#_a:c a:c|#_a:c a:d;";
        fresh(pairs + bar48 + bar8);
        it.slack(0);
        due("200 words", say("aaaa"), 200);
        due("the last", it.found(199, 0) * 1000 + it.found(199, 3), 3003);
        due("no more", it.found(200, NONE), NONE);
        String bar7 = "rule a:c/<=#_a:c a:c|#_a:c a:d a:a|#_a:c a:d a:b;";
        fresh(pairs + bar48 + bar7);
        it.slack(0);
        due("202 words", say("aaaa"), NONE - 1);
        fresh(pairs + bar48 + bar7 + "rule a:d/<=#_a:d a:d a:d #;");
        it.slack(0);
        due("201 words", say("aaaa"), NONE - 1);
        due("none are kept", it.found(0, NONE), NONE);
    }

    private void hear() {
        fresh("letters abc;pair a:b;rule a:b=>c_;");
        due("hear(cb)", hear("cb"), 2);
        due("words", words("abc"), "ca,cb");
        due("hear(bb)", hear("bb"), 1);
        due("words", words("abc"), "bb");
        due("the tape is empty", it.end(1), false);
        due("hear(ba)", hear("ba"), 1);
        due("hear() of none", hear(""), NONE);
        due("none are kept", it.found(0, NONE), NONE);
        due("hear() of 9", hear("aaaaaaaaa"), NONE);
        due("hear() of 8", hear("cbcbcbcb"), 16);
        due("hear(x)", hear("x"), NONE);
        fresh("letters ab;pair 0:b;pair a:0;rule 0:b=>a_;rule a:0=>_a;");
        due("what is said alone, what is silent", hear("ab"), 3);
        due("words", words("ab"), "a,aab,ab");
        fresh("letters ab;pair 0:b;");
        due("a deep word of no letters", hear("b"), 2);
        due("words", words("ab"), ",b");
        fresh("letters ab;pair a:0;");
        due("a deep word of 9", hear("bbbbbbbb"), 10);
        due("the longest", it.found(0, NONE), 9);
        fresh("letters abcd;pair b:a;pair c:a;pair d:a;");
        due("256 words", hear("aaaa"), NONE - 1);
        due("none are kept", it.found(0, NONE), NONE);
        due("64 words", hear("aaa"), 64);
        it.use(0);
        due("say() finds anew", say("b"), 2);
        due("words", words("abcd"), "a,b");
    }

    private void found() {
        fresh("letters ab;pair a:b;");
        say("ab");
        due("found(0,-1)", it.found(0, NONE), 2);
        due("found(1,0)", it.found(1, 0), 1);
        due("found(1,1)", it.found(1, 1), 1);
        due("found(0,0)", it.found(0, 0), 0);
        due("found(0,2)", it.found(0, 2), NONE);
        due("found(0,7)", it.found(0, 7), NONE);
        due("found(0,-2)", it.found(0, -2), NONE);
        due("found(0,100)", it.found(0, 100), NONE);
        due("found(2,-1)", it.found(2, NONE), NONE);
        due("found(-1,0)", it.found(-1, 0), NONE);
        due("found(MAX,MAX)", it.found(Integer.MAX_VALUE, Integer.MAX_VALUE), NONE);
        due("found(0,MIN)", it.found(0, Integer.MIN_VALUE), NONE);
        hear("a");
        due("of hear() now", it.found(0, NONE), 1);
        due("one alone", it.found(1, NONE), NONE);
        it.use(0);
        it.slack(0);
        it.orders(2, 0);
        it.lives(1, 1, 3);
        due("other calls leave it", it.found(0, 0), 0);
    }

    private void understand() {
        fresh("letters abc;pair a:b;rule a:b=>c_;stem c;stem ca;stem ab;end;end a;end b;");
        due("understand(cb)", understand("cb"), 3);
        due("first", it.meant(0, 0) * 10 + it.meant(0, 1), 1);
        due("second", it.meant(1, 0) * 10 + it.meant(1, 1), 2);
        due("third", it.meant(2, 0) * 10 + it.meant(2, 1), 10);
        due("the tape is empty", it.end(1), false);
        due("understand(bb)", understand("bb"), 0);
        due("understand()", understand(""), NONE);
        due("understand(9)", understand("aaaaaaaaa"), NONE);
        understand("cb");
        due("understand(x)", understand("x"), NONE);
        due("none are kept", it.meant(0, 0), NONE);
        fresh("letters a;stem a;");
        due("without ends", understand("a"), 0);
        fresh("letters ab;pair a:0;pair 0:b;stem aaaaaa;stem bbbbbb;end aaaaaa;end aa;end aaa;end bb;end b;");
        due("8 letters", understand("aaaaaaaa"), 2);
        due("of 8", it.meant(0, 0) * 10 + it.meant(0, 1), 1);
        due("of 9", it.meant(1, 0) * 10 + it.meant(1, 1), 2);
        due("said alone", understand("bbbbbbbb"), 2);
        it.slack(0);
        due("without SLACK", understand("bbbbbbbb"), 1);
        String all = "letters ab;" + times("stem a;", 12) + times("end b;", 8);
        fresh(all);
        due("all couples", understand("ab"), 96);
        due("the last", it.meant(95, 0) * 10 + it.meant(95, 1), 117);
        due("no more", it.meant(96, 0), NONE);
    }

    private void meant() {
        due("meant(0,0)", it.meant(0, 0), NONE);
        fresh("letters ab;stem a;stem b;end b;end;");
        due("understand(b)", understand("b"), 1);
        due("the stem", it.meant(0, 0), 1);
        due("the end", it.meant(0, 1), 1);
        due("another what", it.meant(0, 2), NONE);
        due("another what", it.meant(0, -1), NONE);
        due("no such couple", it.meant(1, 0), NONE);
        due("no such couple", it.meant(-1, 1), NONE);
        due("no such couple", it.meant(Integer.MAX_VALUE, 0), NONE);
        say("a");
        due("say() leaves it", it.meant(0, 0), 1);
    }

    private void walk() {
        fresh("letters abc;pair a:b;pair a:0;pair 0:c;rule a:b=>c_;rule a:0=>_#;rule c:c/<=_a:?;");
        due("allowed", walk("ccab"), 2);
        it.use(3);
        due("allowed", walk("ccab"), NONE);
        due("the tape is empty", it.end(1), false);
        due("the first rule", walk("a0ab"), 0);
        due("its place", it.where(), 1);
        due("the second rule", walk("ccaba0bb"), 1);
        due("its place", it.where(), 2);
        due("none told", walk(""), NONE - 1);
        due("no place", it.where(), NONE);
        due("half a PAIR", walk("aaa"), NONE - 1);
        due("no PAIR", walk("ac"), NONE - 1);
        due("no PAIR", walk("00"), NONE - 1);
        due("no LETTER", walk("ax"), NONE - 1);
        due("no LETTER", walk("?a"), NONE - 1);
        due("a blank", walk("aa bb"), NONE - 1);
        due("one PAIR", walk("ab"), 0);
        due("one PAIR", walk("0c"), NONE);
        due("16 PAIRS", walk(times("0c", 15) + "ab"), 0);
        due("its place", it.where(), 15);
        due("17 PAIRS", walk(times("0c", 17)), NONE - 1);
        due("no place", it.where(), NONE);
        it.slack(0);
        due("SLACK is not asked", walk("0c0ca0"), NONE);
        walkOps();
        walkEdges();
    }

    private void walkOps() {
        fresh("letters abc;pair a:b;pair a:c;pair a:0;rule a:b<=c_;");
        due("<=: P there", walk("ccab"), NONE);
        due("<=: P elsewhere", walk("bbab"), NONE);
        due("<=: another there", walk("ccaa"), 0);
        due("<=: silence there", walk("cca0"), 0);
        due("<=: another elsewhere", walk("bbac"), NONE);
        due("<=: another deep S", walk("ccbb"), NONE);
        fresh("letters abc;pair a:b;pair a:c;rule a:b<=>c_;");
        due("<=>: P there", walk("ccab"), NONE);
        due("<=>: P elsewhere", walk("bbab"), 0);
        due("<=>: another there", walk("ccac"), 0);
        due("<=>: another elsewhere", walk("bbac"), NONE);
        fresh("letters abc;pair a:b;rule a:b/<=c_;");
        due("/<=: P there", walk("ccab"), 0);
        due("/<=: P elsewhere", walk("bbab"), NONE);
        due("/<=: another there", walk("ccaa"), NONE);
        fresh("letters abc;pair 0:b;rule 0:b=>a_a;rule 0:b/<=_ac;");
        due("deep 0", walk("aa0baa"), NONE);
        due("deep 0 elsewhere", walk("aa0b"), 0);
        fresh("letters abc;pair a:b;rule a:b=>c_|_c;");
        due("one of the CONTEXTS", walk("ccab"), NONE);
        due("one of the CONTEXTS", walk("abcc"), NONE);
        due("none of the CONTEXTS", walk("abab"), 0);
        due("the first place", it.where(), 0);
    }

    private void walkEdges() {
        fresh("letters ab;pair a:b;rule a:b=>#_;");
        due("# at the first", walk("abaa"), NONE);
        due("# at another", walk("aaab"), 0);
        fresh("letters ab;pair a:b;rule a:b=>_#;");
        due("# at the last", walk("aaab"), NONE);
        due("# not at the last", walk("abaa"), 0);
        fresh("letters ab;pair a:b;rule a:b=>#b*_;");
        due("# and none", walk("ab"), NONE);
        due("# and some", walk("bbbbab"), NONE);
        due("# and what is none such", walk("aabbab"), 0);
        fresh("letters ab;pair a:b;rule a:b=>_b*a#;");
        due("* and # on the right", walk("abbbbbaa"), NONE);
        due("* of none", walk("abaa"), NONE);
        due("too few", walk("abbb"), 0);
        due("something behind", walk("abbbaabb"), 0);
        fresh("letters ab;pair a:b;rule a:b=>?* b ?* _ ?* b b*;");
        due("stars between", walk("bbaaabaabb"), NONE);
        due("nothing on the right", walk("bbaaabaa"), 0);
        fresh("letters ab;pair a:b;rule a:b=>a a a a b_b a a a a;");
        due("5 ITEMS a side", walk("aaaaaaaabbabbbaaaaaaaa"), NONE);
        due("one is missing", walk("aaaaaabbabbbaaaaaaaa"), 0);
        fresh("letters ab;pair a:b;rule a:b=>#b a a a a_a a a a b#;");
        due("# and 5 ITEMS a side", walk("bbaaaaaaaaabaaaaaaaabb"), NONE);
        due("one ahead of them", walk("bbbbaaaaaaaaabaaaaaaaabb"), 0);
        due("one behind them", walk("bbaaaaaaaaabaaaaaaaabbbb"), 0);
        fresh("letters ab;pair a:b;rule a:b=>0_|_0;");
        due("0 alone is no PAIR", walk("aaab"), 0);
    }

    private void where() {
        fresh("letters ab;pair a:b;rule a:b=>_b;");
        due("where() at first", it.where(), NONE);
        walk("abbbabab");
        due("where()", it.where(), 2);
        due("where() again", it.where(), 2);
        say("a");
        due("say() leaves it", it.where(), 2);
        walk("abbb");
        due("ALLOWED", it.where(), NONE);
        walk("ab");
        due("where()", it.where(), 0);
        walk("a");
        due("what can't be", it.where(), NONE);
    }

    private void ages() {
        fresh("letters abc;rule a:b=>_b;rule b:c=>#_;");
        due("ages(aab)", ages("aab"), 3);
        due("all places at once", agedWord("abc"), "abb");
        due("the tape is empty", it.end(1), false);
        due("ages(ab)", ages("ab"), 2);
        due("the second behind the first", agedWord("abc"), "cb");
        it.order(0, 1);
        ages("ab");
        due("in their ORDER", agedWord("abc"), "bb");
        it.use(2);
        ages("ba");
        due("IN USE alone", agedWord("abc"), "ca");
        due("ages()", ages(""), NONE);
        due("none are kept", it.aged(0), NONE);
        due("ages(9)", ages("aaaaaaaaa"), NONE);
        due("ages(x)", ages("xa"), NONE);
        due("ages(8)", ages("bbbbbbbb"), 8);
        due("a word of 8", agedWord("abc"), "cbbbbbbb");
        due("a word of 1", ages("b"), 1);
        due("a word of 1", agedWord("abc"), "c");
        fresh("letters ab;rule a:0<=_;rule b:a<=>_#;");
        due("all is gone", ages("aaa"), 0);
        due("no letter", it.aged(0), NONE);
        due("what comes later stays", ages("aab"), 1);
        due("a letter", agedWord("ab"), "a");
        fresh("letters ab;pair 0:b;rule a:b/<=_;rule 0:b=>_;");
        due("/<= and deep 0 do nothing", ages("aa"), 2);
        due("a word", agedWord("ab"), "aa");
        fresh("letters ab;pair a:b;rule b:a=>a:b_;");
        ages("ab");
        due("a ROW of LETTERS with themselves", agedWord("ab"), "ab");
    }

    private void aged() {
        due("aged(0)", it.aged(0), NONE);
        fresh("letters abc;rule a:c=>_;");
        ages("ab");
        due("aged(0)", it.aged(0), 2);
        due("aged(1)", it.aged(1), 1);
        due("aged(2)", it.aged(2), NONE);
        due("aged(-1)", it.aged(-1), NONE);
        due("aged(MAX)", it.aged(Integer.MAX_VALUE), NONE);
        it.use(0);
        say("a");
        due("say() leaves it", it.aged(0), 2);
        it.ages();
        due("what can't be", it.aged(0), NONE);
    }

    private void order() {
        due("order(0,0) without RULES", it.order(0, 0), false);
        fresh("letters ab;rule a:b=>_;rule b:a=>_;rule a:0=>_;");
        due("order(0,2)", it.order(0, 2), true);
        due("ORDER", it.look(50) * 100 + it.look(51) * 10 + it.look(52), 210);
        due("order(1,2)", it.order(1, 2), true);
        due("ORDER", it.look(50) * 100 + it.look(51) * 10 + it.look(52), 120);
        due("order(1,2) again", it.order(1, 2), true);
        due("ORDER", it.look(50) * 100 + it.look(51) * 10 + it.look(52), 120);
        due("order(3,0)", it.order(3, 0), false);
        due("order(0,3)", it.order(0, 3), false);
        due("order(-1,0)", it.order(-1, 0), false);
        due("order(0,-1)", it.order(0, -1), false);
        due("nothing changed", it.look(50) * 100 + it.look(51) * 10 + it.look(52), 120);
        it.use(0);
        due("a RULE not IN USE too", it.order(0, 0), true);
        due("ORDER", it.look(50) * 100 + it.look(51) * 10 + it.look(52), 21);
        tell("letters ab;rule a:b=>_;rule b:a=>_;");
        due("behind text()", it.look(50) * 10 + it.look(51), 1);
    }

    // ---- 18 .. 23

    private void lives() {
        fresh("letters abc;pair a:b;pair 0:c;pair c:0;rule a:b=>b b_;rule 0:c=>a_;rule c:0/<=_;");
        due("a PAIR of one", it.lives(1, 1, 1), 1);
        due("not up to 1", it.lives(1, 2, 1), 0);
        due("not up to 2", it.lives(1, 2, 2), 0);
        due("up to 3", it.lives(1, 2, 3), 1);
        due("0:c", it.lives(0, 3, 1), 1);
        due("never", it.lives(3, 0, 3), 0);
        it.use(0);
        due("IN USE alone", it.lives(3, 0, 1), 1);
        due("IN USE alone", it.lives(1, 2, 1), 1);
        it.slack(0);
        due("without SLACK", it.lives(0, 3, 3), 0);
        due("without SLACK", it.lives(3, 0, 3), 0);
        due("no PAIR", it.lives(2, 1, 1), NONE);
        due("no PAIR", it.lives(0, 0, 1), NONE);
        due("no sign", it.lives(4, 4, 1), NONE);
        due("no sign", it.lives(-1, 1, 1), NONE);
        due("no sign", it.lives(1, -1, 1), NONE);
        due("no sign", it.lives(9, 9, 1), NONE);
        due("no sign", it.lives(Integer.MAX_VALUE, 1, 1), NONE);
        due("n 0", it.lives(1, 1, 0), NONE);
        due("n 4", it.lives(1, 1, 4), NONE);
        fresh("letters ab;pair 0:b;rule 0:b=>#_#;");
        due("a deep word of no letters is none", it.lives(0, 2, 3), 0);
    }

    private void orders() {
        fresh("letters abc;rule a:b<=_b;rule b:c<=#_;");
        due("n 0", it.orders(0, 0), NONE);
        due("n 3", it.orders(3, 0), NONE);
        due("how many words of 1", it.orders(1, 1), 3);
        due("how many words", it.orders(2, 1), 12);
        due("of 1 all agree", it.orders(1, 0), 3);
        due("first of several", it.orders(1, 10) * 10 + it.orders(1, 11), 1);
        due("other what", it.orders(2, 2), NONE);
        due("other what", it.orders(2, 9), NONE);
        due("other what", it.orders(2, -1), NONE);
        due("no such place", it.orders(2, 12), NONE);
        // ab by 0 then 1: bb, cb; but deep a is never said c. By 1 then 0: bb, which it is said.
        due("how many agree", it.orders(2, 0), 12);
        due("the best", it.orders(2, 10) * 10 + it.orders(2, 11), 10);
        it.order(0, 1);
        due("ORDER does not matter", it.orders(2, 10), 1);
        it.use(1);
        due("one RULE", it.orders(2, 10), 0);
        due("one alone", it.orders(2, 11), NONE);
        it.use(0);
        due("none", it.orders(2, 0), 12);
        due("none", it.orders(2, 10), NONE);
        fresh("letters a;" + times("rule a:a=>_;", 7));
        due("7 RULES IN USE", it.orders(1, 0), NONE);
        due("7 RULES IN USE", it.orders(1, 1), NONE);
        it.use(63);
        due("6 RULES IN USE", it.orders(1, 0), 1);
        due("the last", it.orders(1, 15), 5);
        due("no seventh", it.orders(1, 16), NONE);
        it.use(126);
        due("6 others", it.orders(1, 15), 6);
        fresh("letters ab;rule a:0<=_;");
        due("no letters may be one", it.orders(1, 0), 2);
        it.slack(0);
        due("not without SLACK", it.orders(1, 0), 1);
        ordersAreFoundAnew();
    }

    private void ordersAreFoundAnew() {
        fresh("letters ab;rule a:b/<=_;rule a:b=>_;");
        due("b and bb alone agree", it.orders(2, 0), 2);
        it.image(true);
        it.use(0);
        due("without RULES all agree", it.orders(2, 0), 6);
        due("up to 1", it.orders(1, 0), 2);
        it.image(false);
        due("as it was", it.orders(2, 0), 2);
        tell("letters a;");
        due("another tongue", it.orders(2, 0), 2);
    }

    private void quarrel() {
        fresh("letters abc;pair a:b;pair a:c;rule a:b<=c_;rule a:c<=_c;rule a:b/<=c_;rule a:c=>_;rule a:b<=b_;");
        due("<= and <=", it.quarrel(0, 1), 3);
        due("the other way", it.quarrel(1, 0), 3);
        due("<= and /<=", it.quarrel(0, 2), 2);
        due("/<= and <=", it.quarrel(2, 0), 2);
        due("/<= of another P", it.quarrel(1, 2), NONE);
        due("=> does not", it.quarrel(0, 3), NONE);
        due("like s", it.quarrel(0, 4), NONE);
        due("no ROW has both", it.quarrel(4, 2), NONE);
        due("the same", it.quarrel(0, 0), NONE);
        due("none such", it.quarrel(0, 5), NONE);
        due("none such", it.quarrel(-1, 0), NONE);
        it.use(0);
        due("IN USE or not", it.quarrel(0, 1), 3);
        fresh("letters abc;rule a:b<=>_;rule a:c<=>_;");
        due("the place itself", it.quarrel(0, 1), 1);
        fresh("letters abc;rule a:b<=a b a b_;rule a:c<=_b a b a;");
        due("4 and 4", it.quarrel(0, 1), 9);
        fresh("letters abc;rule a:b<=a b a b a_;rule a:c<=_;");
        due("5 are too many", it.quarrel(0, 1), NONE);
        fresh("letters abc;rule a:b<=#_;rule a:c<=b_|b*_;");
        due("# and *", it.quarrel(0, 1), 1);
        fresh("letters abc;rule a:b<=#b b*_;rule a:c<=c b_|?b_;");
        due("# at the first", it.quarrel(0, 1), 3);
        fresh("letters abc;rule a:b<=#b_;rule a:c<=?b_;");
        due("# leaves no room", it.quarrel(0, 1), NONE);
        fresh("letters abc;rule a:b<=_b#;rule a:c<=_?*c#;");
        due("the last is not both", it.quarrel(0, 1), NONE);
        fresh("letters abc;rule a:b<=_b;rule a:c<=_?*c#;");
        due("one behind it", it.quarrel(0, 1), 3);
        fresh("letters abc;rule a:b<=#a*b*a b c_;rule a:c<=#a a b c_;");
        due("5 ITEMS with * in 4 PAIRS", it.quarrel(0, 1), 5);
        due("the other way", it.quarrel(1, 0), 5);
        fresh("letters abc;rule a:b<=_a*b*a b c#;rule a:c<=_a a b c#;");
        due("5 ITEMS with * on the right", it.quarrel(0, 1), 5);
        due("the other way", it.quarrel(1, 0), 5);
        fresh("letters ab;pair a:0;rule b:a<=a:?_;rule b:0<=?:0_;");
        due("PAIRS with silence", it.quarrel(0, 1), 2);
        fresh("letters ab;rule b:a<=0_;rule b:0<=_;");
        due("what no PAIR is", it.quarrel(0, 1), NONE);
        fresh("letters ab;rule a:b<=_;rule b:a<=_;");
        due("unlike d", it.quarrel(0, 1), NONE);
        fresh("letters abc;rule a:b<=c_|_;rule a:c<=b_|c_;");
        due("the fewest of all couples", it.quarrel(0, 1), 2);
    }

    private void parts() {
        fresh("letters abc;pair a:b;rule a:b=>c_;rule a:b=>c_|#_;rule a:b=>b c_;");
        due("the same", it.parts(1, 1, 3), NONE);
        due("by a", it.parts(0, 1, 1), 0);
        due("by a", it.parts(1, 2, 3), 0);
        due("by aa", it.parts(0, 2, 2), 3);
        due("by ca", it.parts(1, 4, 2), 9);
        due("not up to 1", it.parts(1, 4, 1), NONE);
        due("not up to 1", it.parts(0, 2, 1), NONE);
        due("one within the other", it.parts(5, 4, 3), NONE);
        due("the other way", it.parts(4, 1, 3), 9);
        it.use(0);
        due("IN USE or not", it.parts(1, 4, 3), 9);
        due("no set", it.parts(8, 0, 1), NONE - 1);
        due("no set", it.parts(0, 8, 1), NONE - 1);
        due("no set", it.parts(-1, 0, 1), NONE - 1);
        due("n 0", it.parts(0, 1, 0), NONE - 1);
        due("n 4", it.parts(0, 1, 4), NONE - 1);
        fresh("letters ab;pair b:0;rule b:0=>b b_;");
        due("by bbb", it.parts(0, 1, 3), 1);
        fresh("letters ab;pair b:a;rule b:a/<=b b_;");
        due("the last of 3", it.parts(0, 1, 3), 13);
        fresh("letters ab;pair b:0;rule b:0=>_;rule b:0/<=_;");
        it.slack(0);
        due("without SLACK", it.parts(0, 2, 3), NONE);
        it.slack(1);
        due("with SLACK", it.parts(0, 2, 3), 1);
        fresh("");
        due("without LETTERS", it.parts(0, 0, 3), NONE);
        due("without LETTERS", it.parts(1, 0, 3), NONE - 1);
        due("without LETTERS", it.parts(0, 0, 4), NONE - 1);
    }

    private void idle() {
        fresh("letters abc;pair a:b;rule a:b=>c_;rule a:b=>c_|#_;rule a:b=>a a a c_;");
        it.use(3);
        due("one that matters", it.idle(0, 3), 0);
        due("one that never does", it.idle(1, 3), 1);
        due("not IN USE", it.idle(2, 3), NONE);
        it.use(2);
        due("alone, up to 1", it.idle(1, 1), 1);
        due("alone, up to 2", it.idle(1, 2), 0);
        due("no RULE", it.idle(3, 1), NONE);
        due("no RULE", it.idle(-1, 1), NONE);
        due("n 0", it.idle(1, 0), NONE);
        due("n 4", it.idle(1, 4), NONE);
        due("IN USE stays", it.look(5), 2);
        fresh("letters ab;pair a:b;rule a:b/<=a a a_;");
        due("not up to 3", it.idle(0, 3), 1);
    }

    private void fewest() {
        due("without RULES", it.fewest(1), 0);
        fresh("letters abc;pair a:b;rule a:b=>c_;rule a:b=>c_|#_;rule a:b=>c_;rule a:a=>_;");
        due("the least of one", it.fewest(2), 1);
        due("up to 1", it.fewest(1), 1);
        it.use(14);
        due("IN USE alone", it.fewest(2), 4);
        it.use(10);
        due("up to 1 none", it.fewest(1), 0);
        due("up to 2 one", it.fewest(2), 2);
        due("n 0", it.fewest(0), NONE);
        due("n 3", it.fewest(3), NONE);
        fresh("letters ab;pair a:b;pair b:a;rule a:b/<=#_;rule b:a/<=#_;rule a:b/<=a_;rule a:b/<=b_;rule a:b/<=_;");
        due("fewer ones ahead of less ones", it.fewest(2), 18);
        it.use(15);
        due("without the last", it.fewest(2), 2 + 1 + 4 + 8);
    }

    // ---- 24 .. 30

    private void example() {
        fresh("letters abc;");
        due("the first", example("a:b", true), 0);
        due("the tape is empty", it.end(1), false);
        due("the second", example("a:", false), 1);
        due("the third", example(":cab", false), 2);
        due("8 and 8", example("abcabcab:abcabcab", true), 3);
        due("both none", example(":", true), NONE);
        due("nothing", example("", true), NONE);
        due("no colon", example("ab", true), NONE);
        due("two colons", example("a::b", true), NONE);
        due("9 deep", example("aaaaaaaaa:a", true), NONE);
        due("9 said", example("a:aaaaaaaaa", true), NONE);
        due("9 deep alone", example("aaaaaaaaa:", true), NONE);
        due("no LETTER", example("x:a", true), NONE);
        due("no LETTER", example("a:0", true), NONE);
        due("a blank", example("a :a", true), NONE);
        due("the tape is empty", it.end(1), false);
        due("4 of them", it.look(7), 4);
        for (int i = 4; i < 12; i++) {
            due("more", example("a:a", true), i);
        }
        due("the 13th", example("a:a", true), NONE);
        due("the tape is empty", it.end(1), false);
        due("12 of them", it.look(7), 12);
        tell("letters abc;");
        due("gone behind text()", it.look(7), 0);
        due("the first again", example("a:b", true), 0);
    }

    private void fits() {
        fresh("letters abc;pair a:b;pair a:0;pair 0:c;rule a:b=>c_;rule a:b/<=_;rule a:b<=c_;");
        due("no EXAMPLES", it.fits(0), 1);
        due("no EXAMPLES", it.fits(7), 1);
        due("no set", it.fits(8), NONE);
        due("no set", it.fits(-1), NONE);
        example("ca:cb", true);
        due("a right one", it.fits(1), 1);
        due("a right one", it.fits(2), 0);
        due("a right one", it.fits(0), 1);
        example("aa:ab", false);
        due("a wrong one", it.fits(0), 0);
        due("a wrong one", it.fits(1), 1);
        due("a wrong one", it.fits(5), 1);
        it.use(0);
        due("IN USE or not", it.fits(1), 1);
        example("ca:c", true);
        due("with SLACK", it.fits(1), 1);
        due("with SLACK", it.fits(4), 0);
        it.slack(0);
        due("without SLACK", it.fits(1), 0);
        it.slack(1);
        example(":c", true);
        due("said alone", it.fits(1), 1);
        example("ba:b", false);
        due("a silent one", it.fits(1), 0);
        fresh("letters ab;");
        example("a:b", true);
        due("no PAIR", it.fits(0), 0);
        fresh("letters ab;pair a:0;");
        example("aaa:a", true);
        due("more than SLACK", it.fits(0), 0);
        fresh("letters ab;pair a:b;rule a:b/<=a a a a a_;");
        example("aaaaaaaa:aaaaaaab", false);
        due("words of 8", it.fits(0), 0);
        due("words of 8", it.fits(1), 1);
    }

    private void learn() {
        due("a new object", it.learn(), 0);
        fresh("letters abc;pair a:b;rule a:b=>c_;rule a:b/<=_;rule a:b/<=a_;rule a:b/<=b_;");
        due("no EXAMPLES", it.learn(), 0);
        example("ca:cb", true);
        due("a right one", it.learn(), 0);
        example("aa:ab", false);
        due("the least of one", it.learn(), 1);
        it.use(0);
        due("IN USE or not", it.learn(), 1);
        example("a:b", true);
        due("another one", it.learn(), 4);
        example("ba:bb", false);
        due("two of them", it.learn(), 12);
        example("a:b", false);
        due("none fits", it.learn(), NONE);
        fresh("letters abc;pair a:b;rule a:b/<=a_;rule a:b/<=b_;rule a:b/<=a_|b_;");
        example("aa:ab", false);
        example("ba:bb", false);
        due("fewer ahead of less", it.learn(), 4);
        fresh("letters ab;pair a:0;rule a:0/<=_;");
        example("ab:b", false);
        due("with SLACK", it.learn(), 1);
        it.slack(0);
        due("without SLACK", it.learn(), 0);
    }

    private void forced() {
        fresh("letters abc;pair a:b;rule a:b=>c_;rule a:b/<=_;rule a:b/<=a_;rule a:b/<=b_;");
        due("not of it", it.forced(0), NONE);
        example("a:b", true);
        example("ca:cb", true);
        example("ba:bb", false);
        example("aa:ab", false);
        due("LEARN", it.learn(), 12);
        due("by the fourth", it.forced(2), 3);
        due("by the third", it.forced(3), 2);
        due("not of it", it.forced(0), NONE);
        due("no RULE", it.forced(4), NONE);
        due("no RULE", it.forced(-1), NONE);
        due("no RULE", it.forced(Integer.MAX_VALUE), NONE);
        example("a:b", false);
        due("none fits", it.forced(2), NONE);
        it = new SaidShallow();
        due("a new object", it.forced(0), NONE);
    }

    private void rule() {
        fresh("letters abc;rule a:b=>_;rule b:0<=_|_;rule c:a<=>_|#_|_#;rule 0:c/<=_;");
        int[][] all = {{1, 2, 0, 1, 1}, {2, 0, 1, 2, 1}, {3, 1, 2, 3, 1}, {0, 3, 3, 1, 1}};
        for (int k = 0; k < all.length; k++) {
            for (int what = 0; what < 5; what++) {
                due("rule(" + k + "," + what + ")", it.rule(k, what), all[k][what]);
            }
        }
        it.use(2);
        due("not IN USE", it.rule(0, 4), 0);
        due("IN USE", it.rule(1, 4), 1);
        due("other what", it.rule(0, 5), NONE);
        due("other what", it.rule(0, -1), NONE);
        due("no RULE", it.rule(4, 0), NONE);
        due("no RULE", it.rule(-1, 0), NONE);
    }

    private void image() {
        due("none yet", it.image(false), false);
        fresh("letters abc;class A ab;pair a:b;rule a:b=>c_;rule a:b=>_;stem a;end;end b;");
        due("none yet", it.image(false), false);
        it.use(1);
        it.slack(0);
        it.order(0, 1);
        example("ca:cb", true);
        due("taken", it.image(true), true);
        String before = looks();
        it.use(2);
        it.slack(1);
        it.order(0, 0);
        example("a:b", false);
        tell("letters xy;rule x:y<=_;stem x;stem y;");
        say("x");
        walk("xx");
        tape("abc");
        tell("letters x;@");
        tape("abc");
        due("gone back", it.image(false), true);
        due("all is as it was", looks(), before);
        due("the tape stays", tapeLength(), 3);
        due("fault(0) stays", it.fault(0), 1);
        due("fault(1) stays", it.fault(1), 10);
        due("what say() found stays", it.found(0, NONE), 1);
        due("what walk() found stays", it.where(), 0);
        due("it goes on", say("ca"), 2);
        due("words", words("abc"), "ca,cb");
        due("an EXAMPLE more", example("aa:ab", false), 1);
        due("LEARN", it.learn(), 1);
        due("gone back once more", it.image(false), true);
        due("all is as it was", looks(), before);
        due("the old EXAMPLE alone", it.learn(), 0);
        it.use(3);
        due("taken anew", it.image(true), true);
        it.use(0);
        it.image(false);
        due("the new one", it.look(5), 3);
        SaidShallow other = new SaidShallow();
        due("another object has none", other.image(false), false);
        due("an empty one", other.image(true), true);
        due("can be gone back to", other.image(false), true);
        due("no LETTERS", other.look(0), 0);
    }

    private String looks() {
        StringBuilder all = new StringBuilder();
        for (int what = -1; what < 62; what++) {
            all.append(it.look(what)).append(' ');
        }
        for (int k = 0; k < 8; k++) {
            for (int what = 0; what < 5; what++) {
                all.append(it.rule(k, what)).append(' ');
            }
        }
        return all.append(it.fits(0)).append(it.learn()).toString();
    }

    private void look() {
        fresh("letters abcde;class A abc;class F e;class A d;pair a:b;pair a:a;rule a:b=>_;rule c:0=>_;"
            + "stem ab;stem abcdea;end;end a;end aa;");
        int[] first = {5, 7, 2, 2, 3, 3, 1, 0};
        for (int what = 0; what < first.length; what++) {
            due("look(" + what + ")", it.look(what), first[what]);
        }
        int[][] more = {{10, 1}, {11, 0}, {14, 0}, {15, 1}, {20, 2}, {21, 6}, {22, NONE}, {31, NONE},
            {40, 0}, {41, 1}, {42, 2}, {43, NONE}, {47, NONE}, {50, 0}, {51, 1}, {52, NONE}, {57, NONE},
            {8, NONE}, {9, NONE}, {16, NONE}, {19, NONE}, {32, NONE}, {39, NONE}, {48, NONE}, {49, NONE},
            {58, NONE}, {-1, NONE}, {1000, NONE}, {Integer.MIN_VALUE, NONE}, {Integer.MAX_VALUE, NONE}};
        for (int[] one : more) {
            due("look(" + one[0] + ")", it.look(one[0]), one[1]);
        }
        example("a:b", true);
        due("EXAMPLES", it.look(7), 1);
        it.slack(0);
        due("SLACK", it.look(6), 0);
        it.use(2);
        due("IN USE", it.look(5), 2);
        String full = "letters abcdefgh;" + times("stem ab;", 12) + times("end c;", 8) + times("rule a:a=>_;", 8);
        fresh(full);
        due("12 stems", it.look(3), 12);
        due("the last", it.look(31), 2);
        due("no 13th", it.look(32), NONE);
        due("8 ends", it.look(4), 8);
        due("the last", it.look(47), 1);
        due("no 9th", it.look(48), NONE);
        due("8 RULES", it.look(2), 8);
        due("the last", it.look(57), 7);
        due("no 9th", it.look(58), NONE);
        due("IN USE", it.look(5), 255);
    }
}
