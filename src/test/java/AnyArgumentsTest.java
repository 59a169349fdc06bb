/** Any calls with any arguments: none may throw, and the answers keep within their bounds. */
public final class AnyArgumentsTest {
    private static long seed = 7L;
    private static int wrong;

    private static int below(int n) {
        seed = seed * 6364136223846793005L + 1442695040888963407L;
        return (int) ((seed >>> 33) % n);
    }

    private static int any() {
        switch (below(8)) {
            case 0:
                return Integer.MIN_VALUE + below(3);
            case 1:
                return Integer.MAX_VALUE - below(3);
            case 2:
                return below(600) - 100;
            case 3:
                return 1 << below(32);
            default:
                return below(14) - 2;
        }
    }

    private static final String[] PIECES = {"letters abcdefgh;", "letters ab;", "class A ab;", "class B b;",
        "pair a:b;", "pair b:0;", "pair 0:a;", "pair c:h;", "rule a:b=>", "rule b:a<=", "rule a:0<=>", "rule a:b/<=",
        "_", "#", "A", "B:A*", "?*", "a", "b*", "|", "_#;", "_;", ";", "stem ab;", "end;", "end b;", "stem a;", "0:a",
        "a:0*", "?:a", " ", "\n"};
    private static final String SIGNS = "aaaabbbbabab00cdh:A?;_";

    private static String tape() {
        StringBuilder bytes = new StringBuilder();
        int kind = below(4);
        int pieces = kind == 0 ? 30 : below(18);
        for (int i = 0; i < pieces; i++) {
            if (kind == 0) {
                bytes.append(PIECES[below(PIECES.length)]);
            } else if (kind == 1) {
                bytes.append((char) below(256));
            } else {
                bytes.append(SIGNS.charAt(below(kind == 2 ? 12 : SIGNS.length())));
            }
        }
        if (kind == 0) {
            bytes.insert(0, PIECES[below(2)] + "class A ab;class B b;");
        }
        return bytes.toString();
    }

    private static void feed(SaidShallow it, String bytes) {
        it.end(0);
        for (int i = 0; i < bytes.length(); i += 20) {
            int[] numbers = new int[5];
            for (int k = 0; k < 20; k++) {
                int sign = i + k < bytes.length() ? bytes.charAt(i + k) : ' ';
                numbers[k / 4] = numbers[k / 4] << 8 | sign;
            }
            it.feed(numbers[0], numbers[1], numbers[2], numbers[3], numbers[4]);
        }
        it.end(bytes.length());
    }

    private static String rule() {
        String[] sides = {"", "a", "?*", "#a*", "b:?", "?:0", "0:?*", "a b", "A*b", "? ? ? ? ?", "#"};
        String[] rights = {"", "a", "?*", "a*#", "b:?", "?:0", "0:?*", "a b", "A*b#", "? ? ? ? ?", "#"};
        String[] heads = {"a:b=>", "a:0<=", "b:a<=>", "a:b/<=", "0:a=>", "b:b<=", "b:0/<=", "0:b/<="};
        StringBuilder out = new StringBuilder("rule ").append(heads[below(heads.length)]);
        for (int i = below(3); i >= 0; i--) {
            out.append(sides[below(sides.length)]).append('_').append(rights[below(rights.length)]);
            out.append(i > 0 ? "|" : ";");
        }
        return out.toString();
    }

    private static String text() {
        StringBuilder out = new StringBuilder(below(2) == 0 ? "letters ab;class A ab;" : "letters abcdefgh;class A bc;");
        for (int i = below(9); i > 0 && out.length() < 540; i--) {
            out.append(rule());
        }
        if (out.length() < 540) {
            out.append("stem ab;stem aaaaaa;end;end bbbbbb;");
        }
        return out.length() > 600 ? "letters a;" : out.toString();
    }

    private static void within(String call, int got, int least, int most) {
        if (got < least || got > most) {
            wrong++;
            System.out.println(call + " answered " + got);
        }
    }

    private static void call(SaidShallow it) {
        switch (below(30)) {
            case 0: within("feed", it.feed(any(), any(), any(), any(), any()), -1, 600); break;
            case 1: it.end(any()); break;
            case 2: feed(it, below(3) == 0 ? tape() : text()); within("text", it.text(), -1, 8); break;
            case 3: within("fault", it.fault(any()), -1, 600); break;
            case 4: it.use(below(3) == 0 ? any() : below(256)); break;
            case 5: it.slack(any()); break;
            case 6: within("say", it.say(), -2, 200); break;
            case 7: within("hear", it.hear(), -2, 200); break;
            case 8: within("found", it.found(any(), any()), -1, 9); break;
            case 9: within("understand", it.understand(), -1, 96); break;
            case 10: within("meant", it.meant(any(), any()), -1, 11); break;
            case 11: within("walk", it.walk(), -2, 7); break;
            case 12: within("where", it.where(), -1, 15); break;
            case 13: within("ages", it.ages(), -1, 8); break;
            case 14: within("aged", it.aged(any()), -1, 7); break;
            case 15: it.order(any(), any()); break;
            case 16: within("lives", it.lives(any(), any(), below(2) == 0 ? any() : 1), -1, 1); break;
            case 17: within("orders", it.orders(below(4), any()), -1, 72); break;
            case 18: within("quarrel", it.quarrel(any(), any()), -1, 9); break;
            case 19: within("parts", it.parts(any(), any(), below(5)), -2, 583); break;
            case 20: within("idle", it.idle(any(), below(5)), -1, 1); break;
            case 21: within("fewest", it.fewest(any()), -1, 255); break;
            case 22: within("example", it.example(below(2) == 0), -1, 11); break;
            case 23: within("fits", it.fits(any()), -1, 1); break;
            case 24: within("learn", it.learn(), -1, 255); break;
            case 25: within("forced", it.forced(any()), -1, 11); break;
            case 26: within("rule", it.rule(any(), any()), -1, 8); break;
            case 27: it.image(below(2) == 0); break;
            case 28: within("look", it.look(any()), -1, 255); break;
            default: feed(it, tape());
        }
        if (below(2) == 0) {
            StringBuilder word = new StringBuilder();
            for (int i = below(12); i > 0; i--) {
                word.append(SIGNS.charAt(below(below(4) == 0 ? 18 : 12)));
            }
            feed(it, word.toString());
        }
    }

    public static void main(String[] args) {
        int objects = args.length > 0 ? Integer.parseInt(args[0]) : 300;
        for (int i = 0; i < objects && wrong < 10; i++) {
            SaidShallow it = new SaidShallow();
            for (int k = 0; k < 512; k++) {
                call(it);
            }
        }
        System.out.println(objects + " objects with 512 calls each, " + wrong + " wrong");
        System.exit(wrong == 0 ? 0 : 1);
    }
}
