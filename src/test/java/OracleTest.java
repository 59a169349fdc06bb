import java.util.ArrayList;
import java.util.Arrays;
import java.util.List;
import java.util.TreeSet;

/**
 * Random runs of calls, each answer held against a plain model that follows the
 * document's words: every ROW is written out and looked at as a whole.
 */
public final class OracleTest {
    private static int wrong;
    private static int answers;
    private static long seed = 20261118L;

    private static int below(int n) {
        seed = seed * 6364136223846793005L + 1442695040888963407L;
        return (int) ((seed >>> 33) % n);
    }

    public static void main(String[] args) {
        int runs = args.length > 0 ? Integer.parseInt(args[0]) : 200;
        if (args.length > 1) {
            seed = Long.parseLong(args[1]);
        }
        for (int run = 0; run < runs && wrong < 10; run++) {
            new OracleTest().run();
            new OracleTest().runLong();
        }
        System.out.println(answers + " answers held against the model, " + wrong + " wrong");
        System.exit(wrong == 0 ? 0 : 1);
    }

    private final SaidShallow it = new SaidShallow();
    private final Model model = new Model();
    private final StringBuilder trail = new StringBuilder();
    private int calls;

    private void same(String call, long got, long want) {
        answers++;
        calls++;
        trail.append(call).append(" = ").append(want).append('\n');
        if (got != want) {
            wrong++;
            System.out.println("---- answered " + got + ", due is " + want + ", at the end of:");
            System.out.println(trail);
        }
    }

    private void same(String call, boolean got, boolean want) {
        same(call, got ? 1 : 0, want ? 1 : 0);
    }

    private void tape(String bytes) {
        StringBuilder padded = new StringBuilder(bytes);
        while (padded.length() % 20 != 0) {
            padded.append(' ');
        }
        for (int i = 0; i < padded.length(); i += 20) {
            int[] numbers = new int[5];
            for (int k = 0; k < 20; k++) {
                numbers[k / 4] = numbers[k / 4] << 8 | padded.charAt(i + k);
            }
            it.feed(numbers[0], numbers[1], numbers[2], numbers[3], numbers[4]);
            calls++;
        }
        it.end(bytes.length());
        calls++;
        trail.append("tape \"").append(bytes).append("\"\n");
    }

    /** Long words and RULES that look far to the right: states with much that is owed. */
    private void runLong() {
        int wrongBefore = wrong;
        String text = Texts.farSighted();
        tape(text);
        same("text()", it.text(), model.text(text));
        for (int i = 0; i < 6 && wrong == wrongBefore; i++) {
            if (below(3) == 0) {
                using();
            }
            String word = word(5, 8);
            boolean deep = below(2) == 0;
            tape(word);
            if (deep) {
                same("say()", it.say(), model.say(word));
            } else {
                same("hear()", it.hear(), model.hear(word));
            }
            for (int k = 0; k < model.found.size() && calls < 500; k += 1 + below(9)) {
                int at = below(9);
                same("found(" + k + "," + at + ")", it.found(k, at), model.found(k, at));
            }
        }
    }

    private void run() {
        int wrongBefore = wrong;
        tellText(0);
        for (int i = 0; i < 400 && calls < 440 && wrong == wrongBefore; i++) {
            step();
        }
    }

    private void tellText(int mutations) {
        String text;
        do {
            text = new Texts().write();
        } while (text.length() > 600);
        for (int i = 0; i < mutations; i++) {
            text = Texts.spoil(text);
        }
        tape(text);
        same("text()", it.text(), model.text(text));
        same("fault(0)", it.fault(0), model.fault);
        same("fault(1)", it.fault(1), model.place);
        for (int what = -1; what < 8; what++) {
            same("look(" + what + ")", it.look(what), model.look(what));
        }
    }

    private String word(int least, int most) {
        int length = least + below(most - least + 1);
        StringBuilder word = new StringBuilder();
        for (int i = 0; i < length && model.letters.length() > 0; i++) {
            word.append(model.letters.charAt(below(model.letters.length())));
        }
        if (below(40) == 0) {
            word.insert(below(word.length() + 1), "0 :z#".charAt(below(5)));
        }
        return word.toString();
    }

    private int anySet() {
        return below(20) == 0 ? below(300) - 20 : below(1 << model.rules.size());
    }

    private int anyRule() {
        return below(20) == 0 ? below(12) - 2 : below(Math.max(1, model.rules.size()));
    }

    private void step() {
        int n = below(15) == 0 ? below(6) - 1 : 1 + below(2);
        switch (below(24)) {
            case 0: case 1: case 2: saying(); break;
            case 3: case 4: case 5: hearing(); break;
            case 6: case 7: understanding(); break;
            case 8: case 9: walking(); break;
            case 10: case 11: aging(); break;
            case 12: ordering(n); break;
            case 13: living(n); break;
            case 14: quarrelling(); break;
            case 15: parting(n); break;
            case 16: {
                same("fewest(" + n + ")", it.fewest(n), model.fewest(n));
                break;
            }
            case 17: case 18: exampling(); break;
            case 19: learning(); break;
            case 20: using(); break;
            case 21: imaging(); break;
            case 22: looking(); break;
            default:
                if (below(6) == 0) {
                    tellText(below(3));
                }
        }
    }

    private void saying() {
        String word = word(1, below(4) == 0 ? 6 : 3);
        tape(word);
        same("say()", it.say(), model.say(word));
        checkFound();
    }

    private void hearing() {
        String word = word(1, below(4) == 0 ? 6 : 3);
        tape(word);
        same("hear()", it.hear(), model.hear(word));
        checkFound();
    }

    private void checkFound() {
        int some = model.found.size() + 1;
        for (int t = 0; t < 3; t++) {
            int i = below(some);
            int k = below(6) - 1;
            same("found(" + i + "," + k + ")", it.found(i, k), model.found(i, k));
        }
    }

    private void understanding() {
        String word = word(1, 4);
        tape(word);
        same("understand()", it.understand(), model.understand(word));
        for (int i = 0; i <= model.meant.size() && i < 4; i++) {
            int what = below(10) == 0 ? 2 : below(2);
            same("meant(" + i + "," + what + ")", it.meant(i, what), model.meant(i, what));
        }
    }

    private void walking() {
        int length = 1 + below(below(3) == 0 ? 17 : 5);
        StringBuilder row = new StringBuilder();
        for (int i = 0; i < length && !model.pairs.isEmpty(); i++) {
            int[] pair = model.pairs.get(below(model.pairs.size()));
            row.append(model.charOf(pair[0])).append(model.charOf(pair[1]));
        }
        if (below(30) == 0) {
            row.append("0ab".charAt(below(3)));
        }
        tape(row.toString());
        same("walk()", it.walk(), model.walk(row.toString()));
        same("where()", it.where(), model.where);
    }

    private void aging() {
        String word = word(1, 8);
        tape(word);
        same("ages()", it.ages(), model.ages(word));
        for (int k = -1; k <= model.aged.length && k < 4; k++) {
            same("aged(" + k + ")", it.aged(k), model.aged(k));
        }
        int i = anyRule();
        int k = anyRule();
        same("order(" + i + "," + k + ")", it.order(i, k), model.order(i, k));
    }

    private void ordering(int n) {
        int what = below(4) == 0 ? below(20) - 1 : below(2) * 10 + below(2);
        same("orders(" + n + "," + what + ")", it.orders(n, what), model.orders(n, what));
        for (int i = 0; i < 3; i++) {
            same("orders(" + n + "," + (10 + i) + ")", it.orders(n, 10 + i), model.orders(n, 10 + i));
        }
    }

    private void living(int n) {
        int[] pair = {below(10), below(10)};
        if (!model.pairs.isEmpty() && below(10) > 0) {
            pair = model.pairs.get(below(model.pairs.size()));
        }
        String call = "lives(" + pair[0] + "," + pair[1] + "," + n + ")";
        same(call, it.lives(pair[0], pair[1], n), model.lives(pair[0], pair[1], n));
    }

    private void quarrelling() {
        for (int a = 0; a < model.rules.size(); a++) {
            for (int b = 0; b < model.rules.size(); b++) {
                if (model.mayQuarrel(a, b)) {
                    same("quarrel(" + a + "," + b + ")", it.quarrel(a, b), model.quarrel(a, b));
                }
            }
        }
        int a = anyRule();
        int b = anyRule();
        same("quarrel(" + a + "," + b + ")", it.quarrel(a, b), model.quarrel(a, b));
    }

    private void parting(int n) {
        int far = n == 2 && below(8) == 0 && model.letters.length() <= 3 ? 3 : n;
        int a = anySet();
        int b = anySet();
        same("parts(" + a + "," + b + "," + far + ")", it.parts(a, b, far), model.parts(a, b, far));
        int k = anyRule();
        same("idle(" + k + "," + far + ")", it.idle(k, far), model.idle(k, far));
    }

    private void exampling() {
        String deep = word(0, 4);
        String said = deep;
        boolean right = below(3) > 0;
        if (below(2) == 0) {
            said = word(0, 4);
        } else {
            model.say(deep);
            if (!model.found.isEmpty()) {
                said = model.found.get(below(model.found.size()));
            }
            tape(deep);
            same("say()", it.say(), model.say(deep));
        }
        String tape = below(30) == 0 ? deep + said : deep + ":" + said;
        tape(tape);
        same("example(" + right + ")", it.example(right), model.example(tape, right));
    }

    private void learning() {
        int set = anySet();
        same("fits(" + set + ")", it.fits(set), model.fits(set));
        same("learn()", it.learn(), model.learn());
        for (int k = 0; k < 2; k++) {
            int rule = anyRule();
            same("forced(" + rule + ")", it.forced(rule), model.forced(rule));
        }
    }

    private void using() {
        int set = anySet();
        same("use(" + set + ")", it.use(set), model.use(set));
        int n = below(4) - 1;
        same("slack(" + n + ")", it.slack(n), model.slack(n));
    }

    private void imaging() {
        boolean taken = below(2) == 0;
        same("image(" + taken + ")", it.image(taken), model.image(taken));
    }

    private void looking() {
        int what = below(70) - 2;
        same("look(" + what + ")", it.look(what), model.look(what));
        int k = anyRule();
        int part = below(7) - 1;
        same("rule(" + k + "," + part + ")", it.rule(k, part), model.rule(k, part));
    }

    /** Writes a text by chance, most often one without a FAULT. */
    private static final class Texts {
        private final StringBuilder out = new StringBuilder();
        private final String letters = "badcxyzq".substring(0, 1 + below(below(4) == 0 ? 8 : 3));
        private String classes = "";

        private void put(String piece) {
            out.append(piece);
            for (int i = below(8); i > 5; i--) {
                out.append(below(2) == 0 ? ' ' : '\n');
            }
        }

        private String letter() {
            return letters.substring(below(letters.length())).substring(0, 1);
        }

        private String sound() {
            return below(4) == 0 ? "0" : letter();
        }

        private String x() {
            int kind = below(10);
            if (kind < 2 && !classes.isEmpty()) {
                return classes.substring(below(classes.length())).substring(0, 1);
            }
            return kind < 4 ? "?" : kind == 4 ? "0" : letter();
        }

        String write() {
            put("letters ");
            for (int i = 0; i < letters.length(); i++) {
                put(letters.substring(i, i + 1));
            }
            put(";");
            for (int i = below(3); i > 0; i--) {
                String g = "ABCDEF".substring(below(6)).substring(0, 1);
                classes += g;
                put("class ");
                put(g);
                for (int k = below(3); k >= 0; k--) {
                    put(letter());
                }
                put(";");
            }
            for (int i = below(4); i > 0; i--) {
                put("pair ");
                pair();
                put(";");
            }
            int shape = below(3);
            for (int i = below(6) == 0 ? 8 : 1 + below(4); i > 0; i--) {
                rule(shape);
            }
            for (int i = below(5); i > 0; i--) {
                put("stem ");
                for (int k = below(3); k >= 0; k--) {
                    put(letter());
                }
                put(";");
            }
            for (int i = below(4); i > 0; i--) {
                put("end");
                if (out.charAt(out.length() - 1) == 'd') {
                    out.append(' ');
                }
                for (int k = below(3); k > 0; k--) {
                    put(letter());
                }
                put(";");
            }
            return out.toString();
        }

        private void pair() {
            String deep = sound();
            put(deep);
            put(":");
            put(deep.equals("0") ? letter() : sound());
        }

        private void rule(int shape) {
            put("rule ");
            int before = out.length();
            pair();
            boolean silent = out.charAt(before) == '0';
            put(silent ? (below(2) == 0 ? "=>" : "/<=") : new String[] {"=>", "<=", "<=>", "/<="}[below(4)]);
            int contexts = below(5) == 0 ? 3 : 1 + below(2);
            for (int i = 0; i < contexts; i++) {
                if (i > 0) {
                    put("|");
                }
                if (below(4) == 0) {
                    put("#");
                }
                items(shape);
                put("_");
                items(shape);
                if (below(4) == 0) {
                    put("#");
                }
            }
            put(";");
        }

        private void items(int shape) {
            int most = shape == 0 ? 2 : shape == 1 ? 3 : below(5) == 0 ? 6 : 2;
            for (int i = below(most); i > 0; i--) {
                String first = x();
                put(first);
                if (below(3) == 0) {
                    String second = x();
                    put(":");
                    put(first.equals("0") && second.equals("0") ? "?" : second);
                }
                if (below(3) == 0) {
                    put("*");
                }
            }
        }

        private static String one(String... all) {
            return all[below(all.length)];
        }

        static String farSighted() {
            StringBuilder text = new StringBuilder("letters ab;pair a:b;pair b:a;");
            text.append(one("", "", "pair a:0;", "pair 0:b;", "pair b:0;pair 0:a;"));
            for (int i = 2 + below(6); i > 0; i--) {
                text.append("rule ").append(one("a:b", "b:a", "a:a", "b:b"));
                text.append(one("=>", "=>", "=>", "<=", "<=>", "/<="));
                for (int k = below(2); k >= 0; k--) {
                    text.append(one("", "", "", "#", "?:b", "a:?", "#?:a*", "b:?a:?*", "a:b?*"));
                    text.append('_');
                    text.append(one("?*a:b#", "?*b:a a#", "?:a*b:b?:a#", "?:b ?:b*a:?#", "a:? ?*?:a", "??*b#",
                        "? ? ?:a", "?*?:b ?:b?*", "?:a* ?:b ?:a*#", "a:?*b:?a:?*#", "#", "?#", "??#"));
                    text.append(k > 0 ? "|" : ";");
                }
            }
            return text.toString();
        }

        static String spoil(String text) {
            if (text.isEmpty()) {
                return text;
            }
            int at = below(text.length());
            String signs = "abcdxyz ABCDEFG0?#_:*|;<=>/\n\t9";
            char sign = signs.charAt(below(signs.length()));
            switch (below(5)) {
                case 0:
                    return text.substring(0, at) + text.substring(at + 1);
                case 1:
                    return text.substring(0, at) + sign + text.substring(at + 1);
                case 2:
                    return text.length() < 600 ? text.substring(0, at) + sign + text.substring(at) : text;
                case 3:
                    return text.substring(0, at);
                default: {
                    int from = text.lastIndexOf(';', at) + 1;
                    int to = text.indexOf(';', at) + 1;
                    String piece = to > from ? text.substring(from, to) : "";
                    String more = text + piece + piece + piece;
                    return more.length() <= 600 ? more : text;
                }
            }
        }
    }
}

/** The plain model. Signs: 0 silence, else 1 more than the LETTER's number. */
final class Model {
    static final class Fault extends RuntimeException {
        private static final long serialVersionUID = 1L;
        final int kind;
        final int at;

        Fault(int kind, int at) {
            this.kind = kind;
            this.at = at;
        }
    }

    static final class Item {
        String deep;
        String said;
        boolean alone;
        boolean star;
    }

    static final class Context {
        boolean first;
        boolean last;
        List<Item> left = new ArrayList<>();
        List<Item> right = new ArrayList<>();
    }

    static final class Law {
        int deep;
        int said;
        String op;
        List<Context> contexts = new ArrayList<>();
    }

    static final class Case {
        String deep;
        String said;
        boolean right;
    }

    String letters = "";
    String[] classes = {"", "", "", "", "", ""};
    List<int[]> pairs = new ArrayList<>();
    List<Law> rules = new ArrayList<>();
    List<String> stems = new ArrayList<>();
    List<String> ends = new ArrayList<>();
    List<Case> cases = new ArrayList<>();
    int[] order = {};
    int inUse;
    int slack = 1;
    int fault;
    int place = -1;
    List<String> found = new ArrayList<>();
    List<int[]> meant = new ArrayList<>();
    int where = -1;
    int[] aged = {};
    Model kept;

    char charOf(int sign) {
        return sign == 0 ? '0' : letters.charAt(sign - 1);
    }

    int signOf(char c) {
        return letters.indexOf(c) + 1;
    }

    // ---- the text

    private String source;
    private int at;

    int text(String text) {
        Model draft = new Model();
        draft.source = text;
        fault = 0;
        place = -1;
        try {
            draft.readAll();
        } catch (Fault f) {
            fault = f.kind;
            place = f.at;
            return -1;
        }
        take(draft);
        inUse = (1 << rules.size()) - 1;
        found = new ArrayList<>();
        meant = new ArrayList<>();
        where = -1;
        aged = new int[0];
        cases = new ArrayList<>();
        order = new int[rules.size()];
        for (int i = 0; i < order.length; i++) {
            order[i] = i;
        }
        return rules.size();
    }

    private void take(Model other) {
        letters = other.letters;
        classes = other.classes.clone();
        pairs = new ArrayList<>(other.pairs);
        rules = new ArrayList<>(other.rules);
        stems = new ArrayList<>(other.stems);
        ends = new ArrayList<>(other.ends);
    }

    private char look() {
        while (at < source.length() && (source.charAt(at) == ' ' || source.charAt(at) == '\n')) {
            at++;
        }
        return at < source.length() ? source.charAt(at) : (char) 0xffff;
    }

    private char pick(String allowed) {
        char c = look();
        if (allowed.indexOf(c) < 0) {
            throw new Fault(1, at);
        }
        at++;
        return c;
    }

    private static final String SMALL = "abcdefghijklmnopqrstuvwxyz";
    private static final String GREAT = "ABCDEF";

    private void readAll() {
        while (look() != (char) 0xffff) {
            int start = at;
            StringBuilder keyword = new StringBuilder();
            while (at < source.length() && SMALL.indexOf(source.charAt(at)) >= 0) {
                keyword.append(source.charAt(at++));
            }
            switch (keyword.toString()) {
                case "letters": readLetters(); break;
                case "class": readClass(); break;
                case "pair": readP(); break;
                case "rule": readRule(start); break;
                case "stem": stems.add(readPart(start, stems.size() == 12, 1)); break;
                case "end": ends.add(readPart(start, ends.size() == 8, 0)); break;
                default: throw new Fault(1, start);
            }
            pick(";");
        }
    }

    private void readLetters() {
        boolean any = false;
        while (SMALL.indexOf(look()) >= 0 || !any) {
            char c = pick(SMALL);
            if (letters.indexOf(c) >= 0) {
                throw new Fault(2, at - 1);
            }
            if (letters.length() == 8) {
                throw new Fault(3, at - 1);
            }
            letters += c;
            pairs.add(new int[] {letters.length(), letters.length()});
            any = true;
        }
    }

    private char letter() {
        char c = pick(SMALL);
        if (letters.indexOf(c) < 0) {
            throw new Fault(2, at - 1);
        }
        return c;
    }

    private void readClass() {
        int which = GREAT.indexOf(pick(GREAT));
        String members = "" + letter();
        while (SMALL.indexOf(look()) >= 0) {
            members += letter();
        }
        classes[which] = members;
    }

    private int sound() {
        if (look() == '0') {
            at++;
            return 0;
        }
        return signOf(letter());
    }

    private int[] readP() {
        look();
        int start = at;
        int deep = sound();
        pick(":");
        int said = sound();
        if (deep == 0 && said == 0) {
            throw new Fault(2, start);
        }
        if (!isPair(deep, said)) {
            int all = 0;
            int ofDeep = 0;
            int ofSaid = 0;
            for (int[] pair : pairs) {
                if (pair[0] != pair[1]) {
                    all++;
                    ofDeep += pair[0] == deep ? 1 : 0;
                    ofSaid += pair[1] == said ? 1 : 0;
                }
            }
            if (all == 12 || ofDeep == 3 || ofSaid == 3) {
                throw new Fault(3, start);
            }
            pairs.add(new int[] {deep, said});
        }
        return new int[] {deep, said};
    }

    boolean isPair(int deep, int said) {
        for (int[] pair : pairs) {
            if (pair[0] == deep && pair[1] == said) {
                return true;
            }
        }
        return false;
    }

    private void readRule(int start) {
        if (rules.size() == 8) {
            throw new Fault(3, start);
        }
        Law law = new Law();
        int[] p = readP();
        law.deep = p[0];
        law.said = p[1];
        look();
        for (String op : new String[] {"/<=", "<=>", "<=", "=>"}) {
            if (law.op == null && source.startsWith(op, at)) {
                law.op = op;
            }
        }
        if (law.op == null) {
            throw new Fault(1, at);
        }
        if (law.deep == 0 && law.op.startsWith("<=")) {
            throw new Fault(2, at);
        }
        at += law.op.length();
        law.contexts.add(readContext());
        while (look() == '|') {
            if (law.contexts.size() == 3) {
                throw new Fault(3, at);
            }
            at++;
            law.contexts.add(readContext());
        }
        rules.add(law);
    }

    private Context readContext() {
        Context context = new Context();
        if (look() == '#') {
            at++;
            context.first = true;
        }
        readItems(context.left);
        pick("_");
        readItems(context.right);
        if (look() == '#') {
            at++;
            context.last = true;
        }
        return context;
    }

    private void readItems(List<Item> items) {
        while ((SMALL + GREAT + "0?").indexOf(look()) >= 0) {
            int start = at;
            boolean full = items.size() == 5;
            String first = readX();
            Item item = new Item();
            item.deep = first;
            item.said = first;
            item.alone = true;
            if (full && !(first.equals("0") && look() == ':')) {
                throw new Fault(3, start);
            }
            if (look() == ':') {
                at++;
                if (first.equals("0") && look() == '0') {
                    throw new Fault(2, start);
                }
                if (full) {
                    throw new Fault(3, start);
                }
                item.said = readX();
                item.alone = false;
            }
            if (look() == '*') {
                at++;
                item.star = true;
            }
            items.add(item);
        }
    }

    /** "0", "?", a letter, or a class as it is now: "{ab}". */
    private String readX() {
        char c = look();
        if (SMALL.indexOf(c) >= 0) {
            return "" + letter();
        }
        pick(GREAT + "0?");
        if (GREAT.indexOf(c) >= 0) {
            if (classes[GREAT.indexOf(c)].isEmpty()) {
                throw new Fault(2, at - 1);
            }
            return "{" + classes[GREAT.indexOf(c)] + "}";
        }
        return "" + c;
    }

    private String readPart(int start, boolean full, int least) {
        if (full) {
            throw new Fault(3, start);
        }
        String part = "";
        while (SMALL.indexOf(look()) >= 0 || part.length() < least) {
            char c = letter();
            if (part.length() == 6) {
                throw new Fault(3, at - 1);
            }
            part += c;
        }
        return part;
    }

    // ---- rows

    private boolean isOf(int sign, String x) {
        if (x.equals("?")) {
            return true;
        }
        return sign == 0 ? x.equals("0") : x.indexOf(charOf(sign)) >= 0;
    }

    private boolean takes(Item item, int[] pair) {
        boolean inBoth = isOf(pair[0], item.deep) && isOf(pair[1], item.said);
        boolean needsItself = item.alone && item.deep.startsWith("{");
        return inBoth && (!needsItself || pair[0] == pair[1]);
    }

    private boolean matches(List<Item> items, int item, List<int[]> row, int from, int to) {
        if (item == items.size()) {
            return from == to;
        }
        Item it = items.get(item);
        if (!it.star) {
            return from < to && takes(it, row.get(from)) && matches(items, item + 1, row, from + 1, to);
        }
        if (matches(items, item + 1, row, from, to)) {
            return true;
        }
        return from < to && takes(it, row.get(from)) && matches(items, item, row, from + 1, to);
    }

    private boolean leftHolds(Context context, List<int[]> row, int i) {
        for (int from = 0; from <= i; from++) {
            if ((!context.first || from == 0) && matches(context.left, 0, row, from, i)) {
                return true;
            }
        }
        return false;
    }

    private boolean rightHolds(Context context, List<int[]> row, int i) {
        for (int to = i + 1; to <= row.size(); to++) {
            if ((!context.last || to == row.size()) && matches(context.right, 0, row, i + 1, to)) {
                return true;
            }
        }
        return false;
    }

    private boolean holds(Law law, List<int[]> row, int i) {
        for (Context context : law.contexts) {
            if (leftHolds(context, row, i) && rightHolds(context, row, i)) {
                return true;
            }
        }
        return false;
    }

    private int firstBreak(Law law, List<int[]> row) {
        for (int i = 0; i < row.size(); i++) {
            boolean isP = row.get(i)[0] == law.deep && row.get(i)[1] == law.said;
            boolean isOther = row.get(i)[0] == law.deep && row.get(i)[1] != law.said;
            boolean only = law.op.equals("=>") || law.op.equals("<=>");
            boolean always = law.op.equals("<=") || law.op.equals("<=>");
            boolean never = law.op.equals("/<=");
            boolean cares = (only && isP) || (always && isOther) || (never && isP);
            if (cares) {
                boolean there = holds(law, row, i);
                if ((only && isP && !there) || (always && isOther && there) || (never && isP && there)) {
                    return i;
                }
            }
        }
        return -1;
    }

    private boolean allowed(List<int[]> row, int set) {
        for (int k = 0; k < rules.size(); k++) {
            if ((set >> k & 1) == 1 && firstBreak(rules.get(k), row) >= 0) {
                return false;
            }
        }
        return true;
    }

    /** All rows whose deep (side 0) or said (side 1) word is the given one. */
    private List<List<int[]>> rowsOf(String word, int side) {
        List<List<int[]>> all = new ArrayList<>();
        grow(word, side, 0, slack, new ArrayList<>(), all);
        return all;
    }

    private void grow(String word, int side, int used, int silent, List<int[]> row, List<List<int[]>> all) {
        if (used == word.length() && !row.isEmpty()) {
            all.add(new ArrayList<>(row));
        }
        for (int[] pair : pairs) {
            int cost = pair[0] == 0 || pair[1] == 0 ? 1 : 0;
            boolean free = pair[side] == 0;
            if (cost > silent || (!free && (used == word.length() || signOf(word.charAt(used)) != pair[side]))) {
                continue;
            }
            row.add(pair);
            grow(word, side, free ? used : used + 1, silent - cost, row, all);
            row.remove(row.size() - 1);
        }
    }

    private String wordOf(List<int[]> row, int side) {
        StringBuilder word = new StringBuilder();
        for (int[] pair : row) {
            if (pair[side] != 0) {
                word.append(charOf(pair[side]));
            }
        }
        return word.toString();
    }

    private TreeSet<String> others(String word, int side, int set) {
        TreeSet<String> all = new TreeSet<>(this::compareWords);
        for (List<int[]> row : rowsOf(word, side)) {
            if (allowed(row, set)) {
                all.add(wordOf(row, 1 - side));
            }
        }
        return all;
    }

    private int compareWords(String a, String b) {
        for (int i = 0; i < a.length() && i < b.length(); i++) {
            if (a.charAt(i) != b.charAt(i)) {
                return signOf(a.charAt(i)) - signOf(b.charAt(i));
            }
        }
        return a.length() - b.length();
    }

    private boolean isWord(String word, int least, int most) {
        if (word.length() < least || word.length() > most) {
            return false;
        }
        for (int i = 0; i < word.length(); i++) {
            if (letters.indexOf(word.charAt(i)) < 0) {
                return false;
            }
        }
        return true;
    }

    int say(String word) {
        return find(word, 0);
    }

    int hear(String word) {
        return find(word, 1);
    }

    private int find(String word, int side) {
        found = new ArrayList<>();
        if (!isWord(word, 1, 8)) {
            return -1;
        }
        TreeSet<String> all = others(word, side, inUse);
        if (all.size() > 200) {
            return -2;
        }
        found.addAll(all);
        return found.size();
    }

    int found(int i, int k) {
        if (i < 0 || i >= found.size()) {
            return -1;
        }
        String word = found.get(i);
        if (k == -1) {
            return word.length();
        }
        return k < 0 || k >= word.length() ? -1 : letters.indexOf(word.charAt(k));
    }

    int understand(String word) {
        meant = new ArrayList<>();
        if (!isWord(word, 1, 8)) {
            return -1;
        }
        TreeSet<String> deeps = others(word, 1, inUse);
        for (int stem = 0; stem < stems.size(); stem++) {
            for (int end = 0; end < ends.size(); end++) {
                if (deeps.contains(stems.get(stem) + ends.get(end))) {
                    meant.add(new int[] {stem, end});
                }
            }
        }
        return meant.size();
    }

    int meant(int i, int what) {
        return i < 0 || i >= meant.size() || what < 0 || what > 1 ? -1 : meant.get(i)[what];
    }

    int walk(String signs) {
        where = -1;
        if (signs.length() < 2 || signs.length() > 32 || signs.length() % 2 != 0) {
            return -2;
        }
        List<int[]> row = new ArrayList<>();
        for (int i = 0; i < signs.length(); i += 2) {
            int[] pair = new int[2];
            for (int side = 0; side < 2; side++) {
                char c = signs.charAt(i + side);
                if (c != '0' && letters.indexOf(c) < 0) {
                    return -2;
                }
                pair[side] = c == '0' ? 0 : signOf(c);
            }
            if (!isPair(pair[0], pair[1])) {
                return -2;
            }
            row.add(pair);
        }
        for (int k = 0; k < rules.size(); k++) {
            if ((inUse >> k & 1) == 1 && firstBreak(rules.get(k), row) >= 0) {
                where = firstBreak(rules.get(k), row);
                return k;
            }
        }
        return -1;
    }

    // ---- ages

    private String age(Law law, String word) {
        if (law.op.equals("/<=") || law.deep == 0) {
            return word;
        }
        List<int[]> row = new ArrayList<>();
        for (char c : word.toCharArray()) {
            row.add(new int[] {signOf(c), signOf(c)});
        }
        StringBuilder next = new StringBuilder();
        for (int i = 0; i < word.length(); i++) {
            boolean changes = row.get(i)[0] == law.deep && holds(law, row, i);
            if (!changes) {
                next.append(word.charAt(i));
            } else if (law.said != 0) {
                next.append(charOf(law.said));
            }
        }
        return next.toString();
    }

    int ages(String word) {
        aged = new int[0];
        if (!isWord(word, 1, 8)) {
            return -1;
        }
        String now = word;
        for (int k : order) {
            if ((inUse >> k & 1) == 1) {
                now = age(rules.get(k), now);
            }
        }
        aged = new int[now.length()];
        for (int i = 0; i < aged.length; i++) {
            aged[i] = letters.indexOf(now.charAt(i));
        }
        return aged.length;
    }

    int aged(int k) {
        return k < 0 || k >= aged.length ? -1 : aged[k];
    }

    boolean order(int i, int k) {
        if (i < 0 || i >= order.length || k < 0 || k >= order.length) {
            return false;
        }
        for (int j = 0; j < order.length; j++) {
            if (order[j] == k) {
                order[j] = order[i];
                order[i] = k;
                break;
            }
        }
        return true;
    }

    private List<String> wordsUpTo(int n) {
        List<String> all = new ArrayList<>();
        List<String> last = List.of("");
        for (int length = 1; length <= n; length++) {
            List<String> next = new ArrayList<>();
            for (String front : last) {
                for (char c : letters.toCharArray()) {
                    next.add(front + c);
                }
            }
            all.addAll(next);
            last = next;
        }
        return all;
    }

    int orders(int n, int what) {
        List<Integer> used = new ArrayList<>();
        for (int k = 0; k < rules.size(); k++) {
            if ((inUse >> k & 1) == 1) {
                used.add(k);
            }
        }
        boolean known = what == 0 || what == 1 || (what >= 10 && what < 10 + used.size());
        if (n < 1 || n > 2 || used.size() > 6 || !known) {
            return -1;
        }
        List<String> words = wordsUpTo(n);
        if (what == 1) {
            return words.size();
        }
        List<TreeSet<String>> saids = new ArrayList<>();
        for (String word : words) {
            saids.add(others(word, 0, inUse));
        }
        List<List<Integer>> all = new ArrayList<>();
        permute(used, new ArrayList<>(), all);
        int best = -1;
        List<Integer> bestOrder = null;
        for (List<Integer> order : all) {
            int agreed = 0;
            for (int w = 0; w < words.size(); w++) {
                String now = words.get(w);
                for (int k : order) {
                    now = age(rules.get(k), now);
                }
                agreed += saids.get(w).contains(now) ? 1 : 0;
            }
            if (agreed > best) {
                best = agreed;
                bestOrder = order;
            }
        }
        return what == 0 ? best : bestOrder.get(what - 10);
    }

    private void permute(List<Integer> left, List<Integer> order, List<List<Integer>> all) {
        if (left.isEmpty()) {
            all.add(new ArrayList<>(order));
        }
        for (Integer k : left) {
            List<Integer> rest = new ArrayList<>(left);
            rest.remove(k);
            order.add(k);
            permute(rest, order, all);
            order.remove(order.size() - 1);
        }
    }

    // ---- sets of rules

    private boolean isSet(int set) {
        return set >= 0 && set < 1 << rules.size();
    }

    private boolean isRule(int k) {
        return k >= 0 && k < rules.size();
    }

    boolean use(int set) {
        if (isSet(set)) {
            inUse = set;
        }
        return isSet(set);
    }

    boolean slack(int n) {
        if (n == 0 || n == 1) {
            slack = n;
        }
        return n == 0 || n == 1;
    }

    int lives(int deep, int said, int n) {
        if (n < 1 || n > 3 || !isPair(deep, said)) {
            return -1;
        }
        for (String word : wordsUpTo(n)) {
            for (List<int[]> row : rowsOf(word, 0)) {
                boolean has = false;
                for (int[] pair : row) {
                    has |= pair[0] == deep && pair[1] == said;
                }
                if (has && allowed(row, inUse)) {
                    return 1;
                }
            }
        }
        return 0;
    }

    boolean mayQuarrel(int a, int b) {
        if (!isRule(a) || !isRule(b) || a == b) {
            return false;
        }
        Law one = rules.get(a);
        Law other = rules.get(b);
        boolean oneAlways = one.op.startsWith("<=");
        boolean otherAlways = other.op.startsWith("<=");
        if (oneAlways && otherAlways) {
            return one.deep == other.deep && one.said != other.said;
        }
        boolean samePair = one.deep == other.deep && one.said == other.said;
        return samePair && ((oneAlways && other.op.equals("/<=")) || (otherAlways && one.op.equals("/<=")));
    }

    int quarrel(int a, int b) {
        int best = -1;
        if (mayQuarrel(a, b)) {
            for (Context x : rules.get(a).contexts) {
                for (Context y : rules.get(b).contexts) {
                    int left = shortest(x, y, true);
                    int right = shortest(x, y, false);
                    if (left >= 0 && right >= 0 && (best < 0 || left + right + 1 < best)) {
                        best = left + right + 1;
                    }
                }
            }
        }
        return best;
    }

    private int shortest(Context x, Context y, boolean left) {
        for (int length = 0; length <= 4; length++) {
            if (some(x, y, left, new ArrayList<>(), length)) {
                return length;
            }
        }
        return -1;
    }

    private boolean some(Context x, Context y, boolean left, List<int[]> row, int more) {
        if (more == 0) {
            List<int[]> whole = new ArrayList<>(row);
            whole.add(left ? row.size() : 0, new int[] {-1, -1});
            return left ? leftHolds(x, whole, row.size()) && leftHolds(y, whole, row.size())
                : rightHolds(x, whole, 0) && rightHolds(y, whole, 0);
        }
        for (int[] pair : pairs) {
            row.add(pair);
            boolean any = some(x, y, left, row, more - 1);
            row.remove(row.size() - 1);
            if (any) {
                return true;
            }
        }
        return false;
    }

    private int firstParted(int a, int b, int n) {
        List<String> words = wordsUpTo(n);
        for (int w = 0; w < words.size(); w++) {
            List<String> one = new ArrayList<>(others(words.get(w), 0, a));
            List<String> other = new ArrayList<>(others(words.get(w), 0, b));
            if (!one.equals(other)) {
                return w;
            }
        }
        return -1;
    }

    int parts(int a, int b, int n) {
        return !isSet(a) || !isSet(b) || n < 1 || n > 3 ? -2 : firstParted(a, b, n);
    }

    int idle(int k, int n) {
        if (!isRule(k) || (inUse >> k & 1) == 0 || n < 1 || n > 3) {
            return -1;
        }
        return firstParted(inUse, inUse & ~(1 << k), n) == -1 ? 1 : 0;
    }

    int fewest(int n) {
        if (n < 1 || n > 2) {
            return -1;
        }
        int best = inUse;
        for (int set = 0; set < 1 << rules.size(); set++) {
            boolean within = (set & ~inUse) == 0;
            if (within && Integer.bitCount(set) < Integer.bitCount(best) && firstParted(set, inUse, n) == -1) {
                best = set;
            }
        }
        return best;
    }

    // ---- examples

    int example(String tape, boolean right) {
        int colon = tape.indexOf(':');
        if (colon < 0 || cases.size() == 12 || tape.length() == 1) {
            return -1;
        }
        Case one = new Case();
        one.deep = tape.substring(0, colon);
        one.said = tape.substring(colon + 1);
        one.right = right;
        if (!isWord(one.deep, 0, 8) || !isWord(one.said, 0, 8)) {
            return -1;
        }
        cases.add(one);
        return cases.size() - 1;
    }

    private int firstUntrue(int set) {
        for (int i = 0; i < cases.size(); i++) {
            Case one = cases.get(i);
            boolean said = false;
            for (List<int[]> row : rowsOf(one.deep, 0)) {
                said |= wordOf(row, 1).equals(one.said) && allowed(row, set);
            }
            if (said != one.right) {
                return i;
            }
        }
        return -1;
    }

    int fits(int set) {
        return !isSet(set) ? -1 : firstUntrue(set) == -1 ? 1 : 0;
    }

    int learn() {
        int best = -1;
        for (int set = 0; set < 1 << rules.size(); set++) {
            boolean fewer = best == -1 || Integer.bitCount(set) < Integer.bitCount(best);
            if (fewer && firstUntrue(set) == -1) {
                best = set;
            }
        }
        return best;
    }

    int forced(int k) {
        int set = learn();
        if (!isRule(k) || set == -1 || (set >> k & 1) == 0) {
            return -1;
        }
        return firstUntrue(set & ~(1 << k));
    }

    // ---- what is

    int rule(int k, int what) {
        if (!isRule(k)) {
            return -1;
        }
        Law law = rules.get(k);
        int op = Arrays.asList("=>", "<=", "<=>", "/<=").indexOf(law.op);
        int[] all = {law.deep, law.said, op, law.contexts.size(), inUse >> k & 1};
        return what < 0 || what >= all.length ? -1 : all[what];
    }

    boolean image(boolean taken) {
        if (taken) {
            kept = new Model();
            kept.take(this);
            copyStanding(this, kept);
            return true;
        }
        if (kept == null) {
            return false;
        }
        take(kept);
        copyStanding(kept, this);
        return true;
    }

    private static void copyStanding(Model from, Model to) {
        to.cases = new ArrayList<>(from.cases);
        to.order = from.order.clone();
        to.inUse = from.inUse;
        to.slack = from.slack;
    }

    int look(int what) {
        int[] plain = {letters.length(), pairs.size(), rules.size(), stems.size(), ends.size(),
            inUse, slack, cases.size()};
        if (what >= 0 && what < plain.length) {
            return plain[what];
        }
        if (what >= 10 && what < 16) {
            TreeSet<Character> members = new TreeSet<>();
            for (char c : classes[what - 10].toCharArray()) {
                members.add(c);
            }
            return members.size();
        }
        if (what >= 20 && what < 20 + stems.size()) {
            return stems.get(what - 20).length();
        }
        if (what >= 40 && what < 40 + ends.size()) {
            return ends.get(what - 40).length();
        }
        if (what >= 50 && what < 50 + order.length) {
            return order[what - 50];
        }
        return -1;
    }
}
