import java.util.ArrayList;
import java.util.Arrays;
import java.util.HashSet;
import java.util.List;
import java.util.Set;

/** The texts once more, in the plainest way: all tokens first, then the grammar over them. */
final class ModelTexts {
    static final Set<String> WORDS = new HashSet<>(Arrays.asList(("odds topic worth drift claim at propped needs talker "
        + "seat on fails feud say drop pull prop cut any when stands falls high loop end stop").split(" ")));

    static final class Fault extends RuntimeException {
        private static final long serialVersionUID = 1L;
        final int kind;
        final int place;

        Fault(int kind, int place) {
            super("fault " + kind + " at " + place);
            this.kind = kind;
            this.place = place;
        }
    }

    record Token(String text, int place) {
        boolean isWord() {
            return text.matches("[a-z]+");
        }

        boolean isNumber() {
            return text.matches("[0-9]+");
        }

        boolean isName() {
            return text.matches("[a-z]{1,8}") && !WORDS.contains(text);
        }
    }

    static final class Step {
        String act;
        int one;
        int two;
        String test;
        final List<Step> body = new ArrayList<>();
    }

    private final List<Token> tokens = new ArrayList<>();
    private int at = 0;

    private ModelTexts(String text) {
        int i = 0;
        while (i < text.length()) {
            char c = text.charAt(i);
            if (c == ' ' || c == '\n') {
                i++;
                continue;
            }
            int from = i;
            i++;
            String sort = c >= 'a' && c <= 'z' ? "[a-z]" : c >= '0' && c <= '9' ? "[0-9]" : "";
            while (!sort.isEmpty() && i < text.length() && text.substring(i, i + 1).matches(sort)) {
                i++;
            }
            tokens.add(new Token(text.substring(from, i), from));
        }
        tokens.add(new Token("", text.length()));
    }

    /** The token here; what is none is a fault as soon as it is looked at. */
    private Token here() {
        Token t = tokens.get(at);
        boolean sign = t.text.matches("[;<>=]?");
        if (!t.isWord() && !sign && !t.text.matches("[0-9]{1,4}")) {
            throw new Fault(1, t.place);
        }
        return t;
    }

    private Token take() {
        Token t = here();
        at++;
        return t;
    }

    private void need(boolean holds, int kind) {
        if (!holds) {
            throw new Fault(kind, here().place);
        }
    }

    private void pass(String text) {
        need(here().text.equals(text), 2);
        at++;
    }

    private int number(int least, int most) {
        need(here().isNumber(), 2);
        int v = Integer.parseInt(here().text);
        need(v >= least && v <= most, 4);
        return v;
    }

    private int named(List<String> names) {
        need(here().isName(), 2);
        int found = names.indexOf(here().text);
        need(found >= 0, 3);
        return found;
    }

    private String newName(Model m) {
        need(here().isName(), 2);
        String name = here().text;
        need(!m.topicNames.contains(name) && !m.claimNames.contains(name) && !m.talkerNames.contains(name), 3);
        at++;
        return name;
    }

    static Model.State table(String text) {
        ModelTexts r = new ModelTexts(text);
        Model.State s = new Model.State();
        Model m = new Model();
        boolean odds = false;
        while (!r.here().text.isEmpty()) {
            switch (r.here().text) {
                case "odds":
                    r.need(!odds, 5);
                    odds = true;
                    r.at++;
                    s.odds = r.number(0, 16);
                    r.at++;
                    break;
                case "topic":
                    r.need(s.worth.size() < 9, 6);
                    r.at++;
                    m.topicNames.add(r.newName(m));
                    r.pass("worth");
                    s.worth.add(r.number(0, 20));
                    r.at++;
                    r.pass("drift");
                    s.drift.add(r.number(0, 3));
                    r.at++;
                    break;
                case "claim":
                    r.need(s.claimTopic.size() < 8, 6);
                    r.at++;
                    r.claim(s, m);
                    break;
                case "talker":
                    r.need(s.seat.size() < 6, 6);
                    r.at++;
                    r.talker(s, m);
                    break;
                case "feud":
                    r.need(s.feuds.size() < 10, 6);
                    r.at++;
                    int one = r.named(m.talkerNames);
                    r.at++;
                    int other = r.named(m.talkerNames);
                    r.need(one != other, 5);
                    for (int[] f : s.feuds) {
                        r.need(!(f[0] == one && f[1] == other) && !(f[0] == other && f[1] == one), 5);
                    }
                    s.feuds.add(new int[] {one, other});
                    r.at++;
                    break;
                default:
                    throw new Fault(2, r.here().place);
            }
            r.pass(";");
        }
        s.claimNames.addAll(m.claimNames);
        s.talkerNames.addAll(m.talkerNames);
        return s;
    }

    private void claim(Model.State s, Model m) {
        String name = newName(m);
        pass("at");
        int topic = named(m.topicNames);
        at++;
        boolean propped = here().text.equals("propped");
        if (propped) {
            at++;
        }
        List<Integer> needs = new ArrayList<>();
        if (here().text.equals("needs")) {
            at++;
            while (!here().text.equals(";")) {
                int needed = named(m.claimNames);
                need(!needs.contains(needed), 5);
                needs.add(needed);
                at++;
            }
        }
        need(here().text.equals(";"), 2);
        m.claimNames.add(name);
        s.claimTopic.add(topic);
        s.needs.add(needs);
        s.propped.add(propped);
    }

    private void talker(Model.State s, Model m) {
        m.talkerNames.add(newName(m));
        pass("seat");
        int seat = number(0, 9);
        need(!s.seat.contains(seat), 5);
        at++;
        pass("on");
        int topic = named(m.topicNames);
        at++;
        int fails = 0;
        if (here().text.equals("fails")) {
            at++;
            fails = number(0, 16);
            at++;
        }
        s.seat.add(seat);
        s.height.add(topic + 1);
        s.falls.add(false);
        s.fails.add(fails);
    }

    static int steps(List<Step> row) {
        int sum = 0;
        for (Step s : row) {
            sum += 1 + steps(s.body);
        }
        return sum;
    }

    static List<Step> evenings(String text, Model.State s) {
        ModelTexts r = new ModelTexts(text);
        int[] many = {0};
        List<Step> all = r.row(s, 0, many);
        r.need(r.here().text.isEmpty(), 2);
        return all;
    }

    private List<Step> row(Model.State s, int depth, int[] many) {
        List<Step> all = new ArrayList<>();
        while (!here().text.equals("end") && !here().text.isEmpty()) {
            all.add(step(s, depth, many));
        }
        return all;
    }

    private Step step(Model.State s, int depth, int[] many) {
        Step step = new Step();
        step.act = here().text;
        List<String> acts = List.of("say", "drop", "pull", "prop", "cut", "any", "when", "loop", "stop");
        need(acts.contains(step.act), 2);
        many[0]++;
        need(many[0] <= 30, 6);
        boolean nests = step.act.equals("when") || step.act.equals("loop");
        need(!nests || depth < 3, 7);
        at++;
        switch (step.act) {
            case "say":
                step.one = named(s.talkerNames);
                at++;
                step.two = named(s.claimNames);
                at++;
                break;
            case "drop":
                step.one = named(s.talkerNames);
                at++;
                step.two = number(1, 9);
                at++;
                break;
            case "pull":
                step.one = named(s.talkerNames);
                at++;
                break;
            case "prop":
            case "cut":
                step.one = named(s.claimNames);
                at++;
                break;
            case "loop":
                step.two = number(1, 99);
                at++;
                break;
            case "when":
                test(step, s);
                break;
            default:
                break;
        }
        pass(";");
        if (nests) {
            step.body.addAll(row(s, depth + 1, many));
            pass("end");
            pass(";");
        }
        return step;
    }

    private void test(Step step, Model.State s) {
        step.test = here().text;
        need(List.of("stands", "falls", "high").contains(step.test), 2);
        at++;
        step.one = named(step.test.equals("stands") ? s.claimNames : s.talkerNames);
        at++;
        if (step.test.equals("high")) {
            step.test = take().text;
            at--;
            need(List.of("<", ">", "=").contains(step.test), 2);
            at++;
            step.two = number(0, 9);
            at++;
        }
    }
}
