import java.util.Random;

/** Long runs of drawn calls on the class and on the model: both must answer alike. */
public final class ModelTest {
    private static final int RUNS = 400;
    private static final int CALLS = 320;
    private static final String[] SUMS = {"ship", "town", "months", "heat", "want", "price", "stock", "coming", "pond",
        "hold", "money", "month", "house"};
    private static final String[] SIGNS = {"<", "<=", "=", ">=", ">"};
    private static final String[] JOINS = {"+", "-", "*", "/", "%"};

    private final Random random;
    private final PondIceTrade trade = new PondIceTrade();
    private final Model model = new Model();
    private final Checks checks;
    private final int run;

    private ModelTest(int run, Checks checks) {
        this.run = run;
        this.random = new Random(run);
        this.checks = checks;
    }

    public static void main(String[] args) {
        Checks checks = new Checks();
        for (int run = 0; run < RUNS && checks.wrong() == 0; run++) {
            new ModelTest(run, checks).go();
        }
        checks.close();
    }

    private void due(String call, int got, int want) {
        checks.due("run " + run + ": " + call, got, want);
    }

    private void go() {
        for (int i = 0; i < CALLS && checks.wrong() == 0; i++) {
            if (i < 8 || random.nextInt(60) == 0) {
                tellText(i);
            }
            call(random.nextInt(40));
            if (random.nextInt(8) == 0) {
                compareAll();
            }
        }
        compareAll();
    }

    private void tellText(int i) {
        boolean isRule = i > 1 && i < 8 || random.nextBoolean();
        String text = isRule ? ruleText() : tradeText();
        if (random.nextInt(4) == 0) {
            text = spoiled(text);
        }
        text = text.substring(0, Math.min(400, text.length()));
        feedBoth(text);
        if (isRule) {
            due("rule() of " + text, trade.rule(), model.rule());
        } else {
            due("trade() of " + text, trade.trade(), model.trade());
        }
    }

    private void feedBoth(String text) {
        due("end(0)", trade.end(0), model.end(0));
        int[] n = Checks.numbers(text);
        for (int i = 0; i < n.length; i += 5) {
            due("feed", trade.feed(n[i], n[i + 1], n[i + 2], n[i + 3], n[i + 4]),
                    model.feed(n[i], n[i + 1], n[i + 2], n[i + 3], n[i + 4]));
        }
        due("end", trade.end(text.length()), model.end(text.length()));
    }

    private int upTo(int most) {
        return random.nextInt(most + 1);
    }

    /** Mostly from the range, now and then just outside it or far away. */
    private int about(int least, int most) {
        switch (random.nextInt(14)) {
            case 0: return least - 1;
            case 1: return most + 1;
            case 2: return least;
            case 3: return most;
            case 4: return random.nextInt(3) == 0 ? random.nextInt() : least;
            default: return least + random.nextInt(most - least + 1);
        }
    }

    private String blank() {
        return random.nextInt(3) == 0 ? "  ".substring(upTo(1)) : "";
    }

    private String tradeText() {
        StringBuilder s = new StringBuilder(blank() + "trade " + upTo(random.nextBoolean() ? 9999 : 400) + " " + upTo(random.nextInt(3) == 0 ? 20 : 2)
                + " " + upTo(999));
        int towns = 0;
        int clauses = random.nextInt(20) == 0 ? 39 + upTo(3) : 3 + upTo(12);
        for (int i = 0; i < clauses; i++) {
            s.append(blank()).append(';').append(blank());
            switch (random.nextInt(clauses > 30 ? 15 : 6)) {
                case 0:
                    s.append("ship ").append(1 + upTo(98)).append(' ').append(upTo(99));
                    break;
                case 1:
                    s.append("town").append(blank()).append(1 + upTo(5)).append(' ').append(upTo(60)).append(' ')
                            .append(upTo(40)).append(' ').append(1 + upTo(98));
                    towns++;
                    break;
                default:
                    if (towns > 0 && random.nextInt(4) == 0) {
                        s.append("house ").append(upTo(Math.min(3, towns - 1)));
                    } else {
                        s.append("frost").append(upTo(11)).append(' ').append(1 + upTo(98));
                    }
                    break;
            }
        }
        return s.toString();
    }

    private String value() {
        return random.nextInt(3) == 0 ? "" + upTo(random.nextInt(6) == 0 ? 99999 : 60) : SUMS[random.nextInt(SUMS.length)];
    }

    private String sum() {
        StringBuilder s = new StringBuilder(value());
        for (int i = random.nextInt(4); i > 0; i--) {
            s.append(blank()).append(JOINS[random.nextInt(JOINS.length)]).append(blank()).append(value());
        }
        return s.toString();
    }

    private String test(int depth) {
        StringBuilder s = new StringBuilder(fact(depth));
        for (int i = random.nextInt(3); i > 0; i--) {
            s.append(random.nextBoolean() ? " and " : " or ").append(fact(depth));
        }
        return s.toString();
    }

    private String fact(int depth) {
        int kind = random.nextInt(depth > 2 ? 12 : 6);
        if (kind == 0) {
            return "not " + fact(depth + 1);
        }
        if (kind == 1) {
            return "[" + blank() + test(depth + 1) + blank() + "]";
        }
        return sum() + blank() + SIGNS[random.nextInt(SIGNS.length)] + blank() + sum();
    }

    private String ruleText() {
        if (random.nextInt(4) == 0) {
            return random.nextBoolean() ? "sail want * 2 - coming" : "sail hold if stock < want and coming = 0; sail 5";
        }
        if (random.nextInt(12) == 0) {
            return "sail 1 if " + "not ".repeat(upTo(6)) + "[".repeat(upTo(6)) + "1<2" + "]".repeat(upTo(6));
        }
        if (random.nextInt(12) == 0) {
            return "sail 1" + (random.nextBoolean() ? "+1*2" : "+pond-1").repeat(random.nextInt(29) + 10) + " if 2<3 or 4=4";
        }
        StringBuilder s = new StringBuilder();
        int clauses = random.nextInt(12) == 0 ? 11 + upTo(3) : 1 + upTo(3);
        for (int i = 0; i < clauses; i++) {
            s.append(i == 0 ? "" : ";").append(blank()).append("sail ").append(sum());
            if (random.nextBoolean()) {
                s.append(blank()).append(" if ").append(test(0));
            }
        }
        return s.toString();
    }

    private String spoiled(String text) {
        if (text.isEmpty()) {
            return text;
        }
        int at = random.nextInt(text.length());
        String signs = " ;0<=>[]+x9\u00e9A\u0000";
        char sign = signs.charAt(random.nextInt(signs.length()));
        switch (random.nextInt(4)) {
            case 0: return text.substring(0, at);
            case 1: return text.substring(0, at) + text.substring(at + 1);
            case 2: return text.substring(0, at) + sign + text.substring(at);
            default: return text.substring(0, at) + sign + text.substring(at + 1);
        }
    }

    private void call(int which) {
        int a = about(0, 3);
        int n = about(1, 24);
        boolean dust = random.nextBoolean();
        switch (which) {
            case 0: case 1: case 2: case 3: case 4: case 5: case 6: case 7: case 8: case 9: case 10: case 11:
                due("month()", trade.month(), model.month());
                break;
            case 12: case 13: case 14: case 15:
                int blocks = about(1, random.nextBoolean() ? 99 : 20);
                int where = about(0, 1);
                due("sail(" + a + ", " + where + ", " + blocks + ", " + dust + ")",
                        trade.sail(a, where, blocks, dust), model.sail(a, where, blocks, dust));
                break;
            case 16:
                int gift = about(1, 12);
                due("teach(" + a + ", " + gift + ")", trade.teach(a, gift), model.teach(a, gift));
                break;
            case 17:
                due("build(" + a + ")", trade.build(a), model.build(a));
                break;
            case 18:
                int price = about(1, 99);
                due("ask(" + a + ", " + price + ")", trade.ask(a, price), model.ask(a, price));
                break;
            case 19: case 20:
                due("undo()", trade.undo(), model.undo());
                break;
            case 21: case 22:
                int rule = about(-1, 5);
                due("force(" + rule + ")", trade.force(rule), model.force(rule));
                break;
            case 23:
                int x = random.nextInt();
                due("seed(" + x + ")", trade.seed(x), model.seed(x));
                break;
            case 24:
                due("image(" + a + ")", trade.image(a), model.image(a));
                break;
            case 25:
                due("back(" + a + ")", trade.back(a), model.back(a));
                break;
            case 26: case 27:
                callNote();
                break;
            default:
                callQuestion(which, a, n, dust);
                break;
        }
    }

    private void callNote() {
        int month = random.nextInt(12) == 0 ? -1 : about(0, 60);
        int money = random.nextInt(8) == 0 || model.now == null || month < 0 || month > 60 ? about(0, 99999)
                : moneyBy(random.nextInt(model.rules.size() + 1) - 1, month);
        due("note(" + month + ", " + money + ")", trade.note(month, money), model.note(month, money));
    }

    private int moneyBy(int rule, int month) {
        Model.State s = model.begin.copy();
        for (int i = 0; i < month; i++) {
            Model.doMonth(s, rule < 0 ? null : model.rules.get(rule), 100);
        }
        return s.money;
    }

    private void callQuestion(int which, int a, int n, boolean dust) {
        int what = about(0, 3);
        switch (which) {
            case 28:
                int months = about(0, 60);
                due("ahead(" + a + ", " + months + ", " + what + ")", trade.ahead(a, months, what), model.ahead(a, months, what));
                break;
            case 29:
                int blocks = about(0, 999);
                due("comes(" + a + ", " + blocks + ", " + dust + ")", trade.comes(a, blocks, dust), model.comes(a, blocks, dust));
                int come = about(1, 99);
                due("load(" + a + ", " + come + ", " + dust + ")", trade.load(a, come, dust), model.load(a, come, dust));
                break;
            case 30:
                if (random.nextInt(4) == 0) {
                    due("send(" + a + ", " + n + ", " + what + ")", trade.send(a, n, what), model.send(a, n, what));
                    int other = about(0, 3);
                    due("send(" + a + ", " + n + ", " + other + ")", trade.send(a, n, other), model.send(a, n, other));
                }
                break;
            case 31:
                due("fleet(" + n + ", " + what + ")", trade.fleet(n, what), model.fleet(n, what));
                due("fleet(" + n + ", 0)", trade.fleet(n, 0), model.fleet(n, 0));
                break;
            case 32:
                due("give(" + a + ", " + n + ", " + what + ")", trade.give(a, n, what), model.give(a, n, what));
                due("give(" + a + ", " + n + ", 1)", trade.give(a, n, 1), model.give(a, n, 1));
                break;
            case 33:
                due("site(" + n + ", " + what + ")", trade.site(n, what), model.site(n, what));
                break;
            case 34:
                due("pricing(" + a + ", " + n + ", " + what + ")", trade.pricing(a, n, what), model.pricing(a, n, what));
                break;
            case 35:
                due("war(" + a + ", " + what + ")", trade.war(a, what), model.war(a, what));
                break;
            case 36:
                int came = about(0, 99);
                due("hatch(" + a + ", " + came + ", " + dust + ", " + what + ")",
                        trade.hatch(a, came, dust, what), model.hatch(a, came, dust, what));
                break;
            case 37:
                int ruled = about(0, 1);
                due("ruled(" + ruled + ")", trade.ruled(ruled), model.ruled(ruled));
                due("look(" + ruled + ")", trade.look(ruled), model.look(ruled));
                break;
            case 38:
                int m = about(1, 10);
                int months2 = about(1, 60);
                int of = about(0, 1);
                due("years(" + m + ", " + months2 + ", " + of + ")", trade.years(m, months2, of), model.years(m, months2, of));
                break;
            default:
                due("out()", trade.out(), model.out());
                break;
        }
    }

    private void compareAll() {
        for (int what = -1; what <= 16; what++) {
            due("count(" + what + ")", trade.count(what), model.count(what));
        }
        for (int ship = -1; ship <= 3; ship++) {
            for (int what = -1; what <= 6; what++) {
                due("ship(" + ship + ", " + what + ")", trade.ship(ship, what), model.ship(ship, what));
            }
        }
        for (int town = -1; town <= 4; town++) {
            for (int what = -1; what <= 8; what++) {
                due("town(" + town + ", " + what + ")", trade.town(town, what), model.town(town, what));
            }
        }
    }
}
