/**
 * Of each promise: what a refused call answers, and that nothing has happened behind it; and of what is
 * asked, that nothing changes by it. All that can be seen of the object is compared (see Picture).
 */
public final class RefusedTest {
    private static final Checks CHECKS = new Checks();
    private static final int NONE = PondIceTrade.NONE;
    private static final int[] FAR = {Integer.MIN_VALUE, Integer.MAX_VALUE};
    private static final String TRADE = "trade 900 2 300;frost 0 20;frost 1 30;ship 50 10;ship 30 5;ship 9 0;"
            + "town 2 20 10 9;town 1 40 8 5;town 3 0 4 30;town 6 60 1 99;house 0";
    private static final String GOOD_TAPE = "trade 7 7 7;ship 7 7";

    private static final Picture.Maker FRESH = PondIceTrade::new;
    private static final Picture.Maker BUSY = () -> busy(GOOD_TAPE);
    private static final Picture.Maker FULL = RefusedTest::full;
    private static final Picture.Maker BEGUN = () -> Checks.told(TRADE);
    private static final Picture.Maker POOR = () -> Checks.told("trade 99 2 300;ship 50 10;town 1 0 5 5");

    public static void main(String[] args) {
        busyIsBusy();
        fresh();
        feed();
        end();
        trade();
        rule();
        force();
        month();
        sail();
        teach();
        build();
        ask();
        undo();
        note();
        seed();
        image();
        back();
        refusedQuestions();
        questionsOfShipsAndTowns();
        questionsOfPlans();
        CHECKS.close();
    }

    private static void refused(String call, Picture.Maker maker, Picture.Call made, int want) {
        CHECKS.leaves(call, maker, made, want);
    }

    private static void asks(String call, Picture.Call made) {
        CHECKS.changesNothing(call, BUSY, made);
    }

    /**
     * MONTH 2 of a TRADE, with two RULES and one IN FORCE, twenty ACTS and more, two NOTES, two IMAGES and a TAPE;
     * SHIP 0 is on its way home, SHIP 1 at sea, SHIP 2 at home; TOWN 0 has ice.
     */
    private static PondIceTrade busy(String tape) {
        PondIceTrade t = new PondIceTrade();
        Checks.rule(t, "sail want - coming if month > 1");
        Checks.rule(t, "sail 3");
        Checks.trade(t, TRADE);
        t.seed(99);
        t.image(0);
        t.force(0);
        t.note(0, 900);
        t.sail(0, 0, 50, false);
        t.month();
        t.month();
        for (int price = 50; price < 70; price++) {
            t.ask(3, price);
        }
        t.sail(1, 2, 30, true);
        t.note(2, 891);
        t.image(2);
        t.build(1);
        Checks.tape(t, tape);
        return t;
    }

    /** Six RULES, ten NOTES, a full TAPE. */
    private static PondIceTrade full() {
        PondIceTrade t = Checks.told(TRADE);
        for (int i = 0; i < 6; i++) {
            Checks.rule(t, "sail " + (i + 1));
        }
        t.force(5);
        t.month();
        for (int i = 0; i < 10; i++) {
            t.note(i, 900 - i);
        }
        Checks.tape(t, (GOOD_TAPE + " ".repeat(400)).substring(0, 400));
        return t;
    }

    private static void busyIsBusy() {
        PondIceTrade t = BUSY.make();
        int[] counts = {2, 3, 4, 5, 6, 7, 8, 11, 12, 13, 14, 15};
        int[] wants = {270, 3, 4, 2, 0, 2, 4, 3, 2, 20, 99, 20};
        for (int i = 0; i < counts.length; i++) {
            CHECKS.due("busy: count(" + counts[i] + ")", t.count(counts[i]), wants[i]);
        }
        CHECKS.due("busy: ice in TOWN 0", t.town(0, 4) > 0 ? 1 : 0, 1);
        CHECKS.due("full: RULES, NOTES, TAPE", FULL.make().count(5) * 100 + FULL.make().count(12), 610);
        CHECKS.due("full: TAPE", FULL.make().count(15), 400);
        CHECKS.alike("the same object twice", Picture.of(BUSY), Picture.of(BUSY));
    }

    /** Promise 1: without a TRADE, a RULE or an IMAGE every call that needs one is refused. */
    private static void fresh() {
        refused("fresh: end(1)", FRESH, t -> t.end(1), NONE);
        refused("fresh: trade()", FRESH, t -> t.trade(), -3);
        refused("fresh: rule()", FRESH, t -> t.rule(), -3);
        refused("fresh: force(0)", FRESH, t -> t.force(0), -2);
        refused("fresh: force(NONE)", FRESH, t -> t.force(NONE), NONE);
        refused("fresh: ship(0, 0)", FRESH, t -> t.ship(0, 0), -2);
        refused("fresh: town(0, 0)", FRESH, t -> t.town(0, 0), NONE);
        refused("fresh: month()", FRESH, t -> t.month(), NONE);
        refused("fresh: sail(0, 0, 1, false)", FRESH, t -> t.sail(0, 0, 1, false), NONE);
        refused("fresh: teach(0, 1)", FRESH, t -> t.teach(0, 1), NONE);
        refused("fresh: build(0)", FRESH, t -> t.build(0), NONE);
        refused("fresh: ask(0, 1)", FRESH, t -> t.ask(0, 1), NONE);
        refused("fresh: undo()", FRESH, t -> t.undo(), NONE);
        for (int what = 0; what <= 3; what++) {
            int asked = what;
            refused("fresh: ahead(0, 0, " + what + ")", FRESH, t -> t.ahead(0, 0, asked), NONE);
            refused("fresh: send(0, 1, " + what + ")", FRESH, t -> t.send(0, 1, asked), -2);
            refused("fresh: fleet(1, " + what + ")", FRESH, t -> t.fleet(1, asked), -3);
        }
        refused("fresh: comes(0, 0, false)", FRESH, t -> t.comes(0, 0, false), NONE);
        refused("fresh: load(0, 1, false)", FRESH, t -> t.load(0, 1, false), NONE);
        for (int what = 0; what <= 1; what++) {
            int asked = what;
            refused("fresh: give(0, 1, " + what + ")", FRESH, t -> t.give(0, 1, asked), NONE);
            refused("fresh: site(1, " + what + ")", FRESH, t -> t.site(1, asked), -2);
            refused("fresh: pricing(0, 1, " + what + ")", FRESH, t -> t.pricing(0, 1, asked), NONE);
            refused("fresh: ruled(" + what + ")", FRESH, t -> t.ruled(asked), -3);
            refused("fresh: look(" + what + ")", FRESH, t -> t.look(asked), NONE);
            refused("fresh: years(1, 1, " + what + ")", FRESH, t -> t.years(1, 1, asked), NONE);
        }
        for (int what = 0; what <= 2; what++) {
            int asked = what;
            refused("fresh: war(0, " + what + ")", FRESH, t -> t.war(0, asked), NONE);
            refused("fresh: hatch(0, 0, false, " + what + ")", FRESH, t -> t.hatch(0, 0, false, asked), NONE);
        }
        refused("fresh: out()", FRESH, t -> t.out(), NONE);
        refused("fresh: note(0, 0)", FRESH, t -> t.note(0, 0), -2);
        refused("fresh: note(NONE, 0)", FRESH, t -> t.note(NONE, 0), -2);
        for (int k = 0; k <= 3; k++) {
            int image = k;
            refused("fresh: back(" + k + ")", FRESH, t -> t.back(image), NONE);
        }
    }

    /** Promise 2: NONE, and none comes. */
    private static void feed() {
        int garbage = 0x78787878;
        refused("feed() behind 400 bytes", FULL, t -> t.feed(garbage, garbage, garbage, garbage, garbage), NONE);
        Picture.Maker almost = () -> {
            PondIceTrade t = full();
            t.end(381);
            return t;
        };
        refused("feed() behind 381 bytes", almost, t -> t.feed(garbage, garbage, garbage, garbage, garbage), NONE);
    }

    /** Promise 3: NONE, and nothing happens. */
    private static void end() {
        refused("end(-1)", BUSY, t -> t.end(-1), NONE);
        refused("end(21) of 20", BUSY, t -> t.end(21), NONE);
        refused("end(20) of 20 cuts nothing", BUSY, t -> t.end(20), 20);
        refused("end(401) of 400", FULL, t -> t.end(401), NONE);
        for (int far : FAR) {
            refused("end(" + far + ")", BUSY, t -> t.end(far), NONE);
        }
    }

    /** Promise 4: -2 - its FAULT, and all stays: the TAPE, too. */
    private static void trade() {
        String[] texts = {"", "trade 1 1 1;", "trade 10000 1 1", "trade 1 1 1;trade 1 1 1", "ship 1 1",
            "trade 1 1 1;ship 1 1;ship 1 1;ship 1 1;ship 1 1", "trade 1 1 1;town 1 1 1 1;town 1 1 1 1;house 2",
            "trade 1 1 1;town 1 1 1 1;frost 0 9;frost 12 1", "sail 3"};
        int[] wants = {Checks.fault(0, 0), Checks.fault(12, 0), Checks.fault(6, 1), Checks.fault(12, 4),
            Checks.fault(0, 4), Checks.fault(39, 4), Checks.fault(44, 1), Checks.fault(41, 1), Checks.fault(0, 0)};
        for (int i = 0; i < texts.length; i++) {
            String text = texts[i];
            refused("trade() of '" + text + "'", () -> busy(text), t -> t.trade(), wants[i]);
        }
    }

    /** Promise 5: NONE, and nothing happens, with six; with a FAULT the TAPE is empty then, and all else stays. */
    private static void rule() {
        refused("a seventh RULE", FULL, t -> t.rule(), NONE);
        Picture.Maker sixAndRule = () -> {
            PondIceTrade t = full();
            Checks.tape(t, "sail 7");
            return t;
        };
        refused("a seventh RULE that could be one", sixAndRule, t -> t.rule(), NONE);
        String[] texts = {"sail", "sail 123456", "sail 1 if " + "[".repeat(11), "sail 1" + "+1".repeat(60),
            "sail 1" + ";sail 1".repeat(12), GOOD_TAPE, "sail 9;sail 8 if 1<2;sail x"};
        int[] wants = {Checks.fault(4, 0), Checks.fault(5, 1), Checks.fault(20, 2), Checks.fault(125, 3),
            Checks.fault(84, 4), Checks.fault(0, 0), Checks.fault(26, 0)};
        for (int i = 0; i < texts.length; i++) {
            String text = texts[i];
            CHECKS.due("rule() of '" + text + "'", busy(text).rule(), wants[i]);
            CHECKS.alike("what is behind rule() of '" + text + "'", Picture.of(() -> busy(text), t -> t.rule()),
                    Picture.of(() -> busy("")));
        }
    }

    /** Promise 6: -2, and nothing happens, if there is none such. */
    private static void force() {
        refused("force(2) of two RULES", BUSY, t -> t.force(2), -2);
        refused("force(-2)", BUSY, t -> t.force(-2), -2);
        refused("force(6) of six RULES", FULL, t -> t.force(6), -2);
        refused("the one that is IN FORCE", BUSY, t -> t.force(0), 0);
        for (int far : FAR) {
            refused("force(" + far + ")", BUSY, t -> t.force(far), -2);
        }
    }

    /** Promise 9: NONE, and nothing happens, in MONTH 999 (which lies beyond 512 calls: the class keeps to it still). */
    private static void month() {
        PondIceTrade t = Checks.told("trade 5 0 7;frost 3 5;town 1 0 0 1");
        for (int i = 0; i < 998; i++) {
            t.month();
        }
        CHECKS.due("MONTH 998 goes on", t.month(), 0);
        CHECKS.due("MONTH", t.count(7), 999);
        int pond = t.count(2);
        CHECKS.due("MONTH 999 does not", t.month(), NONE);
        CHECKS.due("MONTH stays", t.count(7), 999);
        CHECKS.due("POND stays", t.count(2), pond);
        CHECKS.due("ACTS stay", t.count(13), 20);
        CHECKS.due("the last ACT is the MONTH before", t.undo(), 19);
        CHECKS.due("MONTH then", t.count(7), 998);
        CHECKS.due("and can go on again", t.month(), 0);
        CHECKS.due("MONTHS that are asked go on beyond", t.ahead(0, 1, 1), pond + 5);
    }

    /** Promise 10: NONE, and nothing happens. */
    private static void sail() {
        refused("SHIP -1", BUSY, t -> t.sail(-1, 0, 1, false), NONE);
        refused("SHIP 3 of three", BUSY, t -> t.sail(3, 0, 1, false), NONE);
        refused("SHIP on its way home", BUSY, t -> t.sail(0, 0, 1, false), NONE);
        refused("SHIP at sea", BUSY, t -> t.sail(1, 0, 1, true), NONE);
        refused("TOWN -1", BUSY, t -> t.sail(2, -1, 1, false), NONE);
        refused("TOWN 4 of four", BUSY, t -> t.sail(2, 4, 1, false), NONE);
        refused("no blocks", BUSY, t -> t.sail(2, 0, 0, false), NONE);
        refused("blocks below 0", BUSY, t -> t.sail(2, 0, -1, true), NONE);
        refused("ten of HOLD 9", BUSY, t -> t.sail(2, 0, 10, false), NONE);
        refused("51 of HOLD 50", BEGUN, t -> t.sail(0, 0, 51, false), NONE);
        for (int far : FAR) {
            refused("blocks " + far, BUSY, t -> t.sail(2, 0, far, true), NONE);
            refused("SHIP " + far, BUSY, t -> t.sail(far, 0, 1, false), NONE);
            refused("TOWN " + far, BUSY, t -> t.sail(2, far, 1, false), NONE);
        }
        Picture.Maker shallow = () -> Checks.told("trade 900 2 7;ship 50 10;town 1 0 5 5");
        refused("eight of a POND of 7", shallow, t -> t.sail(0, 0, 8, false), NONE);
        refused("45 for MONEY 99", POOR, t -> t.sail(0, 0, 45, false), NONE);
        refused("30 in DUST for MONEY 99", POOR, t -> t.sail(0, 0, 30, true), NONE);
        Picture.Maker dear = () -> Checks.told("trade 98 0 300;ship 50 99;town 1 0 5 5");
        refused("COST 99 for MONEY 98", dear, t -> t.sail(0, 0, 1, false), NONE);
    }

    /** Promise 11: NONE, and nothing happens. */
    private static void teach() {
        int ice = BUSY.make().town(0, 4);
        refused("TEACH with 0", BUSY, t -> t.teach(0, 0), NONE);
        refused("TEACH with -1", BUSY, t -> t.teach(0, -1), NONE);
        refused("TEACH with one more than there are", BUSY, t -> t.teach(0, ice + 1), NONE);
        refused("TEACH without ice", BUSY, t -> t.teach(1, 1), NONE);
        refused("TEACH in TOWN -1", BUSY, t -> t.teach(-1, 1), NONE);
        refused("TEACH in TOWN 4 of four", BUSY, t -> t.teach(4, 1), NONE);
        for (int far : FAR) {
            refused("TEACH with " + far, BUSY, t -> t.teach(0, far), NONE);
            refused("TEACH in TOWN " + far, BUSY, t -> t.teach(far, 1), NONE);
        }
    }

    /** Promise 12: NONE, and nothing happens. */
    private static void build() {
        refused("BUILD where the text told a HOUSE", BUSY, t -> t.build(0), NONE);
        refused("BUILD where one was built", BUSY, t -> t.build(1), NONE);
        refused("BUILD in TOWN -1", BUSY, t -> t.build(-1), NONE);
        refused("BUILD in TOWN 4 of four", BUSY, t -> t.build(4), NONE);
        refused("BUILD for MONEY 99", POOR, t -> t.build(0), NONE);
        for (int far : FAR) {
            refused("BUILD in TOWN " + far, BUSY, t -> t.build(far), NONE);
        }
    }

    /** Promise 13: NONE, and nothing happens. */
    private static void ask() {
        refused("ASK 0", BUSY, t -> t.ask(0, 0), NONE);
        refused("ASK -1", BUSY, t -> t.ask(0, -1), NONE);
        refused("ASK 100", BUSY, t -> t.ask(0, 100), NONE);
        refused("ASK as the text told", BUSY, t -> t.ask(0, 9), NONE);
        refused("ASK as it is now", BUSY, t -> t.ask(3, 69), NONE);
        refused("ASK in TOWN -1", BUSY, t -> t.ask(-1, 1), NONE);
        refused("ASK in TOWN 4 of four", BUSY, t -> t.ask(4, 1), NONE);
        for (int far : FAR) {
            refused("ASK " + far, BUSY, t -> t.ask(0, far), NONE);
            refused("ASK in TOWN " + far, BUSY, t -> t.ask(far, 1), NONE);
        }
    }

    /** Promise 14: NONE, and nothing happens: none can. */
    private static void undo() {
        refused("undo() behind a TRADE", BEGUN, t -> t.undo(), NONE);
        Picture.Maker undone = () -> {
            PondIceTrade t = busy(GOOD_TAPE);
            for (int i = 0; i < 20; i++) {
                t.undo();
            }
            return t;
        };
        refused("undo() behind twenty", undone, t -> t.undo(), NONE);
        Picture.Maker gone = () -> {
            PondIceTrade t = busy(GOOD_TAPE);
            t.back(2);
            return t;
        };
        refused("undo() behind back()", gone, t -> t.undo(), NONE);
    }

    /** Promise 26: -2, and nothing happens. */
    private static void note() {
        refused("NOTE of MONTH -2", BUSY, t -> t.note(-2, 0), -2);
        refused("NOTE of MONTH 61", BUSY, t -> t.note(61, 0), -2);
        refused("NOTE of MONEY -1", BUSY, t -> t.note(0, -1), -2);
        refused("NOTE of MONEY 100000", BUSY, t -> t.note(0, 100000), -2);
        refused("an eleventh NOTE", FULL, t -> t.note(0, 900), -2);
        for (int far : FAR) {
            refused("NOTE of MONTH " + far, BUSY, t -> t.note(far, 0), -2);
            refused("NOTE of MONEY " + far, BUSY, t -> t.note(0, far), -2);
        }
    }

    /** Promise 29: NONE, and nothing happens, below 0. */
    private static void seed() {
        refused("seed(-1)", BUSY, t -> t.seed(-1), NONE);
        refused("seed(least)", BUSY, t -> t.seed(Integer.MIN_VALUE), NONE);
        refused("seed of the same", BUSY, t -> t.seed(99), 99);
    }

    /** Promise 32: NONE without it; and by an IMAGE that is made, nothing else changes. */
    private static void image() {
        refused("image(-1)", BUSY, t -> t.image(-1), NONE);
        refused("image(4)", BUSY, t -> t.image(4), NONE);
        for (int far : FAR) {
            refused("image(" + far + ")", BUSY, t -> t.image(far), NONE);
        }
        Picture.Maker gone = () -> {
            PondIceTrade t = busy(GOOD_TAPE);
            t.back(2);
            return t;
        };
        refused("image(2) of what is in it", gone, t -> t.image(2), 2);
    }

    /** Promise 33: NONE, and nothing happens. */
    private static void back() {
        refused("back(-1)", BUSY, t -> t.back(-1), NONE);
        refused("back(4)", BUSY, t -> t.back(4), NONE);
        refused("back(1), never made", BUSY, t -> t.back(1), NONE);
        refused("back(3), never made", BUSY, t -> t.back(3), NONE);
        for (int far : FAR) {
            refused("back(" + far + ")", BUSY, t -> t.back(far), NONE);
        }
    }

    /** What is asked wrongly changes nothing either; each question is answered with its own number. */
    private static void refusedQuestions() {
        int[] wrongTowns = {Integer.MIN_VALUE, -1, 4, Integer.MAX_VALUE};
        for (int town : wrongTowns) {
            refused("town(" + town + ", 0)", BUSY, t -> t.town(town, 0), NONE);
            refused("ahead(" + town + ", 1, 2)", BUSY, t -> t.ahead(town, 1, 2), NONE);
            refused("ahead(" + town + ", 1, 3)", BUSY, t -> t.ahead(town, 1, 3), NONE);
            refused("comes in TOWN " + town, BUSY, t -> t.comes(town, 1, false), NONE);
            refused("load in TOWN " + town, BUSY, t -> t.load(town, 1, false), NONE);
            refused("give in TOWN " + town, BUSY, t -> t.give(town, 1, 0), NONE);
            refused("pricing in TOWN " + town, BUSY, t -> t.pricing(town, 1, 0), NONE);
            refused("war in TOWN " + town, BUSY, t -> t.war(town, 0), NONE);
            refused("hatch in TOWN " + town, BUSY, t -> t.hatch(town, 1, false, 0), NONE);
        }
        int[] wrongShips = {Integer.MIN_VALUE, -1, 3, Integer.MAX_VALUE};
        for (int ship : wrongShips) {
            refused("ship(" + ship + ", 0)", BUSY, t -> t.ship(ship, 0), -2);
            refused("send of SHIP " + ship, BUSY, t -> t.send(ship, 1, 0), -2);
        }
        refused("send of a SHIP on its way home", BUSY, t -> t.send(0, 1, 0), -2);
        refused("send of a SHIP at sea", BUSY, t -> t.send(1, 1, 0), -2);
        refused("fleet of a SHIP on its way home", BUSY, t -> t.fleet(1, 1), -2);
        refused("fleet of a SHIP at sea", BUSY, t -> t.fleet(1, 2), -2);
        int[] wrongSpans = {Integer.MIN_VALUE, -1, 0, 25, Integer.MAX_VALUE};
        for (int n : wrongSpans) {
            refused("send for " + n, BUSY, t -> t.send(2, n, 0), -2);
            refused("fleet for " + n, BUSY, t -> t.fleet(n, 0), -3);
            refused("fleet for " + n + " of a SHIP at sea", BUSY, t -> t.fleet(n, 2), -3);
            refused("give for " + n, BUSY, t -> t.give(0, n, 0), NONE);
            refused("site for " + n, BUSY, t -> t.site(n, 0), -2);
            refused("pricing for " + n, BUSY, t -> t.pricing(0, n, 0), NONE);
        }
        for (int far : FAR) {
            refused("ahead " + far, BUSY, t -> t.ahead(0, far, 0), NONE);
            refused("years of " + far + " times", BUSY, t -> t.years(far, 1, 0), NONE);
            refused("years of " + far + " MONTHS", BUSY, t -> t.years(1, far, 0), NONE);
            refused("comes of " + far, BUSY, t -> t.comes(0, far, false), NONE);
            refused("load of " + far, BUSY, t -> t.load(0, far, false), NONE);
            refused("hatch of " + far, BUSY, t -> t.hatch(0, far, false, 0), NONE);
        }
        refused("ahead -1", BUSY, t -> t.ahead(0, -1, 0), NONE);
        refused("ahead 61", BUSY, t -> t.ahead(0, 61, 0), NONE);
        refused("comes of -1", BUSY, t -> t.comes(0, -1, false), NONE);
        refused("comes of 1000", BUSY, t -> t.comes(0, 1000, false), NONE);
        refused("load of 0", BUSY, t -> t.load(0, 0, false), NONE);
        refused("load of 100", BUSY, t -> t.load(0, 100, false), NONE);
        refused("hatch of -1", BUSY, t -> t.hatch(0, -1, false, 0), NONE);
        refused("hatch of 100", BUSY, t -> t.hatch(0, 100, false, 0), NONE);
        refused("years of 0 times", BUSY, t -> t.years(0, 1, 0), NONE);
        refused("years of 11 times", BUSY, t -> t.years(11, 1, 0), NONE);
        refused("years of 0 MONTHS", BUSY, t -> t.years(1, 0, 0), NONE);
        refused("years of 61 MONTHS", BUSY, t -> t.years(1, 61, 0), NONE);
        wrongWhats(-1, Integer.MIN_VALUE, Integer.MAX_VALUE);
        refused("ship, what 6", BUSY, t -> t.ship(0, 6), -2);
        refused("town, what 8", BUSY, t -> t.town(0, 8), NONE);
        refused("ahead, what 4", BUSY, t -> t.ahead(0, 1, 4), NONE);
        refused("send, what 4", BUSY, t -> t.send(2, 1, 4), -2);
        refused("fleet, what 4", BUSY, t -> t.fleet(1, 4), -3);
        refused("give, what 2", BUSY, t -> t.give(0, 1, 2), NONE);
        refused("site, what 2", BUSY, t -> t.site(1, 2), -2);
        refused("pricing, what 2", BUSY, t -> t.pricing(0, 1, 2), NONE);
        refused("war, what 3", BUSY, t -> t.war(0, 3), NONE);
        refused("hatch, what 3", BUSY, t -> t.hatch(0, 1, false, 3), NONE);
        refused("ruled, what 2", BUSY, t -> t.ruled(2), -3);
        refused("look, what 2", BUSY, t -> t.look(2), NONE);
        refused("years, what 2", BUSY, t -> t.years(1, 1, 2), NONE);
        refused("count, what 16", BUSY, t -> t.count(16), NONE);
    }

    private static void wrongWhats(int... whats) {
        for (int what : whats) {
            refused("ship, what " + what, BUSY, t -> t.ship(0, what), -2);
            refused("town, what " + what, BUSY, t -> t.town(0, what), NONE);
            refused("ahead, what " + what, BUSY, t -> t.ahead(0, 1, what), NONE);
            refused("send, what " + what, BUSY, t -> t.send(2, 1, what), -2);
            refused("fleet, what " + what, BUSY, t -> t.fleet(1, what), -3);
            refused("give, what " + what, BUSY, t -> t.give(0, 1, what), NONE);
            refused("site, what " + what, BUSY, t -> t.site(1, what), -2);
            refused("pricing, what " + what, BUSY, t -> t.pricing(0, 1, what), NONE);
            refused("war, what " + what, BUSY, t -> t.war(0, what), NONE);
            refused("hatch, what " + what, BUSY, t -> t.hatch(0, 1, false, what), NONE);
            refused("ruled, what " + what, BUSY, t -> t.ruled(what), -3);
            refused("look, what " + what, BUSY, t -> t.look(what), NONE);
            refused("years, what " + what, BUSY, t -> t.years(1, 1, what), NONE);
            refused("count, what " + what, BUSY, t -> t.count(what), NONE);
        }
    }

    /** By what is asked nothing changes: promises 7, 8, 15 to 17, 23 to 25, 27, 28, 30 and 31. */
    private static void questionsOfShipsAndTowns() {
        asks("ship(0, 3)", t -> t.ship(0, 3));
        asks("town(0, 6)", t -> t.town(0, 6));
        asks("ahead(0, 60, 0)", t -> t.ahead(0, 60, 0));
        asks("ahead(1, 60, 2)", t -> t.ahead(1, 60, 2));
        asks("comes(0, 999, true)", t -> t.comes(0, 999, true));
        asks("load(0, 99, false)", t -> t.load(0, 99, false));
        asks("war(0, 0)", t -> t.war(0, 0));
        asks("out()", t -> t.out());
        asks("hatch(0, 9, true, 1)", t -> t.hatch(0, 9, true, 1));
        asks("ruled(0)", t -> t.ruled(0));
        asks("look(0)", t -> t.look(0));
        asks("years(10, 60, 0)", t -> t.years(10, 60, 0));
        asks("years(1, 1, 1)", t -> t.years(1, 1, 1));
        for (int what = 0; what <= 15; what++) {
            int asked = what;
            asks("count(" + what + ")", t -> t.count(asked));
        }
    }

    /** By what is asked nothing changes: promises 18 to 22. */
    private static void questionsOfPlans() {
        asks("send(2, 24, 0)", t -> t.send(2, 24, 0));
        asks("fleet(24, 0)", t -> t.fleet(24, 0));
        asks("fleet(24, 3)", t -> t.fleet(24, 3));
        asks("give(0, 24, 1)", t -> t.give(0, 24, 1));
        asks("site(24, 1)", t -> t.site(24, 1));
        asks("pricing(0, 24, 1)", t -> t.pricing(0, 24, 1));
    }
}
