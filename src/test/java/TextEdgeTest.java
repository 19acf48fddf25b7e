/** Promises 1 to 6 and part I of the terms: each boundary with the last text on this side and the first beyond. */
public final class TextEdgeTest {
    private static final Checks CHECKS = new Checks();
    private static final int NONE = PondIceTrade.NONE;
    private static final int ODD = 0;
    private static final int NUMBER = 1;
    private static final int DEEP = 2;
    private static final int PART = 3;
    private static final int CLAUSE = 4;
    /** Goes round to the least number of 64 bits. */
    private static final String LEAST = "32768*32768*32768*32768*8";

    public static void main(String[] args) {
        newObject();
        feedTakesTwentyBytesInOrder();
        feedTakesNoMoreThan400();
        endKeepsTheFirstBytes();
        textOf400Bytes();
        moneyWagePond();
        frostNumbers();
        shipNumbers();
        townNumbers();
        houseNumbers();
        tradeDigits();
        frostOfAMonth();
        tradeClauses();
        tradeOnceAndFirst();
        ships();
        towns();
        tradeBlanks();
        tradeOddities();
        tradeInPlaceOfTheOneThereWas();
        sixRules();
        ruleBehindAFault();
        ruleClauses();
        ruleDigits();
        ruleDepth();
        ruleParts();
        ruleOddities();
        ofOnePlaceTheLeast();
        theFirstAlongTheText();
        sumsGoRound();
        divisions();
        wordsOfShipAndTown();
        wordsAsFarAsLettersGoOn();
        signs();
        testsBind();
        force();
        CHECKS.close();
    }

    private interface Reading {
        int of(PondIceTrade trade);
    }

    private static void due(String call, long got, long want) {
        CHECKS.due(call, got, want);
    }

    private static void tradeIs(String text, int towns) {
        PondIceTrade t = new PondIceTrade();
        due("trade() of '" + text + "'", Checks.trade(t, text), towns);
        due("the TAPE behind '" + text + "'", t.count(15), 0);
    }

    private static void tradeFails(String text, int place, int kind) {
        PondIceTrade t = new PondIceTrade();
        due("trade() of '" + text + "'", Checks.trade(t, text), Checks.fault(place, kind));
        due("the TAPE behind the FAULT of '" + text + "'", t.count(15), text.length());
    }

    private static void ruleIs(String text) {
        PondIceTrade t = new PondIceTrade();
        due("rule() of '" + text + "'", Checks.rule(t, text), 0);
        due("the TAPE behind '" + text + "'", t.count(15), 0);
    }

    private static void ruleFails(String text, int place, int kind) {
        PondIceTrade t = new PondIceTrade();
        due("rule() of '" + text + "'", Checks.rule(t, text), Checks.fault(place, kind));
        due("RULES behind the FAULT of '" + text + "'", t.count(5), 0);
        due("the TAPE behind the FAULT of '" + text + "'", t.count(15), 0);
    }

    /** A NUMBER that goes from least to most: these two are read, the one below and the one above are FAULTS. */
    private static void goes(String before, int least, int most, String behind, Reading reading) {
        for (int number : new int[] {least, most}) {
            String text = before + number + behind;
            due("read of '" + text + "'", reading.of(Checks.told(text)), number);
        }
        if (least > 0) {
            tradeFails(before + (least - 1) + behind, before.length(), NUMBER);
        }
        tradeFails(before + (most + 1) + behind, before.length(), NUMBER);
    }

    // ---- Promise 1: a new object

    private static void newObject() {
        PondIceTrade t = new PondIceTrade();
        for (int what = 0; what <= 15; what++) {
            due("new: count(" + what + ")", t.count(what), what == 6 ? NONE : 0);
        }
        due("no TRADE", t.month(), NONE);
        due("no RULES", t.force(0), -2);
        due("none IN FORCE", t.force(NONE), NONE);
        due("x is 0", t.seed(1), 0);
        due("nothing can be UNDONE", t.undo(), NONE);
        due("the TAPE is empty", t.end(1), NONE);
        for (int k = 0; k <= 3; k++) {
            due("no IMAGE " + k, t.back(k), NONE);
        }
        PondIceTrade other = Checks.told("trade 1 2 3", "sail 1");
        due("another object", other.count(0), 1);
        due("is another", t.count(0), 0);
        due("with RULES of its own", t.count(5), 0);
    }

    // ---- Promises 2 and 3: feed, end

    private static void feedTakesTwentyBytesInOrder() {
        PondIceTrade t = new PondIceTrade();
        // "trad" "e 12" " 3 4" ";shi" "p5 6"
        due("feed", t.feed(0x74726164, 0x65203132, 0x20332034, 0x3b736869, 0x70352036), 20);
        due("read", t.trade(), 0);
        due("MONEY", t.count(0), 12);
        due("WAGE", t.count(1), 3);
        due("POND", t.count(2), 4);
        due("HOLD", t.ship(0, 0), 5);
        due("COST", t.ship(0, 1), 6);
        due("bytes come behind those there are: the first", t.feed(0x7361696c, 0x20202020, 0x20202020, 0x20202020, 0x20202020), 20);
        due("bytes come behind those there are: the second", t.feed(0x20203320, 0x20202020, 0x20202020, 0x20202020, 0x20202020), 40);
        due("and are a RULE", t.rule(), 0);
        for (int shift = 0; shift <= 24; shift += 8) {
            PondIceTrade odd = Checks.told("trade 1 1 1");
            Checks.tape(odd, " ".repeat(16));
            odd.feed(0x20202020 | 128 << shift, 0x20202020, 0x20202020, 0x20202020, 0x20202020);
            due("a byte of 160 is no blank, at " + shift, odd.rule(), Checks.fault(16 + 3 - shift / 8, ODD));
        }
    }

    private static void feedTakesNoMoreThan400() {
        PondIceTrade t = new PondIceTrade();
        String text = "trade 1 2 3" + " ".repeat(389);
        Checks.tape(t, text);
        due("400 bytes", t.count(15), 400);
        due("none comes behind 400", t.feed(0x78787878, 0x78787878, 0x78787878, 0x78787878, 0x78787878), NONE);
        due("400 stay", t.count(15), 400);
        due("as they were", t.trade(), 0);
        for (int kept = 380; kept <= 400; kept++) {
            PondIceTrade cut = new PondIceTrade();
            Checks.tape(cut, text);
            cut.end(kept);
            due("feed behind " + kept, cut.feed(0x20202020, 0x20202020, 0x20202020, 0x20202020, 0x20202020), kept == 380 ? 400 : NONE);
            due("bytes then", cut.count(15), kept == 380 ? 400 : kept);
            due("read then", cut.trade(), 0);
        }
    }

    private static void endKeepsTheFirstBytes() {
        PondIceTrade t = new PondIceTrade();
        due("end(0) of none", t.end(0), 0);
        due("end(1) of none", t.end(1), NONE);
        due("end(-1) of none", t.end(-1), NONE);
        t.feed(0x74726164, 0x65203132, 0x20332034, 0x3b736869, 0x70352036);
        due("end(21) of 20", t.end(21), NONE);
        due("end(20) of 20", t.end(20), 20);
        due("end(-1) of 20", t.end(-1), NONE);
        due("20 stay", t.count(15), 20);
        due("end(12) of 20", t.end(12), 12);
        due("end(13) of 12", t.end(13), NONE);
        due("the first 12 alone", t.trade(), 0);
        due("no SHIP was told", t.count(3), 0);
        due("end(0) behind a TRADE", t.end(0), 0);
        t.feed(0x74726164, 0x65203132, 0x20332034, 0x3b736869, 0x70352036);
        t.end(12);
        due("what comes then is behind the 12", t.feed(0x35202020, 0x20202020, 0x20202020, 0x20202020, 0x20202020), 32);
        due("read", t.trade(), 0);
        due("POND 4 and 5", t.count(2), 45);
        t.feed(0, 0, 0, 0, 0);
        due("end(0) of 20", t.end(0), 0);
        due("none are left", t.trade(), Checks.fault(0, ODD));
    }

    // ---- Promise 4: trade

    private static void textOf400Bytes() {
        tradeIs("trade 1 1 1" + " ".repeat(389), 0);
        tradeIs(" ".repeat(389) + "trade 1 1 1", 0);
        tradeFails("trade 1 1 1" + " ".repeat(388) + "x", 399, ODD);
        tradeFails("trade 1 1 1" + " ".repeat(388) + ";", 400, ODD);
        tradeFails(" ".repeat(400), 400, ODD);
        ruleIs("sail 1" + " ".repeat(394));
        ruleFails("sail 1" + " ".repeat(393) + "+", 400, ODD);
        ruleFails(" ".repeat(394) + "sail x", 399, ODD);
        ruleFails(" ".repeat(394) + "123456", 394, ODD);
        tradeFails("", 0, ODD);
        ruleFails("", 0, ODD);
    }

    private static void moneyWagePond() {
        goes("trade ", 0, 9999, " 0 0", t -> t.count(0));
        goes("trade 0 ", 0, 20, " 0", t -> t.count(1));
        goes("trade 0 0 ", 0, 999, "", t -> t.count(2));
    }

    private static void frostNumbers() {
        tradeIs("trade 0 0 0;frost 0 1", 0);
        tradeIs("trade 0 0 0;frost 11 1", 0);
        tradeFails("trade 0 0 0;frost 12 1", 18, NUMBER);
        goes("trade 0 0 0;frost 0 ", 1, 99, "", t -> t.ahead(0, 1, 1));
    }

    private static void shipNumbers() {
        goes("trade 0 0 0;ship ", 1, 99, " 0", t -> t.ship(0, 0));
        goes("trade 0 0 0;ship 1 ", 0, 99, "", t -> t.ship(0, 1));
    }

    private static void townNumbers() {
        goes("trade 0 0 0;town ", 1, 6, " 0 0 1", t -> t.town(0, 0));
        goes("trade 0 0 0;town 1 ", 0, 60, " 0 1", t -> t.town(0, 1));
        goes("trade 0 0 0;town 1 0 ", 0, 99, " 1", t -> t.town(0, 2));
        goes("trade 0 0 0;town 1 0 0 ", 1, 99, "", t -> t.town(0, 3));
    }

    private static void houseNumbers() {
        String text = "trade 0 0 0";
        tradeFails(text + ";house 0", text.length() + 7, NUMBER);
        for (int towns = 1; towns <= 4; towns++) {
            text += ";town 1 0 0 1";
            PondIceTrade t = new PondIceTrade();
            due("the last TOWN told", Checks.trade(t, text + ";house " + (towns - 1)), towns);
            due("has a HOUSE, alone", t.count(11), 1 << (towns - 1));
            tradeFails(text + ";house " + towns, text.length() + 7, NUMBER);
        }
        tradeFails("trade 0 0 0;house 0;town 1 0 0 1", 18, NUMBER);
        PondIceTrade twice = Checks.told("trade 0 0 0;town 1 0 0 1;house 0;house 0");
        due("a HOUSE told twice is one", twice.count(11), 1);
    }

    private static void tradeDigits() {
        PondIceTrade t = Checks.told("trade 09999 00020 00999");
        due("five digits", t.count(0) * 1000 + t.count(2), 9999999);
        tradeFails("trade 000001 0 0", 6, NUMBER);
        tradeFails("trade 0 000001 0", 8, NUMBER);
        tradeFails("trade 0 0 000001", 10, NUMBER);
        tradeFails("trade 99999 0 0", 6, NUMBER);
        tradeFails("trade 100000 0 0", 6, NUMBER);
        tradeFails("trade 4294967296 0 0", 6, NUMBER);
        tradeFails("trade 18446744073709551616 0 0", 6, NUMBER);
        tradeFails("trade 0 0 0;frost 000001 1", 18, NUMBER);
        tradeFails("trade 0 0 0;frost 1 000001", 20, NUMBER);
        tradeFails("trade 0 0 0;ship 000001 1", 17, NUMBER);
        tradeFails("trade 0 0 0;town 1 000001 1 1", 19, NUMBER);
        tradeFails("trade 0 0 0;town 1 1 1 1;house 000000", 31, NUMBER);
    }

    private static void frostOfAMonth() {
        PondIceTrade t = Checks.told("trade 0 0 0;frost 11 40;frost 2 9;frost 11 30;frost 2 8");
        due("0 without: MONTH 0 to 1", t.ahead(0, 2, 1), 0);
        due("the last told of MONTH 2", t.ahead(0, 3, 1), 8);
        due("before MONTH 11", t.ahead(0, 11, 1), 0);
        due("the last told of MONTH 11", t.ahead(0, 12, 1), 30);
        due("MONTH 12 is as MONTH 0", t.ahead(0, 13, 1), 27);
        due("MONTH 14 is as MONTH 2", t.ahead(0, 15, 1), 24 + 8);
        Checks.trade(t, "trade 0 0 0;frost 3 1");
        due("0 again in a TRADE that does not tell it", t.ahead(0, 3, 1), 0);
    }

    private static void tradeClauses() {
        String forty = "trade 0 0 0" + ";frost0 1".repeat(39);
        tradeIs(forty, 0);
        tradeFails(forty + ";frost0 1", forty.length() + 1, CLAUSE);
        tradeFails(forty + ";  frost", forty.length() + 3, CLAUSE);
        tradeFails(forty + ";ship1 1", forty.length() + 1, CLAUSE);
        tradeFails(forty + ";town1 1 1 1", forty.length() + 1, CLAUSE);
        tradeFails(forty + ";house0", forty.length() + 1, CLAUSE);
        tradeFails(forty + ";trade", forty.length() + 1, CLAUSE);
        tradeFails(forty + ";", forty.length() + 1, ODD);
        tradeFails(forty + ";sail", forty.length() + 1, ODD);
        tradeFails(forty + " frost", forty.length() + 1, ODD);
    }

    private static void tradeOnceAndFirst() {
        tradeFails("trade 0 0 0;trade 0 0 0", 12, CLAUSE);
        tradeFails("trade 0 0 0;ship 1 1; trade", 22, CLAUSE);
        for (String clause : new String[] {"frost 0 1", "ship 1 1", "town 1 1 1 1", "house 0"}) {
            tradeFails(clause, 0, CLAUSE);
            tradeFails("  " + clause + ";trade 0 0 0", 2, CLAUSE);
        }
        tradeFails("trade trade", 6, ODD);
    }

    private static void ships() {
        String text = "trade 0 0 0";
        for (int ships = 0; ships <= 3; ships++) {
            PondIceTrade t = Checks.told(text);
            due("SHIPS", t.count(3), ships);
            due("the last", t.ship(ships - 1, 0), ships == 0 ? -2 : ships);
            due("no more", t.ship(ships, 0), -2);
            due("all are at home", t.count(8), (1 << ships) - 1);
            text += ";ship " + (ships + 1) + " 0";
        }
        tradeFails(text, 12 + 3 * 9, CLAUSE);
        tradeFails("trade 0 0 0;ship 1 1;ship 1 1;ship 1 1;town 1 1 1 1;ship", 52, CLAUSE);
    }

    private static void towns() {
        String text = "trade 0 0 0";
        for (int towns = 0; towns <= 4; towns++) {
            PondIceTrade t = new PondIceTrade();
            due("how many TOWNS", Checks.trade(t, text), towns);
            due("TOWNS", t.count(4), towns);
            due("the last", t.town(towns - 1, 3), towns == 0 ? NONE : towns);
            due("without ice", t.town(towns - 1, 4), towns == 0 ? NONE : 0);
            due("no more", t.town(towns, 0), NONE);
            text += ";town 1 0 0 " + (towns + 1);
        }
        tradeFails(text, 12 + 4 * 13, CLAUSE);
        tradeFails("trade 0 0 0" + ";town 1 1 1 1".repeat(4) + ";house 0;town", 72, CLAUSE);
    }

    private static void tradeBlanks() {
        tradeIs("trade 0 0 0;town1 1 1 1", 1);
        tradeIs("  trade   0   0   0  ;  town   1   1   1   1  ", 1);
        tradeIs("trade0 0 0;town1 1 1 1", 1);
        tradeFails("tr ade 0 0 0", 0, ODD);
        for (int odd : new int[] {0, 9, 10, 13, 31, 33, 127, 128, 160, 255}) {
            tradeFails("trade 0 0 0" + (char) odd + ";town 1 1 1 1", 11, ODD);
        }
    }

    private static void tradeOddities() {
        tradeFails("trade", 5, ODD);
        tradeFails("trade 0", 7, ODD);
        tradeFails("trade 0 0", 9, ODD);
        tradeFails("trade 0 0 ", 10, ODD);
        tradeFails("trade 0 0 0 0", 12, ODD);
        tradeFails("trade 0 0 0;frost", 17, ODD);
        tradeFails("trade 0 0 0;frost 0", 19, ODD);
        tradeFails("trade 0 0 0;frost 0 1 1", 22, ODD);
        tradeFails("trade 0 0 0;ship 1", 18, ODD);
        tradeFails("trade 0 0 0;ship 1 1 1", 21, ODD);
        tradeFails("trade 0 0 0;town 1 1 1", 22, ODD);
        tradeFails("trade 0 0 0;town 1 1 1 1 1", 25, ODD);
        tradeFails("trade 0 0 0;town 1 1 1 1;house", 30, ODD);
        tradeFails("trade 0 0 0;town 1 1 1 1;house 0 0", 33, ODD);
        tradeFails("trade want 0 0", 6, ODD);
        tradeFails("trade 0 0 0;TOWN 1 1 1 1", 12, ODD);
        tradeFails("trade 0 0 0;towns 1 1 1 1", 12, ODD);
        tradeFails("trade 0 0 0;tow 1 1 1 1", 12, ODD);
        tradeFails("trade 0 0 0;;town 1 1 1 1", 12, ODD);
        tradeFails(";trade 0 0 0", 0, ODD);
        tradeFails("trade 0 0+0", 9, ODD);
    }

    private static void tradeInPlaceOfTheOneThereWas() {
        PondIceTrade t = Checks.told("trade 900 2 300;frost 0 20;ship 50 10;ship 9 0;town 1 0 10 9;town 1 0 8 5;house 0", "sail 2");
        t.seed(77);
        t.image(1);
        t.sail(0, 0, 50, true);
        t.month();
        t.note(0, 900);
        due("before: SOLD", t.count(10), 10);
        due("before: ACTS", t.count(13), 2);
        due("another TRADE", Checks.trade(t, "trade 5 1 3;ship 7 6;ship 9 8;town 2 3 4 5"), 1);
        int[] want = {5, 1, 3, 2, 1, 1, 0, 0, 3, 0, 0, 0, 0, 0, 77, 0};
        for (int what = 0; what <= 15; what++) {
            due("another TRADE: count(" + what + ")", t.count(what), want[what]);
        }
        int[] ship = {7, 6, NONE, 0, 0, 0};
        for (int what = 0; what <= 5; what++) {
            due("its first SHIP, " + what, t.ship(0, what), ship[what]);
        }
        int[] town = {2, 3, 4, 5, 0, 0, 0, 0};
        for (int what = 0; what <= 7; what++) {
            due("its TOWN, " + what, t.town(0, what), town[what]);
        }
        due("nothing to be UNDONE", t.undo(), NONE);
        due("nothing grows", t.ahead(0, 1, 1) <= 3 ? 1 : 0, 1);
        due("NOTES are of this TRADE", t.ruled(0), 2);
        due("IMAGES stay", t.back(1), 0);
        due("with the TRADE there was", t.count(0), 900);
    }

    // ---- Promise 5: rule

    private static void sixRules() {
        PondIceTrade t = Checks.told("trade 0 0 99;ship 99 0;town 1 0 0 1");
        for (int rule = 0; rule <= 5; rule++) {
            due("its number", Checks.rule(t, "sail " + (10 + rule)), rule);
            due("RULES", t.count(5), rule + 1);
            due("the TAPE is empty then", t.count(15), 0);
            due("it is not IN FORCE by itself", t.count(6), NONE);
        }
        due("there are 6", Checks.rule(t, "sail 16"), NONE);
        due("6 stay", t.count(5), 6);
        due("the TAPE stays", t.count(15), 7);
        due("also with a FAULT", Checks.rule(t, "sail x"), NONE);
        due("that TAPE stays", t.count(15), 6);
        due("also an empty one", Checks.rule(t, ""), NONE);
        for (int rule = 5; rule >= 0; rule--) {
            t.force(rule);
            t.month();
            due("RULE " + rule + " is as it was told", t.town(0, 4), 10 + rule);
            t.undo();
        }
        Checks.tape(t, "trade 7 1 2");
        due("a TAPE that is no RULE", t.rule(), NONE);
        due("is there to be a TRADE", t.trade(), 0);
        due("its MONEY", t.count(0), 7);
        due("RULES stay with a TRADE", t.count(5), 6);
    }

    private static void ruleBehindAFault() {
        PondIceTrade t = Checks.told("trade 0 0 99;ship 99 0;town 1 0 0 1");
        Checks.rule(t, "sail 4");
        due("a FAULT", Checks.rule(t, "sail 5;sail 6;"), Checks.fault(14, ODD));
        due("RULES", t.count(5), 1);
        due("there is none such", t.force(1), -2);
        due("the next is RULE 1", Checks.rule(t, "sail 7 if 1=2"), 1);
        t.force(1);
        t.month();
        due("of it alone", t.count(9) + t.town(0, 4), 0);
        due("RULE 1 was IN FORCE", t.force(0), 1);
        t.month();
        due("RULE 0 is as it was", t.town(0, 4), 4);
    }

    private static void ruleClauses() {
        String twelve = "sail 1" + ";sail 1".repeat(11);
        ruleIs("sail 1");
        ruleIs(twelve);
        ruleFails(twelve + ";sail 1", twelve.length() + 1, CLAUSE);
        ruleFails(twelve + ";  sail", twelve.length() + 3, CLAUSE);
        ruleFails(twelve + ";", twelve.length() + 1, ODD);
        ruleFails(twelve + ";sale", twelve.length() + 1, ODD);
        ruleFails(twelve + ";1", twelve.length() + 1, ODD);
        PondIceTrade t = Checks.told("trade 0 0 99;ship 99 0;town 1 0 0 1",
                "sail 1 if 1=2;" + "sail 2 if 1=2;".repeat(10) + "sail 30");
        t.month();
        due("the twelfth is read", t.town(0, 4), 30);
    }

    private static void ruleDigits() {
        ruleIs("sail 99999");
        ruleIs("sail 00000");
        ruleFails("sail 100000", 5, NUMBER);
        ruleFails("sail 000000", 5, NUMBER);
        ruleFails("sail 1*000001", 7, NUMBER);
        ruleFails("sail 1 if 000001=1", 10, NUMBER);
        ruleFails("sail 1 if 1=000001", 12, NUMBER);
        ruleFails("sail 18446744073709551617", 5, NUMBER);
        sails("sail 99999/1000", 99);
        sails("sail 00012", 12);
    }

    private static void ruleDepth() {
        ruleIs("sail 1 if " + "[".repeat(10) + "1<2" + "]".repeat(10));
        ruleFails("sail 1 if " + "[".repeat(11) + "1<2" + "]".repeat(11), 20, DEEP);
        ruleIs("sail 1 if " + "not ".repeat(10) + "1<2");
        ruleFails("sail 1 if " + "not ".repeat(11) + "1<2", 50, DEEP);
        ruleIs("sail 1 if " + "not [".repeat(5) + "1<2" + "]".repeat(5));
        ruleFails("sail 1 if " + "not [".repeat(5) + "not 1<2", 35, DEEP);
        ruleFails("sail 1 if " + "not [".repeat(5) + "  [1<2", 37, DEEP);
        ruleFails("sail 1 if " + "[ not ".repeat(5) + "[ 1<2", 40, DEEP);
        String nine = "[".repeat(9) + "1<2" + "]".repeat(9);
        ruleIs("sail 1 if not " + nine + " and not " + nine + " or [" + nine + "]");
        ruleIs("sail 1 if " + "[".repeat(9) + "[1<2] and [1<2] or not 1<2" + "]".repeat(9));
        ruleFails("sail 1 if " + "[".repeat(9) + "[1<2] and [not 1<2]" + "]".repeat(9), 30, DEEP);
        ruleIs("sail 1 if not " + nine + ";sail 2 if not " + nine);
        sails("sail 1 if " + "not ".repeat(10) + "1=1;sail 2", 1);
        sails("sail 1 if " + "not ".repeat(9) + "1=1;sail 2", 2);
        sails("sail 1 if " + "not[".repeat(5) + "1=1" + "]".repeat(5) + ";sail 2", 2);
    }

    private static void ruleParts() {
        String sixty = "sail 1" + "+1".repeat(59);
        ruleIs(sixty);
        ruleFails(sixty + "+1", sixty.length() + 1, PART);
        ruleFails(sixty + "* want", sixty.length() + 2, PART);
        ruleFails(sixty + ";sail 1", sixty.length() + 6, PART);
        ruleFails(sixty + " if 1<2", sixty.length() + 4, PART);
        sails(sixty, 60);
        String fiftyNine = "sail 1" + "+1".repeat(58);
        ruleFails(fiftyNine + " if 1 < 2", fiftyNine.length() + 6, PART);
        ruleFails(fiftyNine + " if 1 <= 2", fiftyNine.length() + 6, PART);
        ruleFails(fiftyNine + " if 1+2<3", fiftyNine.length() + 6, PART);
        String fiftyEight = "sail 1" + "+1".repeat(57);
        ruleFails(fiftyEight + " if 1 < 2", fiftyEight.length() + 8, PART);
        String fiftySeven = "sail 1" + "+1".repeat(56);
        ruleIs(fiftySeven + " if 1 < 2");
        ruleIs(fiftySeven + " if not [[ 1 < 2 ]]");
        ruleFails(fiftySeven + " if 1 < 2 + 3", fiftySeven.length() + 12, PART);
        ruleFails(fiftySeven + " if 1 < 2 or 3<4", fiftySeven.length() + 13, PART);
        String facts = "sail 1 if 1=1" + " or 1=1".repeat(18);
        ruleIs(facts);
        ruleIs(facts + ";sail 1;sail 1");
        ruleFails(facts + ";sail 1;sail 1;sail 1", facts.length() + 20, PART);
        ruleFails(facts + " or 1=1", facts.length() + 6, PART);
        ruleFails(facts + " or 1+1=1", facts.length() + 7, PART);
    }

    private static void ruleOddities() {
        ruleFails("sail", 4, ODD);
        ruleFails("sail ", 5, ODD);
        ruleFails("sail 1+", 7, ODD);
        ruleFails("sail 1-", 7, ODD);
        ruleFails("sail 1*", 7, ODD);
        ruleFails("sail 1/", 7, ODD);
        ruleFails("sail 1%", 7, ODD);
        ruleFails("sail +1", 5, ODD);
        ruleFails("sail 1++1", 7, ODD);
        ruleFails("sail 1 if", 9, ODD);
        ruleFails("sail 1 if 1", 11, ODD);
        ruleFails("sail 1 if <1", 10, ODD);
        ruleFails("sail 1 if 1<", 12, ODD);
        ruleFails("sail 1 if 1<2 and", 17, ODD);
        ruleFails("sail 1 if 1<2 or", 16, ODD);
        ruleFails("sail 1 if 1<2 not 1<2", 14, ODD);
        ruleFails("sail 1 if and 1<2", 10, ODD);
        ruleFails("sail 1 if not", 13, ODD);
        ruleFails("sail 1 if [", 11, ODD);
        ruleFails("sail 1 if [1<2", 14, ODD);
        ruleFails("sail 1 if [1<2;", 14, ODD);
        ruleFails("sail 1 if [1<2]]", 15, ODD);
        ruleFails("sail 1 if ]", 10, ODD);
        ruleFails("sail 1 ]", 7, ODD);
        ruleFails("sail 1 if 1<2 1", 14, ODD);
        ruleFails("sail 1 if [1<2] 1", 16, ODD);
        ruleFails("sail 1;;sail 1", 7, ODD);
        ruleFails(";sail 1", 0, ODD);
        ruleFails("if 1<2", 0, ODD);
        ruleFails("1", 0, ODD);
        for (int odd : new int[] {0, 9, 31, 33, 40, 46, 58, 64, 90, 94, 96, 123, 128, 255}) {
            ruleFails("sail 1" + (char) odd, 6, ODD);
            ruleFails("sail " + (char) odd + "1", 5, ODD);
            ruleFails((char) odd + "sail 1", 0, ODD);
            ruleFails("sail 1 if 1" + (char) odd + "2", 11, ODD);
            ruleFails("sail 1 if 1<" + (char) odd + "2", 12, ODD);
            ruleFails("sail 1 if " + (char) odd + "1<2", 10, ODD);
        }
    }

    /** Two FAULTS lie at one place: the one of the least kind is told. */
    private static void ofOnePlaceTheLeast() {
        String sixty = "sail 1" + "+1".repeat(59);
        ruleFails(sixty + "+123456", sixty.length() + 1, NUMBER);
        ruleFails(sixty + "+x", sixty.length() + 1, ODD);
        ruleFails(sixty + "+", sixty.length() + 1, ODD);
        ruleFails(sixty + " if " + "[1", sixty.length() + 5, PART);
        ruleFails(sixty + " if [x", sixty.length() + 5, ODD);
        String fiftyNine = "sail 1" + "+1".repeat(58);
        ruleFails(fiftyNine + " if 1 !", fiftyNine.length() + 6, ODD);
        ruleFails(fiftyNine + " if 1", fiftyNine.length() + 5, ODD);
        ruleFails("sail 1 if " + "[".repeat(10) + "1<[", 22, ODD);
        ruleFails("sail 1 if " + "[".repeat(10) + "1<not", 22, ODD);
        ruleFails("sail 1 if " + "[".repeat(10) + "x", 20, ODD);
        ruleFails("sail 1 if " + "[".repeat(10), 20, ODD);
        ruleFails("sail 1" + ";sail 1".repeat(11) + ";town", 84, ODD);
        tradeFails("trade 1 1 1" + ";frost0 1".repeat(39) + ";0", 11 + 39 * 9 + 1, ODD);
        tradeFails("sail 1", 0, ODD);
    }

    private static void theFirstAlongTheText() {
        tradeFails("trade 10000 21 1000", 6, NUMBER);
        tradeFails("trade 9999 21 1000", 11, NUMBER);
        tradeFails("trade 9999 x 1000;trade", 11, ODD);
        tradeFails("trade 1 1 1;frost 12 0", 18, NUMBER);
        tradeFails("trade 1 1 1;house 0;x", 18, NUMBER);
        tradeFails("frost 12 1;x", 0, CLAUSE);
        tradeFails("trade 1 1 1;trade x", 12, CLAUSE);
        tradeFails("trade 1 1 1;ship 100 100;trade 1 1 1", 17, NUMBER);
        ruleFails("sail 123456 x", 5, NUMBER);
        ruleFails("sail x 123456", 5, ODD);
        ruleFails("sail 1 if " + "[".repeat(11) + "x", 20, DEEP);
        ruleFails("sail 1 if 1<2 x" + "[".repeat(11), 14, ODD);
        ruleFails("sail 1" + "+1".repeat(60) + ";x", 125, PART);
        ruleFails("sail 1" + ";sail 1".repeat(12) + ";x", 84, CLAUSE);
    }

    // ---- Promise 5: what a RULE means

    /** How many blocks a RULE puts into SHIP 1, of 99, in MONTH 1 of two TOWNS. */
    private static void sails(String rule, int blocks) {
        PondIceTrade t = Checks.told("trade 503 0 999;frost 0 1;frost 1 1;ship 9 0;ship 99 3;town 5 0 0 1;town 4 10 7 9;house 1");
        t.month();
        t.sail(0, 0, 9, false);
        t.ask(1, 8);
        t.force(Checks.rule(t, rule));
        int before = t.count(0);
        t.month();
        due("blocks by " + rule, 999 - t.count(2) - 9 + 1, blocks);
        due("they are in the SHIP, by " + rule, t.ship(1, 3) > 0 ? 1 : 0, blocks > 0 ? 1 : 0);
        due("COST is paid, by " + rule, before - t.count(0), blocks > 0 ? 3 : 0);
    }

    /** LEAST is -9223372036854775808: one less is the greatest number, twice it is 0. */
    private static void sumsGoRound() {
        sails("sail 1 if " + LEAST + "<0;sail 2", 1);
        sails("sail 1 if " + LEAST + "-1>0;sail 2", 1);
        sails("sail 1 if " + LEAST + "-1+1<0;sail 2", 1);
        sails("sail 1 if 0-" + LEAST + "<0;sail 2", 1);
        sails("sail 1 if " + LEAST + "+" + LEAST + "=0;sail 2", 1);
        sails("sail 1 if " + LEAST + "*2=0;sail 2", 1);
        sails("sail 1 if " + LEAST + "*3=" + LEAST + ";sail 2", 1);
        sails("sail 1 if 99999*99999*99999*99999*99999>0;sail 2", power(5) > 0 ? 1 : 2);
        sails("sail " + LEAST, 0);
        sails("sail " + LEAST + "-1", 99);
        sails("sail 65536*65536", 99);
        sails("sail 65536*65536+5", 99);
        sails("sail 65536*65536*65536*65536", 0);
        sails("sail 65536*65536*65536*65536+7", 7);
    }

    private static long power(int times) {
        long product = 1;
        for (int i = 0; i < times; i++) {
            product *= 99999;
        }
        return product;
    }

    /** -8 is what is left of LEAST, divided four times by 32768. */
    private static void divisions() {
        String lessEight = LEAST + "/32768/32768/32768/32768";
        sails("sail 10+" + lessEight, 2);
        sails("sail 10+" + lessEight + "/3", 8);
        sails("sail 10+" + lessEight + "%3", 8);
        sails("sail 10-" + lessEight + "/3", 12);
        sails("sail 10+" + lessEight + "/9", 10);
        sails("sail 8/3", 2);
        sails("sail 9/3", 3);
        sails("sail 8%3", 2);
        sails("sail 9%3+1", 1);
        sails("sail 5/0+4", 4);
        sails("sail 5%0+4", 4);
        sails("sail 0/0+4", 4);
        sails("sail 0%0+4", 4);
        sails("sail 5/0", 0);
        sails("sail 5%0", 0);
        sails("sail 4+5/stock", 4);
        sails("sail 4+5%stock", 4);
        sails("sail 4-5/0*7", 4);
        sails("sail 1 if 5/0=0 and 5%0=0;sail 2", 1);
        sails("sail 7/1", 7);
        sails("sail 7%1+1", 1);
        sails("sail 2*3%4*5", 10);
        sails("sail 20/3*3%7", 4);
    }

    /** Of SHIP 1 and TOWN 1, in MONTH 1; each WORD beside what would be another's. */
    private static void wordsOfShipAndTown() {
        sails("sail 50 if ship=1 and town=1", 50);
        sails("sail 50 if town=0 and months=5;sail 40 if town=1 and months=4", 50);
        sails("sail 50 if town=1 and months=4", 50);
        sails("sail 50 if town=1 and heat=10", 50);
        sails("sail 50 if town=1 and want=6", 50);
        sails("sail 50 if town=1 and price=8", 50);
        sails("sail 50 if town=1 and stock=0", 50);
        sails("sail 50 if town=1 and coming=0", 50);
        sails("sail 50 if town=0 and coming=9", 50);
        sails("sail 50 if pond=990", 50);
        sails("sail 50 if hold=99", 50);
        sails("sail 50 if money=503", 50);
        sails("sail 50 if month=1", 50);
        sails("sail 50 if town=1 and house=1;sail 40 if town=0 and house=0", 50);
        sails("sail 50 if town=0 and house=0", 50);
        sails("sail 50 if ship=0", 0);
        sails("sail 50 if town=2", 0);
        PondIceTrade iced = Checks.told("trade 0 0 50;ship 9 0;ship 9 0;town 1 0 0 1;town 1 0 0 1");
        iced.sail(0, 1, 5, false);
        iced.month();
        iced.force(Checks.rule(iced, "sail stock"));
        iced.month();
        due("stock is the ice in the TOWN", iced.town(1, 4), 10);
        due("and none in the other", iced.town(0, 4), 0);
        PondIceTrade t = Checks.told("trade 9 0 99;ship 9 0;town 1 0 0 1", "sail month-11");
        for (int i = 0; i < 12; i++) {
            t.month();
            due("nothing before MONTH 12", t.ship(0, 3) + t.town(0, 4), 0);
        }
        t.month();
        due("month is the MONTH, not one of a year", t.town(0, 4), 1);
    }

    private static void wordsAsFarAsLettersGoOn() {
        ruleIs("sail want");
        ruleFails("sail wants", 5, ODD);
        ruleFails("sail wan", 5, ODD);
        ruleFails("sail want want", 10, ODD);
        ruleFails("sailwant", 0, ODD);
        ruleIs("sail9if 1<2and 2<3");
        ruleFails("sail 9if1<2andnot 2<3", 11, ODD);
        ruleFails("sail 9 iff 1<2", 7, ODD);
        ruleFails("sail sail", 5, ODD);
        ruleFails("sail if", 5, ODD);
        ruleFails("sail or", 5, ODD);
        ruleFails("sail and", 5, ODD);
        ruleFails("sail not", 5, ODD);
        ruleFails("sail trade", 5, ODD);
        ruleFails("sail frost", 5, ODD);
        for (String word : new String[] {"ship", "town", "months", "heat", "want", "price", "stock", "coming", "pond",
            "hold", "money", "month", "house"}) {
            ruleIs("sail " + word);
            ruleFails("sail " + word + "x", 5, ODD);
            ruleFails("sail " + word.substring(1), 5, ODD);
            for (String other : spoiled(word)) {
                ruleFails("sail " + other, 5, ODD);
            }
        }
        for (String other : spoiled("sail")) {
            ruleFails(other + " 1", 0, ODD);
        }
        for (String other : spoiled("if")) {
            ruleFails("sail 1 " + other + " 1<2", 7, ODD);
        }
        for (String other : spoiled("and")) {
            ruleFails("sail 1 if 1<2 " + other + " 1<2", 14, ODD);
        }
        for (String other : spoiled("or")) {
            ruleFails("sail 1 if 1<2 " + other + " 1<2", 14, ODD);
        }
        for (String other : spoiled("not")) {
            ruleFails("sail 1 if " + other + " 1<2", 10, ODD);
        }
        for (String word : new String[] {"trade", "frost", "ship", "town", "house"}) {
            for (String other : spoiled(word)) {
                tradeFails("trade 1 1 1;" + other + " 1 1", 12, ODD);
                tradeFails(other + " 1 1 1", 0, ODD);
            }
        }
    }

    /** The word with each of its letters in turn changed into q, which no word has. */
    private static String[] spoiled(String word) {
        String[] others = new String[word.length()];
        for (int i = 0; i < others.length; i++) {
            others[i] = word.substring(0, i) + "q" + word.substring(i + 1);
        }
        return others;
    }

    private static void signs() {
        String[] signs = {"<", "<=", "=", ">=", ">"};
        boolean[][] holds = {{true, false, false}, {true, true, false}, {false, true, false}, {false, true, true},
            {false, false, true}};
        for (int i = 0; i < signs.length; i++) {
            for (int left = 1; left <= 3; left++) {
                sails("sail 1 if " + left + signs[i] + "2;sail 2", holds[i][left - 1] ? 1 : 2);
                sails("sail 1 if " + left + " " + signs[i] + " 2;sail 2", holds[i][left - 1] ? 1 : 2);
            }
        }
        ruleFails("sail 1 if 1< =2", 13, ODD);
        ruleFails("sail 1 if 1> =2", 13, ODD);
        ruleFails("sail 1 if 1=<2", 12, ODD);
        ruleFails("sail 1 if 1<>2", 12, ODD);
        ruleFails("sail 1 if 1<==2", 13, ODD);
    }

    private static void testsBind() {
        String yes = "1=1";
        String no = "1=2";
        for (int bits = 0; bits < 8; bits++) {
            boolean a = (bits & 4) != 0;
            boolean b = (bits & 2) != 0;
            boolean c = (bits & 1) != 0;
            String left = a ? yes : no;
            String middle = b ? yes : no;
            String right = c ? yes : no;
            sails("sail 1 if " + left + " or " + middle + " and " + right + ";sail 2", a || b && c ? 1 : 2);
            sails("sail 1 if " + left + " and " + middle + " or " + right + ";sail 2", a && b || c ? 1 : 2);
            sails("sail 1 if [" + left + " or " + middle + "] and " + right + ";sail 2", (a || b) && c ? 1 : 2);
            sails("sail 1 if not " + left + " and " + middle + " or " + right + ";sail 2", !a && b || c ? 1 : 2);
            sails("sail 1 if not [" + left + " or not " + middle + "] or " + right + ";sail 2", !(a || !b) || c ? 1 : 2);
            sails("sail 1 if " + left + " or " + middle + " or " + right + ";sail 2", a || b || c ? 1 : 2);
            sails("sail 1 if " + left + " and " + middle + " and " + right + ";sail 2", a && b && c ? 1 : 2);
            sails("sail 1 if " + left + " and [" + middle + " or " + right + "];sail 2", a && (b || c) ? 1 : 2);
            sails("sail 1 if " + left + " or [" + middle + " or " + right + "];sail 2", a || b || c ? 1 : 2);
            sails("sail 1 if " + left + " and not [" + middle + " or " + right + "];sail 2", a && !(b || c) ? 1 : 2);
            sails("sail 1 if " + left + " and not [" + middle + " and " + right + "];sail 2", a && !(b && c) ? 1 : 2);
            sails("sail 1 if " + left + " and [" + middle + "] or not " + right + " and " + middle + ";sail 2", a && b || !c && b ? 1 : 2);
        }
        sails("sail 5", 5);
        sails("sail 5 if " + no, 0);
        sails("sail 5 if " + no + ";sail 6;sail 7", 6);
        sails("sail 5;sail 6 if " + yes, 5);
    }

    // ---- Promise 6: force

    private static void force() {
        PondIceTrade t = new PondIceTrade();
        for (int rule = 0; rule <= 5; rule++) {
            due("not yet a RULE", t.force(rule), -2);
            Checks.rule(t, "sail " + (rule + 1));
            due("a RULE", t.force(rule), rule - 1);
            due("is IN FORCE", t.count(6), rule);
        }
        due("there is no RULE 6", t.force(6), -2);
        due("there is no RULE -2", t.force(-2), -2);
        due("RULE 5 stays", t.count(6), 5);
        due("the same again", t.force(5), 5);
        due("none", t.force(NONE), 5);
        due("none IN FORCE", t.count(6), NONE);
        due("none of none", t.force(NONE), NONE);
    }
}
