/** The TAPE, the two languages and their FAULTS: promises 1 to 6. */
public final class TextTest {
    private static final Checks CHECKS = new Checks();
    private static final int ODD = 0;
    private static final int NUMBER = 1;
    private static final int DEEP = 2;
    private static final int PART = 3;
    private static final int CLAUSE = 4;

    public static void main(String[] args) {
        newObject();
        tape();
        tradeTold();
        tradeFaults();
        tradeNumbers();
        tradeClauses();
        ruleTold();
        ruleFaults();
        ruleLimits();
        ruleMeaning();
        force();
        CHECKS.close();
    }

    private static void due(String call, long got, long want) {
        CHECKS.due(call, got, want);
    }

    private static void tradeFails(String text, int place, int kind) {
        PondIceTrade t = new PondIceTrade();
        due("trade() of " + text, Checks.trade(t, text), Checks.fault(place, kind));
        due("the TAPE behind a FAULT of " + text, t.count(15), text.length());
    }

    private static void ruleFails(String text, int place, int kind) {
        PondIceTrade t = new PondIceTrade();
        due("rule() of " + text, Checks.rule(t, text), Checks.fault(place, kind));
        due("RULES behind a FAULT of " + text, t.count(5), 0);
        due("the TAPE behind a FAULT of " + text, t.count(15), 0);
    }

    private static void newObject() {
        PondIceTrade t = new PondIceTrade();
        for (int what = 0; what <= 15; what++) {
            due("new: count(" + what + ")", t.count(what), what == 6 ? PondIceTrade.NONE : 0);
        }
        due("new: month()", t.month(), -1);
        due("new: undo()", t.undo(), -1);
        due("new: ship", t.ship(0, 0), -2);
        due("new: town", t.town(0, 0), -1);
        due("new: sail", t.sail(0, 0, 1, false), -1);
        due("new: teach", t.teach(0, 1), -1);
        due("new: build", t.build(0), -1);
        due("new: ask", t.ask(0, 1), -1);
        due("new: ahead", t.ahead(0, 0, 0), -1);
        due("new: comes", t.comes(0, 0, false), -1);
        due("new: load", t.load(0, 1, false), -1);
        due("new: send", t.send(0, 1, 0), -2);
        due("new: fleet", t.fleet(1, 0), -3);
        due("new: give", t.give(0, 1, 0), -1);
        due("new: site", t.site(1, 0), -2);
        due("new: pricing", t.pricing(0, 1, 0), -1);
        due("new: war", t.war(0, 0), -1);
        due("new: out", t.out(), -1);
        due("new: hatch", t.hatch(0, 0, false, 0), -1);
        due("new: note", t.note(0, 0), -2);
        due("new: ruled", t.ruled(0), -3);
        due("new: look", t.look(0), -1);
        due("new: years", t.years(1, 1, 0), -1);
        due("new: back", t.back(0), -1);
        due("new: force", t.force(0), -2);
    }

    private static void tape() {
        PondIceTrade t = new PondIceTrade();
        for (int i = 1; i <= 20; i++) {
            due("feed", t.feed(0, 0, 0, 0, 0), 20 * i);
        }
        due("feed of a full TAPE", t.feed(0, 0, 0, 0, 0), -1);
        due("bytes then", t.count(15), 400);
        due("end(401)", t.end(401), -1);
        due("end(-1)", t.end(-1), -1);
        due("end(400)", t.end(400), 400);
        due("end(381)", t.end(381), 381);
        due("feed over 381", t.feed(0, 0, 0, 0, 0), -1);
        due("end(380)", t.end(380), 380);
        due("feed over 380", t.feed(0, 0, 0, 0, 0), 400);
        due("end(0)", t.end(0), 0);
        due("end(1)", t.end(1), -1);
        due("feed from the start", t.feed(0x74726164, 0x65203120, 0x32203300, 0, 0), 20);
        due("end(11)", t.end(11), 11);
        due("the highest byte comes first", t.trade(), 0);
        due("its MONEY", t.count(0), 1);
        due("its WAGE", t.count(1), 2);
        due("its POND", t.count(2), 3);
        due("the TAPE is empty then", t.count(15), 0);
        due("bytes above 127 are bytes", t.feed(0xffffffff, -1, -1, -1, -1), 20);
        due("and can't stand anywhere", t.rule(), Checks.fault(0, ODD));
        due("the TAPE is empty behind a RULE's FAULT", t.count(15), 0);
        due("what comes is its begin", t.feed(0x7361696c, 0x20312020, 0x20202020, 0x20202020, 0x20202020), 20);
        due("and is a RULE", t.rule(), 0);
    }

    private static void tradeTold() {
        PondIceTrade t = new PondIceTrade();
        String text = "trade 9999 20 999;frost 0 20;ship 50 10;frost 0 7;ship 1 0;ship99 99;"
                + "town 2 20 10 9;town1 0 0 1;house 0;town 6 60 99 99;town 1 1 1 1;house 2;house 0";
        due("trade of four TOWNS", Checks.trade(t, text), 4);
        due("MONEY", t.count(0), 9999);
        due("WAGE", t.count(1), 20);
        due("POND", t.count(2), 999);
        due("SHIPS", t.count(3), 3);
        due("TOWNS", t.count(4), 4);
        due("HOUSES", t.count(11), 5);
        due("at home", t.count(8), 7);
        int[][] ships = {{50, 10, -1, 0, 0, 0}, {1, 0, -1, 0, 0, 0}, {99, 99, -1, 0, 0, 0}};
        for (int s = 0; s < 3; s++) {
            for (int what = 0; what < 6; what++) {
                due("ship(" + s + ", " + what + ")", t.ship(s, what), ships[s][what]);
            }
        }
        int[][] towns = {{2, 20, 10, 9, 0, 1, 0, 0}, {1, 0, 0, 1, 0, 0, 0, 0}, {6, 60, 99, 99, 0, 1, 0, 0},
            {1, 1, 1, 1, 0, 0, 0, 0}};
        for (int s = 0; s < 4; s++) {
            for (int what = 0; what < 8; what++) {
                due("town(" + s + ", " + what + ")", t.town(s, what), towns[s][what]);
            }
        }
        due("the POND is full", t.ahead(0, 1, 1), 999);
        due("of a MONTH's frosts the last", Checks.trade(t, "trade 0 0 5;frost 0 20;frost 0 7"), 0);
        due("grown", t.ahead(0, 1, 1), 12);
        due("blanks and zeros", Checks.trade(t, "   trade  00001 0 00000  ; town1 1   1 1  "), 1);
        due("MONEY with zeros", t.count(0), 1);
        due("all is new with a TRADE", t.count(3), 0);
    }

    private static void tradeFaults() {
        tradeFails("", 0, ODD);
        tradeFails("   ", 3, ODD);
        tradeFails("trade", 5, ODD);
        tradeFails("trade  ", 7, ODD);
        tradeFails("trades 0 0 0", 0, ODD);
        tradeFails("Trade 0 0 0", 0, ODD);
        tradeFails(" tradee", 1, ODD);
        tradeFails("trade 0 0 0;", 12, ODD);
        tradeFails("trade 0 0 0 0", 12, ODD);
        tradeFails("trade 0 0 0 123456", 12, ODD);
        tradeFails("trade 0 0;", 9, ODD);
        tradeFails("trade 0 0 x", 10, ODD);
        tradeFails("trade 0 -1 0", 8, ODD);
        tradeFails("trade 0 0 0;;", 12, ODD);
        tradeFails("trade 0 0 0,ship 1 1", 11, ODD);
        tradeFails("trade 0 0 0;sail 1", 12, ODD);
        tradeFails("trade 0 0 0;month 1", 12, ODD);
        tradeFails("trade 0 0 0\u0000", 11, ODD);
        tradeFails("trade 0 0 0\t", 11, ODD);
        tradeFails("trade 0 0 0;ship 1 1;town 1 1 1", 31, ODD);
        tradeFails("1", 0, ODD);
    }

    private static void tradeNumbers() {
        tradeFails("trade 10000 0 0", 6, NUMBER);
        tradeFails("trade 0 21 0", 8, NUMBER);
        tradeFails("trade 0 0 1000", 10, NUMBER);
        tradeFails("trade 000000 0 0", 6, NUMBER);
        tradeFails("trade 99999999999999999999 0 0", 6, NUMBER);
        tradeFails("trade 0 0 0;frost 12 1", 18, NUMBER);
        tradeFails("trade 0 0 0;frost 0 0", 20, NUMBER);
        tradeFails("trade 0 0 0;frost 0 100", 20, NUMBER);
        tradeFails("trade 0 0 0;ship 0 0", 17, NUMBER);
        tradeFails("trade 0 0 0;ship 100 0", 17, NUMBER);
        tradeFails("trade 0 0 0;ship 1 100", 19, NUMBER);
        tradeFails("trade 0 0 0;town 0 0 0 1", 17, NUMBER);
        tradeFails("trade 0 0 0;town 7 0 0 1", 17, NUMBER);
        tradeFails("trade 0 0 0;town 1 61 0 1", 19, NUMBER);
        tradeFails("trade 0 0 0;town 1 0 100 1", 21, NUMBER);
        tradeFails("trade 0 0 0;town 1 0 0 0", 23, NUMBER);
        tradeFails("trade 0 0 0;town 1 0 0 100", 23, NUMBER);
        tradeFails("trade 0 0 0;house 0", 18, NUMBER);
        tradeFails("trade 0 0 0;town 1 0 0 1;house 1", 31, NUMBER);
        tradeFails("trade 0 0 0;house 0;town 1 0 0 1", 18, NUMBER);
        tradeFails("trade 10000 x", 6, NUMBER);
        tradeFails("trade x 10000", 6, ODD);
    }

    private static void tradeClauses() {
        tradeFails("frost 0 1", 0, CLAUSE);
        tradeFails("ship 1 1;trade 0 0 0", 0, CLAUSE);
        tradeFails("  house 99", 2, CLAUSE);
        tradeFails("trade 0 0 0;trade 0 0 0", 12, CLAUSE);
        tradeFails("trade 0 0 0;ship 1 1;ship 1 1;ship 1 1; ship 1 1", 40, CLAUSE);
        tradeFails("trade 0 0 0;town 1 1 1 1;town 1 1 1 1;town 1 1 1 1;town 1 1 1 1;town", 64, CLAUSE);
        String full = "trade 0 0 0;town1 1 1 1" + ";house0".repeat(38);
        due("forty CLAUSES", Checks.trade(new PondIceTrade(), full), 1);
        tradeFails(full + ";house0", full.length() + 1, CLAUSE);
        tradeFails(full + "; trade", full.length() + 2, CLAUSE);
        tradeFails(full + ";x", full.length() + 1, ODD);
        tradeFails(full + "; ", full.length() + 2, ODD);
        PondIceTrade t = Checks.told("trade 7 0 0;town 1 1 1 1");
        t.note(0, 7);
        t.month();
        due("a FAULT later", Checks.trade(t, "trade 8 0 0;x"), Checks.fault(12, ODD));
        due("MONEY stays", t.count(0), 7);
        due("MONTH stays", t.count(7), 1);
        due("NOTES stay", t.count(12), 1);
        due("ACTS stay", t.count(13), 1);
    }

    private static void ruleTold() {
        PondIceTrade t = new PondIceTrade();
        String[] texts = {"sail 1", "sail want * 2 - coming", "sail hold if [ stock<want and coming = 0 ] or not month>5;sail5",
            "sail ship+town-months*heat/want%price+stock-coming+pond-hold+money-month+house",
            "sail 00001if 1<2and 2<=3or 3=3and[4>=4]and not5>5"};
        for (int i = 0; i < texts.length; i++) {
            due("rule() of " + texts[i], Checks.rule(t, texts[i]), i);
            due("the TAPE then", t.count(15), 0);
        }
        due("RULES", t.count(5), 5);
        due("a FAULT", Checks.rule(t, "sail"), Checks.fault(4, ODD));
        due("the sixth", Checks.rule(t, " sail 99999 "), 5);
        due("the seventh", Checks.rule(t, "sail 1"), -1);
        due("the TAPE stays", t.count(15), 6);
        due("a seventh with a FAULT", Checks.rule(t, "sail"), -1);
        due("RULES then", t.count(5), 6);
    }

    private static void ruleFaults() {
        ruleFails("", 0, ODD);
        ruleFails("sail", 4, ODD);
        ruleFails("sail 1 if", 9, ODD);
        ruleFails("sails 1", 0, ODD);
        ruleFails("sailz 1", 0, ODD);
        ruleFails("saila 1", 0, ODD);
        ruleFails("sail{1", 4, ODD);
        ruleFails("sail`1", 4, ODD);
        ruleFails("sail 1/", 7, ODD);
        ruleFails("sail 1:", 6, ODD);
        ruleFails("sail x", 5, ODD);
        ruleFails("sail 1;", 7, ODD);
        ruleFails("sail 1 if want = 1]", 18, ODD);
        ruleFails("sail 5 %", 8, ODD);
        ruleFails("sail -5", 5, ODD);
        ruleFails("sail 5 6", 7, ODD);
        ruleFails("sail 5 123456", 7, ODD);
        ruleFails("sail 5 want", 7, ODD);
        ruleFails("sail if 1<2", 5, ODD);
        ruleFails("sail trade", 5, ODD);
        ruleFails("sail 1 if 1", 11, ODD);
        ruleFails("sail 1 if 1<", 12, ODD);
        ruleFails("sail 1 if 1< =2", 13, ODD);
        ruleFails("sail 1 if 1=<2", 12, ODD);
        ruleFails("sail 1 if 1=>2", 12, ODD);
        ruleFails("sail 1 if 1==2", 12, ODD);
        ruleFails("sail 1 if 1<>2", 12, ODD);
        ruleFails("sail 1 if 1<2<3", 13, ODD);
        ruleFails("sail 1 if [1<2", 14, ODD);
        ruleFails("sail 1 if [1]<2", 12, ODD);
        ruleFails("sail [1] if 1<2", 5, ODD);
        ruleFails("sail 1 if (1<2)", 10, ODD);
        ruleFails("sail 1 if []", 11, ODD);
        ruleFails("sail 1 if not", 13, ODD);
        ruleFails("sail 1 if notwant<1", 10, ODD);
        ruleFails("sail 1 if 1<2 and", 17, ODD);
        ruleFails("sail 1 if 1<2 or or", 17, ODD);
        ruleFails("sail 1 if 1<2 if 1<2", 14, ODD);
        ruleFails("sail 1 and 1<2", 7, ODD);
        ruleFails("sail 1 sail 1", 7, ODD);
        ruleFails("sail Want", 5, ODD);
        ruleFails("sail wantx", 5, ODD);
        ruleFails("trade 0 0 0", 0, ODD);
        ruleFails("sail 123456", 5, NUMBER);
        ruleFails("sail 1+000000", 7, NUMBER);
        ruleFails("sail 1 if 2 < 123456 x", 14, NUMBER);
    }

    private static void ruleLimits() {
        PondIceTrade t = new PondIceTrade();
        due("ten deep", Checks.rule(t, "sail 1 if " + "[".repeat(10) + "1<2" + "]".repeat(10)), 0);
        due("ten nots", Checks.rule(t, "sail 1 if " + "not ".repeat(10) + "1<2 and not 1<2"), 1);
        due("ten of both", Checks.rule(t, "sail 1 if " + "not[".repeat(5) + "1<2" + "]".repeat(5)), 2);
        ruleFails("sail 1 if " + "[".repeat(11) + "1<2" + "]".repeat(11), 20, DEEP);
        ruleFails("sail 1 if " + "not ".repeat(11) + "1<2", 50, DEEP);
        ruleFails("sail 1 if " + "not[".repeat(5) + " not x", 31, DEEP);
        ruleFails("sail 1 if " + "not[".repeat(5) + "1<2 and [", 38, DEEP);
        due("sixty VALUES", Checks.rule(t, "sail 1" + "+1".repeat(59)), 3);
        due("58 VALUES and a FACT with one", Checks.rule(t, "sail 1" + "+1".repeat(56) + " if 1<2"), 4);
        ruleFails("sail 1" + "+1".repeat(60), 125, PART);
        ruleFails("sail 1" + "+1".repeat(59) + "+123456", 125, NUMBER);
        ruleFails("sail 1" + "+1".repeat(59) + "+wont", 125, ODD);
        ruleFails("sail 1" + "+1".repeat(59) + "+want", 125, PART);
        ruleFails("sail 1" + "+1".repeat(58) + " if 1<2", 127, PART);
        ruleFails("sail 1" + "+1".repeat(57) + " if 1<2", 126, PART);
        ruleFails("sail 1" + "+1".repeat(59) + " if 1<2", 128, PART);
        ruleFails("sail 1" + "+1".repeat(59) + ";sail 1", 130, PART);
        due("twelve CLAUSES", Checks.rule(t, "sail 1" + ";sail 1".repeat(11)), 5);
        ruleFails("sail 1" + "; sail 1".repeat(12), 6 + 8 * 11 + 2, CLAUSE);
        ruleFails("sail 1" + ";sail 1".repeat(11) + ";x", 6 + 7 * 11 + 1, ODD);
        ruleFails("sail 1" + ";sail 1".repeat(11) + ";", 6 + 7 * 11 + 1, ODD);
    }

    /** How many blocks a RULE puts into a SHIP of 99 that is at home in MONTH 0. */
    private static void sails(String rule, int blocks) {
        PondIceTrade t = Checks.told("trade 500 0 99;ship 9 0;ship 99 3;town 2 0 0 1;town 3 0 7 9;house 1", rule);
        t.sail(0, 0, 9, false);
        t.month();
        due("blocks by " + rule, t.ship(1, 4), blocks);
    }

    private static void ruleMeaning() {
        sails("sail 5", 5);
        sails("sail 2+3*4", 14);
        sails("sail 20-3-4", 13);
        sails("sail 20-3*4+1", 9);
        sails("sail 17/5*5", 15);
        sails("sail 17%5*3", 6);
        sails("sail 7/0+3", 3);
        sails("sail 7%0+4", 4);
        sails("sail 100-9/2", 90);
        sails("sail 3-10/4+7-2", 6);
        sails("sail 90-99", 0);
        sails("sail 0", 0);
        sails("sail ship*10+town", 11);
        sails("sail months", 3);
        sails("sail heat+1", 1);
        sails("sail want", 7);
        sails("sail price", 9);
        sails("sail stock+2", 2);
        sails("sail coming", 9);
        sails("sail pond", 90);
        sails("sail hold", 90);
        sails("sail money/10", 50);
        sails("sail month+1", 1);
        sails("sail house*8", 8);
        sails("sail 1 if 2<1;sail 2 if 2<=1;sail 3 if 2=1;sail 4 if 1>=2;sail 5 if 1>1;sail 6", 6);
        sails("sail 1 if 1<1;sail 2 if 1<=1", 2);
        sails("sail 1 if 1>1;sail 2 if 1>=1", 2);
        sails("sail 1 if 1=2;sail 2 if 1=1", 2);
        sails("sail 1 if 2>1;sail 2", 1);
        sails("sail 1 if 1>2", 0);
        sails("sail 1 if 1=1 or 1=1 and 1=2;sail 2", 1);
        sails("sail 1 if [1=1 or 1=1] and 1=2;sail 2", 2);
        sails("sail 1 if 1=2 and 1=1 or 1=1;sail 2", 1);
        sails("sail 1 if not 1=2 and 1=2;sail 2", 2);
        sails("sail 1 if not [1=2 and 1=2];sail 2", 1);
        sails("sail 1 if not not 1=2;sail 2", 2);
        sails("sail 1 if 1=2 or 1=2 or 1=1;sail 2", 1);
        sails("sail 1 if 1=2 or 2=2 and 3=3 and 4=5 or 1=3;sail 2", 2);
        String big = "99999*99999*99999*99999";
        sails("sail 1 if " + big + "*99999>0;sail 2", Long.signum(power(5)) > 0 ? 1 : 2);
        sails("sail 1 if " + big + ">0;sail 2", Long.signum(power(4)) > 0 ? 1 : 2);
        sails("sail 1 if 0-" + big + "/7=0-" + big + "/7*1;sail 2", 1);
        String least = "32768*32768*32768*32768*8";
        sails("sail 1 if " + least + "<0;sail 2", 1);
        sails("sail 1 if 0-" + least + "/2>0;sail 2", 1);
        sails("sail 0-" + least + "/4", 90);
        sails("sail 0-" + least, 0);
    }

    private static long power(int times) {
        long product = 1;
        for (int i = 0; i < times; i++) {
            product *= 99999;
        }
        return product;
    }

    private static void force() {
        PondIceTrade t = new PondIceTrade();
        due("none such", t.force(0), -2);
        due("none of none", t.force(-1), -1);
        Checks.rule(t, "sail 1");
        Checks.rule(t, "sail 2");
        due("a RULE by itself is not IN FORCE", t.count(6), -1);
        due("force(1)", t.force(1), -1);
        due("force(0)", t.force(0), 1);
        due("force(2)", t.force(2), -2);
        due("force(-2)", t.force(-2), -2);
        due("it stays", t.count(6), 0);
        Checks.trade(t, "trade 0 0 9;ship 5 0;town 2 0 0 1");
        due("it stays with a TRADE", t.count(6), 0);
        due("force(NONE)", t.force(-1), 0);
        due("none then", t.count(6), -1);
        t.month();
        due("without one nothing", t.count(9), 0);
        t.force(1);
        t.month();
        due("by the one IN FORCE", t.count(9), 2);
    }
}
