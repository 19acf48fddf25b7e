/** Promises 15 to 31 and part III of the terms: from where to where each question goes, and which of several is told. */
public final class QuestionEdgeTest {
    private static final Checks CHECKS = new Checks();
    private static final int NONE = PondIceTrade.NONE;

    public static void main(String[] args) {
        aheadIsAsByHand();
        aheadGoes();
        comesIsAsAVoyage();
        comesGoes();
        loadIsTheFewest();
        loadGoes();
        sendGoes();
        sendOfSeveral();
        sendWithWhatItCan();
        fleetGoes();
        fleetOfSeveral();
        fleetAsManyAsCanBe();
        giveGoes();
        giveOfSeveral();
        siteGoes();
        siteOfSeveral();
        pricingGoes();
        pricingOfSeveral();
        warOfTenths();
        warHalves();
        warGoes();
        outBegins();
        outIn60Months();
        hatchGoes();
        hatchTellsAll();
        noteGoes();
        tenNotes();
        ruledOfSeveral();
        lookOfSeveral();
        seedGoes();
        drawsGoRound();
        drawOfAHundred();
        yearsGo();
        yearsAllTogether();
        countWhats();
        monthsGoOnByTheRuleInForce();
        oneQuestionBehindAnother();
        CHECKS.close();
    }

    private static void due(String call, long got, long want) {
        CHECKS.due(call, got, want);
    }

    private static int melted(int blocks, int heat) {
        int less = blocks * heat / 100;
        return blocks - less - (blocks * heat % 100 > 0 ? 1 : 0);
    }

    private static int arriving(int blocks, int heat, int months) {
        return months == 0 ? blocks : arriving(melted(blocks, heat), heat, months - 1);
    }

    /** TOWN 0 WANTS none and asks 1; TOWN 1 is one MONTH away without HEAT, has so much ice and WANTS so many. */
    private static PondIceTrade iced(int stock, int want, int price) {
        PondIceTrade t = Checks.told("trade 500 0 198;ship 99 0;ship 99 0;town 1 0 0 1;town 1 0 0 " + price);
        int first = Math.min(99, stock + want);
        t.sail(0, 1, first, false);
        t.sail(1, 1, stock + want - first, false);
        t.month();
        t.teach(1, want);
        due("iced: ice", t.town(1, 4), stock);
        due("iced: WANT", t.town(1, 2), want);
        return t;
    }

    // ---- Promise 15: ahead

    private static PondIceTrade going() {
        PondIceTrade t = Checks.told("trade 300 1 200;frost 0 90;frost 1 90;frost 11 50;ship 40 5;ship 20 3;"
                + "town 1 20 15 4;town 3 45 20 9;house 1", "sail want-coming-stock if month%12<9;sail 2");
        t.month();
        t.month();
        return t;
    }

    private static void aheadIsAsByHand() {
        PondIceTrade asked = going();
        PondIceTrade made = going();
        for (int n = 0; n <= 60; n++) {
            due("MONEY ahead " + n, asked.ahead(0, n, 0), made.count(0));
            due("POND ahead " + n, asked.ahead(0, n, 1), made.count(2));
            for (int town = 0; town <= 1; town++) {
                due("stock ahead " + n, asked.ahead(town, n, 2), made.town(town, 4));
                due("WANT ahead " + n, asked.ahead(town, n, 3), made.town(town, 2));
            }
            made.month();
        }
        due("MONTH stays", asked.count(7), 2);
    }

    private static void aheadGoes() {
        PondIceTrade t = Checks.told("trade 300 1 100;town 1 20 99 4;town 1 1 1 1");
        due("-1 MONTHS", t.ahead(0, -1, 3), NONE);
        due("0 MONTHS", t.ahead(0, 0, 3), 99);
        due("1 MONTH", t.ahead(0, 1, 3), 98);
        due("60 MONTHS", t.ahead(0, 60, 3), 39);
        due("61 MONTHS", t.ahead(0, 61, 3), NONE);
        due("what -1", t.ahead(0, 0, -1), NONE);
        due("what 0", t.ahead(0, 0, 0), 300);
        due("what 1", t.ahead(0, 0, 1), 100);
        due("what 2", t.ahead(0, 0, 2), 0);
        due("what 4", t.ahead(0, 0, 4), NONE);
        due("TOWN -1 for stock", t.ahead(-1, 0, 2), NONE);
        due("TOWN 2 of two for stock", t.ahead(2, 0, 2), NONE);
        due("TOWN 1 of two for stock", t.ahead(1, 0, 2), 0);
        due("TOWN -1 for WANT", t.ahead(-1, 0, 3), NONE);
        due("TOWN 2 of two for WANT", t.ahead(2, 0, 3), NONE);
        due("TOWN 1 of two for WANT", t.ahead(1, 0, 3), 1);
        int[] towns = {Integer.MIN_VALUE, -1, 2, Integer.MAX_VALUE};
        for (int town : towns) {
            due("TOWN " + town + " is not asked for MONEY", t.ahead(town, 0, 0), 300);
            due("TOWN " + town + " is not asked for POND", t.ahead(town, 0, 1), 100);
        }
        due("MONEY without a TOWN", Checks.told("trade 7 0 9").ahead(0, 60, 0), 7);
        due("stock without a TOWN", Checks.told("trade 7 0 9").ahead(0, 60, 2), NONE);
    }

    // ---- Promises 16 and 17: comes, load

    private static void comesIsAsAVoyage() {
        for (int months = 1; months <= 6; months++) {
            for (int heat = 0; heat <= 60; heat += 12) {
                for (int dust = 0; dust <= 1; dust++) {
                    PondIceTrade t = Checks.told("trade 99 0 99;ship 99 0;town " + months + " " + heat + " 0 1");
                    int want = arriving(99, dust == 1 ? heat / 4 : heat, months);
                    due("99 over " + months + " by " + heat, t.comes(0, 99, dust == 1), want);
                    t.sail(0, 0, 99, dust == 1);
                    for (int i = 1; i < months; i++) {
                        t.month();
                    }
                    t.month();
                    due("and by hand, MELTED once ashore", t.town(0, 4), melted(want, heat));
                }
            }
        }
    }

    private static void comesGoes() {
        PondIceTrade t = Checks.told("trade 0 0 0;town 6 0 1 1;town 1 60 1 1");
        due("-1", t.comes(0, -1, false), NONE);
        due("0", t.comes(0, 0, false), 0);
        due("1", t.comes(0, 1, false), 1);
        due("999", t.comes(0, 999, false), 999);
        due("1000", t.comes(0, 1000, false), NONE);
        due("-1 in DUST", t.comes(1, -1, true), NONE);
        due("999 in DUST", t.comes(1, 999, true), 849);
        due("1000 in DUST", t.comes(1, 1000, true), NONE);
        due("TOWN -1", t.comes(-1, 1, false), NONE);
        due("TOWN 2 of two", t.comes(2, 1, false), NONE);
        due("more than POND and HOLD may be asked", t.comes(0, 500, false), 500);
    }

    private static void loadIsTheFewest() {
        for (int months = 1; months <= 6; months++) {
            for (int heat = 0; heat <= 60; heat += 15) {
                for (int dust = 0; dust <= 1; dust++) {
                    PondIceTrade t = Checks.told("trade 0 0 0;town " + months + " " + heat + " 0 1");
                    int by = dust == 1 ? heat / 4 : heat;
                    for (int blocks = 1; blocks <= 99; blocks++) {
                        int fewest = 0;
                        while (fewest <= 999 && arriving(fewest, by, months) < blocks) {
                            fewest++;
                        }
                        due("load for " + blocks + " over " + months + " by " + by, t.load(0, blocks, dust == 1), fewest > 999 ? -2 : fewest);
                    }
                }
            }
        }
    }

    private static void loadGoes() {
        PondIceTrade t = Checks.told("trade 0 0 0;town 6 60 1 1;town 1 0 1 1;town 4 44 1 1");
        due("0", t.load(1, 0, false), NONE);
        due("1", t.load(1, 1, false), 1);
        due("99", t.load(1, 99, false), 99);
        due("100", t.load(1, 100, false), NONE);
        due("0, which 999 would not reach either", t.load(0, 0, false), NONE);
        due("100, which 999 would not reach either", t.load(0, 100, false), NONE);
        due("4 come of 999", t.comes(0, 999, false), 4);
        due("5 do not", t.load(0, 5, false), -2);
        due("98 come of 999 alone", t.load(2, 98, false), 999);
        due("99 do not", t.load(2, 99, false), -2);
        due("in DUST they do", t.load(2, 99, true) > 0 ? 1 : 0, 1);
        due("TOWN -1", t.load(-1, 1, false), NONE);
        due("TOWN 3 of three", t.load(3, 1, false), NONE);
    }

    // ---- Promise 18: send

    private static void sendIs(String trade, int n, int money, int town, int blocks, int dust) {
        PondIceTrade t = Checks.told(trade);
        int[] want = {money, town, blocks, dust};
        for (int what = 0; what <= 3; what++) {
            due("send for " + n + ", what " + what + " in " + trade, t.send(0, n, what), want[what]);
        }
        due("send, what -1", t.send(0, n, -1), -2);
        due("send, what 4", t.send(0, n, 4), -2);
    }

    private static void sendGoes() {
        PondIceTrade t = Checks.told("trade 100 0 50;ship 10 0;ship 10 0;town 6 0 9 4");
        due("0 MONTHS", t.send(0, 0, 0), -2);
        due("1 MONTH", t.send(0, 1, 0), 100);
        due("24 MONTHS", t.send(0, 24, 0), 140);
        due("25 MONTHS", t.send(0, 25, 0), -2);
        due("SHIP 1 of two", t.send(1, 24, 0), 140);
        due("SHIP 2 of two", t.send(2, 24, 0), -2);
        due("SHIP -1", t.send(-1, 24, 0), -2);
        sendIs("trade 100 0 50;ship 10 0;town 6 0 9 4", 5, 100, NONE, 0, 0);
        sendIs("trade 100 0 50;ship 10 0;town 6 0 9 4", 6, 116, 0, 4, 0);
        PondIceTrade home = Checks.told("trade 100 0 50;ship 10 0;town 1 0 5 4");
        home.sail(0, 0, 1, false);
        due("at sea", home.send(0, 1, 0), -2);
        home.month();
        due("on its way home", home.send(0, 1, 0), -2);
        home.month();
        due("at home", home.send(0, 1, 0) > 0 ? 1 : 0, 1);
    }

    private static void sendOfSeveral() {
        sendIs("trade 100 0 50;ship 10 0;town 1 0 0 4;town 1 0 0 9", 24, 100, NONE, 0, 0);
        sendIs("trade 100 0 50;ship 10 4;town 1 0 1 4", 1, 100, NONE, 0, 0);
        sendIs("trade 100 0 50;ship 10 3;town 1 0 1 4", 1, 101, 0, 1, 0);
        sendIs("trade 100 0 50;ship 10 0;town 1 0 5 4;town 1 0 5 4", 1, 120, 0, 5, 0);
        sendIs("trade 100 0 50;ship 10 0;town 1 0 5 4;town 1 0 7 3", 1, 121, 1, 7, 0);
        sendIs("trade 100 0 50;ship 10 0;town 1 0 10 1;town 1 0 1 10", 1, 110, 0, 10, 0);
        sendIs("trade 100 0 50;ship 10 0;town 1 0 9 1;town 1 0 1 10", 1, 110, 1, 1, 0);
        sendIs("trade 100 0 50;ship 10 0;town 1 0 5 4", 1, 120, 0, 5, 0);
        sendIs("trade 100 0 50;ship 12 0;town 1 40 99 3", 1, 121, 0, 12, 0);
        sendIs("trade 100 0 50;ship 12 0;town 1 40 99 4", 1, 128, 0, 12, 0);
        sendIs("trade 100 0 50;ship 12 0;town 1 40 99 5", 1, 138, 0, 12, 1);
        sendIs("trade 100 1 50;ship 14 0;town 1 24 12 6", 1, 146, 0, 13, 1);
        sendIs("trade 100 1 50;ship 14 0;town 1 24 12 5", 1, 136, 0, 14, 0);
    }

    private static void sendWithWhatItCan() {
        sendIs("trade 0 0 50;ship 10 0;town 1 0 99 4", 1, 40, 0, 10, 0);
        sendIs("trade 0 0 9;ship 10 0;town 1 0 99 4", 1, 36, 0, 9, 0);
        sendIs("trade 0 0 0;frost 0 9;ship 10 0;town 1 0 99 4", 1, 0, NONE, 0, 0);
        sendIs("trade 9 1 50;ship 10 0;town 1 0 99 4", 1, 36, 0, 9, 0);
        sendIs("trade 9 1 50;ship 10 9;town 1 0 99 4", 1, 9, NONE, 0, 0);
        sendIs("trade 10 1 50;ship 10 9;town 1 0 99 99", 1, 99, 0, 1, 0);
        sendIs("trade 9 0 50;ship 10 0;town 1 4 99 99", 1, 900, 0, 10, 0);
        sendIs("trade 9 0 50;ship 9 0;town 1 4 99 99", 1, 801, 0, 9, 0);
        sendIs("trade 10 0 50;ship 10 0;town 1 40 99 99", 1, 891, 0, 10, 1);
        sendIs("trade 9 0 50;ship 10 0;town 1 40 99 99", 1, 792, 0, 9, 1);
        sendIs("trade 9 0 50;ship 10 0", 24, 9, NONE, 0, 0);
    }

    // ---- Promise 19: fleet

    private static void fleetIs(PondIceTrade t, String name, int n, int... want) {
        for (int what = 0; what <= 3; what++) {
            due("fleet for " + n + ", what " + what + " of " + name, t.fleet(n, what), want[what]);
        }
        due("fleet, what -1", t.fleet(n, -1), -3);
        due("fleet, what 4", t.fleet(n, 4), -3);
    }

    private static void fleetIs(String trade, int n, int... want) {
        fleetIs(Checks.told(trade), trade, n, want);
    }

    private static void fleetGoes() {
        PondIceTrade t = Checks.told("trade 100 0 50;ship 10 0;ship 10 0;town 6 0 9 4");
        due("0 MONTHS", t.fleet(0, 0), -3);
        due("1 MONTH", t.fleet(1, 0), 100);
        due("5 MONTHS", t.fleet(5, 2), NONE);
        due("6 MONTHS", t.fleet(6, 2), 0);
        due("24 MONTHS", t.fleet(24, 0), 180);
        due("25 MONTHS", t.fleet(25, 0), -3);
        fleetIs("trade 7 0 9", 1, 7, -2, -2, -2);
        fleetIs("trade 7 0 9;ship 1 0", 24, 7, NONE, -2, -2);
        fleetIs("trade 7 0 9;ship 1 0;ship 1 0;ship 1 0", 24, 7, NONE, NONE, NONE);
        fleetIs("trade 7 0 9;town 1 0 1 1", 24, 7, -2, -2, -2);
    }

    private static void fleetOfSeveral() {
        fleetIs("trade 100 0 50;ship 10 0;town 1 0 0 1", 1, 100, NONE, -2, -2);
        fleetIs("trade 100 0 50;ship 10 0;town 1 0 9 1;town 1 0 9 1", 1, 109, 0, -2, -2);
        fleetIs("trade 100 0 50;ship 10 9;town 1 0 9 1", 1, 100, NONE, -2, -2);
        fleetIs("trade 100 0 50;ship 10 8;town 1 0 9 1", 1, 101, 0, -2, -2);
        fleetIs("trade 100 0 50;ship 9 0;ship 9 0;ship 9 0;town 1 0 9 1", 1, 109, NONE, NONE, 0);
        fleetIs("trade 100 0 50;ship 9 0;ship 9 0;ship 9 0;town 1 0 9 1;town 1 0 9 1", 1, 118, NONE, 0, 1);
        fleetIs("trade 100 0 50;ship 9 0;ship 9 0;ship 9 0;town 1 0 9 1;town 1 0 9 1;town 1 0 9 1;town 1 0 9 1", 1, 127, 0, 1, 2);
        fleetIs("trade 100 0 50;ship 9 0;ship 8 0;town 1 0 8 1;town 1 0 9 1", 1, 117, 1, 0, -2);
        fleetIs("trade 100 0 50;ship 9 0;ship 9 0;ship 9 0;town 1 0 1 1;town 1 0 1 1;town 1 0 1 1;town 1 0 9 1", 1, 111, 0, 1, 3);
        PondIceTrade t = Checks.told("trade 100 0 99;ship 5 0;ship 5 0;ship 5 0;town 1 0 9 9;town 3 0 9 9");
        t.sail(1, 1, 1, false);
        fleetIs(t, "one at sea", 1, 181, 0, -2, 0);
        PondIceTrade gone = Checks.told("trade 100 0 99;ship 5 0;town 1 0 9 9");
        gone.sail(0, 0, 5, false);
        gone.month();
        fleetIs(gone, "one on its way home", 24, 145, -2, -2, -2);
    }

    private static void fleetAsManyAsCanBe() {
        fleetIs("trade 100 1 50;ship 10 0;town 1 0 5 4", 1, 110, 0, -2, -2);
        fleetIs("trade 100 2 50;ship 10 0;town 1 0 5 4", 1, 100, NONE, -2, -2);
        fleetIs("trade 7 2 50;ship 10 3;town 1 0 5 9", 1, 18, 0, -2, -2);
        fleetIs("trade 5 2 50;ship 10 3;town 1 0 5 9", 1, 9, 0, -2, -2);
        fleetIs("trade 4 2 50;ship 10 3;town 1 0 5 9", 1, 4, NONE, -2, -2);
        fleetIs("trade 2 0 50;ship 10 3;town 1 0 5 9", 1, 2, NONE, -2, -2);
        fleetIs("trade 3 0 50;ship 10 3;town 1 0 5 9", 1, 45, 0, -2, -2);
        fleetIs("trade 100 0 7;ship 10 0;ship 10 0;town 1 0 99 1;town 1 0 99 2", 1, 114, NONE, 1, -2);
        fleetIs("trade 100 0 12;ship 10 0;ship 10 0;town 1 0 10 1;town 1 0 2 9", 1, 128, 0, 1, -2);
        fleetIs("trade 100 0 0;frost 0 9;ship 10 0;town 1 0 10 1", 1, 100, NONE, -2, -2);
        fleetIs("trade 100 0 50;ship 10 0;town 1 40 99 9", 1, 154, 0, -2, -2);
        fleetIs("trade 0 1 50;ship 10 0;town 1 0 10 1", 1, 0, NONE, -2, -2);
        // by the RULE it loses 45 in MONTH 1: to be away without a block would be better, but can't be
        PondIceTrade t = Checks.told("trade 100 5 0;frost 0 9;ship 10 0;town 6 0 10 1", "sail 9");
        fleetIs(t, "an empty POND", 2, 55, NONE, -2, -2);
    }

    // ---- Promise 20: give

    private static void giveIs(PondIceTrade t, int town, int n, int money, int blocks) {
        due("give in " + town + " for " + n + ": MONEY", t.give(town, n, 0), money);
        due("give in " + town + " for " + n + ": blocks", t.give(town, n, 1), blocks);
        due("give, what -1", t.give(town, n, -1), NONE);
        due("give, what 2", t.give(town, n, 2), NONE);
    }

    private static void giveGoes() {
        PondIceTrade t = iced(10, 0, 5);
        due("0 MONTHS", t.give(1, 0, 1), NONE);
        giveIs(t, 1, 1, 525, 5);
        due("24 MONTHS: one makes it WANT ever more", t.give(1, 24, 0), 545);
        due("24 MONTHS: one", t.give(1, 24, 1), 1);
        due("25 MONTHS", t.give(1, 25, 1), NONE);
        due("TOWN -1", t.give(-1, 1, 1), NONE);
        due("TOWN 2 of two", t.give(2, 1, 1), NONE);
        giveIs(t, 0, 1, 500, 0);
    }

    private static void giveOfSeveral() {
        giveIs(iced(11, 0, 5), 1, 1, 525, 5);
        giveIs(iced(12, 0, 5), 1, 1, 530, 6);
        giveIs(iced(1, 0, 5), 1, 1, 500, 0);
        giveIs(iced(2, 0, 5), 1, 1, 505, 1);
        giveIs(iced(0, 5, 5), 1, 1, 500, 0);
        giveIs(iced(5, 5, 5), 1, 1, 525, 0);
        giveIs(iced(6, 5, 5), 1, 1, 525, 0);
        giveIs(iced(7, 5, 5), 1, 1, 530, 1);
        giveIs(iced(99, 99, 5), 1, 1, 995, 0);
    }

    // ---- Promise 21: site

    /** TOWN 0 (and 1) has ten blocks and WANTS 4; without a HOUSE two blocks more MELT before the second MONTH's sale. */
    private static PondIceTrade housed(int price, boolean two) {
        PondIceTrade t = Checks.told("trade 200 0 68;ship 34 0;ship 34 0;town 1 40 3 " + price + ";town 1 40 3 " + price);
        t.sail(0, 0, 34, false);
        if (two) {
            t.sail(1, 1, 34, false);
        }
        t.month();
        due("housed: ice", t.town(0, 4), 10);
        due("housed: WANT", t.town(0, 2), 4);
        return t;
    }

    private static void siteIs(PondIceTrade t, int n, int money, int town) {
        due("site for " + n + ": MONEY", t.site(n, 0), money);
        due("site for " + n + ": TOWN", t.site(n, 1), town);
        due("site, what -1", t.site(n, -1), -2);
        due("site, what 2", t.site(n, 2), -2);
    }

    private static void siteGoes() {
        PondIceTrade t = housed(51, false);
        due("0 MONTHS", t.site(0, 1), -2);
        siteIs(t, 1, 353 + 204, NONE);
        siteIs(t, 2, 712, 0);
        due("24 MONTHS", t.site(24, 1), 0);
        due("25 MONTHS", t.site(25, 1), -2);
        siteIs(Checks.told("trade 200 0 0"), 1, 200, NONE);
        siteIs(Checks.told("trade 200 0 0;town 1 1 1 1"), 24, 200, NONE);
    }

    private static void siteOfSeveral() {
        siteIs(housed(50, false), 2, 700, NONE);
        siteIs(housed(51, true), 2, 200 + 2 * 153 + 2 * 204 + 2 * 153 + 2, 0);
        PondIceTrade other = housed(51, true);
        other.build(0);
        siteIs(other, 2, 100 + 2 * 153 + 2 * 204 + 5 * 51 + 155, 1);
        PondIceTrade second = housed(51, true);
        second.ask(0, 50);
        siteIs(second, 2, 200 + 2 * 153 + 200 + 204 + 150 + 155, 1);
        PondIceTrade both = housed(51, true);
        both.build(0);
        both.build(1);
        siteIs(both, 2, 2 * 153 + 2 * 204 + 2 * 255, NONE);
        PondIceTrade poor = Checks.told("trade 0 0 68;ship 34 0;town 1 40 3 33;town 1 40 3 33");
        poor.sail(0, 0, 34, false);
        poor.month();
        poor.ask(0, 99);
        due("MONEY 99", poor.count(0), 99);
        due("MONEY 99 builds none", poor.site(24, 1), NONE);
    }

    // ---- Promise 22: pricing

    private static void pricingIs(PondIceTrade t, int n, int money, int price) {
        due("pricing for " + n + ": MONEY", t.pricing(1, n, 0), money);
        due("pricing for " + n + ": PRICE", t.pricing(1, n, 1), price);
        due("pricing, what -1", t.pricing(1, n, -1), NONE);
        due("pricing, what 2", t.pricing(1, n, 2), NONE);
    }

    private static void pricingGoes() {
        PondIceTrade t = iced(1, 50, 50);
        due("0 MONTHS", t.pricing(1, 0, 1), NONE);
        pricingIs(t, 1, 500 + 99, 99);
        due("24 MONTHS", t.pricing(1, 24, 1), 99);
        due("25 MONTHS", t.pricing(1, 25, 1), NONE);
        due("TOWN -1", t.pricing(-1, 1, 1), NONE);
        due("TOWN 2 of two", t.pricing(2, 1, 1), NONE);
        due("without ice the least", t.pricing(0, 1, 1), 1);
        due("without ice: MONEY is of all TOWNS", t.pricing(0, 1, 0), 550);
    }

    private static void pricingOfSeveral() {
        pricingIs(iced(1, 1, 50), 1, 550, 50);
        pricingIs(iced(1, 1, 99), 1, 599, 99);
        pricingIs(iced(99, 1, 99), 1, 599, 1);
        pricingIs(iced(98, 1, 99), 1, 599, 3);
        pricingIs(iced(4, 0, 99), 24, 500, 1);
        pricingIs(iced(10, 10, 10), 1, 600, 10);
        pricingIs(iced(9, 10, 10), 1, 600, 20);
        pricingIs(iced(0, 10, 10), 1, 500, 1);
        pricingIs(Checks.told("trade 0 0 0;town 1 0 9 9;town 1 0 9 9"), 1, 0, 1);
    }

    // ---- Promise 23: war

    private static void warIs(int want, int price, int many, int first, int second) {
        PondIceTrade t = Checks.told("trade 0 0 0;town 1 0 9 9;town 1 0 " + want + " " + price);
        String war = "war of WANT " + want + ", PRICE " + price;
        due(war + ": how many", t.war(1, 0), many);
        due(war + ": first", t.war(1, 1), first);
        due(war + ": second", t.war(1, 2), second);
    }

    private static void warOfTenths() {
        warIs(10, 10, 2, 1, 1);
        warIs(99, 99, 2, 1, 1);
        warIs(10, 1, 100, 1, 1);
        warIs(0, 99, 100, 1, 1);
        warIs(0, 1, 100, 1, 1);
        // of PRICE 5 the tenths are 1 1 1 2 2 3 3 4 4 5: nine twos at 1, four at 2
        warIs(10, 5, 13, 1, 1);
        // of PRICE 19 they are 1 3 5 7 ..: each sells five for 1 or for 3; for 5 it would rather sell ten for 3
        warIs(10, 19, 2, 1, 1);
        // of PRICE 20 they are 2 4 6 ..: by 4 half as many are SOLD for twice as much
        warIs(10, 20, 2, 1, 1);
    }

    /** Halves are downwards: 0 of 1, so neither loses by going away from alike prices. */
    private static void warHalves() {
        warIs(1, 10, 3, 1, 1);
        warIs(2, 10, 2, 1, 1);
        // of 3 each has 1: at 2 and 2 one has 2, at 1 alone 3
        warIs(3, 10, 1, 1, 1);
        warIs(1, 1, 100, 1, 1);
        // of PRICE 20 a tenth is 2: nobody can take 1
        warIs(1, 20, 3, 1, 1);
        warIs(3, 20, 1, 1, 1);
    }

    private static void warGoes() {
        PondIceTrade t = Checks.told("trade 0 0 0;town 1 0 10 10");
        due("what -1", t.war(0, -1), NONE);
        due("what 0", t.war(0, 0), 2);
        due("what 2", t.war(0, 2), 1);
        due("what 3", t.war(0, 3), NONE);
        due("TOWN -1", t.war(-1, 0), NONE);
        due("TOWN 1 of one", t.war(1, 0), NONE);
        t.ask(0, 1);
        due("by the PRICE as it is", t.war(0, 0), 100);
    }

    // ---- Promise 24: out

    private static void outBegins() {
        due("now: no POND", Checks.told("trade 9 1 0;ship 5 8;town 1 0 5 5").out(), 0);
        due("a POND of 1 MELTS in one MONTH", Checks.told("trade 9 1 1;ship 5 8;town 1 0 5 5").out(), 1);
        due("a POND of 2 in two", Checks.told("trade 9 1 2;ship 5 8;town 1 0 5 5").out(), 2);
        due("MONEY for COST and one block", Checks.told("trade 9 1 2;ship 5 8;town 1 0 5 5").out(), 2);
        due("MONEY for COST alone", Checks.told("trade 8 1 2;ship 5 8;town 1 0 5 5").out(), 0);
        due("MONEY for COST alone, without WAGE", Checks.told("trade 8 0 2;ship 5 8;town 1 0 5 5").out(), 2);
        due("less than COST, without WAGE", Checks.told("trade 7 0 2;ship 5 8;town 1 0 5 5").out(), 0);
        due("one of two SHIPS could SAIL", Checks.told("trade 7 0 2;ship 5 8;ship 5 7;town 1 0 5 5").out(), 2);
        due("no SHIP", Checks.told("trade 9 0 9;town 1 0 5 5").out(), 0);
        due("no TOWN", Checks.told("trade 9 0 9;ship 5 0").out(), 0);
        PondIceTrade t = Checks.told("trade 0 0 5;ship 5 0;town 3 0 9 1");
        t.sail(0, 0, 5, false);
        due("at sea there and home", t.out(), 6);
        t.month();
        t.month();
        t.month();
        due("SOLD and on its way home", t.town(0, 4), 0);
        due("still at sea", t.out(), 6);
        t.month();
        t.month();
        t.month();
        due("now", t.out(), 6);
        due("it is that MONTH", t.count(7), 6);
        PondIceTrade melts = Checks.told("trade 0 0 5;ship 5 0;town 1 60 0 1");
        melts.sail(0, 0, 5, false);
        due("ice has MELTED before the SHIP is at home", melts.out(), 2);
        PondIceTrade iced = Checks.told("trade 0 0 5;ship 5 0;town 1 0 1 1");
        iced.sail(0, 0, 4, false);
        due("1, 2, then the last: in MONTH 3, and the POND has MELTED", iced.out(), 3);
    }

    private static void outIn60Months() {
        int[] blocks = {58, 59, 60, 61, 62};
        int[] want = {57, 58, 59, -2, -2};
        for (int i = 0; i < blocks.length; i++) {
            PondIceTrade t = Checks.told("trade 0 0 " + blocks[i] + ";ship 99 0;town 1 1 0 1");
            t.sail(0, 0, blocks[i], false);
            due("ice for so many MONTHS: " + blocks[i], t.out(), want[i]);
        }
        PondIceTrade late = Checks.told("trade 0 0 61;ship 99 0;town 1 1 0 1");
        late.month();
        due("POND", late.count(2), 54);
        for (int i = 1; i < 300; i++) {
            late.month();
        }
        due("at once, in MONTH 300", late.out(), 300);
        due("never", Checks.told("trade 0 0 1;frost 0 1;ship 99 0;town 1 1 0 1").out() == 1 ? 1 : 0, 0);
        due("frost in each MONTH", Checks.told("trade 0 0 99;frost 0 99;frost 3 99;frost 6 99;frost 9 99;ship 9 0;town 1 1 0 1").out(), -2);
        due("by the RULE IN FORCE", Checks.told("trade 0 0 5;ship 5 0;town 3 0 9 1", "sail 5").out(), 6);
    }

    // ---- Promise 25: hatch

    private static void hatchGoes() {
        PondIceTrade t = Checks.told("trade 0 0 0;town 1 0 1 1");
        due("-1", t.hatch(0, -1, false, 0), NONE);
        due("0", t.hatch(0, 0, false, 0), 1);
        due("99", t.hatch(0, 99, false, 0), 1);
        due("100", t.hatch(0, 100, false, 0), NONE);
        due("what -1", t.hatch(0, 9, false, -1), NONE);
        due("what 3", t.hatch(0, 9, false, 3), NONE);
        due("TOWN -1", t.hatch(-1, 9, false, 0), NONE);
        due("TOWN 1 of one", t.hatch(1, 9, false, 0), NONE);
    }

    private static void hatchTellsAll() {
        for (int months = 1; months <= 6; months++) {
            for (int heat = 0; heat <= 60; heat += 10) {
                for (int dust = 0; dust <= 1; dust++) {
                    PondIceTrade t = Checks.told("trade 0 0 0;town " + months + " " + heat + " 0 1");
                    for (int came = 0; came <= 99; came += 3) {
                        hatchIs(t, came, dust == 1, dust == 1 ? heat / 4 : heat, months);
                    }
                }
            }
        }
        PondIceTrade far = Checks.told("trade 0 0 0;town 6 60 1 1");
        due("of 4 the greatest is 999", far.hatch(0, 4, false, 2), 999);
        due("of 5 there is none", far.hatch(0, 5, false, 0), 0);
        due("no least", far.hatch(0, 5, false, 1), -2);
        due("no greatest", far.hatch(0, 5, false, 2), -2);
        due("of 0 the least is 0", far.hatch(0, 0, false, 1), 0);
    }

    private static void hatchIs(PondIceTrade t, int came, boolean dust, int heat, int months) {
        int many = 0;
        int least = -2;
        int greatest = -2;
        for (int first = 0; first <= 999; first++) {
            if (arriving(first, heat, months) == came) {
                many++;
                least = least < 0 ? first : least;
                greatest = first;
            }
        }
        String name = came + " over " + months + " by " + heat;
        due("how many: " + name, t.hatch(0, came, dust, 0), many);
        due("the least: " + name, t.hatch(0, came, dust, 1), least);
        due("the greatest: " + name, t.hatch(0, came, dust, 2), greatest);
    }

    // ---- Promises 26 to 28: note, ruled, look

    private static void noteGoes() {
        PondIceTrade t = Checks.told("trade 5 0 0");
        due("MONTH -2", t.note(-2, 0), -2);
        due("MONTH 61", t.note(61, 0), -2);
        due("MONEY -1", t.note(0, -1), -2);
        due("MONEY 100000", t.note(0, 100000), -2);
        due("no NOTE yet", t.count(12), 0);
        due("MONTH 0", t.note(0, 5), 1);
        due("MONTH 60", t.note(60, 5), 2);
        due("these are so", t.ruled(0), 1);
        due("MONEY 99999", t.note(0, 99999), 3);
        due("that is not so", t.ruled(0), 0);
        due("none then", t.note(NONE, 0), 0);
        due("MONEY 0", t.note(0, 0), 1);
        due("that is not so either", t.ruled(0), 0);
        due("none then, whatever MONEY is", t.note(NONE, -1), 0);
        due("and again", t.note(NONE, 100000), 0);
        due("no NOTES", t.count(12), 0);
        due("all are so", t.ruled(0), 1);
        PondIceTrade zero = Checks.told("trade 0 0 0");
        zero.note(0, 0);
        zero.note(60, 0);
        due("MONEY 0 can be so", zero.ruled(0), 1);
    }

    private static void tenNotes() {
        PondIceTrade t = Checks.told("trade 5 0 0");
        for (int i = 1; i <= 9; i++) {
            due("how many", t.note(i, 5), i);
        }
        due("the tenth", t.note(10, 6), 10);
        due("it counts", t.ruled(0), 0);
        due("the eleventh", t.note(11, 5), -2);
        due("ten stay", t.count(12), 10);
        due("there are none then", t.note(NONE, 0), 0);
        due("the first again", t.note(0, 5), 1);
        due("the former ones are gone", t.ruled(0), 1);
        due("the same twice", t.note(0, 5), 2);
        due("two NOTES of one MONTH that differ", t.note(0, 6), 3);
        due("can't both be so", t.ruled(0), 0);
    }

    /** RULE 0 sells five in MONTH 0, RULE 1 ten, RULE 2 as RULE 0, RULES 3 to 5 none. */
    private static PondIceTrade ruledBy(int rules) {
        PondIceTrade t = Checks.told("trade 100 0 50;ship 10 0;town 1 0 10 4");
        String[] texts = {"sail 5", "sail 10", "sail 5 if 1=1", "sail 0", "sail 1 if 1=2", "sail 0-1"};
        for (int i = 0; i < rules; i++) {
            Checks.rule(t, texts[i]);
        }
        return t;
    }

    private static void ruledOfSeveral() {
        for (int rules = 0; rules <= 6; rules++) {
            due("without NOTES all RULES and none", ruledBy(rules).ruled(0), rules + 1);
            due("none is ahead of 0", ruledBy(rules).ruled(1), NONE);
        }
        PondIceTrade t = ruledBy(6);
        t.note(1, 120);
        due("RULE 0 and RULE 2", t.ruled(0), 2);
        due("the first", t.ruled(1), 0);
        t.note(NONE, 0);
        t.note(1, 140);
        due("RULE 1", t.ruled(0) * 10 + t.ruled(1), 11);
        t.note(NONE, 0);
        t.note(1, 100);
        due("none and three RULES", t.ruled(0), 4);
        due("none is first", t.ruled(1), NONE);
        t.note(2, 99);
        due("none such", t.ruled(0), 0);
        due("no first", t.ruled(1), -2);
        due("what -1", t.ruled(-1), -3);
        due("what 2", t.ruled(2), -3);
        t.note(NONE, 0);
        t.note(0, 100);
        t.note(1, 120);
        t.force(1);
        t.month();
        t.ask(0, 9);
        due("all as the text told it, whatever is IN FORCE", t.ruled(0), 2);
        PondIceTrade last = Checks.told("trade 100 0 50;ship 10 0;town 1 0 10 4");
        Checks.rule(last, "sail 0");
        Checks.rule(last, "sail 1 if month=59");
        last.note(60, 100);
        due("of MONTH 60: the POND has MELTED by then", last.ruled(0), 3);
        PondIceTrade frost = Checks.told("trade 100 0 50;frost 10 9;ship 10 0;town 1 0 99 4");
        Checks.rule(frost, "sail 1 if month=59");
        frost.note(60, 104);
        due("what MONTH 59 brings is there at the begin of MONTH 60", frost.ruled(0) * 10 + frost.ruled(1), 10);
    }

    private static void lookOfSeveral() {
        PondIceTrade t = ruledBy(0);
        due("none alone: MONTH 0", t.look(0), 0);
        due("none alone: 1", t.look(1), 1);
        t = ruledBy(2);
        due("three part in MONTH 1", t.look(0), 1);
        due("each by itself", t.look(1), 1);
        t = ruledBy(3);
        due("RULE 2 is as RULE 0", t.look(0) * 10 + t.look(1), 12);
        t = ruledBy(6);
        due("four are alike", t.look(0) * 10 + t.look(1), 14);
        t.note(1, 100);
        due("these never part: MONTH 0", t.look(0), 0);
        due("all four", t.look(1), 4);
        t.note(0, 99);
        due("no RULE is so", t.look(0), -2);
        due("no RULE is so: how many", t.look(1), -2);
        due("what -1", t.look(-1), NONE);
        due("what 2", t.look(2), NONE);
        PondIceTrade later = Checks.told("trade 100 0 50;frost 0 9;frost 2 9;frost 4 9;frost 10 9;ship 10 0;town 1 0 99 4");
        Checks.rule(later, "sail 1 if month=2");
        Checks.rule(later, "sail 1 if month=2;sail 1 if month=4");
        due("they part best in MONTH 5", later.look(0), 5);
        due("each by itself then", later.look(1), 1);
        later.note(60, 104);
        due("one is left", later.ruled(0), 1);
        due("nothing to part", later.look(0) * 10 + later.look(1), 1);
        later.note(NONE, 0);
        later.note(5, 108);
        due("the other", later.ruled(1), 1);
        PondIceTrade last = Checks.told("trade 100 0 50;frost 10 9;ship 10 0;town 1 0 99 4");
        Checks.rule(last, "sail 1 if month=59");
        due("the last MONTH", last.look(0) * 10 + last.look(1), 601);
        PondIceTrade beyond = Checks.told("trade 100 0 50;frost 0 9;ship 10 0;town 1 0 99 4");
        Checks.rule(beyond, "sail 1 if month=60");
        due("beyond the last MONTH they never part", beyond.look(0) * 10 + beyond.look(1), 2);
    }

    // ---- Promises 29 and 30: seed, years

    private static void seedGoes() {
        PondIceTrade t = new PondIceTrade();
        due("0 at first", t.count(14), 0);
        due("0", t.seed(0), 0);
        due("1", t.seed(1), 0);
        due("-1", t.seed(-1), NONE);
        due("the least of all", t.seed(Integer.MIN_VALUE), NONE);
        due("1 stays", t.count(14), 1);
        due("the greatest", t.seed(2147483647), 1);
        due("what it was", t.seed(0), 2147483647);
    }

    private static long next(long x) {
        return (x * 1103515245L + 12345) % 2147483648L;
    }

    /** An x whose next DRAW is so much of a hundred. */
    private static int seedFor(int draw) {
        int x = 0;
        while (next(x) / 65536 % 101 != draw) {
            x++;
        }
        return x;
    }

    /** What grew in MONTH 0, upon a POND, is SOLD in MONTH 1. */
    private static int soldOf(int x, int pond, int frost) {
        PondIceTrade t = Checks.told("trade 0 0 " + pond + ";frost 0 " + frost + ";ship 99 0;town 1 0 99 1", "sail 99 if month=1");
        t.seed(x);
        return t.years(1, 2, 1);
    }

    private static void drawsGoRound() {
        // -1103515245 + 12345, of 2147483648 the rest, is 1043980748: a DRAW of 15929, 72 of a hundred
        due("from the greatest x", soldOf(2147483647, 0, 50), 36);
        // 12345 / 65536 is 0: none grows
        due("from 0", soldOf(0, 50, 50), 45);
        // 1103527590 / 65536 is 16838, 72 of a hundred
        due("from 1", soldOf(1, 0, 50), 36);
        for (int x = 2147483640; x > 0 && x >= 2147483640; x++) {
            due("from " + x, soldOf(x, 0, 99), (int) (99 * (next(x) / 65536 % 101) / 100));
        }
        PondIceTrade t = Checks.told("trade 0 0 0;frost 0 99;frost 1 99;frost 2 99;ship 99 0;town 1 0 99 1", "sail 99");
        t.seed(2147483647);
        long first = next(2147483647);
        long second = next(first);
        long grown = 99 * (first / 65536 % 101) / 100;
        long later = 99 * (second / 65536 % 101) / 100;
        due("one MONTH after another: blocks of the first DRAW", t.years(1, 2, 1), grown);
        due("the SHIP is away in the third", t.years(1, 3, 1), grown);
        long pond = later + 99 * (next(second) / 65536 % 101) / 100;
        due("blocks of the second and the third DRAW, 97 being WANTED", t.years(1, 4, 1), grown + Math.min(97, pond));
        due("x as it was", t.count(14), 2147483647);
    }

    private static void drawOfAHundred() {
        due("0 of a hundred: as if none grew", soldOf(seedFor(0), 40, 49), 36);
        due("2 of a hundred of 49: none, downwards", soldOf(seedFor(2), 40, 49), 36);
        due("3 of a hundred of 49: one", soldOf(seedFor(3), 40, 49), 41);
        due("99 of a hundred of 49", soldOf(seedFor(99), 40, 49), 88);
        due("100 of a hundred of 49", soldOf(seedFor(100), 40, 49), 89);
        due("99 of a hundred of 1: none", soldOf(seedFor(99), 40, 1), 36);
        due("100 of a hundred of 1", soldOf(seedFor(100), 40, 1), 41);
        due("50 of a hundred of 2", soldOf(seedFor(50), 40, 2), 41);
        due("49 of a hundred of 2", soldOf(seedFor(49), 40, 2), 36);
    }

    private static void yearsGo() {
        PondIceTrade t = Checks.told("trade 7 0 0;town 1 0 9 9");
        due("0 times", t.years(0, 1, 0), NONE);
        due("once", t.years(1, 1, 0), 7);
        due("ten times", t.years(10, 1, 0), 70);
        due("eleven times", t.years(11, 1, 0), NONE);
        due("0 MONTHS", t.years(1, 0, 0), NONE);
        due("60 MONTHS", t.years(1, 60, 0), 7);
        due("ten times 60 MONTHS", t.years(10, 60, 0), 70);
        due("61 MONTHS", t.years(1, 61, 0), NONE);
        due("what -1", t.years(1, 1, -1), NONE);
        due("what 1", t.years(1, 1, 1), 0);
        due("what 2", t.years(1, 1, 2), NONE);
    }

    /** Without frost no DRAW counts: each time is as the MONTHS by hand, each from now on. */
    private static void yearsAllTogether() {
        PondIceTrade t = Checks.told("trade 10 0 99;ship 99 0;town 1 0 9 2");
        t.sail(0, 0, 99, false);
        t.month();
        due("SOLD before", t.count(10), 9);
        due("one MONTH: SOLD", t.years(1, 1, 1), 10);
        due("one MONTH: MONEY", t.years(1, 1, 0), 10 + 18 + 20);
        due("ten times: SOLD", t.years(10, 1, 1), 100);
        due("ten times: MONEY", t.years(10, 1, 0), 480);
        due("ten times three MONTHS: SOLD", t.years(10, 3, 1), 330);
        due("ten times three MONTHS: MONEY", t.years(10, 3, 0), 10 * (28 + 66));
        due("nothing stays: SOLD", t.count(10), 9);
        due("nothing stays: MONTH", t.count(7), 1);
        due("nothing stays: MONEY", t.count(0), 28);
        PondIceTrade rich = Checks.told("trade 9999 0 999;frost0 99;frost1 99;frost2 99;frost3 99;frost4 99;frost5 99;frost6 99;frost7 99;"
                + "frost8 99;frost9 99;frost10 99;frost11 99;ship 99 0;ship 99 0;ship 99 0;town 1 0 99 99;town 1 0 99 99", "sail 99-stock/9");
        due("the greatest MONEY ten times", rich.years(10, 60, 0), 999990);
    }

    // ---- Promise 31: count

    private static void countWhats() {
        PondIceTrade t = Checks.told("trade 900 2 300;frost 0 20;ship 50 10;ship 9 0;ship 5 0;town 1 20 10 9;town 2 0 8 5;house 1");
        Checks.rule(t, "sail 1");
        Checks.rule(t, "sail 2 if ship=1");
        t.force(1);
        t.sail(0, 0, 50, false);
        t.month();
        t.sail(2, 1, 5, false);
        t.note(0, 900);
        t.seed(6);
        t.feed(0, 0, 0, 0, 0);
        // 900 - 110 - 4 for two of SHIP 1 (one comes) + 10 SOLD of 41 for 9 each - 10 for five of SHIP 2
        int[] want = {900 - 110 - 4 + 90 - 10, 2, 300 - 50 - 2 + 20 - 5, 3, 2, 2, 1, 1, 0, 5, 10, 2, 1, 3, 6, 20};
        for (int what = 0; what <= 15; what++) {
            due("count(" + what + ")", t.count(what), want[what]);
        }
        due("count(-1)", t.count(-1), NONE);
        due("count(16)", t.count(16), NONE);
        PondIceTrade told = Checks.told("trade 900 2 300;ship 50 10;ship 9 0;ship 5 0");
        due("all at home", told.count(8), 7);
        PondIceTrade away = Checks.told("trade 900 2 300;ship 50 10;ship 9 0;ship 5 0;town 1 0 0 1");
        away.sail(1, 0, 9, false);
        due("SHIP 1 away", away.count(8), 5);
    }

    // ---- All questions

    private static void monthsGoOnByTheRuleInForce() {
        PondIceTrade t = Checks.told("trade 100 0 50;frost 0 9;frost 1 9;frost 2 9;ship 10 0;ship 5 0;town 1 0 9 4;town 1 0 9 4");
        Checks.rule(t, "sail 3");
        due("ahead without", t.ahead(0, 3, 0), 100);
        due("send without", t.send(1, 1, 0), 120);
        due("fleet without", t.fleet(1, 0), 100 + 36 + 20);
        due("give without", t.give(0, 3, 0), 100);
        due("site without", t.site(3, 0), 100);
        due("pricing without", t.pricing(0, 3, 0), 100);
        due("years without", t.years(1, 3, 0), 100);
        t.force(0);
        due("ahead", t.ahead(0, 1, 0), 100 + 6 * 4);
        due("send: the other SAILS by the RULE", t.send(1, 1, 0), 100 + 12 + 20);
        due("send: where", t.send(1, 1, 1), 0);
        due("send: to stay is to SAIL by the RULE", t.send(1, 3, 0) >= t.ahead(0, 3, 0) ? 1 : 0, 1);
        due("fleet: who stays SAILS by the RULE", t.fleet(1, 0), 100 + 36 + 20);
        due("give", t.give(0, 1, 0), 124);
        due("site", t.site(1, 0), 124);
        due("pricing: for 6, six are WANTED", t.pricing(0, 1, 0), 100 + 6 * 6);
        due("pricing: 6", t.pricing(0, 1, 1), 6);
        due("years", t.years(1, 1, 0), 124);
        due("years: SOLD", t.years(2, 1, 1), 12);
    }

    /** Each question is answered as if it were the only one, also behind one that found more MONEY. */
    private static void oneQuestionBehindAnother() {
        PondIceTrade t = Checks.told("trade 100 0 50;ship 10 0;ship 10 0;ship 3 0;town 1 0 9 4;town 1 0 0 9");
        t.sail(2, 1, 3, false);
        t.month();
        Picture.Call[] calls = {x -> x.send(0, 3, 0), x -> x.send(0, 1, 0), x -> x.send(1, 3, 0), x -> x.fleet(3, 0), x -> x.fleet(1, 0),
            x -> x.give(1, 3, 0), x -> x.give(1, 1, 0), x -> x.give(0, 3, 0), x -> x.site(3, 0), x -> x.site(1, 0), x -> x.pricing(0, 3, 0),
            x -> x.pricing(1, 3, 0), x -> x.pricing(0, 1, 0), x -> x.years(2, 3, 0), x -> x.war(0, 0), x -> x.hatch(0, 3, false, 0),
            x -> x.ahead(0, 3, 0), x -> x.out(), x -> x.ruled(0), x -> x.look(0), x -> x.send(0, 3, 1), x -> x.fleet(3, 2), x -> x.give(1, 3, 1),
            x -> x.site(1, 1), x -> x.pricing(1, 3, 1)};
        int[] alone = new int[calls.length];
        for (int i = 0; i < calls.length; i++) {
            t.image(0);
            t.back(0);
            alone[i] = calls[i].on(t);
        }
        due("send alone", alone[1], 132);
        due("fleet alone", alone[4], 132);
        due("give alone", alone[6], 109);
        due("site alone", alone[9], 100);
        due("pricing alone", alone[12], 100);
        for (int first = 0; first < calls.length; first++) {
            PondIceTrade other = Checks.told("trade 100 0 50;ship 10 0;ship 10 0;ship 3 0;town 1 0 9 4;town 1 0 0 9");
            other.sail(2, 1, 3, false);
            other.month();
            for (int second = 0; second < calls.length; second++) {
                due("question " + first, calls[first].on(other), alone[first]);
                due("question " + second + " behind question " + first, calls[second].on(other), alone[second]);
            }
        }
    }
}
