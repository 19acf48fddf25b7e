/** Promises 7 to 14, 32 and 33, and part II of the terms: each boundary from both of its sides. */
public final class ActEdgeTest {
    private static final Checks CHECKS = new Checks();
    private static final int NONE = PondIceTrade.NONE;
    private static final String ALL_FROSTS = ";frost0 99;frost1 99;frost2 99;frost3 99;frost4 99;frost5 99;frost6 99"
            + ";frost7 99;frost8 99;frost9 99;frost10 99;frost11 99";

    public static void main(String[] args) {
        meltsByHeat();
        meltsInDustByAQuarter();
        meltsAtSeaEachMonth();
        meltsAshore();
        meltsInAHouseByAQuarter();
        pondMeltsByTen();
        pondHas999AtMost();
        pondGrowsByMonthsOfTheYear();
        moneyIs99999AtMost();
        wantIs99AtMost();
        wantIs0AtLeast();
        wantGrowsOnlyIfMet();
        sellsWhatItHasAndWants();
        townsByNumbers();
        shipsGoAndComeHome();
        ruleSumAbove0();
        ruleGreatestAndFirst();
        ruleNotAbove();
        ruleShipsByNumbers();
        ruleOnlyAtHome();
        sailWithBlocks();
        sailForMoney();
        sailForMoneyInDust();
        teach();
        build();
        askPrices();
        askWants();
        undoTwenty();
        undoEachAct();
        undoWhatIsNoAct();
        shipWhats();
        townWhats();
        images();
        imageHoldsAll();
        backUndoesNothing();
        CHECKS.close();
    }

    private static void due(String call, long got, long want) {
        CHECKS.due(call, got, want);
    }

    // ---- Promise 9: month; what MELTS

    /** What is left of so many blocks in a TOWN, one MONTH away. */
    private static void left(int heat, boolean dust, int blocks, int want) {
        PondIceTrade t = Checks.told("trade 0 0 0;town 1 " + heat + " 0 1");
        due("of " + blocks + " by " + heat + (dust ? " in DUST" : ""), t.comes(0, blocks, dust), want);
    }

    private static void meltsByHeat() {
        left(0, false, 0, 0);
        left(0, false, 1, 1);
        left(0, false, 999, 999);
        left(1, false, 0, 0);
        left(1, false, 1, 0);
        left(1, false, 2, 1);
        left(1, false, 99, 98);
        left(1, false, 100, 99);
        left(1, false, 101, 99);
        left(1, false, 200, 198);
        left(1, false, 201, 198);
        left(1, false, 999, 989);
        left(50, false, 1, 0);
        left(50, false, 2, 1);
        left(50, false, 3, 1);
        left(59, false, 100, 41);
        left(60, false, 0, 0);
        left(60, false, 1, 0);
        left(60, false, 2, 0);
        left(60, false, 3, 1);
        left(60, false, 4, 1);
        left(60, false, 5, 2);
        left(60, false, 999, 399);
    }

    private static void meltsInDustByAQuarter() {
        left(3, true, 1, 1);
        left(3, true, 999, 999);
        left(4, true, 0, 0);
        left(4, true, 1, 0);
        left(4, true, 100, 99);
        left(7, true, 100, 99);
        left(8, true, 100, 98);
        left(59, true, 100, 86);
        left(60, true, 100, 85);
        left(60, true, 1, 0);
    }

    private static void meltsAtSeaEachMonth() {
        PondIceTrade t = Checks.told("trade 99 0 99;ship 99 0;ship 1 0;ship 9 0;town 3 50 9 1;town 3 0 9 1");
        t.sail(0, 0, 9, false);
        t.sail(1, 0, 1, false);
        t.sail(2, 1, 9, false);
        t.month();
        due("9 by half", t.ship(0, 4), 4);
        due("1 is gone", t.ship(1, 4), 0);
        due("the SHIP goes on", t.ship(1, 3), 2);
        due("without HEAT none", t.ship(2, 4), 9);
        t.month();
        due("4 by half", t.ship(0, 4), 2);
        due("none of none", t.ship(1, 4), 0);
        due("nothing is SOLD before they come", t.count(10), 0);
        due("when they come: 1 and 9", t.month(), 1 + 7);
        PondIceTrade dust = Checks.told("trade 99 0 99;ship 99 0;ship 99 0;town 2 4 9 1;town 2 3 9 1");
        dust.sail(0, 0, 9, true);
        dust.sail(1, 1, 9, true);
        dust.month();
        due("in DUST by a quarter of 4", dust.ship(0, 4), 8);
        due("in DUST by a quarter of 3: none", dust.ship(1, 4), 9);
        due("COMES says the same", dust.comes(0, 9, true), 7);
    }

    /** Ice in a TOWN that WANTS none. */
    private static void meltsAshore() {
        int[] heats = {0, 1, 10, 60};
        int[] first = {5, 4, 4, 2};
        int[] then = {5, 3, 3, 0};
        for (int i = 0; i < heats.length; i++) {
            PondIceTrade t = Checks.told("trade 99 0 99;ship 99 0;town 1 0 0 1;town 1 " + heats[i] + " 0 1");
            t.sail(0, 1, 5, false);
            t.month();
            int came = t.comes(1, 5, false);
            due("at sea by " + heats[i], came, first[i]);
            due("and ashore at once", t.town(1, 4), then[i]);
            due("none of none", t.town(0, 4), 0);
        }
        PondIceTrade sold = Checks.told("trade 0 0 99;ship 99 0;town 1 50 20 1");
        sold.sail(0, 0, 99, false);
        due("SOLD before it MELTS", sold.month(), 20);
        due("what is left: 29 by half", sold.town(0, 4), 14);
    }

    private static void meltsInAHouseByAQuarter() {
        int[] heats = {0, 3, 4, 40, 60};
        int[] came = {99, 96, 95, 59, 39};
        int[] kept = {99, 96, 94, 53, 33};
        for (int i = 0; i < heats.length; i++) {
            PondIceTrade t = Checks.told("trade 0 0 99;ship 99 0;town 1 0 0 1;town 1 " + heats[i] + " 0 1;house 1");
            due("at sea no HOUSE helps", t.comes(1, 99, false), came[i]);
            t.sail(0, 1, 99, false);
            t.month();
            due("in a HOUSE by a quarter of " + heats[i], t.town(1, 4), kept[i]);
        }
        PondIceTrade built = Checks.told("trade 100 0 10;ship 99 0;town 1 40 0 1");
        built.sail(0, 0, 10, false);
        built.build(0);
        built.month();
        due("in one that was built: 6 by 10", built.town(0, 4), 5);
    }

    private static void pondMeltsByTen() {
        int[] ponds = {0, 1, 9, 10, 11, 20, 21, 100, 999};
        int[] then = {0, 0, 8, 9, 9, 18, 18, 90, 899};
        for (int i = 0; i < ponds.length; i++) {
            PondIceTrade t = Checks.told("trade 0 0 " + ponds[i]);
            t.month();
            due("POND " + ponds[i] + " by ten", t.count(2), then[i]);
        }
    }

    private static void pondHas999AtMost() {
        int[] ponds = {900, 901, 998, 999};
        for (int pond : ponds) {
            PondIceTrade t = Checks.told("trade 0 0 " + pond + ";frost 0 99");
            due("POND " + pond + " and 99: asked", t.ahead(0, 1, 1), 999);
            t.month();
            due("POND " + pond + " and 99", t.count(2), 999);
        }
        due("POND 899 and 99", Checks.told("trade 0 0 899;frost 0 99").ahead(0, 1, 1), 998);
        due("POND 998 and 1", Checks.told("trade 0 0 998;frost 0 1").ahead(0, 1, 1), 999);
        due("POND 999 and 1", Checks.told("trade 0 0 999;frost 0 1").ahead(0, 1, 1), 999);
    }

    private static void pondGrowsByMonthsOfTheYear() {
        PondIceTrade t = Checks.told("trade 0 0 0;frost 0 5;frost 11 7");
        t.month();
        due("MONTH 0", t.count(2), 5);
        for (int i = 1; i <= 10; i++) {
            t.month();
        }
        due("none is left before MONTH 11", t.count(2), 0);
        t.month();
        due("MONTH 11", t.count(2), 7);
        t.month();
        due("MONTH 12 is MONTH 0 of the next year: it grows, and none MELTS", t.count(2), 12);
        t.month();
        due("MONTH 13", t.count(2), 10);
    }

    // ---- Promise 9: the greatest and the least

    /** 9801 of MONEY come each MONTH. */
    private static void moneyIs99999AtMost() {
        int[] starts = {1988, 1989, 1990, 9999};
        int[] wants = {99998, 99999, 99999, 99999};
        for (int i = 0; i < starts.length; i++) {
            PondIceTrade t = Checks.told("trade " + starts[i] + " 0 999" + ALL_FROSTS + ";ship 99 0;ship 99 0;ship 99 0;town 1 0 99 99",
                    "sail 99");
            due("asked, from " + starts[i], t.ahead(0, 10, 0), wants[i]);
            for (int month = 0; month < 10; month++) {
                due("99 are SOLD", t.month(), 99);
            }
            due("MONEY from " + starts[i], t.count(0), wants[i]);
            due("SOLD, though MONEY is full", t.count(10), 990);
            t.month();
            due("MONEY a MONTH later", t.count(0), 99999);
        }
        PondIceTrade t = Checks.told("trade 9999 0 999" + ALL_FROSTS + ";ship 99 0;ship 99 0;ship 99 0;town 1 0 99 99", "sail 99");
        for (int month = 0; month < 12; month++) {
            t.month();
        }
        t.force(NONE);
        due("what is paid comes off the greatest", t.build(0), 99899);
        due("by a question, too", t.site(1, 0), 99999);
    }

    private static void wantIs99AtMost() {
        int[] wants = {97, 98, 99};
        for (int want : wants) {
            PondIceTrade t = Checks.told("trade 0 0 99;ship 99 0;town 1 0 " + want + " 1");
            t.sail(0, 0, 99, false);
            t.month();
            due("WANT " + want + " met", t.town(0, 2), Math.min(99, want + 1));
        }
    }

    private static void wantIs0AtLeast() {
        int[] wants = {0, 1, 2, 99};
        int[] then = {0, 0, 1, 98};
        for (int i = 0; i < wants.length; i++) {
            PondIceTrade t = Checks.told("trade 0 0 0;town 1 0 " + wants[i] + " 1");
            t.month();
            due("WANT " + wants[i] + " without ice", t.town(0, 2), then[i]);
        }
    }

    private static void wantGrowsOnlyIfMet() {
        int[][] rows = {{0, 1, 0}, {0, 9, 0}, {1, 1, 2}, {1, 2, 2}, {5, 1, 5}, {5, 4, 5}, {5, 5, 6}, {5, 6, 6}, {5, 0, 4}};
        for (int[] row : rows) {
            PondIceTrade t = Checks.told("trade 0 0 99;ship 99 0;town 1 0 " + row[0] + " 1");
            t.sail(0, 0, row[1], false);
            t.month();
            due("WANT " + row[0] + " with " + row[1], t.town(0, 2), row[2]);
        }
        PondIceTrade molten = Checks.told("trade 0 0 99;ship 99 0;town 1 60 5 1");
        molten.sail(0, 0, 2, false);
        molten.month();
        due("what has MELTED at sea was not there", molten.town(0, 2), 4);
    }

    private static void sellsWhatItHasAndWants() {
        int[][] rows = {{0, 5, 0, 5}, {5, 0, 0, 0}, {5, 1, 1, 0}, {5, 4, 4, 0}, {5, 5, 5, 0}, {5, 6, 5, 1}, {1, 99, 1, 98}, {99, 99, 99, 0}};
        for (int[] row : rows) {
            PondIceTrade t = Checks.told("trade 7 0 99;ship 99 0;town 1 0 " + row[0] + " 3");
            t.sail(0, 0, row[1], false);
            due("SOLD: WANT " + row[0] + " with " + row[1], t.month(), row[2]);
            due("left", t.town(0, 4), row[3]);
            due("SOLD there", t.town(0, 7), row[2]);
            due("SOLD so far", t.count(10), row[2]);
            due("MONEY", t.count(0), 7 + 3 * row[2]);
        }
    }

    private static void townsByNumbers() {
        PondIceTrade t = Checks.told("trade 0 0 99;ship 9 0;ship 9 0;ship 9 0;town 1 0 9 1;town 1 0 8 2;town 1 0 7 3;town 1 0 6 4");
        t.sail(0, 0, 3, false);
        t.sail(1, 1, 8, false);
        t.sail(2, 3, 9, false);
        due("SOLD in all", t.month(), 3 + 8 + 6);
        due("MONEY of all", t.count(0), 3 + 16 + 24);
        int[] wants = {9, 9, 6, 7};
        int[] stocks = {0, 0, 0, 3};
        int[] sold = {3, 8, 0, 6};
        for (int town = 0; town <= 3; town++) {
            due("WANT of " + town, t.town(town, 2), wants[town]);
            due("ice of " + town, t.town(town, 4), stocks[town]);
            due("SOLD of " + town, t.town(town, 7), sold[town]);
        }
    }

    private static void shipsGoAndComeHome() {
        for (int months = 1; months <= 6; months++) {
            PondIceTrade t = Checks.told("trade 0 0 9;ship 9 0;town " + months + " 0 0 1");
            t.sail(0, 0, 9, true);
            due("MONEY does not pay DUST", t.ship(0, 3), 0);
            t.sail(0, 0, 9, false);
            for (int i = months; i >= 1; i--) {
                due("MONTHS to go there", t.ship(0, 3), i);
                due("it goes to TOWN 0", t.ship(0, 2), 0);
                due("blocks in it", t.ship(0, 4), 9);
                due("coming", t.town(0, 6), 9);
                due("at sea", t.count(9), 9);
                due("not at home", t.count(8), 0);
                due("not there yet", t.town(0, 4), 0);
                t.month();
            }
            due("there", t.town(0, 4), 9);
            for (int i = months; i >= 1; i--) {
                due("MONTHS to go home", t.ship(0, 3), i);
                due("it goes to no TOWN", t.ship(0, 2), NONE);
                due("nothing in it", t.ship(0, 4), 0);
                due("nothing is coming", t.town(0, 6), 0);
                due("nothing at sea", t.count(9), 0);
                due("not yet at home", t.count(8), 0);
                t.month();
            }
            due("at home", t.ship(0, 3), 0);
            due("at home, as bits", t.count(8), 1);
            due("it comes once", t.town(0, 4), 9);
        }
    }

    // ---- Promise 9: MONTHS by a RULE

    private static PondIceTrade monthBy(String trade, String rule) {
        PondIceTrade t = Checks.told(trade, rule);
        t.month();
        return t;
    }

    private static void ruleSumAbove0() {
        String trade = "trade 9 0 50;ship 9 0;town 2 0 0 1";
        due("SUM 1", monthBy(trade, "sail 1").ship(0, 4), 1);
        due("SUM 0", monthBy(trade, "sail 0").ship(0, 3), 0);
        due("SUM -1", monthBy(trade, "sail 0-1").ship(0, 3), 0);
        due("no CLAUSE holds: 0", monthBy(trade, "sail 5 if 1=2").ship(0, 3), 0);
        due("the first CLAUSE that holds, though it is 0", monthBy(trade, "sail 0 if 1=1;sail 5").ship(0, 3), 0);
        due("without a TOWN nothing", monthBy("trade 9 0 50;ship 9 0", "sail 5").count(8), 1);
        due("without a SHIP nothing", monthBy("trade 9 0 50;town 2 0 0 1", "sail 5").count(2), 45);
    }

    private static void ruleGreatestAndFirst() {
        String trade = "trade 9 0 50;ship 9 0;town 2 0 3 1;town 2 0 5 1;town 2 0 5 1;town 2 0 4 1";
        PondIceTrade t = monthBy(trade, "sail want");
        due("of the greatest the first", t.ship(0, 2), 1);
        due("its SUM", t.ship(0, 4), 5);
        due("all alike: TOWN 0", monthBy(trade, "sail 4").ship(0, 2), 0);
        due("the last, one more", monthBy(trade, "sail 4+town/3").ship(0, 2), 3);
        due("above HOLD the greater still counts", monthBy(trade, "sail 100+town").ship(0, 2), 3);
        due("above 32 bits the greater still counts", monthBy(trade, "sail 65536*65536*town+1").ship(0, 2), 3);
        due("of 0 and below none", monthBy(trade, "sail 0-town").ship(0, 3), 0);
        due("the only one above 0", monthBy(trade, "sail town-2").ship(0, 2), 3);
    }

    private static void ruleNotAbove() {
        PondIceTrade hold = monthBy("trade 99 0 50;ship 9 0;town 2 0 0 1", "sail 10");
        due("not above HOLD", hold.ship(0, 4), 9);
        due("HOLD", monthBy("trade 99 0 50;ship 9 0;town 2 0 0 1", "sail 9").ship(0, 4), 9);
        due("below HOLD", monthBy("trade 99 0 50;ship 9 0;town 2 0 0 1", "sail 8").ship(0, 4), 8);
        due("not above POND", monthBy("trade 99 0 7;ship 9 0;town 2 0 0 1", "sail 8").ship(0, 4), 7);
        due("POND", monthBy("trade 99 0 7;ship 9 0;town 2 0 0 1", "sail 7").ship(0, 4), 7);
        due("an empty POND", monthBy("trade 99 0 0;frost 0 9;ship 9 0;town 2 0 0 1", "sail 7").ship(0, 3), 0);
        String paid = "trade 17 3 50;ship 9 5;town 2 0 0 1";
        PondIceTrade money = monthBy(paid, "sail 9");
        due("not above what MONEY pays", money.ship(0, 4), 4);
        due("all MONEY is paid", money.count(0), 0);
        PondIceTrade less = monthBy("trade 16 3 50;ship 9 5;town 2 0 0 1", "sail 9");
        due("one less MONEY, one block less", less.ship(0, 4), 3);
        due("what is left", less.count(0), 2);
        due("MONEY for COST and one", monthBy("trade 8 3 50;ship 9 5;town 2 0 0 1", "sail 9").ship(0, 4), 1);
        PondIceTrade none = monthBy("trade 7 3 50;ship 9 5;town 2 0 0 1", "sail 9");
        due("with less than 1 not at all", none.ship(0, 3), 0);
        due("COST is not paid then", none.count(0), 7);
        due("COST alone, without WAGE", monthBy("trade 5 0 50;ship 9 5;town 2 0 0 1", "sail 9").ship(0, 4), 9);
        due("less than COST, without WAGE", monthBy("trade 4 0 50;ship 9 5;town 2 0 0 1", "sail 9").ship(0, 3), 0);
        due("without DUST", monthBy("trade 50 0 50;ship 9 0;town 2 60 0 1", "sail 9").ship(0, 5), 0);
    }

    private static void ruleShipsByNumbers() {
        PondIceTrade t = monthBy("trade 30 1 20;frost 0 1;ship 9 1;ship 9 2;ship 9 3;town 2 0 0 1;town 2 0 0 1", "sail 8-coming");
        due("SHIP 0", t.ship(0, 2) * 100 + t.ship(0, 4), 8);
        due("SHIP 1 sees what is coming", t.ship(1, 2) * 100 + t.ship(1, 4), 108);
        due("to SHIP 2 nothing is left to wish", t.ship(2, 3), 0);
        due("MONEY", t.count(0), 30 - 9 - 10);
        PondIceTrade pond = monthBy("trade 30 0 20;frost 0 1;ship 9 1;ship 9 2;ship 9 3;town 2 0 0 1", "sail pond");
        due("POND 20", pond.ship(0, 4), 9);
        due("POND 11", pond.ship(1, 4), 9);
        due("POND 2", pond.ship(2, 4), 2);
        due("it grows behind that", pond.count(2), 1);
        PondIceTrade money = monthBy("trade 10 1 20;frost 0 1;ship 9 1;ship 9 0;ship 9 0;town 2 0 0 1", "sail money");
        due("MONEY 10, COST 1", money.ship(0, 4), 9);
        due("MONEY 0", money.ship(1, 3), 0);
    }

    private static void ruleOnlyAtHome() {
        PondIceTrade t = Checks.told("trade 0 0 50;ship 9 0;town 1 0 0 1", "sail 3");
        t.month();
        due("there in the MONTH in which it SAILS", t.town(0, 4), 3);
        due("one MONTH home", t.ship(0, 3), 1);
        t.month();
        due("it can't SAIL on its way home", t.town(0, 4), 3);
        due("at home", t.ship(0, 3), 0);
        t.month();
        due("it SAILS again", t.town(0, 4), 6);
        t.undo();
        t.sail(0, 0, 9, false);
        t.month();
        due("one that was sent by hand is not at home", t.town(0, 4), 12);
    }

    // ---- Promise 10: sail

    private static void sailIs(String trade, int blocks, boolean dust, int want) {
        PondIceTrade t = Checks.told(trade);
        int money = t.count(0);
        int pond = t.count(2);
        due("SAIL with " + blocks + (dust ? " in DUST" : "") + " in " + trade, t.sail(0, 0, blocks, dust), want);
        boolean went = want != NONE;
        due("MONEY then", t.count(0), went ? want : money);
        due("POND then", t.count(2), went ? pond - blocks : pond);
        due("in it", t.ship(0, 4), went ? blocks : 0);
        due("in DUST", t.ship(0, 5), went && dust ? 1 : 0);
        due("it goes to", t.ship(0, 2), went ? 0 : NONE);
        due("MONTHS to go", t.ship(0, 3), went ? 2 : 0);
        due("ACTS", t.count(13), went ? 1 : 0);
    }

    private static void sailWithBlocks() {
        String trade = "trade 900 1 300;ship 50 10;town 2 0 5 5";
        sailIs(trade, 0, false, NONE);
        sailIs(trade, 1, false, 889);
        sailIs(trade, 50, false, 840);
        sailIs(trade, 51, false, NONE);
        sailIs(trade, 50, true, 790);
        sailIs(trade, 51, true, NONE);
        sailIs(trade, -1, false, NONE);
        String shallow = "trade 900 1 7;ship 50 10;town 2 0 5 5";
        sailIs(shallow, 7, false, 883);
        sailIs(shallow, 8, false, NONE);
        sailIs("trade 900 1 0;ship 50 10;town 2 0 5 5", 1, false, NONE);
        sailIs("trade 900 1 9;ship 1 10;town 2 0 5 5", 1, false, 889);
        sailIs("trade 900 1 9;ship 1 10;town 2 0 5 5", 2, false, NONE);
        sailIs("trade 9999 20 999;ship 99 99;town 2 0 5 5", 99, true, 9999 - 99 - 99 * 21);
        sailIs("trade 9999 20 999;ship 99 99;town 2 0 5 5", 100, true, NONE);
    }

    private static void sailForMoney() {
        sailIs("trade 30 2 99;ship 50 10;town 2 0 5 5", 10, false, 0);
        sailIs("trade 29 2 99;ship 50 10;town 2 0 5 5", 10, false, NONE);
        sailIs("trade 29 2 99;ship 50 10;town 2 0 5 5", 9, false, 1);
        sailIs("trade 10 0 99;ship 50 10;town 2 0 5 5", 50, false, 0);
        sailIs("trade 9 0 99;ship 50 10;town 2 0 5 5", 1, false, NONE);
        sailIs("trade 0 0 99;ship 50 0;town 2 0 5 5", 50, false, 0);
        sailIs("trade 0 1 99;ship 50 0;town 2 0 5 5", 1, false, NONE);
    }

    private static void sailForMoneyInDust() {
        sailIs("trade 40 2 99;ship 50 10;town 2 0 5 5", 10, true, 0);
        sailIs("trade 39 2 99;ship 50 10;town 2 0 5 5", 10, true, NONE);
        sailIs("trade 39 2 99;ship 50 10;town 2 0 5 5", 10, false, 9);
        sailIs("trade 50 0 99;ship 50 0;town 2 0 5 5", 50, true, 0);
        sailIs("trade 49 0 99;ship 50 0;town 2 0 5 5", 50, true, NONE);
    }

    // ---- Promises 11 to 13: teach, build, ask

    /** TOWN 0 has so many blocks and WANTS so many. */
    private static PondIceTrade taught(int stock, int want) {
        PondIceTrade t = Checks.told("trade 0 0 99;ship 99 0;town 1 0 0 1;town 1 0 " + want + " 1");
        t.sail(0, 1, stock + want, false);
        t.month();
        return t;
    }

    private static void teach() {
        PondIceTrade t = taught(7, 5);
        due("it has 7 and WANTS 6", t.town(1, 4) * 100 + t.town(1, 2), 706);
        due("with 0", t.teach(1, 0), NONE);
        due("with 8", t.teach(1, 8), NONE);
        due("where there is none", t.teach(0, 1), NONE);
        due("with 1", t.teach(1, 1), 7);
        due("6 are left", t.town(1, 4), 6);
        due("with 7 of these", t.teach(1, 7), NONE);
        due("with all", t.teach(1, 6), 13);
        due("none is left", t.town(1, 4), 0);
        due("with 1 of none", t.teach(1, 1), NONE);
        due("none is SOLD by it", t.count(10), 5);
        due("ACTS", t.count(13), 4);
        PondIceTrade much = taught(10, 88);
        due("88 and one", much.town(1, 2), 89);
        due("99 by 10", much.teach(1, 10), 99);
        PondIceTrade more = taught(11, 88);
        due("99 at most by 11", more.teach(1, 11), 99);
        due("all are given away", more.town(1, 4), 0);
        PondIceTrade one = taught(9, 0);
        due("of WANT 0", one.teach(1, 1), 1);
    }

    private static void build() {
        due("for 99", Checks.told("trade 99 0 0;town 1 0 1 1").build(0), NONE);
        due("for 100", Checks.told("trade 100 0 0;town 1 0 1 1").build(0), 0);
        due("for 101", Checks.told("trade 101 0 0;town 1 0 1 1").build(0), 1);
        PondIceTrade t = Checks.told("trade 999 0 0;town 1 0 1 1;town 1 0 1 1;town 1 0 1 1;town 1 0 1 1;house 1");
        due("where the text told one", t.build(1), NONE);
        due("in TOWN 3", t.build(3), 899);
        due("in TOWN 4", t.build(4), NONE);
        due("in TOWN -1", t.build(-1), NONE);
        due("in TOWN 3 again", t.build(3), NONE);
        due("HOUSES", t.count(11), 10);
        due("it has a HOUSE", t.town(3, 5), 1);
        due("in TOWN 0", t.build(0), 799);
        due("in TOWN 2", t.build(2), 699);
        due("all HOUSES", t.count(11), 15);
        due("ACTS", t.count(13), 3);
    }

    private static void askPrices() {
        PondIceTrade t = Checks.told("trade 0 0 0;town 1 0 0 5;town 1 0 0 1;town 1 0 0 99");
        due("1", t.ask(0, 1), 0);
        due("99", t.ask(0, 99), 0);
        due("0", t.ask(0, 0), NONE);
        due("100", t.ask(0, 100), NONE);
        due("as it is: 99", t.ask(0, 99), NONE);
        due("as it was: 5", t.ask(0, 5), 0);
        due("PRICE", t.town(0, 3), 5);
        due("TOWN 1 as it is", t.ask(1, 1), NONE);
        due("TOWN 1", t.ask(1, 2), 0);
        due("TOWN 2 as it is", t.ask(2, 99), NONE);
        due("TOWN 2", t.ask(2, 98), 0);
        due("TOWN 3", t.ask(3, 9), NONE);
        due("TOWN -1", t.ask(-1, 9), NONE);
        due("ACTS", t.count(13), 5);
    }

    private static void askWants() {
        int[][] rows = {{10, 9, 10, 9}, {10, 9, 11, 8}, {10, 9, 90, 1}, {10, 9, 91, 0}, {10, 9, 1, 90}, {11, 9, 1, 99}, {12, 9, 1, 99},
            {99, 99, 1, 99}, {99, 99, 98, 99}, {99, 1, 99, 1}, {98, 1, 99, 0}, {0, 99, 1, 0}, {33, 3, 1, 99}, {34, 3, 1, 99}, {1, 2, 1, 2}, {1, 1, 2, 0}};
        for (int[] row : rows) {
            PondIceTrade t = Checks.told("trade 0 0 0;town 1 0 " + row[0] + " " + row[1]);
            due("WANT " + row[0] + " of PRICE " + row[1] + " by ASK " + row[2], t.ask(0, row[2]), row[3]);
            due("WANT then", t.town(0, 2), row[3]);
            due("PRICE then", t.town(0, 3), row[2]);
        }
    }

    // ---- Promise 14: undo

    private static void undoTwenty() {
        for (int acts = 18; acts <= 43; acts++) {
            PondIceTrade t = Checks.told("trade 0 0 0;town 1 0 0 50");
            for (int i = 1; i <= acts; i++) {
                t.ask(0, i);
                due("ACTS", t.count(13), Math.min(20, i));
            }
            int can = Math.min(20, acts);
            for (int i = 1; i <= can; i++) {
                due("how many more", t.undo(), can - i);
                due("the last first", t.town(0, 3), acts == i ? 50 : acts - i);
            }
            due("none more", t.undo(), NONE);
            due("the PRICE stays", t.town(0, 3), acts > 20 ? acts - 20 : 50);
            t.ask(0, 99);
            due("one again", t.undo(), 0);
        }
    }

    private static void undoEachAct() {
        Picture.Maker begun = () -> {
            PondIceTrade t = Checks.told("trade 900 2 300;frost 0 20;ship 50 10;ship 9 0;town 1 20 10 9;town 2 0 8 5");
            t.sail(0, 0, 50, true);
            t.month();
            t.force(Checks.rule(t, "sail 1"));
            return t;
        };
        isUndone("a MONTH", begun, t -> t.month());
        isUndone("SAIL", begun, t -> t.sail(1, 1, 9, true));
        isUndone("TEACH", begun, t -> t.teach(0, 3));
        isUndone("BUILD", begun, t -> t.build(1));
        isUndone("ASK", begun, t -> t.ask(1, 99));
    }

    /** An ACT that is UNDONE leaves all as it was. */
    private static void isUndone(String act, Picture.Maker maker, Picture.Call made) {
        PondIceTrade t = maker.make();
        made.on(t);
        due(act + " is an ACT", t.count(13), 3);
        due(act + " is UNDONE", t.undo(), 2);
        CHECKS.changesNothing(act + " and undo()", maker, other -> {
            made.on(other);
            return other.undo();
        });
    }

    /** What is no ACT is not UNDONE and does not count; neither does an ACT that is refused. */
    private static void undoWhatIsNoAct() {
        PondIceTrade t = Checks.told("trade 900 2 300;ship 50 10;town 1 20 10 9");
        Checks.rule(t, "sail 1");
        t.ask(0, 1);
        t.force(0);
        t.seed(5);
        t.note(0, 1);
        t.image(0);
        t.feed(0, 0, 0, 0, 0);
        t.sail(0, 0, 51, false);
        t.teach(0, 1);
        t.build(1);
        t.ask(0, 1);
        t.ahead(0, 9, 0);
        due("one ACT", t.count(13), 1);
        due("it is UNDONE", t.undo(), 0);
        due("PRICE", t.town(0, 3), 9);
        due("RULES stay", t.count(5), 1);
        due("the RULE IN FORCE stays", t.count(6), 0);
        due("x stays", t.count(14), 5);
        due("NOTES stay", t.count(12), 1);
        due("the TAPE stays", t.count(15), 20);
        due("undo() is no ACT", t.undo(), NONE);
        due("the IMAGE stays", t.back(0), 0);
        due("with its PRICE", t.town(0, 3), 1);
    }

    // ---- Promises 7 and 8: ship, town

    private static void shipWhats() {
        PondIceTrade t = Checks.told("trade 900 0 300;ship 50 10;ship 40 9;ship 30 8;town 2 0 0 1;town 3 8 0 1");
        t.sail(1, 1, 40, true);
        t.month();
        int[][] want = {{50, 10, NONE, 0, 0, 0}, {40, 9, 1, 2, 39, 1}, {30, 8, NONE, 0, 0, 0}};
        for (int ship = 0; ship <= 2; ship++) {
            for (int what = 0; what <= 5; what++) {
                due("ship(" + ship + ", " + what + ")", t.ship(ship, what), want[ship][what]);
            }
            due("ship(" + ship + ", -1)", t.ship(ship, -1), -2);
            due("ship(" + ship + ", 6)", t.ship(ship, 6), -2);
        }
        for (int what = -1; what <= 6; what++) {
            due("ship(-1, " + what + ")", t.ship(-1, what), -2);
            due("ship(3, " + what + ")", t.ship(3, what), -2);
        }
    }

    private static void townWhats() {
        PondIceTrade t = Checks.told("trade 900 0 300;ship 50 0;ship 40 0;ship 30 0;town 1 2 10 11;town 2 8 9 7;house 1");
        t.sail(0, 0, 50, false);
        t.sail(1, 1, 40, false);
        t.sail(2, 1, 30, true);
        t.month();
        int[][] want = {{1, 2, 11, 11, 38, 0, 0, 10}, {2, 8, 8, 7, 0, 1, 36 + 29, 0}};
        for (int town = 0; town <= 1; town++) {
            for (int what = 0; what <= 7; what++) {
                due("town(" + town + ", " + what + ")", t.town(town, what), want[town][what]);
            }
            due("town(" + town + ", -1)", t.town(town, -1), NONE);
            due("town(" + town + ", 8)", t.town(town, 8), NONE);
        }
        for (int what = -1; what <= 8; what++) {
            due("town(-1, " + what + ")", t.town(-1, what), NONE);
            due("town(2, " + what + ")", t.town(2, what), NONE);
        }
        t.month();
        due("SOLD there so far", t.town(0, 7), 10 + 11);
    }

    // ---- Promises 32 and 33: image, back

    private static void images() {
        PondIceTrade t = Checks.told("trade 0 0 0;town 1 0 0 50");
        due("image(-1)", t.image(-1), NONE);
        due("image(4)", t.image(4), NONE);
        for (int k = 0; k <= 3; k++) {
            due("never made", t.back(k), NONE);
            t.month();
            t.ask(0, 10 + k);
            due("image(" + k + ")", t.image(k), k + 1);
        }
        due("back(-1)", t.back(-1), NONE);
        due("back(4)", t.back(4), NONE);
        due("MONTH stays", t.count(7), 4);
        for (int k = 3; k >= 0; k--) {
            due("back(" + k + ")", t.back(k), k + 1);
            due("its PRICE", t.town(0, 3), 10 + k);
        }
        t.ask(0, 77);
        due("made again", t.image(2), 1);
        due("another stays", t.back(3), 4);
        due("back to the new one", t.back(2), 1);
        due("its PRICE", t.town(0, 3), 77);
        t.ask(0, 78);
        due("back again", t.back(2), 1);
        due("an IMAGE stays as it was made", t.town(0, 3), 77);
    }

    private static void imageHoldsAll() {
        Picture.Maker plain = () -> {
            PondIceTrade t = Checks.told("trade 900 2 300;frost 0 20;ship 50 10;ship 9 0;town 1 20 10 9;town 2 0 8 5;house 1", "sail 1");
            t.seed(9);
            t.note(0, 900);
            t.sail(0, 0, 50, true);
            t.month();
            t.sail(1, 1, 9, false);
            t.image(1);
            t.back(1);
            return t;
        };
        CHECKS.changesNothing("all that changes, and back()", plain, t -> {
            t.month();
            t.sail(0, 1, 1, false);
            t.ask(0, 99);
            t.build(0);
            t.teach(0, 1);
            t.force(NONE);
            t.seed(10);
            t.note(1, 5);
            return t.back(1);
        });
        CHECKS.changesNothing("another TRADE, and back()", plain, t -> {
            Checks.trade(t, "trade 1 1 1;frost 5 5;ship 1 1;town 6 60 9 9");
            t.month();
            return t.back(1);
        });
        CHECKS.changesNothing("other NOTES, and back()", plain, t -> {
            t.note(NONE, 0);
            t.note(7, 1);
            t.note(8, 2);
            return t.back(1);
        });
        PondIceTrade t = plain.make();
        Checks.rule(t, "sail 2");
        t.force(1);
        t.feed(0, 0, 0, 0, 0);
        due("back", t.back(1), 1);
        due("RULES stay", t.count(5), 2);
        due("the TAPE stays", t.count(15), 20);
        due("the RULE IN FORCE is as it was", t.count(6), 0);
        due("NOTES are as they were: so", t.ruled(0), 3);
        t.note(NONE, 0);
        t.note(0, 901);
        due("NOTES that are not so", t.ruled(0), 0);
        t.back(1);
        due("and so again", t.ruled(0), 3);
        PondIceTrade none = new PondIceTrade();
        due("an IMAGE without a TRADE: MONTH 0", none.image(0), 0);
        Checks.trade(none, "trade 1 1 1");
        none.month();
        due("back to no TRADE", none.back(0), 0);
        due("there is none", none.month(), NONE);
        due("no OUT", none.out(), NONE);
    }

    private static void backUndoesNothing() {
        PondIceTrade t = Checks.told("trade 0 0 0;town 1 0 0 50");
        t.ask(0, 1);
        t.ask(0, 2);
        t.image(0);
        due("image() leaves what can be UNDONE", t.count(13), 2);
        due("one of them", t.undo(), 1);
        t.back(0);
        due("nothing can be UNDONE then", t.count(13), 0);
        due("undo()", t.undo(), NONE);
        due("PRICE stays", t.town(0, 3), 2);
        t.ask(0, 3);
        due("but what comes then", t.undo(), 0);
        due("PRICE as in the IMAGE", t.town(0, 3), 2);
    }
}
