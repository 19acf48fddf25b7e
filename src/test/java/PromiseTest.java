/** Promises 7 to 33, each by answers reckoned by hand. */
public final class PromiseTest {
    private static final Checks CHECKS = new Checks();
    private static final int NONE = PondIceTrade.NONE;
    private static final String TWO_TOWNS = "trade 500 1 100;frost 0 20;ship 50 10;ship 30 5;town 2 20 10 9;town 1 40 8 5;house 0";

    public static void main(String[] args) {
        shipAndTown();
        month();
        monthOfWant();
        monthByRule();
        monthLimits();
        sail();
        teach();
        build();
        ask();
        undo();
        ahead();
        comesAndLoad();
        send();
        fleet();
        give();
        site();
        pricing();
        war();
        out();
        hatch();
        note();
        ruledAndLook();
        seed();
        years();
        count();
        imageAndBack();
        askedInVain();
        CHECKS.close();
    }

    private static void due(String call, long got, long want) {
        CHECKS.due(call, got, want);
    }

    /** SHIP 0 is on its way with 50 blocks after one MONTH. */
    private static PondIceTrade atSea() {
        PondIceTrade t = Checks.told(TWO_TOWNS);
        t.sail(0, 0, 50, false);
        t.month();
        return t;
    }

    /** MONEY 700; TOWN 0 has 26 blocks, a WANT of 11, a PRICE of 50, and nothing will come. */
    private static PondIceTrade withIce() {
        PondIceTrade t = Checks.told("trade 200 0 90;ship 90 0;town 1 40 10 50");
        t.sail(0, 0, 90, false);
        t.month();
        return t;
    }

    private static void shipAndTown() {
        PondIceTrade t = atSea();
        int[] ship = {50, 10, 0, 1, 40, 0};
        for (int what = 0; what < ship.length; what++) {
            due("ship at sea, " + what, t.ship(0, what), ship[what]);
        }
        due("ship, 6", t.ship(0, 6), -2);
        due("ship, -1", t.ship(0, -1), -2);
        due("ship 2", t.ship(2, 0), -2);
        due("ship -1", t.ship(-1, 0), -2);
        int[] town = {2, 20, 9, 9, 0, 1, 40, 0};
        for (int what = 0; what < town.length; what++) {
            due("town awaiting, " + what, t.town(0, what), town[what]);
        }
        due("coming to another", t.town(1, 6), 0);
        due("town, 8", t.town(0, 8), NONE);
        due("town, -1", t.town(0, -1), NONE);
        due("town 2", t.town(2, 0), NONE);
        due("town -1", t.town(-1, 0), NONE);
        t.month();
        int[] homeward = {50, 10, NONE, 2, 0, 0};
        for (int what = 0; what < homeward.length; what++) {
            due("ship on its way home, " + what, t.ship(0, what), homeward[what]);
        }
        int[] sold = {2, 20, 10, 9, 21, 1, 0, 9};
        for (int what = 0; what < sold.length; what++) {
            due("town that sold, " + what, t.town(0, what), sold[what]);
        }
        t.sail(1, 1, 30, true);
        due("in DUST", t.ship(1, 5), 1);
        due("to TOWN 1", t.ship(1, 2), 1);
        t.month();
        due("no DUST on the way home", t.ship(1, 5), 0);
        due("one MONTH home for one, too", t.ship(1, 3), 1);
        due("one MONTH less", t.ship(0, 3), 1);
        t.month();
        due("at home", t.ship(0, 3) + t.ship(1, 3), 0);
    }

    private static void month() {
        PondIceTrade t = Checks.told(TWO_TOWNS);
        t.sail(0, 0, 50, false);
        due("nothing is SOLD at first", t.month(), 0);
        due("what grows", t.count(2), 70);
        due("nine are SOLD", t.month(), 9);
        due("MONEY", t.count(0), 440 + 81);
        due("the POND melts by 10, upwards", t.count(2), 63);
        due("in a HOUSE by a quarter", t.town(0, 4), 21);
        due("MONTH", t.count(7), 2);
        due("ten are SOLD", t.month(), 10);
        due("left", t.town(0, 4), 10);
        due("what came melts by all the HEAT at sea, once a MONTH", Checks.told("trade 0 0 0;town 3 33 1 1").comes(0, 10, false), 2);
        PondIceTrade dust = Checks.told("trade 99 0 99;ship 99 0;town 2 43 99 1");
        dust.sail(0, 0, 99, true);
        dust.month();
        due("by a quarter of 43, downwards", dust.ship(0, 4), 99 - 10);
        PondIceTrade open = Checks.told("trade 99 0 99;ship 99 0;town 1 43 0 1");
        open.sail(0, 0, 99, false);
        open.month();
        due("at sea and ashore", open.town(0, 4), 56 - 25);
    }

    private static void monthOfWant() {
        PondIceTrade t = Checks.told("trade 0 0 99;ship 9 0;ship 10 0;ship 11 0;town 1 0 10 1;town 1 0 10 1;town 1 0 10 1;town 1 0 0 1");
        t.sail(0, 0, 9, false);
        t.sail(1, 1, 10, false);
        t.sail(2, 2, 11, false);
        due("SOLD", t.month(), 29);
        due("fewer than it WANTED", t.town(0, 2), 10);
        due("as many as it WANTED", t.town(1, 2), 11);
        due("more than it WANTED", t.town(2, 2), 11);
        due("it WANTED none and had none", t.town(3, 2), 0);
        due("what is left stays without HEAT", t.town(2, 4), 1);
        t.month();
        due("it had none", t.town(0, 2), 9);
        due("it had one of eleven", t.town(2, 2), 11);
        t.sail(0, 3, 5, false);
        t.month();
        due("WANT 0 with ice", t.town(3, 2), 0);
        due("its ice", t.town(3, 4), 5);
        PondIceTrade most = Checks.told("trade 0 0 999;frost 1 99;ship 99 0;ship 99 0;town 1 0 99 1");
        most.sail(0, 0, 99, false);
        most.month();
        due("WANT 99 at most", most.town(0, 2), 99);
        PondIceTrade once = Checks.told("trade 0 0 9;ship 1 0;town 1 0 1 1");
        once.month();
        due("WANT to 0", once.town(0, 2), 0);
        once.month();
        due("WANT 0 at least", once.town(0, 2), 0);
    }

    private static void monthByRule() {
        String trade = "trade 20 2 30;ship 9 3;ship 8 1;ship 5 0;town 1 0 5 5;town 2 10 7 9;town 3 0 7 9";
        PondIceTrade t = Checks.told(trade, "sail want");
        t.month();
        due("the first of the greatest", t.ship(0, 2), 1);
        due("as many as the SUM, before it melts", t.ship(0, 4), 6);
        due("one block, which melts, is what MONEY pays for the second", t.ship(1, 4), 0);
        due("it SAILED", t.ship(1, 3), 1);
        due("POND without eight, melted", t.count(2), 19);
        due("nothing is left for the third", t.ship(2, 3), 0);
        due("MONEY", t.count(0), 20 - 3 - 14 - 1 - 2);
        PondIceTrade pond = Checks.told("trade 99 0 12;ship 9 0;ship 8 0;ship 5 0;town 2 0 5 5", "sail 99");
        pond.month();
        due("HOLD", pond.ship(0, 4), 9);
        due("POND", pond.ship(1, 4), 3);
        due("an empty POND", pond.ship(2, 3), 0);
        PondIceTrade cost = Checks.told("trade 4 0 12;ship 9 5;ship 8 4;town 2 0 5 5", "sail 99");
        cost.month();
        due("COST above MONEY", cost.ship(0, 3), 0);
        due("COST as MONEY", cost.ship(1, 4), 8);
        PondIceTrade only = Checks.told("trade 4 1 12;ship 9 4;town 2 0 5 5", "sail 99");
        only.month();
        due("COST paid, no block", only.ship(0, 3), 0);
        PondIceTrade greatest = Checks.told("trade 99 0 50;ship 9 90;town 2 0 5 5;town 3 0 9 9", "sail want;sail 99");
        greatest.month();
        due("the greatest SUM, though it is cut", greatest.ship(0, 2), 1);
        PondIceTrade later = Checks.told("trade 99 0 50;ship 9 0;ship 9 0;town 2 0 5 5;town 3 0 4 9", "sail want - coming");
        later.month();
        due("the first SHIP", later.ship(0, 2), 0);
        due("the second sees what is coming", later.ship(1, 2), 1);
        PondIceTrade frost = Checks.told("trade 0 0 5;frost 0 9;ship 9 0;town 2 0 5 5", "sail 99");
        frost.month();
        due("they SAIL before it grows", frost.ship(0, 4), 5);
        due("what grew", frost.count(2), 9);
    }

    private static void monthLimits() {
        PondIceTrade t = Checks.told("trade 9999 0 999;frost 0 1;town 1 0 0 1");
        t.month();
        due("POND 999 at most", t.count(2), 999);
        t.month();
        due("then it melts", t.count(2), 899);
        PondIceTrade rich = Checks.told("trade 9999 0 999;frost 0 99;frost 1 99;frost 2 99;frost 3 99;frost 4 99;frost 5 99;frost 6 99;"
                + "frost 7 99;frost 8 99;frost 9 99;frost 10 99;frost 11 99;ship 99 0;ship 99 0;town 1 0 99 99", "sail 99");
        for (int i = 0; i < 20; i++) {
            rich.month();
        }
        due("MONEY 99999 at most", rich.count(0), 99999);
        due("and ahead", rich.ahead(0, 60, 0), 99999);
        PondIceTrade old = Checks.told("trade 5 0 7;frost 3 5;town 1 0 0 1");
        for (int i = 0; i < 999; i++) {
            old.month();
        }
        due("MONTH", old.count(7), 999);
        due("no MONTH behind 999", old.month(), NONE);
        due("it stays", old.count(7), 999);
        due("nothing was done", old.count(13), 20);
        int pond = old.count(2);
        int melted = pond - (pond * 10 + 99) / 100;
        due("the fourth MONTH of that year is asked", old.ahead(0, 1, 1), pond + 5);
        due("and the one behind it", old.ahead(0, 2, 1), pond + 5 - (pond + 14) / 10);
        due("it did not melt", old.ahead(0, 1, 1) == melted ? 1 : 0, 0);
        due("other ACTS go on", old.ask(0, 2), 0);
    }

    private static void sail() {
        PondIceTrade t = Checks.told("trade 40 2 20;ship 12 5;ship 30 0;town 2 10 5 5");
        due("no blocks", t.sail(0, 0, 0, false), NONE);
        due("below none", t.sail(0, 0, -1, false), NONE);
        due("above HOLD", t.sail(0, 0, 13, false), NONE);
        due("above POND", t.sail(1, 0, 21, false), NONE);
        due("ever so many", t.sail(1, 0, Integer.MAX_VALUE, true), NONE);
        due("no such SHIP", t.sail(2, 0, 1, false), NONE);
        due("no such SHIP below", t.sail(-1, 0, 1, false), NONE);
        due("no such TOWN", t.sail(0, 1, 1, false), NONE);
        due("no such TOWN below", t.sail(0, -1, 1, false), NONE);
        due("DUST is too dear", t.sail(0, 0, 12, true), NONE);
        due("nothing happened", t.count(0) * 1000 + t.count(2) + t.count(13), 40020);
        due("eleven in DUST", t.sail(0, 0, 11, true), 40 - 5 - 22 - 11);
        due("in it", t.ship(0, 4), 11);
        due("MONTHS", t.ship(0, 3), 2);
        due("POND", t.count(2), 9);
        due("at sea it can't", t.sail(0, 0, 1, false), NONE);
        due("all the MONEY", t.sail(1, 0, 1, false), 0);
        PondIceTrade free = Checks.told("trade 0 0 5;ship 5 0;town 1 0 1 1");
        due("for nothing", free.sail(0, 0, 5, false), 0);
        due("the POND is empty", free.count(2), 0);
    }

    private static void teach() {
        PondIceTrade t = withIce();
        due("none", t.teach(0, 0), NONE);
        due("below none", t.teach(0, -1), NONE);
        due("more than it has", t.teach(0, 27), NONE);
        due("no TOWN", t.teach(1, 1), NONE);
        due("no TOWN below", t.teach(-1, 1), NONE);
        due("nothing happened", t.count(13), 2);
        due("three", t.teach(0, 3), 14);
        due("ice then", t.town(0, 4), 23);
        due("given away is not SOLD", t.town(0, 7), 10);
        due("MONEY stays", t.count(0), 700);
        due("all", t.teach(0, 23), 37);
        due("no more", t.teach(0, 1), NONE);
        PondIceTrade most = Checks.told("trade 0 0 99;ship 99 0;town 1 0 90 1");
        most.sail(0, 0, 99, false);
        most.month();
        due("99 at most", most.teach(0, 9), 99);
    }

    private static void build() {
        PondIceTrade t = Checks.told("trade 250 0 0;town 1 0 1 1;town 1 0 1 1;town 1 0 1 1;house 1");
        due("where one is", t.build(1), NONE);
        due("no TOWN", t.build(3), NONE);
        due("no TOWN below", t.build(-1), NONE);
        due("a HOUSE", t.build(2), 150);
        due("HOUSES", t.count(11), 6);
        due("again", t.build(2), NONE);
        due("another", t.build(0), 50);
        due("ACTS", t.count(13), 2);
        PondIceTrade poor = Checks.told("trade 99 0 0;town 1 0 1 1");
        due("99 are too few", poor.build(0), NONE);
        due("100 are enough", Checks.told("trade 100 0 0;town 1 0 1 1").build(0), 0);
    }

    private static void ask() {
        PondIceTrade t = Checks.told("trade 0 0 0;town 1 0 10 7");
        due("the same PRICE", t.ask(0, 7), NONE);
        due("PRICE 0", t.ask(0, 0), NONE);
        due("PRICE -1", t.ask(0, -1), NONE);
        due("PRICE 100", t.ask(0, 100), NONE);
        due("no TOWN", t.ask(1, 5), NONE);
        due("no TOWN below", t.ask(-1, 5), NONE);
        due("nothing happened", t.count(13), 0);
        due("downwards", t.ask(0, 4), 17);
        due("PRICE", t.town(0, 3), 4);
        due("from what it WANTS now", t.ask(0, 99), 0);
        due("of none comes none", t.ask(0, 1), 0);
        PondIceTrade most = Checks.told("trade 0 0 0;town 1 0 50 50");
        due("99 at most", most.ask(0, 1), 99);
    }

    private static void undo() {
        PondIceTrade t = Checks.told(TWO_TOWNS);
        due("nothing yet", t.undo(), NONE);
        t.sail(0, 0, 50, true);
        t.month();
        t.build(1);
        t.ask(1, 9);
        Checks.rule(t, "sail 1");
        t.force(0);
        t.seed(5);
        t.note(3, 3);
        due("ACTS", t.count(13), 4);
        due("ASK is undone", t.undo(), 3);
        due("PRICE", t.town(1, 3), 5);
        due("WANT", t.town(1, 2), 7);
        due("BUILD is undone", t.undo(), 2);
        due("MONEY", t.count(0), 390);
        due("HOUSES", t.count(11), 1);
        due("the MONTH is undone", t.undo(), 1);
        due("MONTH", t.count(7), 0);
        due("POND", t.count(2), 50);
        due("in the SHIP", t.ship(0, 4), 50);
        due("the RULE IN FORCE stays", t.count(6), 0);
        due("x stays", t.count(14), 5);
        due("NOTES stay", t.count(12), 1);
        due("SAIL is undone", t.undo(), 0);
        due("at home", t.ship(0, 2) + t.ship(0, 3) + t.ship(0, 4) + t.ship(0, 5), NONE);
        due("all the MONEY", t.count(0), 500);
        due("no more", t.undo(), NONE);
        t.force(NONE);
        for (int i = 0; i < 25; i++) {
            t.month();
        }
        due("twenty at most", t.count(13), 20);
        for (int i = 19; i >= 0; i--) {
            due("undo", t.undo(), i);
        }
        due("the twenty-first", t.undo(), NONE);
        due("five stay", t.count(7), 5);
        t.month();
        due("again", t.undo(), 0);
        t.month();
        Checks.trade(t, "trade 1 1 1");
        due("nothing behind a new TRADE", t.undo(), NONE);
        PondIceTrade ice = withIce();
        ice.teach(0, 5);
        ice.undo();
        due("TEACH is undone", ice.town(0, 4) * 100 + ice.town(0, 2), 2611);
    }

    private static void ahead() {
        PondIceTrade t = atSea();
        due("now", t.ahead(0, 0, 0), 440);
        due("MONEY", t.ahead(0, 1, 0), 521);
        due("POND", t.ahead(0, 1, 1), 63);
        due("stock", t.ahead(0, 1, 2), 21);
        due("WANT", t.ahead(0, 1, 3), 10);
        due("WANT of another", t.ahead(1, 1, 3), 6);
        due("TOWN is not asked for MONEY", t.ahead(9, 1, 0), 521);
        due("TOWN is not asked for POND", t.ahead(-7, 1, 1), 63);
        due("but for stock", t.ahead(2, 1, 2), NONE);
        due("and for WANT", t.ahead(-1, 1, 3), NONE);
        due("61 MONTHS", t.ahead(0, 61, 0), NONE);
        due("-1 MONTHS", t.ahead(0, -1, 0), NONE);
        due("60 MONTHS", t.ahead(0, 60, 3), 0);
        due("what 4", t.ahead(0, 1, 4), NONE);
        due("what -1", t.ahead(0, 1, -1), NONE);
        due("nothing changes", t.count(7) * 1000 + t.count(0), 1440);
        Checks.rule(t, "sail 10");
        t.force(0);
        due("by the RULE IN FORCE", t.ahead(1, 1, 0), 440 - 15 + 81);
    }

    private static void comesAndLoad() {
        PondIceTrade t = Checks.told("trade 0 0 0;town 2 50 1 1;town 6 60 1 1;town 6 0 1 1;town 1 50 1 1;house 0");
        due("7 by halves", t.comes(0, 7, false), 1);
        due("100 in DUST", t.comes(0, 100, true), 77);
        due("none", t.comes(0, 0, false), 0);
        due("999 far away", t.comes(1, 999, false), 4);
        due("without HEAT", t.comes(2, 999, false), 999);
        due("1000", t.comes(2, 1000, false), NONE);
        due("-1", t.comes(2, -1, false), NONE);
        due("no TOWN", t.comes(4, 1, false), NONE);
        due("no TOWN below", t.comes(-1, 1, false), NONE);
        due("load for 1", t.load(0, 1, false), 4);
        due("load for 3", t.load(3, 3, false), 6);
        due("load for 99", t.load(2, 99, true), 99);
        due("load for 77 in DUST", t.comes(0, t.load(0, 77, true), true), 77);
        due("and one less", t.comes(0, t.load(0, 77, true) - 1, true), 76);
        due("load for 4 far away", t.load(1, 4, false) <= 999 ? 1 : 0, 1);
        due("999 are not enough", t.load(1, 5, false), -2);
        due("999 are just enough", Checks.told("trade 0 0 0;town 4 44 1 1").load(0, 98, false), 999);
        due("load for 0", t.load(0, 0, false), NONE);
        due("load for 100", t.load(2, 100, false), NONE);
        due("load without a TOWN", t.load(4, 1, false), NONE);
        due("load without a TOWN below", t.load(-1, 1, false), NONE);
    }

    private static void sendIs(String trade, int n, int money, int town, int blocks, int dust) {
        PondIceTrade t = Checks.told(trade);
        int[] want = {money, town, blocks, dust};
        for (int what = 3; what >= 0; what--) {
            due("send for " + n + ", what " + what + " in " + trade, t.send(0, n, what), want[what]);
        }
        due("nothing changes", t.count(8) * 100 + t.count(13), 100);
    }

    private static void send() {
        sendIs("trade 100 1 50;ship 10 2;town 1 0 5 4", 1, 113, 0, 5, 0);
        sendIs("trade 100 1 50;ship 10 2;town 1 0 5 4", 2, 128, 0, 10, 0);
        sendIs("trade 100 1 50;ship 10 2;town 2 0 5 4", 1, 100, NONE, 0, 0);
        sendIs("trade 100 0 50;ship 10 0;town 2 0 5 4", 1, 100, NONE, 0, 0);
        sendIs("trade 100 0 50;ship 10 0;town 1 40 10 5", 1, 135, 0, 10, 1);
        sendIs("trade 100 0 50;ship 5 0;town 1 40 10 5", 1, 115, 0, 5, 0);
        sendIs("trade 9 0 50;ship 10 0;town 1 40 10 5", 1, 40, 0, 9, 1);
        sendIs("trade 0 0 50;ship 10 0;town 1 40 10 5", 1, 30, 0, 10, 0);
        sendIs("trade 0 0 50;ship 10 0;town 1 40 6 5;town 1 40 6 5", 1, 30, 0, 10, 0);
        sendIs("trade 0 0 50;ship 10 0;town 1 0 6 4;town 1 0 6 5", 1, 30, 1, 6, 0);
        sendIs("trade 0 0 3;ship 10 0;town 1 0 6 4", 1, 12, 0, 3, 0);
        sendIs("trade 5 0 0;ship 10 0;town 1 0 6 4", 24, 5, NONE, 0, 0);
        sendIs("trade 5 0 9;ship 10 0", 24, 5, NONE, 0, 0);
        PondIceTrade t = Checks.told("trade 100 1 50;ship 10 2;ship 5 0;town 2 0 5 4");
        due("0 MONTHS", t.send(0, 0, 0), -2);
        due("25 MONTHS", t.send(0, 25, 0), -2);
        due("what 4", t.send(0, 1, 4), -2);
        due("what -1", t.send(0, 1, -1), -2);
        due("no SHIP", t.send(2, 1, 0), -2);
        due("no SHIP below", t.send(-1, 1, 0), -2);
        due("before", t.send(1, 2, 0), 100 - 4 + 4 * 4);
        t.sail(0, 0, 3, false);
        due("not at home", t.send(0, 1, 0), -2);
        due("after the other has gone", t.send(1, 2, 0), 95 - 1 + 4 * 4);
        due("with fewer blocks", t.send(1, 2, 2), 1);
        Checks.rule(t, "sail 1");
        t.force(0);
        due("the RULE sends it, too", t.send(1, 2, 1), NONE);
    }

    private static void fleetIs(String trade, int n, int... want) {
        PondIceTrade t = Checks.told(trade);
        for (int what = 0; what <= 3; what++) {
            due("fleet for " + n + ", what " + what + " in " + trade, t.fleet(n, what), want[what]);
        }
    }

    private static void fleet() {
        fleetIs("trade 100 0 10;ship 10 0;ship 10 0;town 1 0 10 5;town 1 0 10 6", 1, 160, NONE, 1, -2);
        fleetIs("trade 100 0 20;ship 10 0;ship 10 0;town 1 0 10 5;town 1 0 10 6", 1, 210, 0, 1, -2);
        fleetIs("trade 100 0 20;ship 10 0;ship 10 1;town 1 0 10 5;town 1 0 10 6", 1, 209, 0, 1, -2);
        fleetIs("trade 100 0 99;ship 5 0;ship 6 0;ship 7 0;town 1 0 7 9;town 1 0 6 9;town 1 0 5 9", 1, 262, 2, 1, 0);
        fleetIs("trade 100 0 99;ship 5 0;town 2 0 7 9", 1, 100, NONE, -2, -2);
        fleetIs("trade 4 0 99;ship 5 5;ship 5 4;town 1 0 7 9", 1, 45, NONE, 0, -2);
        fleetIs("trade 7 0 99", 24, 7, -2, -2, -2);
        PondIceTrade t = Checks.told("trade 100 0 99;ship 5 0;ship 5 0;town 2 0 7 9");
        due("0 MONTHS", t.fleet(0, 0), -3);
        due("25 MONTHS", t.fleet(25, 0), -3);
        due("what 4", t.fleet(1, 4), -3);
        due("what -1", t.fleet(1, -1), -3);
        t.sail(0, 0, 1, false);
        due("not at home", t.fleet(2, 1), -2);
        due("the other", t.fleet(2, 2), 0);
        due("MONEY", t.fleet(2, 0), 100 + 6 * 9);
        due("nothing changes", t.count(8), 2);
    }

    private static void give() {
        PondIceTrade t = Checks.told("trade 100 0 50;ship 10 0;town 1 0 1 5;town 1 0 1 5");
        due("no ice: none", t.give(0, 1, 1), 0);
        t.sail(0, 0, 10, false);
        t.month();
        due("MONEY", t.give(0, 1, 0), 130);
        due("three, the fewest", t.give(0, 1, 1), 3);
        due("of another", t.give(1, 1, 1), 0);
        due("MONEY of another", t.give(1, 1, 0), 115);
        due("for 24 MONTHS none need be given", t.give(0, 24, 1), 0);
        due("0 MONTHS", t.give(0, 0, 0), NONE);
        due("25 MONTHS", t.give(0, 25, 0), NONE);
        due("what 2", t.give(0, 1, 2), NONE);
        due("what -1", t.give(0, 1, -1), NONE);
        due("no TOWN", t.give(2, 1, 0), NONE);
        due("no TOWN below", t.give(-1, 1, 0), NONE);
        due("nothing changes", t.town(0, 4) * 100 + t.town(0, 2), 902);
    }

    private static void site() {
        PondIceTrade t = withIce();
        due("in one MONTH it does not pay: MONEY", t.site(1, 0), 1250);
        due("in one MONTH it does not pay", t.site(1, 1), NONE);
        due("in two it does: MONEY", t.site(2, 0), 1750);
        due("in two it does", t.site(2, 1), 0);
        due("0 MONTHS", t.site(0, 0), -2);
        due("25 MONTHS", t.site(25, 0), -2);
        due("what 2", t.site(1, 2), -2);
        due("what -1", t.site(1, -1), -2);
        due("nothing changes", t.count(11), 0);
        t.build(0);
        due("where one is, none", t.site(2, 1), NONE);
        due("then: MONEY", t.site(2, 0), 1750);
        due("without a TOWN", Checks.told("trade 999 0 0").site(1, 1), NONE);
        due("without MONEY", Checks.told("trade 99 0 0;town 1 1 1 1").site(1, 1), NONE);
    }

    private static void pricing() {
        PondIceTrade t = withIce();
        due("MONEY", t.pricing(0, 1, 0), 1250);
        due("the least PRICE", t.pricing(0, 1, 1), 22);
        t.ask(0, 22);
        due("as it is", t.pricing(0, 1, 1), 22);
        due("without ice the least", Checks.told("trade 5 0 0;town 1 0 9 9").pricing(0, 24, 1), 1);
        due("without ice: MONEY", Checks.told("trade 5 0 0;town 1 0 9 9").pricing(0, 24, 0), 5);
        due("0 MONTHS", t.pricing(0, 0, 0), NONE);
        due("25 MONTHS", t.pricing(0, 25, 0), NONE);
        due("what 2", t.pricing(0, 1, 2), NONE);
        due("what -1", t.pricing(0, 1, -1), NONE);
        due("no TOWN", t.pricing(1, 1, 0), NONE);
        due("no TOWN below", t.pricing(-1, 1, 0), NONE);
        due("nothing changes", t.town(0, 3) * 100 + t.town(0, 2), 2225);
    }

    private static void war() {
        PondIceTrade t = Checks.told("trade 0 0 0;town 1 0 10 10;town 1 0 0 10;town 1 0 1 10;town 1 0 10 5");
        due("two twos", t.war(0, 0), 2);
        due("first", t.war(0, 1), 1);
        due("second", t.war(0, 2), 1);
        due("none is WANTED", t.war(1, 0), 100);
        due("one is WANTED", t.war(2, 0), 3);
        due("first of these", t.war(2, 1) * 100 + t.war(2, 2), 101);
        due("tenths at alike PRICES", t.war(3, 0), 13);
        due("what 3", t.war(0, 3), NONE);
        due("what -1", t.war(0, -1), NONE);
        due("no TOWN", t.war(4, 0), NONE);
        due("no TOWN below", t.war(-1, 0), NONE);
        t.ask(0, 1);
        due("1 at least", t.war(0, 0), 100);
    }

    private static void out() {
        due("an empty POND", Checks.told("trade 10 0 0;ship 5 0;town 1 0 5 5").out(), 0);
        due("the POND melts away", Checks.told("trade 10 0 10;ship 5 0;town 1 0 5 5").out(), 10);
        due("MONEY for a block", Checks.told("trade 6 2 10;ship 5 4;town 1 0 5 5").out(), 10);
        due("no MONEY for a block", Checks.told("trade 5 2 10;ship 5 4;town 1 0 5 5").out(), 0);
        due("no SHIP", Checks.told("trade 10 0 10;town 1 0 5 5").out(), 0);
        due("no TOWN", Checks.told("trade 10 0 10;ship 5 0").out(), 0);
        due("frost every year", Checks.told("trade 10 0 10;frost 0 99;ship 5 0;town 1 0 5 5").out(), -2);
        due("it grows too late", Checks.told("trade 10 0 0;frost 1 99;ship 5 0;town 1 0 5 5").out(), 0);
        PondIceTrade t = Checks.told("trade 0 0 5;ship 5 0;town 2 0 6 1");
        t.sail(0, 0, 5, false);
        due("when all are at home", t.out(), 4);
        t.month();
        due("MONTHS are counted from the begin", t.out(), 4);
        PondIceTrade ice = Checks.told("trade 0 0 5;ship 5 0;town 1 0 1 1");
        ice.sail(0, 0, 5, false);
        due("when no TOWN has ice", ice.out(), 3);
        PondIceTrade unwanted = Checks.told("trade 0 0 5;ship 5 0;town 1 0 0 1");
        unwanted.sail(0, 0, 5, false);
        due("ice that nobody WANTS", unwanted.out(), -2);
        PondIceTrade last = Checks.told("trade 0 0 60;ship 99 0;town 1 1 0 1");
        last.sail(0, 0, 60, false);
        due("ice that melts by one block a MONTH: the last of the 60", last.out(), 59);
        PondIceTrade late = Checks.told("trade 0 0 61;ship 99 0;town 1 1 0 1");
        late.sail(0, 0, 61, false);
        due("one MONTH later is none of these", late.out(), -2);
        late.month();
        due("but from the next MONTH on it is", late.out(), 60);
    }

    private static void hatch() {
        PondIceTrade t = Checks.told("trade 0 0 0;town 1 50 1 1;town 6 60 1 1;town 1 0 1 1;town 1 1 1 1");
        due("3 of halves", t.hatch(0, 3, false, 0), 2);
        due("the least", t.hatch(0, 3, false, 1), 6);
        due("the greatest", t.hatch(0, 3, false, 2), 7);
        due("0 of halves", t.hatch(0, 0, false, 2), 1);
        due("none can have been", t.hatch(1, 5, false, 0), 0);
        due("the least of none", t.hatch(1, 5, false, 1), -2);
        due("the greatest of none", t.hatch(1, 5, false, 2), -2);
        due("999 at most", t.hatch(1, 4, false, 2), 999);
        due("without HEAT", t.hatch(2, 99, false, 1) * 1000 + t.hatch(2, 99, false, 2), 99099);
        due("a little HEAT", t.hatch(3, 99, false, 1) * 1000 + t.hatch(3, 99, false, 2), 100101);
        due("a little in DUST", t.hatch(3, 99, true, 1), 99);
        due("100", t.hatch(2, 100, false, 0), NONE);
        due("-1", t.hatch(2, -1, false, 0), NONE);
        due("what 3", t.hatch(2, 1, false, 3), NONE);
        due("what -1", t.hatch(2, 1, false, -1), NONE);
        due("no TOWN", t.hatch(4, 1, false, 0), NONE);
        due("no TOWN below", t.hatch(-1, 1, false, 0), NONE);
    }

    private static void note() {
        PondIceTrade t = Checks.told("trade 5 0 0");
        due("MONTH 61", t.note(61, 0), -2);
        due("MONTH -2", t.note(-2, 0), -2);
        due("MONEY -1", t.note(0, -1), -2);
        due("MONEY 100000", t.note(0, 100000), -2);
        due("nothing happened", t.count(12), 0);
        for (int i = 1; i <= 10; i++) {
            due("note", t.note(i == 1 ? 0 : 60, i == 1 ? 0 : 99999), i);
        }
        due("the eleventh", t.note(0, 0), -2);
        due("ten stay", t.count(12), 10);
        due("there are none then", t.note(NONE, -5), 0);
        due("NOTES", t.count(12), 0);
        due("all RULES are so again", t.ruled(0), 1);
        t.note(0, 0);
        Checks.trade(t, "trade 5 0 0");
        due("none with a new TRADE", t.count(12), 0);
    }

    private static void ruledAndLook() {
        PondIceTrade t = Checks.told("trade 100 0 50;ship 10 0;town 1 0 5 4");
        due("none alone", t.ruled(0) * 10 + t.ruled(1), 9);
        due("where to look for none alone", t.look(0) * 10 + t.look(1), 1);
        Checks.rule(t, "sail 5");
        Checks.rule(t, "sail 10");
        due("all three", t.ruled(0), 3);
        due("none is first", t.ruled(1), NONE);
        due("they part in MONTH 2", t.look(0), 2);
        due("each by itself", t.look(1), 1);
        t.ask(0, 9);
        t.month();
        due("as the text told it", t.look(0), 2);
        due("a NOTE", t.note(1, 120), 1);
        due("two are so", t.ruled(0), 2);
        due("RULE 0 is first", t.ruled(1), 0);
        due("these part in MONTH 2", t.look(0), 2);
        t.note(2, 140);
        due("one is so", t.ruled(0), 1);
        due("it is RULE 1", t.ruled(1), 1);
        due("one parts at once", t.look(0), 0);
        due("one is alike to itself", t.look(1), 1);
        t.note(3, 7);
        due("none is so", t.ruled(0), 0);
        due("no first", t.ruled(1), -2);
        due("no MONTH", t.look(0), -2);
        due("no number", t.look(1), -2);
        due("ruled(2)", t.ruled(2), -3);
        due("ruled(-1)", t.ruled(-1), -3);
        due("look(2)", t.look(2), NONE);
        due("look(-1)", t.look(-1), NONE);
        t.note(NONE, 0);
        t.note(60, 100);
        due("none alone has 100 in the last MONTH", t.ruled(0) * 10 + t.ruled(1), 9);
        t.note(NONE, 0);
        Checks.rule(t, "sail 5 if 1=1");
        Checks.rule(t, "sail 0");
        due("five", t.ruled(0), 5);
        due("the most alike are two", t.look(1), 2);
        due("in the least such MONTH", t.look(0), 2);
        PondIceTrade last = Checks.told("trade 100 0 50;frost 10 9;ship 10 0;town 1 0 99 4");
        Checks.rule(last, "sail 5 if month = 59");
        due("they part in the last MONTH", last.look(0), 60);
        due("and there each by itself", last.look(1), 1);
    }

    private static void seed() {
        PondIceTrade t = new PondIceTrade();
        due("0 at first", t.seed(7), 0);
        due("what it was", t.seed(2147483647), 7);
        due("below 0", t.seed(-1), NONE);
        due("it stays", t.count(14), 2147483647);
        Checks.trade(t, "trade 1 1 1");
        due("it stays with a TRADE", t.seed(0), 2147483647);
    }

    private static void years() {
        PondIceTrade t = Checks.told("trade 0 0 10;frost 0 50;frost 1 50;ship 99 0;town 1 0 99 2", "sail 99");
        due("once three MONTHS: blocks", t.years(1, 3, 1), 38);
        due("once three MONTHS: MONEY", t.years(1, 3, 0), 76);
        due("twice: blocks", t.years(2, 3, 1), 38 + 91);
        due("twice: MONEY", t.years(2, 3, 0), 2 * (38 + 91));
        due("x as it was", t.count(14), 0);
        due("nothing stays", t.count(7) + t.count(0), 0);
        t.seed(12345);
        due("from another x", t.years(1, 3, 1), 83);
        t.month();
        due("SOLD before is not counted", t.years(1, 1, 1), 0);
        due("but MONEY is there", t.years(3, 1, 0), 60);
        due("0 times", t.years(0, 1, 0), NONE);
        due("11 times", t.years(11, 1, 0), NONE);
        due("0 MONTHS", t.years(1, 0, 0), NONE);
        due("61 MONTHS", t.years(1, 61, 0), NONE);
        due("what 2", t.years(1, 1, 2), NONE);
        due("what -1", t.years(1, 1, -1), NONE);
        due("ten times sixty MONTHS", t.years(10, 60, 1) > 0 ? 1 : 0, 1);
        t.seed(2147483647);
        due("the greatest x", t.years(10, 60, 0) > 0 ? 1 : 0, 1);
    }

    private static void count() {
        PondIceTrade t = atSea();
        t.note(1, 1);
        t.seed(9);
        t.feed(0, 0, 0, 0, 0);
        int[] want = {440, 1, 70, 2, 2, 0, NONE, 1, 2, 40, 0, 1, 1, 2, 9, 20};
        for (int what = 0; what < want.length; what++) {
            due("count(" + what + ")", t.count(what), want[what]);
        }
        due("count(16)", t.count(16), NONE);
        due("count(-1)", t.count(-1), NONE);
        t.month();
        due("SOLD so far", t.count(10), 9);
        t.month();
        due("SOLD so far, all", t.count(10), 19);
        due("nothing at sea", t.count(9), 0);
    }

    private static void imageAndBack() {
        PondIceTrade t = new PondIceTrade();
        due("image -1", t.image(-1), NONE);
        due("image 4", t.image(4), NONE);
        due("back -1", t.back(-1), NONE);
        due("back 4", t.back(4), NONE);
        due("back to what was never made", t.back(0), NONE);
        due("an IMAGE of nothing", t.image(3), 0);
        Checks.rule(t, "sail 10");
        Checks.trade(t, TWO_TOWNS);
        t.force(0);
        t.seed(77);
        t.month();
        t.note(1, 479);
        due("an IMAGE", t.image(0), 1);
        due("ACTS go on being undone", t.count(13), 1);
        int money = t.count(0);
        int later = t.ahead(0, 9, 0);
        t.month();
        t.month();
        t.force(NONE);
        t.seed(5);
        t.note(NONE, 0);
        Checks.rule(t, "sail 1");
        t.feed(0, 0, 0, 0, 0);
        due("back", t.back(0), 1);
        due("MONEY", t.count(0), money);
        due("the RULE IN FORCE", t.count(6), 0);
        due("x", t.count(14), 77);
        due("NOTES", t.count(12), 1);
        due("RULES stay", t.count(5), 2);
        due("the TAPE stays", t.count(15), 20);
        due("nothing can be UNDONE", t.undo(), NONE);
        due("and it goes on likewise", t.ahead(0, 9, 0), later);
        Checks.trade(t, "trade 1 2 3");
        t.month();
        due("another IMAGE", t.image(1), 1);
        due("back to another TRADE", t.back(0), 1);
        due("its TOWNS", t.count(4), 2);
        t.note(NONE, 0);
        t.note(0, 500);
        due("its begin has MONEY 500", t.ruled(0), 3);
        due("back again", t.back(1), 1);
        due("WAGE", t.count(1), 2);
        t.month();
        due("an IMAGE stays as it was", t.back(1), 1);
        due("made anew", t.image(0), 1);
        due("back to the new one", t.back(0), 1);
        due("it is the other TRADE", t.count(4), 0);
        due("back to nothing", t.back(3), 0);
        due("no TRADE", t.month(), NONE);
        due("none IN FORCE", t.count(6), NONE);
        due("x of nothing", t.count(14), 0);
        due("RULES stay there, too", t.count(5), 2);
    }

    /** What is asked twice is answered anew when anything that it rests on has changed. */
    private static void askedInVain() {
        PondIceTrade t = Checks.told("trade 100 0 50;ship 10 0;town 1 0 5 4;town 1 0 5 4");
        Checks.rule(t, "sail 2");
        due("first", t.send(0, 1, 0), 120);
        t.force(0);
        due("by a RULE", t.send(0, 2, 0), 100 + 5 * 4 + 5 * 4);
        t.image(0);
        t.ask(0, 8);
        due("behind ASK", t.send(0, 1, 0), 120);
        due("behind ASK, for two", t.send(0, 2, 0), 140);
        t.back(0);
        due("behind back", t.send(0, 2, 0), 140);
        due("another question", t.give(0, 2, 0), 108);
        due("and the first again", t.send(0, 2, 0), 140);
        t.war(0, 0);
        due("behind war", t.send(0, 2, 0), 140);
        t.hatch(0, 0, false, 0);
        due("behind hatch", t.send(0, 2, 0), 140);
        t.years(1, 1, 0);
        due("behind years", t.send(0, 2, 0), 140);
        due("for one MONTH", t.send(0, 1, 0), 120);
        Checks.trade(t, "trade 7 0 50;ship 10 0;town 1 0 5 4");
        due("behind a TRADE", t.send(0, 1, 0), 27);
        Checks.trade(t, "trade 7 0 50;ship 10 0;ship 2 0;town 1 0 5 4");
        due("the second SHIP", t.send(1, 1, 0), 23);
        due("then the first", t.send(0, 1, 0), 27);
        due("then the second", t.send(1, 1, 0), 23);
        t.ask(0, 1);
        t.send(0, 1, 0);
        t.undo();
        due("behind undo", t.send(0, 1, 0), 27);
    }
}
