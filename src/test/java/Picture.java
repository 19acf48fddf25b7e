/**
 * All that can be seen of an object, as one text: what it answers now, behind each ACT that can be
 * UNDONE, in each IMAGE, by each RULE, and with its TAPE taken as a TRADE and as a RULE. For each of
 * these the object is made anew, so that none of them is called more than 512 times.
 */
final class Picture {
    /** Makes an object, the same one each time. */
    interface Maker {
        PondIceTrade make();
    }

    /** One call, or a few that make up an answer. */
    interface Call {
        int on(PondIceTrade trade);
    }

    private Picture() {
    }

    static String of(Maker maker) {
        return of(maker, t -> 0);
    }

    /** The picture behind a call. */
    static String of(Maker maker, Call call) {
        StringBuilder all = new StringBuilder();
        for (int acts = 0; acts <= 21; acts++) {
            PondIceTrade t = after(maker, call);
            for (int i = 0; i < acts; i++) {
                all.append(t.undo()).append(' ');
            }
            see(all, acts + " UNDONE", t);
        }
        for (int k = 0; k <= 3; k++) {
            PondIceTrade t = after(maker, call);
            see(all, "IMAGE " + k + " " + t.back(k), t);
        }
        for (int rule = -1; rule <= 5; rule++) {
            PondIceTrade t = after(maker, call);
            int before = t.force(rule);
            see(all, "by RULE " + rule + " " + before + " " + t.month(), t);
        }
        PondIceTrade told = after(maker, call);
        see(all, "the TAPE as a TRADE " + told.trade(), told);
        PondIceTrade ruled = after(maker, call);
        int rule = ruled.rule();
        ruled.force(ruled.count(5) - 1);
        see(all, "the TAPE as a RULE " + rule + " " + ruled.month(), ruled);
        return all.toString();
    }

    private static PondIceTrade after(Maker maker, Call call) {
        PondIceTrade t = maker.make();
        call.on(t);
        return t;
    }

    private static void see(StringBuilder all, String name, PondIceTrade t) {
        all.append('\n').append(name).append(':');
        for (int what = 0; what <= 15; what++) {
            all.append(' ').append(t.count(what));
        }
        for (int ship = 0; ship <= 2; ship++) {
            for (int what = 0; what <= 5; what++) {
                all.append(' ').append(t.ship(ship, what));
            }
        }
        for (int town = 0; town <= 3; town++) {
            for (int what = 0; what <= 7; what++) {
                all.append(' ').append(t.town(town, what));
            }
            all.append(' ').append(t.ahead(town, 5, 2)).append(' ').append(t.ahead(town, 5, 3));
        }
        for (int what = 0; what <= 1; what++) {
            all.append(' ').append(t.ahead(0, 12, what)).append(' ').append(t.ruled(what)).append(' ')
                    .append(t.look(what)).append(' ').append(t.years(2, 12, what));
        }
        all.append(' ').append(t.out());
        for (int what = 0; what <= 3; what++) {
            all.append(' ').append(t.fleet(2, what));
        }
    }
}
