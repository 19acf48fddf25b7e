import java.util.HashMap;
import java.util.Map;

/** What the tests share: counting wrong answers, and telling texts to a trade. */
final class Checks {
    private int asked = 0;
    private int wrong = 0;
    private final Map<Picture.Maker, String> pictures = new HashMap<>();

    void due(String call, long got, long want) {
        asked++;
        if (got != want) {
            wrong++;
            if (wrong <= 40) {
                System.out.println(call + " answered " + got + ", due is " + want);
            }
        }
    }

    /** What a call answers, and that all is as it was behind it. */
    void leaves(String call, Picture.Maker maker, Picture.Call made, int want) {
        due(call, made.on(maker.make()), want);
        changesNothing(call, maker, made);
    }

    void changesNothing(String call, Picture.Maker maker, Picture.Call made) {
        alike("what is behind " + call, Picture.of(maker, made),
                pictures.computeIfAbsent(maker, Picture::of));
    }

    void alike(String what, String got, String want) {
        asked++;
        if (!got.equals(want)) {
            wrong++;
            String[] gotLines = got.split("\n", -1);
            String[] wantLines = want.split("\n", -1);
            for (int i = 0; i < Math.min(gotLines.length, wantLines.length) && wrong <= 40; i++) {
                if (!gotLines[i].equals(wantLines[i])) {
                    System.out.println(what + " is [" + gotLines[i] + "], due is [" + wantLines[i] + "]");
                    return;
                }
            }
        }
    }

    int wrong() {
        return wrong;
    }

    /** Ends the test: with exit code 1 if an answer was wrong. */
    void close() {
        System.out.println(asked + " answers, " + wrong + " wrong");
        if (wrong != 0 || asked == 0) {
            System.exit(1);
        }
    }

    /** Puts a text on the TAPE in place of what is there. */
    static void tape(PondIceTrade trade, String text) {
        trade.end(0);
        int[] numbers = numbers(text);
        for (int i = 0; i < numbers.length; i += 5) {
            trade.feed(numbers[i], numbers[i + 1], numbers[i + 2], numbers[i + 3], numbers[i + 4]);
        }
        trade.end(text.length());
    }

    /** The text as numbers of four bytes, filled with zeros to whole fives. */
    static int[] numbers(String text) {
        int[] numbers = new int[(text.length() + 19) / 20 * 5];
        for (int i = 0; i < text.length(); i++) {
            numbers[i / 4] |= (text.charAt(i) & 255) << (24 - i % 4 * 8);
        }
        return numbers;
    }

    static int trade(PondIceTrade trade, String text) {
        tape(trade, text);
        return trade.trade();
    }

    static int rule(PondIceTrade trade, String text) {
        tape(trade, text);
        return trade.rule();
    }

    static PondIceTrade told(String text) {
        PondIceTrade trade = new PondIceTrade();
        trade(trade, text);
        return trade;
    }

    static PondIceTrade told(String text, String rule) {
        PondIceTrade trade = told(text);
        trade.force(rule(trade, rule));
        return trade;
    }

    /** What trade() and rule() answer of a FAULT. */
    static int fault(int place, int kind) {
        return -2 - (1 + 8 * place + kind);
    }
}
