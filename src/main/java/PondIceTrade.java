/**
 * A trade in pond ice: told in a language, carried on by hand or by rules, and asked what comes
 * of it. Words in capitals (TRADE, RULE, MONTH ..) are meant as the document means them.
 */
public final class PondIceTrade {
    public static final int NONE = -1;

    private static final int MISSING = -2;
    private static final int WRONGLY_ASKED = -3;
    private static final int MOST_RULES = 6;
    private static final int MOST_UNDONE = 20;
    private static final int MOST_IMAGES = 4;
    private static final int LAST_MONTH = 999;
    private static final int FEED_BYTES = 20;

    private final Tape tape;
    private final Rule[] rules;
    private int ruleCount;
    private final Book book;
    private final World draft;
    private final Book[] images;
    private final boolean[] imageMade;
    private final World[] past;
    private int pastNext;
    private int pastCount;
    private final Planner planner;
    private final Ledger ledger;

    public PondIceTrade() {
        tape = new Tape();
        rules = new Rule[MOST_RULES];
        for (int i = 0; i < rules.length; i++) {
            rules[i] = new Rule();
        }
        book = new Book();
        draft = new World();
        images = new Book[MOST_IMAGES];
        imageMade = new boolean[MOST_IMAGES];
        for (int i = 0; i < images.length; i++) {
            images[i] = new Book();
        }
        past = new World[MOST_UNDONE];
        for (int i = 0; i < past.length; i++) {
            past[i] = new World();
        }
        planner = new Planner();
        ledger = new Ledger();
    }

    public int feed(int a, int b, int c, int d, int e) {
        if (!tape.hasRoomFor(FEED_BYTES)) {
            return NONE;
        }
        tape.add(a);
        tape.add(b);
        tape.add(c);
        tape.add(d);
        tape.add(e);
        return tape.length;
    }

    public int end(int n) {
        if (!isWithin(n, 0, tape.length)) {
            return NONE;
        }
        tape.length = n;
        return n;
    }

    public int trade() {
        if (!TradeReader.reads(tape, draft)) {
            return MISSING - tape.fault;
        }
        tape.length = 0;
        book.open(draft);
        forgetPast();
        return book.now.townCount;
    }

    public int rule() {
        if (ruleCount >= rules.length) {
            return NONE;
        }
        boolean read = RuleReader.reads(tape, rules[ruleCount]);
        tape.length = 0;
        if (!read) {
            return MISSING - tape.fault;
        }
        ruleCount++;
        return ruleCount - 1;
    }

    public int force(int rule) {
        if (!isWithin(rule, NONE, ruleCount - 1)) {
            return MISSING;
        }
        int before = book.inForce;
        book.inForce = rule;
        planner.forget();
        return before;
    }

    public int ship(int ship, int what) {
        return book.now.hasShip(ship) ? book.now.ships[ship].detail(what) : MISSING;
    }

    public int town(int town, int what) {
        if (!book.now.hasTown(town)) {
            return NONE;
        }
        return what == 6 ? book.now.blocksFor(town) : book.now.towns[town].detail(what);
    }

    public int month() {
        if (!book.now.told || book.now.month >= LAST_MONTH) {
            return NONE;
        }
        keepPast();
        return book.now.passMonth(ruleInForce(), World.ALL_GROWS);
    }

    public int sail(int ship, int town, int blocks, boolean dust) {
        if (!book.now.canSail(ship, town, blocks, dust)) {
            return NONE;
        }
        keepPast();
        book.now.setSail(ship, town, blocks, dust);
        return book.now.money;
    }

    public int teach(int town, int blocks) {
        if (!book.now.hasTown(town) || !isWithin(blocks, 1, book.now.towns[town].stock)) {
            return NONE;
        }
        keepPast();
        book.now.towns[town].giveAway(blocks);
        return book.now.towns[town].want;
    }

    public int build(int town) {
        if (!book.now.canBuild(town)) {
            return NONE;
        }
        keepPast();
        book.now.putHouse(town);
        return book.now.money;
    }

    public int ask(int town, int price) {
        if (!book.now.hasTown(town) || !isWithin(price, 1, Town.MOST_PRICE)
                || price == book.now.towns[town].price) {
            return NONE;
        }
        keepPast();
        book.now.towns[town].setPrice(price);
        return book.now.towns[town].want;
    }

    public int undo() {
        if (pastCount == 0) {
            return NONE;
        }
        pastCount--;
        pastNext = Math.floorMod(pastNext - 1, MOST_UNDONE);
        book.now.copyFrom(past[pastNext]);
        planner.forget();
        return pastCount;
    }

    public int ahead(int town, int n, int what) {
        if (!book.now.told || !isWithin(n, 0, Planner.MOST_AHEAD) || !isWithin(what, 0, 3)
                || (what >= 2 && !book.now.hasTown(town))) {
            return NONE;
        }
        World then = planner.worldAfter(book.now, ruleInForce(), n);
        switch (what) {
            case 0: return then.money;
            case 1: return then.pond;
            case 2: return then.towns[town].stock;
            default: return then.towns[town].want;
        }
    }

    public int comes(int town, int blocks, boolean dust) {
        if (!book.now.hasTown(town) || !isWithin(blocks, 0, Town.MOST_LOADED)) {
            return NONE;
        }
        return book.now.towns[town].arriving(blocks, dust);
    }

    public int load(int town, int blocks, boolean dust) {
        if (!book.now.hasTown(town) || !isWithin(blocks, 1, Town.MOST_COME)) {
            return NONE;
        }
        return book.now.towns[town].firstLoad(blocks, dust);
    }

    public int send(int ship, int n, int what) {
        if (!book.now.isAtHome(ship) || !Planner.isSpan(n) || !isWithin(what, 0, 3)) {
            return MISSING;
        }
        if (!planner.knows(Planner.SEND, ship, n)) {
            planner.findSend(book.now, ruleInForce(), ship);
        }
        return planner.best[what];
    }

    public int fleet(int n, int what) {
        if (!book.now.told || !Planner.isSpan(n) || !isWithin(what, 0, World.MOST_SHIPS)) {
            return WRONGLY_ASKED;
        }
        if (what > 0 && !book.now.isAtHome(what - 1)) {
            return MISSING;
        }
        if (!planner.knows(Planner.FLEET, NONE, n)) {
            planner.findFleet(book.now, ruleInForce());
        }
        return planner.best[what];
    }

    public int give(int town, int n, int what) {
        if (!book.now.hasTown(town) || !Planner.isSpan(n) || !isWithin(what, 0, 1)) {
            return NONE;
        }
        if (!planner.knows(Planner.GIVE, town, n)) {
            planner.findGift(book.now, ruleInForce(), town);
        }
        return planner.best[what];
    }

    public int site(int n, int what) {
        if (!book.now.told || !Planner.isSpan(n) || !isWithin(what, 0, 1)) {
            return MISSING;
        }
        if (!planner.knows(Planner.SITE, NONE, n)) {
            planner.findSite(book.now, ruleInForce());
        }
        return planner.best[what];
    }

    public int pricing(int town, int n, int what) {
        if (!book.now.hasTown(town) || !Planner.isSpan(n) || !isWithin(what, 0, 1)) {
            return NONE;
        }
        if (!planner.knows(Planner.PRICING, town, n)) {
            planner.findPrice(book.now, ruleInForce(), town);
        }
        return planner.best[what];
    }

    public int war(int town, int what) {
        if (!book.now.hasTown(town) || !isWithin(what, 0, 2)) {
            return NONE;
        }
        planner.findPeace(book.now.towns[town]);
        return planner.best[what];
    }

    public int out() {
        return book.now.told ? planner.monthOut(book.now, ruleInForce()) : NONE;
    }

    public int hatch(int town, int blocks, boolean dust, int what) {
        if (!book.now.hasTown(town) || !isWithin(blocks, 0, Town.MOST_COME) || !isWithin(what, 0, 2)) {
            return NONE;
        }
        planner.findFirstBlocks(book.now.towns[town], blocks, dust);
        return planner.best[what];
    }

    public int note(int n, int money) {
        if (!book.now.told) {
            return MISSING;
        }
        if (n == NONE) {
            book.noteCount = 0;
            return 0;
        }
        if (!isWithin(n, 0, Ledger.LAST_NOTED) || !isWithin(money, 0, World.MOST_MONEY)
                || book.noteCount >= Book.MOST_NOTES) {
            return MISSING;
        }
        book.addNote(n, money);
        return book.noteCount;
    }

    public int ruled(int what) {
        if (!book.now.told || !isWithin(what, 0, 1)) {
            return WRONGLY_ASKED;
        }
        ledger.fill(book, rules, ruleCount);
        return what == 0 ? ledger.fitting() : ledger.firstFitting();
    }

    public int look(int what) {
        if (!book.now.told || !isWithin(what, 0, 1)) {
            return NONE;
        }
        ledger.fill(book, rules, ruleCount);
        if (ledger.fitting() == 0) {
            return MISSING;
        }
        int month = ledger.partingMonth();
        return what == 0 ? month : ledger.mostAlike(month);
    }

    public int seed(int x) {
        if (x < 0) {
            return NONE;
        }
        int before = book.x;
        book.x = x;
        return before;
    }

    public int years(int m, int n, int what) {
        if (!book.now.told || !isWithin(m, 1, Planner.MOST_TIMES) || !isWithin(n, 1, Planner.MOST_DRAWN)
                || !isWithin(what, 0, 1)) {
            return NONE;
        }
        planner.drawYears(book, ruleInForce(), m, n);
        return planner.best[what];
    }

    public int count(int what) {
        World now = book.now;
        switch (what) {
            case 0: return now.money;
            case 1: return now.wage;
            case 2: return now.pond;
            case 3: return now.shipCount;
            case 4: return now.townCount;
            case 5: return ruleCount;
            case 6: return book.inForce;
            case 7: return now.month;
            case 8: return now.homeBits();
            case 9: return now.blocksAtSea();
            case 10: return now.soldSoFar();
            case 11: return now.houseBits();
            case 12: return book.noteCount;
            case 13: return pastCount;
            case 14: return book.x;
            case 15: return tape.length;
            default: return NONE;
        }
    }

    public int image(int k) {
        if (!isWithin(k, 0, images.length - 1)) {
            return NONE;
        }
        images[k].copyFrom(book);
        imageMade[k] = true;
        return book.now.month;
    }

    public int back(int k) {
        if (!isWithin(k, 0, images.length - 1) || !imageMade[k]) {
            return NONE;
        }
        book.copyFrom(images[k]);
        forgetPast();
        return book.now.month;
    }

    private static boolean isWithin(int number, int least, int most) {
        return number >= least && number <= most;
    }

    private Rule ruleInForce() {
        return isWithin(book.inForce, 0, ruleCount - 1) ? rules[book.inForce] : null;
    }

    /** The rows of the past go round: the oldest gives way, so only the last twenty can come back. */
    private void keepPast() {
        past[pastNext].copyFrom(book.now);
        pastNext = (pastNext + 1) % MOST_UNDONE;
        pastCount = Math.min(pastCount + 1, MOST_UNDONE);
        planner.forget();
    }

    private void forgetPast() {
        pastCount = 0;
        planner.forget();
    }

    /** The words of both languages. */
    enum Word {
        OTHER("", NONE),
        TRADE("trade", NONE),
        FROST("frost", NONE),
        SAIL("sail", NONE),
        IF("if", NONE),
        OR("or", NONE),
        AND("and", NONE),
        NOT("not", NONE),
        SHIP("ship", 0),
        TOWN("town", 1),
        MONTHS("months", 2),
        HEAT("heat", 3),
        WANT("want", 4),
        PRICE("price", 5),
        STOCK("stock", 6),
        COMING("coming", 7),
        POND("pond", 8),
        HOLD("hold", 9),
        MONEY("money", 10),
        MONTH("month", 11),
        HOUSE("house", 12);

        final String text;
        /** Which of a RULE's values the word stands for; NONE if for none. */
        final int value;

        Word(String text, int value) {
            this.text = text;
            this.value = value;
        }
    }

    /** The TAPE, split into tokens: numbers, words and signs, and one that is the end. */
    static final class Tape {
        static final int MOST_BYTES = 400;
        static final int MOST_DIGITS = 5;

        static final int END = -1;
        static final int NUMBER = -2;
        static final int WORD = -3;
        /** Signs of one byte are that byte; these two have numbers that no byte has. */
        static final int AT_MOST = 256;
        static final int AT_LEAST = 257;

        static final int NOT_THERE = 0;
        static final int NOT_AS_TOLD = 1;
        static final int TOO_DEEP = 2;
        static final int PART_TOO_MANY = 3;
        static final int CLAUSE_TOO_MANY = 4;

        final byte[] bytes = new byte[MOST_BYTES];
        int length;
        final Word[] words = Word.values();
        final int[] kinds = new int[MOST_BYTES + 1];
        final int[] places = new int[MOST_BYTES + 1];
        /** A number's value; NONE if it has more digits than it may. */
        final int[] numbers = new int[MOST_BYTES + 1];
        final Word[] wordRow = new Word[MOST_BYTES + 1];
        int tokenCount;
        int at;
        int fault;

        Tape() {
            for (int i = 0; i < wordRow.length; i++) {
                wordRow[i] = Word.OTHER;
            }
        }

        boolean hasRoomFor(int more) {
            return length + more <= MOST_BYTES;
        }

        void add(int four) {
            for (int shift = 24; shift >= 0 && length < MOST_BYTES; shift -= 8) {
                bytes[length] = (byte) (four >> shift);
                length++;
            }
        }

        void split() {
            fault = 0;
            at = 0;
            tokenCount = 0;
            int place = 0;
            while (place < length) {
                int first = byteAt(place);
                int next = place + 1;
                if (isDigit(first)) {
                    next = splitNumber(place);
                } else if (isLetter(first)) {
                    next = splitWord(place);
                } else if (first != ' ') {
                    next = splitSign(place);
                }
                place = Math.max(next, place + 1);
            }
            addToken(END, length, NONE, Word.OTHER);
        }

        private int byteAt(int index) {
            return index >= 0 && index < length && index < MOST_BYTES ? bytes[index] & 255 : END;
        }

        private static boolean isDigit(int sign) {
            return sign >= '0' && sign <= '9';
        }

        private static boolean isLetter(int sign) {
            return sign >= 'a' && sign <= 'z';
        }

        private void addToken(int kind, int place, int number, Word word) {
            if (tokenCount < kinds.length) {
                kinds[tokenCount] = kind;
                places[tokenCount] = place;
                numbers[tokenCount] = number;
                wordRow[tokenCount] = word;
                tokenCount++;
            }
        }

        private int splitNumber(int place) {
            int number = 0;
            int next = place;
            while (next < length && isDigit(byteAt(next))) {
                if (next - place < MOST_DIGITS) {
                    number = number * 10 + byteAt(next) - '0';
                }
                next++;
            }
            addToken(NUMBER, place, next - place > MOST_DIGITS ? NONE : number, Word.OTHER);
            return next;
        }

        private int splitWord(int place) {
            int next = place;
            while (next < length && isLetter(byteAt(next))) {
                next++;
            }
            Word word = Word.OTHER;
            for (int i = 0; i < words.length; i++) {
                if (isText(words[i].text, place, next)) {
                    word = words[i];
                }
            }
            addToken(WORD, place, NONE, word);
            return next;
        }

        private boolean isText(String text, int from, int to) {
            if (text.length() != to - from) {
                return false;
            }
            for (int i = 0; i < text.length(); i++) {
                if (text.charAt(i) != byteAt(from + i)) {
                    return false;
                }
            }
            return true;
        }

        private int splitSign(int place) {
            int first = byteAt(place);
            boolean isDouble = (first == '<' || first == '>') && byteAt(place + 1) == '=';
            int doubled = first == '<' ? AT_MOST : AT_LEAST;
            addToken(isDouble ? doubled : first, place, NONE, Word.OTHER);
            return isDouble ? place + 2 : place + 1;
        }

        int kind() {
            return at < tokenCount ? kinds[at] : END;
        }

        int number() {
            return at < tokenCount ? numbers[at] : NONE;
        }

        /** OTHER where no word stands. */
        Word word() {
            return at < tokenCount ? wordRow[at] : Word.OTHER;
        }

        void advance() {
            if (at < tokenCount) {
                at++;
            }
        }

        /** Always false, so that whoever reads can hand it on. */
        boolean fail(int kind) {
            fault = 1 + 8 * (at < tokenCount ? places[at] : length) + kind;
            return false;
        }

        boolean passes(int sign) {
            if (kind() != sign) {
                return fail(NOT_THERE);
            }
            advance();
            return true;
        }

        /** NONE, and nothing is read, behind a FAULT or at one: so several can be taken in a row. */
        int takeNumber(int least, int most) {
            if (fault != 0) {
                return NONE;
            }
            int number = number();
            if (kind() != NUMBER) {
                fail(NOT_THERE);
                return NONE;
            }
            if (number < least || number > most) {
                fail(NOT_AS_TOLD);
                return NONE;
            }
            advance();
            return number;
        }
    }

    /** Reads the TAPE as a TRADE. */
    static final class TradeReader {
        static final int MOST_CLAUSES = 40;

        static boolean reads(Tape tape, World told) {
            told.clear();
            tape.split();
            for (int clause = 0; clause <= MOST_CLAUSES; clause++) {
                if (!opens(tape, told, clause) || !readClause(tape, told)) {
                    return false;
                }
                if (tape.kind() == Tape.END) {
                    return true;
                }
                if (!tape.passes(';')) {
                    return false;
                }
            }
            return tape.fail(Tape.CLAUSE_TOO_MANY);
        }

        private static boolean opens(Tape tape, World told, int clause) {
            Word word = tape.word();
            if (word != Word.TRADE && word != Word.FROST && word != Word.SHIP && word != Word.TOWN
                    && word != Word.HOUSE) {
                return tape.fail(Tape.NOT_THERE);
            }
            if (clause >= MOST_CLAUSES || (word == Word.TRADE) != (clause == 0)
                    || (word == Word.SHIP && !told.hasRoomForShip())
                    || (word == Word.TOWN && !told.hasRoomForTown())) {
                return tape.fail(Tape.CLAUSE_TOO_MANY);
            }
            return true;
        }

        private static boolean readClause(Tape tape, World told) {
            Word word = tape.word();
            tape.advance();
            if (word == Word.TRADE) {
                readStart(tape, told);
            } else if (word == Word.FROST) {
                readFrost(tape, told);
            } else if (word == Word.SHIP) {
                readShip(tape, told);
            } else if (word == Word.TOWN) {
                readTown(tape, told);
            } else {
                readHouse(tape, told);
            }
            return tape.fault == 0;
        }

        private static void readStart(Tape tape, World told) {
            told.money = tape.takeNumber(0, 9999);
            told.wage = tape.takeNumber(0, 20);
            told.pond = tape.takeNumber(0, World.MOST_POND);
        }

        private static void readFrost(Tape tape, World told) {
            int month = tape.takeNumber(0, World.YEAR - 1);
            int blocks = tape.takeNumber(1, 99);
            if (isWithin(month, 0, World.YEAR - 1)) {
                told.frost[month] = blocks;
            }
        }

        private static void readShip(Tape tape, World told) {
            if (told.hasRoomForShip()) {
                Ship ship = told.ships[told.shipCount];
                ship.hold = tape.takeNumber(1, 99);
                ship.cost = tape.takeNumber(0, 99);
                told.shipCount++;
            }
        }

        private static void readTown(Tape tape, World told) {
            if (told.hasRoomForTown()) {
                Town town = told.towns[told.townCount];
                town.months = tape.takeNumber(1, 6);
                town.heat = tape.takeNumber(0, 60);
                town.want = tape.takeNumber(0, Town.MOST_WANT);
                town.price = tape.takeNumber(1, Town.MOST_PRICE);
                told.townCount++;
            }
        }

        private static void readHouse(Tape tape, World told) {
            int town = tape.takeNumber(0, told.townCount - 1);
            if (told.hasTown(town)) {
                told.towns[town].house = true;
            }
        }
    }

    /** Reads the TAPE as a RULE. */
    static final class RuleReader {
        static final int MOST_DEPTH = 10;

        static boolean reads(Tape tape, Rule rule) {
            rule.clear();
            tape.split();
            for (int clause = 0; clause <= Rule.MOST_CLAUSES; clause++) {
                if (!readClause(tape, rule)) {
                    return false;
                }
                if (tape.kind() == Tape.END) {
                    return true;
                }
                if (!tape.passes(';')) {
                    return false;
                }
            }
            return tape.fail(Tape.CLAUSE_TOO_MANY);
        }

        private static boolean readClause(Tape tape, Rule rule) {
            if (tape.word() != Word.SAIL) {
                return tape.fail(Tape.NOT_THERE);
            }
            if (!rule.hasRoomForClause()) {
                return tape.fail(Tape.CLAUSE_TOO_MANY);
            }
            tape.advance();
            int sumFrom = rule.valueCount;
            int testFrom = rule.stepCount;
            if (!readSum(tape, rule)) {
                return false;
            }
            int sumTo = rule.valueCount;
            if (tape.word() == Word.IF) {
                tape.advance();
                if (!readTest(tape, rule, 0)) {
                    return false;
                }
            }
            rule.addClause(sumFrom, sumTo, testFrom);
            return true;
        }

        /** An or waits until the part behind it has ended: and binds more closely. */
        private static boolean readTest(Tape tape, Rule rule, int depth) {
            if (!readFact(tape, rule, depth)) {
                return false;
            }
            boolean orWaits = false;
            for (int i = 0; i < Tape.MOST_BYTES && isAndOr(tape.word()); i++) {
                boolean isOr = tape.word() == Word.OR;
                if (isOr && orWaits) {
                    rule.addStep(Rule.OR);
                }
                orWaits = orWaits || isOr;
                tape.advance();
                if (!readFact(tape, rule, depth)) {
                    return false;
                }
                if (!isOr) {
                    rule.addStep(Rule.AND);
                }
            }
            if (orWaits) {
                rule.addStep(Rule.OR);
            }
            return true;
        }

        private static boolean readFact(Tape tape, Rule rule, int depth) {
            boolean isNot = tape.word() == Word.NOT;
            if (!isNot && tape.kind() != '[') {
                return readComparison(tape, rule);
            }
            if (depth >= MOST_DEPTH) {
                return tape.fail(Tape.TOO_DEEP);
            }
            tape.advance();
            if (!isNot) {
                return readTest(tape, rule, depth + 1) && tape.passes(']');
            }
            if (!readFact(tape, rule, depth + 1)) {
                return false;
            }
            rule.addStep(Rule.NOT);
            return true;
        }

        private static boolean readComparison(Tape tape, Rule rule) {
            int from = rule.valueCount;
            if (!readSum(tape, rule)) {
                return false;
            }
            int sign = tape.kind();
            if (!isComparison(sign)) {
                return tape.fail(Tape.NOT_THERE);
            }
            if (!rule.hasRoomForPart()) {
                return tape.fail(Tape.PART_TOO_MANY);
            }
            int fact = rule.addFact(from, sign);
            tape.advance();
            if (!readSum(tape, rule)) {
                return false;
            }
            rule.closeFact(fact);
            rule.addStep(fact);
            return true;
        }

        private static boolean readSum(Tape tape, Rule rule) {
            int join = '+';
            for (int i = 0; i < Tape.MOST_BYTES; i++) {
                boolean isNumber = tape.kind() == Tape.NUMBER;
                int number = tape.number();
                int word = tape.word().value;
                if (!isNumber && word == NONE) {
                    return tape.fail(Tape.NOT_THERE);
                }
                if (isNumber && number == NONE) {
                    return tape.fail(Tape.NOT_AS_TOLD);
                }
                if (!rule.hasRoomForPart()) {
                    return tape.fail(Tape.PART_TOO_MANY);
                }
                rule.addValue(join, isNumber ? Rule.asOperand(number) : word);
                tape.advance();
                join = tape.kind();
                if (!isJoin(join)) {
                    return true;
                }
                tape.advance();
            }
            return tape.fail(Tape.NOT_THERE);
        }

        private static boolean isAndOr(Word word) {
            return word == Word.AND || word == Word.OR;
        }

        private static boolean isComparison(int sign) {
            return sign == '<' || sign == Tape.AT_MOST || sign == '=' || sign == Tape.AT_LEAST || sign == '>';
        }

        private static boolean isJoin(int sign) {
            return sign == '+' || sign == '-' || sign == '*' || sign == '/' || sign == '%';
        }
    }

    /**
     * A RULE as rows: its values with what joins each to those before, its facts as stretches of
     * values, its tests as steps behind their operands, and its clauses as stretches of both.
     */
    static final class Rule {
        static final int MOST_CLAUSES = 12;
        static final int MOST_PARTS = 60;
        static final int WORDS = 13;

        static final int NOT = -1;
        static final int AND = -2;
        static final int OR = -3;

        final long[] words = new long[WORDS];
        final int[] joins = new int[MOST_PARTS];
        final int[] operands = new int[MOST_PARTS];
        int valueCount;
        final int[] factFrom = new int[MOST_PARTS];
        final int[] factMiddle = new int[MOST_PARTS];
        final int[] factTo = new int[MOST_PARTS];
        final int[] factSign = new int[MOST_PARTS];
        int factCount;
        final int[] steps = new int[Tape.MOST_BYTES];
        int stepCount;
        final int[] sumFrom = new int[MOST_CLAUSES];
        final int[] sumTo = new int[MOST_CLAUSES];
        final int[] testFrom = new int[MOST_CLAUSES];
        final int[] testTo = new int[MOST_CLAUSES];
        int clauseCount;

        void clear() {
            valueCount = 0;
            factCount = 0;
            stepCount = 0;
            clauseCount = 0;
        }

        boolean hasRoomForClause() {
            return clauseCount < MOST_CLAUSES;
        }

        boolean hasRoomForPart() {
            return valueCount + factCount < MOST_PARTS;
        }

        /** Numbers lie below 0, so that they can't be taken for words. */
        static int asOperand(int number) {
            return -1 - number;
        }

        void addValue(int join, int operand) {
            if (valueCount < MOST_PARTS) {
                joins[valueCount] = join;
                operands[valueCount] = operand;
                valueCount++;
            }
        }

        int addFact(int from, int sign) {
            if (factCount >= MOST_PARTS) {
                return NONE;
            }
            factFrom[factCount] = from;
            factMiddle[factCount] = valueCount;
            factTo[factCount] = valueCount;
            factSign[factCount] = sign;
            factCount++;
            return factCount - 1;
        }

        void closeFact(int fact) {
            if (fact >= 0 && fact < factCount) {
                factTo[fact] = valueCount;
            }
        }

        void addStep(int step) {
            if (stepCount < steps.length) {
                steps[stepCount] = step;
                stepCount++;
            }
        }

        void addClause(int from, int to, int test) {
            if (clauseCount < MOST_CLAUSES) {
                sumFrom[clauseCount] = from;
                sumTo[clauseCount] = to;
                testFrom[clauseCount] = test;
                testTo[clauseCount] = stepCount;
                clauseCount++;
            }
        }

        long blocksWished(World world, int ship, int town) {
            fillWords(world, ship, town);
            for (int i = 0; i < clauseCount; i++) {
                if (testFrom[i] == testTo[i] || holds(testFrom[i], testTo[i])) {
                    return sumOf(sumFrom[i], sumTo[i]);
                }
            }
            return 0;
        }

        private void fillWords(World world, int ship, int town) {
            if (!world.hasShip(ship) || !world.hasTown(town)) {
                return;
            }
            Town there = world.towns[town];
            words[0] = ship;
            words[1] = town;
            words[2] = there.months;
            words[3] = there.heat;
            words[4] = there.want;
            words[5] = there.price;
            words[6] = there.stock;
            words[7] = world.blocksFor(town);
            words[8] = world.pond;
            words[9] = world.ships[ship].hold;
            words[10] = world.money;
            words[11] = world.month;
            words[12] = there.house ? 1 : 0;
        }

        /** The bits are a stack of truths, the last on the lowest: a RULE's facts are too few for more. */
        private boolean holds(int from, int to) {
            long truths = 0;
            for (int i = from; i < to && i < steps.length; i++) {
                int step = steps[i];
                if (step == NOT) {
                    truths ^= 1;
                } else if (step == AND) {
                    truths = (truths >> 1) & (truths | ~1L);
                } else if (step == OR) {
                    truths = (truths >> 1) | (truths & 1);
                } else if (step >= 0 && step < factCount) {
                    long left = sumOf(factFrom[step], factMiddle[step]);
                    long right = sumOf(factMiddle[step], factTo[step]);
                    truths = (truths << 1) | (isSo(left, factSign[step], right) ? 1 : 0);
                }
            }
            return (truths & 1) == 1;
        }

        private static boolean isSo(long left, int sign, long right) {
            switch (sign) {
                case '<': return left < right;
                case Tape.AT_MOST: return left <= right;
                case '=': return left == right;
                case Tape.AT_LEAST: return left >= right;
                default: return left > right;
            }
        }

        /** A term's sign waits until the term ends: a product that went round can't be divided with it. */
        private long sumOf(int from, int to) {
            long sum = 0;
            long term = 0;
            boolean less = false;
            for (int i = from; i < to && i < MOST_PARTS; i++) {
                int operand = operands[i];
                long value = operand < 0 ? -1 - operand : operand < WORDS ? words[operand] : 0;
                switch (joins[i]) {
                    case '*':
                        term *= value;
                        break;
                    case '/':
                        term = value == 0 ? 0 : term / value;
                        break;
                    case '%':
                        term = value == 0 ? 0 : term % value;
                        break;
                    default:
                        sum = less ? sum - term : sum + term;
                        term = value;
                        less = joins[i] == '-';
                        break;
                }
            }
            return less ? sum - term : sum + term;
        }
    }

    /** A SHIP: at home without MONTHS to go, on its way home with some but no TOWN. */
    static final class Ship {
        int hold;
        int cost;
        int goesTo = NONE;
        int toGo;
        int blocks;
        boolean dust;

        void copyFrom(Ship other) {
            hold = other.hold;
            cost = other.cost;
            goesTo = other.goesTo;
            toGo = other.toGo;
            blocks = other.blocks;
            dust = other.dust;
        }

        void unload() {
            goesTo = NONE;
            blocks = 0;
            dust = false;
        }

        int detail(int what) {
            switch (what) {
                case 0: return hold;
                case 1: return cost;
                case 2: return goesTo;
                case 3: return toGo;
                case 4: return blocks;
                case 5: return dust ? 1 : 0;
                default: return MISSING;
            }
        }
    }

    /** A TOWN, with the ice that it has. */
    static final class Town {
        static final int MOST_WANT = 99;
        static final int MOST_PRICE = 99;
        static final int MOST_LOADED = 999;
        static final int MOST_COME = 99;

        int months;
        int heat;
        int want;
        int price;
        int stock;
        boolean house;
        int sold;

        void copyFrom(Town other) {
            months = other.months;
            heat = other.heat;
            want = other.want;
            price = other.price;
            stock = other.stock;
            house = other.house;
            sold = other.sold;
        }

        int detail(int what) {
            switch (what) {
                case 0: return months;
                case 1: return heat;
                case 2: return want;
                case 3: return price;
                case 4: return stock;
                case 5: return house ? 1 : 0;
                case 7: return sold;
                default: return NONE;
            }
        }

        static int melted(int blocks, int heat) {
            return blocks - (blocks * heat + 99) / 100;
        }

        /** Sawdust and houses keep ice alike. */
        int heatFor(boolean kept) {
            return kept ? heat / 4 : heat;
        }

        int arriving(int blocks, boolean dust) {
            int heatAtSea = heatFor(dust);
            int left = blocks;
            for (int i = 0; i < months; i++) {
                left = melted(left, heatAtSea);
            }
            return left;
        }

        int firstLoad(int blocks, boolean dust) {
            for (int first = 0; first <= MOST_LOADED; first++) {
                if (arriving(first, dust) >= blocks) {
                    return first;
                }
            }
            return MISSING;
        }

        void giveAway(int blocks) {
            stock -= blocks;
            want = Math.min(MOST_WANT, want + blocks);
        }

        void setPrice(int other) {
            if (other > 0) {
                want = Math.min(MOST_WANT, want * price / other);
                price = other;
            }
        }

        int sellMonth() {
            int had = stock;
            int sells = Math.min(had, want);
            stock = melted(had - sells, heatFor(house));
            sold += sells;
            if (want >= 1 && had >= want) {
                want = Math.min(MOST_WANT, want + 1);
            } else if (had == 0) {
                want = Math.max(0, want - 1);
            }
            return sells;
        }
    }

    /** All that a TRADE tells, as it is in some MONTH. */
    static final class World {
        static final int MOST_SHIPS = 3;
        static final int MOST_TOWNS = 4;
        static final int MOST_MONEY = 99999;
        static final int MOST_POND = 999;
        static final int YEAR = 12;
        static final int ALL_GROWS = 100;
        static final int POND_HEAT = 10;
        static final int HOUSE_COST = 100;

        boolean told;
        int money;
        int wage;
        int pond;
        int month;
        int shipCount;
        int townCount;
        final int[] frost = new int[YEAR];
        final Ship[] ships = new Ship[MOST_SHIPS];
        final Town[] towns = new Town[MOST_TOWNS];

        World() {
            for (int i = 0; i < MOST_SHIPS; i++) {
                ships[i] = new Ship();
            }
            for (int i = 0; i < MOST_TOWNS; i++) {
                towns[i] = new Town();
            }
        }

        void copyFrom(World other) {
            told = other.told;
            money = other.money;
            wage = other.wage;
            pond = other.pond;
            month = other.month;
            shipCount = other.shipCount;
            townCount = other.townCount;
            System.arraycopy(other.frost, 0, frost, 0, YEAR);
            for (int i = 0; i < MOST_SHIPS; i++) {
                ships[i].copyFrom(other.ships[i]);
            }
            for (int i = 0; i < MOST_TOWNS; i++) {
                towns[i].copyFrom(other.towns[i]);
            }
        }

        /** For a text that tells all anew: what every text tells is not cleared, nor what none does. */
        void clear() {
            told = true;
            shipCount = 0;
            townCount = 0;
            for (int i = 0; i < YEAR; i++) {
                frost[i] = 0;
            }
            for (int i = 0; i < MOST_TOWNS; i++) {
                towns[i].house = false;
            }
        }

        boolean hasRoomForShip() {
            return shipCount >= 0 && shipCount < MOST_SHIPS;
        }

        boolean hasRoomForTown() {
            return townCount >= 0 && townCount < MOST_TOWNS;
        }

        boolean hasShip(int ship) {
            return ship >= 0 && ship < shipCount;
        }

        boolean hasTown(int town) {
            return town >= 0 && town < townCount;
        }

        boolean isAtHome(int ship) {
            return hasShip(ship) && ships[ship].toGo == 0;
        }

        int blocksFor(int town) {
            int coming = 0;
            for (int i = 0; i < shipCount; i++) {
                if (ships[i].goesTo == town) {
                    coming += ships[i].blocks;
                }
            }
            return coming;
        }

        int blocksAtSea() {
            int blocks = 0;
            for (int i = 0; i < shipCount; i++) {
                blocks += ships[i].blocks;
            }
            return blocks;
        }

        int soldSoFar() {
            int sold = 0;
            for (int i = 0; i < townCount; i++) {
                sold += towns[i].sold;
            }
            return sold;
        }

        int homeBits() {
            int bits = 0;
            for (int i = 0; i < shipCount; i++) {
                bits |= isAtHome(i) ? 1 << i : 0;
            }
            return bits;
        }

        int houseBits() {
            int bits = 0;
            for (int i = 0; i < townCount; i++) {
                bits |= towns[i].house ? 1 << i : 0;
            }
            return bits;
        }

        /** How many blocks a SHIP can SAIL with, without DUST; where to makes no difference. */
        int mostBlocks(int ship) {
            if (!isAtHome(ship) || money < ships[ship].cost) {
                return 0;
            }
            int most = Math.min(ships[ship].hold, pond);
            return wage == 0 ? most : Math.min(most, (money - ships[ship].cost) / wage);
        }

        boolean canSail(int ship, int town, int blocks, boolean dust) {
            return isAtHome(ship) && hasTown(town)
                    && isWithin(blocks, 1, Math.min(ships[ship].hold, pond))
                    && fare(ship, blocks, dust) <= money;
        }

        void setSail(int ship, int town, int blocks, boolean dust) {
            if (!hasShip(ship) || !hasTown(town)) {
                return;
            }
            money -= fare(ship, blocks, dust);
            pond -= blocks;
            ships[ship].goesTo = town;
            ships[ship].toGo = towns[town].months;
            ships[ship].blocks = blocks;
            ships[ship].dust = dust;
        }

        private int fare(int ship, int blocks, boolean dust) {
            return hasShip(ship) ? ships[ship].cost + blocks * (dust ? wage + 1 : wage) : 0;
        }

        boolean canBuild(int town) {
            return hasTown(town) && !towns[town].house && money >= HOUSE_COST;
        }

        void putHouse(int town) {
            if (hasTown(town)) {
                towns[town].house = true;
                money -= HOUSE_COST;
            }
        }

        boolean isOut() {
            for (int i = 0; i < shipCount; i++) {
                if (!isAtHome(i) || (townCount > 0 && mostBlocks(i) >= 1)) {
                    return false;
                }
            }
            for (int i = 0; i < townCount; i++) {
                if (towns[i].stock > 0) {
                    return false;
                }
            }
            return true;
        }

        /** Answers how many blocks are SOLD; of a hundred that would grow, so many do. */
        int passMonth(Rule rule, int growing) {
            for (int i = 0; rule != null && i < shipCount; i++) {
                if (isAtHome(i)) {
                    sailByRule(rule, i);
                }
            }
            growPond(growing);
            for (int i = 0; i < shipCount; i++) {
                moveShip(ships[i]);
            }
            int sold = 0;
            for (int i = 0; i < townCount; i++) {
                int sells = towns[i].sellMonth();
                money = Math.min(MOST_MONEY, money + sells * towns[i].price);
                sold += sells;
            }
            month++;
            return sold;
        }

        private void sailByRule(Rule rule, int ship) {
            long most = 0;
            int where = NONE;
            for (int i = 0; i < townCount; i++) {
                long wished = rule.blocksWished(this, ship, i);
                if (wished > most) {
                    most = wished;
                    where = i;
                }
            }
            int blocks = (int) Math.min(most, mostBlocks(ship));
            if (blocks >= 1) {
                setSail(ship, where, blocks, false);
            }
        }

        private void growPond(int growing) {
            int grown = frost[Math.floorMod(month, YEAR)] * growing / 100;
            pond = grown > 0 ? Math.min(MOST_POND, pond + grown) : Town.melted(pond, POND_HEAT);
        }

        private void moveShip(Ship ship) {
            if (ship.toGo == 0) {
                return;
            }
            ship.toGo--;
            if (!hasTown(ship.goesTo)) {
                return;
            }
            Town town = towns[ship.goesTo];
            ship.blocks = Town.melted(ship.blocks, town.heatFor(ship.dust));
            if (ship.toGo == 0) {
                town.stock += ship.blocks;
                ship.unload();
                ship.toGo = town.months;
            }
        }
    }

    /** All that an IMAGE keeps. */
    static final class Book {
        static final int MOST_NOTES = 10;

        final World now = new World();
        /** The TRADE as its text told it: RULED begins there. */
        final World begin = new World();
        int inForce = NONE;
        int x;
        final int[] noteMonths = new int[MOST_NOTES];
        final int[] noteMoneys = new int[MOST_NOTES];
        int noteCount;

        void open(World told) {
            now.copyFrom(told);
            begin.copyFrom(told);
            noteCount = 0;
        }

        void addNote(int month, int money) {
            if (noteCount < MOST_NOTES) {
                noteMonths[noteCount] = month;
                noteMoneys[noteCount] = money;
                noteCount++;
            }
        }

        void copyFrom(Book other) {
            now.copyFrom(other.now);
            begin.copyFrom(other.begin);
            inForce = other.inForce;
            x = other.x;
            System.arraycopy(other.noteMonths, 0, noteMonths, 0, MOST_NOTES);
            System.arraycopy(other.noteMoneys, 0, noteMoneys, 0, MOST_NOTES);
            noteCount = other.noteCount;
        }
    }

    /** Answers what would come of acts, by trying them in a world of its own. */
    static final class Planner {
        static final int SEND = 1;
        static final int FLEET = 2;
        static final int GIVE = 3;
        static final int SITE = 4;
        static final int PRICING = 5;

        static final int MOST_MONTHS = 24;
        static final int MOST_AHEAD = 60;
        static final int OUT_MONTHS = 60;
        static final int MOST_TIMES = 10;
        static final int MOST_DRAWN = 60;
        static final int TENTHS = 10;

        final World trial = new World();
        final int[] best = new int[4];
        final int[] row = new int[World.MOST_SHIPS];
        /** What the row best answers now: a long search asked again in parts is made once. */
        int question;
        int about;
        int months;

        static boolean isSpan(int n) {
            return isWithin(n, 1, MOST_MONTHS);
        }

        void forget() {
            question = 0;
        }

        /** If it doesn't know, it is what will be looked for next. */
        boolean knows(int newQuestion, int newAbout, int n) {
            boolean known = question == newQuestion && about == newAbout && months == n;
            question = newQuestion;
            about = newAbout;
            months = n;
            return known;
        }

        World worldAfter(World from, Rule rule, int n) {
            trial.copyFrom(from);
            for (int i = 0; i < n; i++) {
                trial.passMonth(rule, World.ALL_GROWS);
            }
            return trial;
        }

        private int moneyThen(Rule rule) {
            for (int i = 0; i < months; i++) {
                trial.passMonth(rule, World.ALL_GROWS);
            }
            return trial.money;
        }

        private void setBest(int money, int first, int second, int third) {
            best[0] = money;
            best[1] = first;
            best[2] = second;
            best[3] = third;
        }

        /** What is found first stays among equals: the searches go in the order that is due. */
        private void keepBetter(int money, int first, int second, int third) {
            if (money > best[0]) {
                setBest(money, first, second, third);
            }
        }

        void findSend(World from, Rule rule, int ship) {
            setBest(worldAfter(from, rule, months).money, NONE, 0, 0);
            int most = from.mostBlocks(ship);
            for (int town = 0; town < from.townCount; town++) {
                for (int blocks = 1; blocks <= most; blocks++) {
                    for (int dust = 0; dust <= 1; dust++) {
                        if (from.canSail(ship, town, blocks, dust == 1)) {
                            trial.copyFrom(from);
                            trial.setSail(ship, town, blocks, dust == 1);
                            keepBetter(moneyThen(rule), town, blocks, dust);
                        }
                    }
                }
            }
        }

        void findFleet(World from, Rule rule) {
            int choices = from.townCount + 1;
            int rows = choices * choices * choices;
            setBest(NONE, NONE, NONE, NONE);
            for (int i = 0; i < rows; i++) {
                row[0] = i / choices / choices - 1;
                row[1] = i / choices % choices - 1;
                row[2] = i % choices - 1;
                if (sailsRow(from)) {
                    keepBetter(moneyThen(rule), row[0], row[1], row[2]);
                }
            }
        }

        /** Who can't SAIL stays, and a row in which it does came earlier: so this one is none. */
        private boolean sailsRow(World from) {
            trial.copyFrom(from);
            for (int ship = 0; ship < World.MOST_SHIPS; ship++) {
                if (row[ship] != NONE) {
                    int blocks = trial.mostBlocks(ship);
                    if (blocks < 1) {
                        return false;
                    }
                    trial.setSail(ship, row[ship], blocks, false);
                }
            }
            return true;
        }

        void findGift(World from, Rule rule, int town) {
            if (!from.hasTown(town)) {
                return;
            }
            setBest(NONE, 0, 0, 0);
            for (int blocks = 0; blocks <= from.towns[town].stock; blocks++) {
                trial.copyFrom(from);
                trial.towns[town].giveAway(blocks);
                keepBetter(moneyThen(rule), blocks, 0, 0);
            }
        }

        void findSite(World from, Rule rule) {
            setBest(worldAfter(from, rule, months).money, NONE, 0, 0);
            for (int town = 0; town < from.townCount; town++) {
                if (from.canBuild(town)) {
                    trial.copyFrom(from);
                    trial.putHouse(town);
                    keepBetter(moneyThen(rule), town, 0, 0);
                }
            }
        }

        void findPrice(World from, Rule rule, int town) {
            if (!from.hasTown(town)) {
                return;
            }
            setBest(NONE, 0, 0, 0);
            for (int price = 1; price <= Town.MOST_PRICE; price++) {
                trial.copyFrom(from);
                trial.towns[town].setPrice(price);
                keepBetter(moneyThen(rule), price, 0, 0);
            }
        }

        /** Twos of tenths that neither would leave. */
        void findPeace(Town town) {
            forget();
            setBest(0, MISSING, MISSING, 0);
            for (int mine = 1; mine <= TENTHS; mine++) {
                for (int other = 1; other <= TENTHS; other++) {
                    if (isContent(town, mine, other) && isContent(town, other, mine)) {
                        best[0]++;
                        if (best[1] == MISSING) {
                            best[1] = mine;
                            best[2] = other;
                        }
                    }
                }
            }
        }

        private static boolean isContent(Town town, int mine, int other) {
            int gain = gainOf(town, mine, other);
            for (int another = 1; another <= TENTHS; another++) {
                if (gainOf(town, another, other) > gain) {
                    return false;
                }
            }
            return true;
        }

        private static int gainOf(Town town, int mine, int other) {
            int myPrice = Math.max(1, town.price * mine / TENTHS);
            int otherPrice = Math.max(1, town.price * other / TENTHS);
            if (myPrice > otherPrice) {
                return 0;
            }
            return myPrice * (myPrice < otherPrice ? town.want : town.want / 2);
        }

        int monthOut(World from, Rule rule) {
            trial.copyFrom(from);
            for (int i = 0; i < OUT_MONTHS; i++) {
                if (trial.isOut()) {
                    return trial.month;
                }
                trial.passMonth(rule, World.ALL_GROWS);
            }
            return MISSING;
        }

        void findFirstBlocks(Town town, int came, boolean dust) {
            forget();
            setBest(0, MISSING, MISSING, 0);
            for (int first = 0; first <= Town.MOST_LOADED; first++) {
                if (town.arriving(first, dust) == came) {
                    best[0]++;
                    best[1] = best[1] == MISSING ? first : best[1];
                    best[2] = first;
                }
            }
        }

        void drawYears(Book book, Rule rule, int times, int n) {
            forget();
            setBest(0, 0, 0, 0);
            long x = book.x;
            for (int i = 0; i < times; i++) {
                trial.copyFrom(book.now);
                for (int j = 0; j < n; j++) {
                    x = (x * 1103515245L + 12345L) % 2147483648L;
                    best[1] += trial.passMonth(rule, (int) (x / 65536 % 101));
                }
                best[0] += trial.money;
            }
        }
    }

    /** Which RULES the NOTES allow. Row 0 is of no RULE, row 1 of RULE 0, and so on. */
    static final class Ledger {
        static final int LAST_NOTED = 60;

        final World trial = new World();
        final int[][] moneys = new int[MOST_RULES + 1][LAST_NOTED + 1];
        final boolean[] fits = new boolean[MOST_RULES + 1];

        void fill(Book book, Rule[] rules, int ruleCount) {
            for (int i = 0; i < fits.length; i++) {
                fits[i] = false;
            }
            for (int i = 0; i <= ruleCount && i < fits.length && i <= rules.length; i++) {
                fillRow(moneys[i], book.begin, i == 0 ? null : rules[i - 1]);
                fits[i] = agrees(moneys[i], book);
            }
        }

        private void fillRow(int[] money, World begin, Rule rule) {
            trial.copyFrom(begin);
            for (int i = 0; i < money.length; i++) {
                money[i] = trial.money;
                trial.passMonth(rule, World.ALL_GROWS);
            }
        }

        private static boolean agrees(int[] money, Book book) {
            for (int i = 0; i < book.noteCount && i < Book.MOST_NOTES; i++) {
                int month = book.noteMonths[i];
                if (!isWithin(month, 0, money.length - 1) || money[month] != book.noteMoneys[i]) {
                    return false;
                }
            }
            return true;
        }

        int fitting() {
            int fitting = 0;
            for (int i = 0; i < fits.length; i++) {
                fitting += fits[i] ? 1 : 0;
            }
            return fitting;
        }

        int firstFitting() {
            for (int i = 0; i < fits.length; i++) {
                if (fits[i]) {
                    return i - 1;
                }
            }
            return MISSING;
        }

        int partingMonth() {
            int least = fits.length + 1;
            int parting = 0;
            for (int month = 0; month <= LAST_NOTED; month++) {
                int alike = mostAlike(month);
                if (alike < least) {
                    least = alike;
                    parting = month;
                }
            }
            return parting;
        }

        int mostAlike(int month) {
            int most = 0;
            for (int i = 0; i < fits.length; i++) {
                int alike = 0;
                for (int j = 0; fits[i] && j < fits.length; j++) {
                    alike += fits[j] && moneys[j][month] == moneys[i][month] ? 1 : 0;
                }
                most = Math.max(most, alike);
            }
            return most;
        }
    }
}
