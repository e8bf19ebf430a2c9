import java.util.Arrays;

/** A survey house whose maps eat what is on them unless they are fed. */
public final class HungryMaps {
    public static final int NONE = -1;

    private static final int NO_TASTE = -1000000;
    private static final int TAPE_LIMIT = 1600;
    private static final int FOODS = 3;
    private static final int MAPS = 4;
    private static final int PLACES = 8;
    private static final int BORDERS = 6;
    private static final int DRAWERS = 4;
    private static final int MOST_SIZE = 60;
    private static final int MOST_HUNGER = 99;
    private static final int MOST_YEARS = 999;
    private static final int BOXES = 3;

    // Where each thing of a State stands in its one row of numbers.
    private static final int STORE = 0;
    private static final int TROUGH = STORE + FOODS;
    private static final int SIZE = TROUGH + MAPS * FOODS;
    private static final int HOLES = SIZE + PLACES;
    private static final int EATEN = HOLES + PLACES;
    private static final int DRAWER = EATEN + MAPS;
    private static final int FOLDED = DRAWER + MAPS;
    private static final int YEAR = FOLDED + 1;
    private static final int COLD = YEAR + 1;
    private static final int SEED = COLD + 1;
    private static final int CELLS = SEED + 1;

    // Kinds of tokens; a sign's kind is the sign itself, a word's kind its turn in WORDS.
    private static final int END = 0;
    private static final int BAD = 1;
    private static final int NAME = 2;
    private static final int NUMBER = 3;
    private static final String SIGNS = ";()<>=+-*/%";
    private static final String WORDS = "food map place likes border taste winter draw scale year eaten cold size worth holes hunger in folded on or and not ";
    private static final int FIRST_WORD = 128;
    private static final int W_FOOD = FIRST_WORD;
    private static final int W_MAP = FIRST_WORD + 1;
    private static final int W_PLACE = FIRST_WORD + 2;
    private static final int W_LIKES = FIRST_WORD + 3;
    private static final int W_BORDER = FIRST_WORD + 4;
    private static final int W_TASTE = FIRST_WORD + 5;
    private static final int W_WINTER = FIRST_WORD + 6;
    private static final int W_DRAW = FIRST_WORD + 7;
    private static final int W_SCALE = FIRST_WORD + 8;
    private static final int W_YEAR = FIRST_WORD + 9;
    private static final int W_EATEN = FIRST_WORD + 10;
    private static final int W_COLD = FIRST_WORD + 11;
    private static final int W_SIZE = FIRST_WORD + 12;
    private static final int W_WORTH = FIRST_WORD + 13;
    private static final int W_HOLES = FIRST_WORD + 14;
    private static final int W_HUNGER = FIRST_WORD + 15;
    private static final int W_IN = FIRST_WORD + 16;
    private static final int W_FOLDED = FIRST_WORD + 17;
    private static final int W_ON = FIRST_WORD + 18;
    private static final int W_OR = FIRST_WORD + 19;
    private static final int W_AND = FIRST_WORD + 20;
    private static final int W_NOT = FIRST_WORD + 21;

    private static final int FAULT_TOKEN = 1;
    private static final int FAULT_STAND = 2;
    private static final int FAULT_TWICE = 3;
    private static final int FAULT_NUMBER = 4;
    private static final int FAULT_UNKNOWN = 5;

    private final Tape tape = new Tape();
    private final Reader reader = new Reader(tape);
    private House told = new House();
    private final Engine engine = new Engine(told);
    private final History history = new History();
    private final Foresight foresight = new Foresight(engine);
    private final Rations rations = new Rations(engine);
    private final Trials trials = new Trials();
    private final State[] boxes = new State[BOXES];
    private int filledBoxes = 0;

    public HungryMaps() {
        for (int i = 0; i < BOXES; i++) {
            boxes[i] = new State();
        }
    }

    public int feed(int a, int b, int c, int d, int e) {
        if (tape.length + 20 > TAPE_LIMIT) {
            return NONE;
        }
        tape.append(a);
        tape.append(b);
        tape.append(c);
        tape.append(d);
        tape.append(e);
        return tape.length;
    }

    public int end(int n) {
        if (n < 0 || n > tape.length) {
            return NONE;
        }
        tape.length = n;
        return n;
    }

    public int house() {
        tape.scan();
        if (!reader.readAll()) {
            return NONE;
        }
        House old = told;
        told = reader.house;
        reader.house = old;
        engine.house = told;
        tape.length = 0;
        history.restart(told.first);
        rations.lying = 0;
        trials.count = 0;
        filledBoxes = 0;
        return told.maps;
    }

    public int fault(int what) {
        if (what == 0) {
            return reader.faultKind;
        }
        return what == 1 ? reader.faultPlace : NONE;
    }

    public int store(int food) {
        return isFood(food) ? history.now().cells[STORE + food] : NONE;
    }

    public int map(int map, int what) {
        if (!isMap(map)) {
            return NONE;
        }
        State now = history.now();
        switch (what) {
            case 0:
                return told.scales[map];
            case 1:
                return engine.hungerOf(now, map);
            case 2:
                return engine.givenTo(now, map);
            case 3:
                return now.cells[EATEN + map];
            case 4:
                return now.cells[FOLDED] >> map & 1;
            case 5:
                return now.cells[DRAWER + map];
            case 6:
                return told.mapPlaces[map];
            case 7:
                return told.neighbours[map];
            default:
                return NONE;
        }
    }

    public int place(int place, int what) {
        if (!isPlace(place)) {
            return NONE;
        }
        switch (what) {
            case 0:
                return history.now().cells[SIZE + place];
            case 1:
                return told.worths[place];
            case 2:
                return history.now().cells[HOLES + place];
            case 3:
                return told.placeMaps[place];
            default:
                return NONE;
        }
    }

    public int taste(int place, int map) {
        if (!isPlace(place) || !isMap(map)) {
            return NO_TASTE;
        }
        return engine.tasteOf(history.now(), place, map);
    }

    public int likes(int map, int food) {
        return isMap(map) && isFood(food) ? told.liking[map * FOODS + food] : NONE;
    }

    public int trough(int map, int food) {
        return isMap(map) && isFood(food) ? history.now().cells[TROUGH + map * FOODS + food] : NONE;
    }

    public int give(int map, int food, int n) {
        if (!isMap(map) || !isFood(food) || n < 1 || n > 99 || n > history.now().cells[STORE + food]) {
            return NONE;
        }
        State next = history.advance();
        next.cells[STORE + food] -= n;
        next.cells[TROUGH + map * FOODS + food] += n;
        return next.cells[STORE + food];
    }

    public int fold(int map) {
        if (!isMap(map)) {
            return NONE;
        }
        State next = history.advance();
        next.cells[FOLDED] ^= 1 << map;
        return next.cells[FOLDED] >> map & 1;
    }

    public int put(int map, int drawer) {
        if (!isMap(map) || drawer < 0 || drawer >= DRAWERS) {
            return NONE;
        }
        State next = history.advance();
        int before = next.cells[DRAWER + map];
        next.cells[DRAWER + map] = drawer;
        return before;
    }

    public int year() {
        State before = history.now();
        if (before.cells[YEAR] >= MOST_YEARS) {
            return NONE;
        }
        State next = history.advance();
        engine.passYear(next);
        return Integer.bitCount(engine.smaller(before, next));
    }

    public boolean undo() {
        return history.stepBack();
    }

    public boolean redo() {
        return history.stepOn();
    }

    public int hungry() {
        State now = history.now();
        int bits = 0;
        for (int map = 0; map < told.maps; map++) {
            if (engine.givenTo(now, map) < engine.hungerOf(now, map)) {
                bits |= 1 << map;
            }
        }
        return bits;
    }

    public int needs(int map, int food) {
        if (!isMap(map) || !isFood(food)) {
            return NONE;
        }
        int lack = engine.hungerOf(history.now(), map) - engine.givenTo(history.now(), map);
        if (lack <= 0) {
            return 0;
        }
        int liking = told.liking[map * FOODS + food];
        return liking <= 0 ? NONE : (lack + liking - 1) / liking;
    }

    public int over(int map) {
        if (!isMap(map)) {
            return NONE;
        }
        return Math.max(0, engine.givenTo(history.now(), map) - engine.hungerOf(history.now(), map));
    }

    public int bitesIn(int map) {
        return isMap(map) ? foresight.firstBite(history.now(), map) : NONE;
    }

    public int will(int place, int n) {
        if (!isPlace(place) || n < 0 || n > 40) {
            return NONE;
        }
        return foresight.after(history.now(), n).cells[SIZE + place];
    }

    public int doom(int what) {
        if (what != 0 && what != 1) {
            return NONE;
        }
        int years = foresight.yearsToLoss(history.now());
        return what == 0 ? years : foresight.lostPlace;
    }

    public int bitten() {
        return engine.smaller(history.now(), foresight.after(history.now(), 1));
    }

    public int gone() {
        return engine.goneIn(history.now());
    }

    public int land(int n) {
        return n < 0 || n > 40 ? NONE : engine.landIn(foresight.after(history.now(), n));
    }

    public int ration(int food, int set) {
        rations.lying = 0;
        if (!isFood(food) || set < 0 || set >> told.places != 0) {
            return NONE;
        }
        return rations.fewest(history.now(), food, set);
    }

    public int keep(int food, int n) {
        rations.lying = 0;
        if (!isFood(food) || told.maps == 0 || n < 0 || n > 12 || n > history.now().cells[STORE + food]) {
            return NONE;
        }
        return rations.mostKept(history.now(), food, n);
    }

    public int folds(int n, int what) {
        if (n < 1 || n > 20 || what < 0 || what > 1) {
            return NONE;
        }
        int set = foresight.mapsToFold(history.now(), n);
        return set == NONE || what == 1 ? set : Integer.bitCount(set);
    }

    public int drawers(int n) {
        return n < 1 || n > DRAWERS ? NONE : rations.layDrawers(n);
    }

    public int least() {
        if (told.maps == 0) {
            return 0;
        }
        for (int n = 1; n <= DRAWERS; n++) {
            if (rations.waysInto(n) > 0) {
                return n;
            }
        }
        return NONE;
    }

    public int bites() {
        int ends = 0;
        for (int map = 0; map < told.maps; map++) {
            ends += engine.bitingBorders(history.now(), map);
        }
        return ends / 2;
    }

    public int odds(int place, int n, int part) {
        if (!isPlace(place) || n < 0 || n > 7 || part < 0 || part > 1) {
            return NONE;
        }
        int upper = foresight.standing(history.now(), place, n);
        int lower = 1 << Math.max(0, n - 1);
        for (int i = 0; i < 7 && lower > 1 && upper % 2 == 0; i++) {
            upper /= 2;
            lower /= 2;
        }
        return part == 0 ? upper : lower;
    }

    public int lies(int i) {
        return i < 0 || i >= rations.lying || i >= MAPS ? NONE : rations.heap[i];
    }

    public int trial(int a, int b, int c, int hunger, boolean isFull) {
        if (!isAmount(a) || !isAmount(b) || !isAmount(c) || !isTrialHunger(hunger)) {
            return NONE;
        }
        return trials.tell(a, b, c, hunger, isFull);
    }

    public boolean untell(int trial) {
        return trials.takeBack(trial);
    }

    public int later(int by) {
        if (by < 0 || by > 1000 || trials.time + by > 100000) {
            return NONE;
        }
        trials.time += by;
        return trials.time;
    }

    public int fit(int k) {
        return trials.countFitting(told.foods, k);
    }

    public int sure(int food, int k) {
        return isFood(food) ? trials.sureLiking(told.foods, food, k) : NONE;
    }

    public int ask(int hunger, int what, int k) {
        if (!isTrialHunger(hunger) || what < 0 || what > 1 || told.foods == 0) {
            return NONE;
        }
        return trials.nextTrial(told.foods, hunger, what, k);
    }

    public int image(int box) {
        if (box < 0 || box >= BOXES) {
            return NONE;
        }
        boxes[box].copyFrom(history.now());
        filledBoxes |= 1 << box;
        return boxes[box].cells[YEAR];
    }

    public int back(int box) {
        if (box < 0 || box >= BOXES || (filledBoxes >> box & 1) == 0) {
            return NONE;
        }
        history.restart(boxes[box]);
        return boxes[box].cells[YEAR];
    }

    public int about(int what) {
        int[] cells = history.now().cells;
        switch (what) {
            case 0:
                return told.maps;
            case 1:
                return told.foods;
            case 2:
                return told.places;
            case 3:
                return told.borders;
            case 4:
                return cells[YEAR];
            case 5:
                return cells[COLD];
            case 6:
                return cells[SEED];
            case 7:
                return cells[FOLDED];
            case 8:
                return history.done;
            case 9:
                return history.undone;
            case 10:
                return trials.count;
            case 11:
                return trials.time;
            case 12:
                return tape.length;
            case 13:
                return told.formulas.units;
            case 14:
                return rations.lying;
            default:
                return NONE;
        }
    }

    private boolean isFood(int food) {
        return food >= 0 && food < told.foods;
    }

    private boolean isMap(int map) {
        return map >= 0 && map < told.maps;
    }

    private boolean isPlace(int place) {
        return place >= 0 && place < told.places;
    }

    private static boolean isAmount(int n) {
        return n >= 0 && n <= 9;
    }

    private static boolean isTrialHunger(int hunger) {
        return hunger >= 1 && hunger <= MOST_HUNGER;
    }

    /** The bytes that were fed, and the tokens that they make. */
    private static final class Tape {
        final byte[] bytes = new byte[TAPE_LIMIT];
        // One more than there are bytes, for the END or BAD that closes each row.
        final int[] kinds = new int[TAPE_LIMIT + 1];
        final int[] starts = new int[TAPE_LIMIT + 1];
        // Of a number its value, of a word its letters, eight bits each.
        final long[] values = new long[TAPE_LIMIT + 1];
        int length = 0;
        int tokens = 0;

        void append(int number) {
            for (int shift = 24; shift >= 0 && length < TAPE_LIMIT; shift -= 8) {
                bytes[length] = (byte) (number >> shift);
                length++;
            }
        }

        /** Makes the row of tokens anew; a place without a token ends it with BAD. */
        void scan() {
            tokens = 0;
            int i = 0;
            for (int turns = 0; turns < TAPE_LIMIT && i < length; turns++) {
                int sign = bytes[i] & 255;
                if (sign == ' ' || sign == 10) {
                    i++;
                } else if (isLetter(i) && !(i > 0 && isDigit(i - 1))) {
                    i += scanWord(i);
                } else if (isDigit(i)) {
                    i += scanNumber(i);
                } else if (SIGNS.indexOf((char) sign) >= 0) {
                    addToken(sign, i, 0);
                    i++;
                } else {
                    addToken(BAD, i, 0);
                    return;
                }
            }
            addToken(END, length, 0);
        }

        private int scanWord(int from) {
            long letters = 0;
            int n = 0;
            while (n < 8 && isLetter(from + n)) {
                letters = letters << 8 | bytes[from + n] & 255;
                n++;
            }
            addToken(kindOfWord(letters), from, letters);
            return Math.max(1, n);
        }

        private int scanNumber(int from) {
            int value = 0;
            int n = 0;
            while (n < 4 && isDigit(from + n)) {
                value = value * 10 + bytes[from + n] - '0';
                n++;
            }
            addToken(NUMBER, from, value);
            return Math.max(1, n);
        }

        private static int kindOfWord(long letters) {
            long word = 0;
            int kind = FIRST_WORD;
            for (int i = 0; i < WORDS.length(); i++) {
                char c = WORDS.charAt(i);
                if (c != ' ') {
                    word = word << 8 | c;
                } else if (word == letters) {
                    return kind;
                } else {
                    word = 0;
                    kind++;
                }
            }
            return NAME;
        }

        private void addToken(int kind, int start, long value) {
            if (tokens < kinds.length) {
                kinds[tokens] = kind;
                starts[tokens] = start;
                values[tokens] = value;
                tokens++;
            }
        }

        private boolean isLetter(int i) {
            return i >= 0 && i < length && bytes[i] >= 'a' && bytes[i] <= 'z';
        }

        private boolean isDigit(int i) {
            return i >= 0 && i < length && bytes[i] >= '0' && bytes[i] <= '9';
        }
    }

    /** Reads the tokens of the tape into a house, or finds the first fault. */
    private static final class Reader {
        private static final int UNITS_IN_ALL = 90;
        private static final int UNITS_IN_ONE = 30;
        private static final int DEEPEST = 7;
        private static final int OR_LEVEL = 0;
        private static final int AND_LEVEL = 1;
        private static final int ONE_LEVEL = 2;
        private static final int SUM_LEVEL = 3;
        private static final int TERM_LEVEL = 4;

        final Tape tape;
        // Not the told house, so that a faulty text leaves that one whole; a good one changes places with it.
        House house = new House();
        int at = 0;
        int unitsHere = 0;
        int faultKind = 0;
        int faultPlace = NONE;

        Reader(Tape tape) {
            this.tape = tape;
        }

        boolean readAll() {
            house.clear();
            at = 0;
            faultKind = 0;
            faultPlace = NONE;
            boolean isFine = true;
            for (int lines = 0; isFine && lines < tape.tokens && kind() != END; lines++) {
                int first = kind();
                if (!house.hasRoomFor(first)) {
                    return blame(FAULT_STAND);
                }
                at++;
                switch (first) {
                    case W_FOOD:
                        isFine = foodLine();
                        break;
                    case W_MAP:
                        isFine = mapLine();
                        break;
                    case W_PLACE:
                        isFine = placeLine();
                        break;
                    case W_LIKES:
                        isFine = likesLine();
                        break;
                    case W_BORDER:
                        isFine = borderLine();
                        break;
                    case W_TASTE:
                        house.isTasteTold = true;
                        isFine = formula(MAPS);
                        break;
                    case W_WINTER:
                        house.isWinterTold = true;
                        house.first.cells[COLD] = 1;
                        break;
                    default:
                        isFine = drawLine();
                        break;
                }
                isFine = isFine && take(';');
            }
            return isFine;
        }

        private boolean foodLine() {
            if (!newName(house.foodNames, house.foods)) {
                return false;
            }
            int amount = number(0, 99);
            if (amount < 0) {
                return false;
            }
            house.first.cells[STORE + house.foods] = amount;
            house.foods++;
            return true;
        }

        private boolean mapLine() {
            int map = house.maps;
            if (!newName(house.mapNames, map) || !take(W_SCALE)) {
                return false;
            }
            int scale = number(1, 9);
            if (scale < 0 || !take(W_HUNGER) || !formula(map)) {
                return false;
            }
            int drawer = 0;
            if (kind() == W_IN) {
                at++;
                drawer = number(0, DRAWERS - 1);
                if (drawer < 0) {
                    return false;
                }
            }
            if (kind() == W_FOLDED) {
                at++;
                house.first.cells[FOLDED] |= 1 << map;
            }
            house.scales[map] = scale;
            house.first.cells[DRAWER + map] = drawer;
            house.maps++;
            return true;
        }

        private boolean placeLine() {
            int place = house.places;
            if (!newName(house.placeNames, place) || !take(W_SIZE)) {
                return false;
            }
            int size = number(1, MOST_SIZE);
            if (size < 0 || !take(W_WORTH)) {
                return false;
            }
            int worth = number(0, 9);
            if (worth < 0 || !take(W_ON) || !mapsOfPlace(place)) {
                return false;
            }
            house.first.cells[SIZE + place] = size;
            house.worths[place] = worth;
            house.places++;
            return true;
        }

        private boolean mapsOfPlace(int place) {
            // A map stands here once, so a row with more names than maps ends in a fault.
            for (int names = 0; names == 0 || names <= MAPS && kind() == NAME; names++) {
                int map = knownName(house.mapNames, house.maps);
                if (map < 0) {
                    return false;
                }
                if ((house.placeMaps[place] >> map & 1) != 0) {
                    return blame(FAULT_TWICE);
                }
                house.placeMaps[place] |= 1 << map;
                house.mapPlaces[map] |= 1 << place;
                at++;
            }
            return true;
        }

        private boolean likesLine() {
            int map = knownName(house.mapNames, house.maps);
            if (map < 0) {
                return false;
            }
            at++;
            int food = knownName(house.foodNames, house.foods);
            if (food < 0) {
                return false;
            }
            int pair = map * FOODS + food;
            if ((house.likingsTold >> pair & 1) != 0) {
                return blame(FAULT_TWICE);
            }
            at++;
            int liking = number(0, 9);
            if (liking < 0) {
                return false;
            }
            house.likingsTold |= 1 << pair;
            house.liking[pair] = liking;
            return true;
        }

        private boolean borderLine() {
            int one = knownName(house.mapNames, house.maps);
            if (one < 0) {
                return false;
            }
            at++;
            int other = knownName(house.mapNames, house.maps);
            if (other < 0) {
                return false;
            }
            if (one == other || (house.neighbours[one] >> other & 1) != 0) {
                return blame(FAULT_TWICE);
            }
            at++;
            house.neighbours[one] |= 1 << other;
            house.neighbours[other] |= 1 << one;
            house.borders++;
            return true;
        }

        private boolean drawLine() {
            int seed = number(0, 999);
            if (seed < 0) {
                return false;
            }
            house.isDrawTold = true;
            house.first.cells[SEED] = seed;
            return true;
        }

        private boolean formula(int index) {
            unitsHere = 0;
            house.formulas.open(index);
            if (!climb(OR_LEVEL, 0)) {
                return false;
            }
            house.formulas.close(index);
            return true;
        }

        /** Reads what binds at least as tightly as the level; depth counts the units and nots around it. */
        private boolean climb(int level, int depth) {
            int tightest = TERM_LEVEL;
            if (kind() == W_NOT && level <= ONE_LEVEL) {
                if (depth >= DEEPEST) {
                    return blame(FAULT_STAND);
                }
                at++;
                if (!climb(ONE_LEVEL, depth + 1)) {
                    return false;
                }
                house.formulas.add(-W_NOT);
                tightest = AND_LEVEL;
            } else if (!unit(depth)) {
                return false;
            }
            for (int turns = 0; turns < tape.tokens; turns++) {
                int sign = kind();
                int binding = levelOf(sign);
                if (binding < level || binding > tightest) {
                    return true;
                }
                at++;
                if (!climb(binding + 1, depth)) {
                    return false;
                }
                house.formulas.add(-sign);
                // A relation stands once in a one: no second one may follow it.
                tightest = binding == ONE_LEVEL ? AND_LEVEL : binding;
            }
            return true;
        }

        private boolean unit(int depth) {
            int kind = kind();
            boolean isVariable = kind >= W_SCALE && kind <= W_HOLES;
            if (kind != NUMBER && kind != '(' && !isVariable) {
                return blame(FAULT_STAND);
            }
            if (unitsHere >= UNITS_IN_ONE || house.formulas.units >= UNITS_IN_ALL) {
                return blame(FAULT_STAND);
            }
            if (kind == '(' && depth >= DEEPEST) {
                return blame(FAULT_STAND);
            }
            unitsHere++;
            house.formulas.units++;
            if (kind == '(') {
                at++;
                return climb(OR_LEVEL, depth + 1) && take(')');
            }
            house.formulas.add(isVariable ? -kind : (int) value());
            at++;
            return true;
        }

        private static int levelOf(int sign) {
            switch (sign) {
                case W_OR:
                    return OR_LEVEL;
                case W_AND:
                    return AND_LEVEL;
                case '<':
                case '>':
                case '=':
                    return ONE_LEVEL;
                case '+':
                case '-':
                    return SUM_LEVEL;
                case '*':
                case '/':
                case '%':
                    return TERM_LEVEL;
                default:
                    return NONE;
            }
        }

        private boolean newName(long[] names, int count) {
            if (kind() != NAME) {
                return blame(FAULT_STAND);
            }
            if (indexOf(names, count) >= 0) {
                return blame(FAULT_TWICE);
            }
            if (count >= 0 && count < names.length) {
                names[count] = value();
            }
            at++;
            return true;
        }

        /** The number of the thing that bears the name here; NONE, with a fault, if there is none. */
        private int knownName(long[] names, int count) {
            if (kind() != NAME) {
                blame(FAULT_STAND);
                return NONE;
            }
            int index = indexOf(names, count);
            if (index < 0) {
                blame(FAULT_UNKNOWN);
            }
            return index;
        }

        private int indexOf(long[] names, int count) {
            for (int i = 0; i < count && i < names.length; i++) {
                if (names[i] == value()) {
                    return i;
                }
            }
            return NONE;
        }

        /** The number here; NONE, with a fault, if it is none or can't be. */
        private int number(int low, int high) {
            if (kind() != NUMBER) {
                blame(FAULT_STAND);
                return NONE;
            }
            int number = (int) value();
            if (number < low || number > high) {
                blame(FAULT_NUMBER);
                return NONE;
            }
            at++;
            return number;
        }

        private boolean take(int kind) {
            if (kind() != kind) {
                return blame(FAULT_STAND);
            }
            at++;
            return true;
        }

        private int kind() {
            return at >= 0 && at < tape.tokens ? tape.kinds[at] : END;
        }

        private long value() {
            return at >= 0 && at < tape.tokens ? tape.values[at] : 0;
        }

        /** Tells the fault at the token here; where there is none, that is the fault. Always false. */
        private boolean blame(int fault) {
            boolean isToken = at >= 0 && at < tape.tokens;
            faultKind = isToken && tape.kinds[at] == BAD ? FAULT_TOKEN : fault;
            faultPlace = isToken ? tape.starts[at] : tape.length;
            return false;
        }
    }

    /** All formulas of a house in one row, operands ahead of their signs: hunger by map, then taste. */
    private static final class Formulas {
        // Each entry comes from a token of its own, and a tape has no more of these than bytes.
        final int[] code = new int[TAPE_LIMIT];
        final int[] from = new int[MAPS + 1];
        final int[] to = new int[MAPS + 1];
        // By the turn of the words scale .. holes.
        final int[] inputs = new int[W_HOLES - W_SCALE + 1];
        final int[] stack = new int[64];
        int used = 0;
        int units = 0;

        void clear() {
            used = 0;
            units = 0;
            Arrays.fill(from, 0);
            Arrays.fill(to, 0);
        }

        void open(int index) {
            if (index >= 0 && index < from.length) {
                from[index] = used;
                to[index] = used;
            }
        }

        void close(int index) {
            if (index >= 0 && index < to.length) {
                to[index] = used;
            }
        }

        /** A number is told as it is, a word or a sign by its kind below 0. */
        void add(int entry) {
            if (used < code.length) {
                code[used] = entry;
                used++;
            }
        }

        /** What comes of a formula by the inputs as they are set. */
        int valueOf(int index) {
            int top = 0;
            for (int i = from[index]; i < to[index] && i < code.length; i++) {
                int entry = code[i];
                int kind = -entry;
                boolean isVariable = kind >= W_SCALE && kind <= W_HOLES;
                if ((entry >= 0 || isVariable) && top < stack.length) {
                    stack[top] = isVariable ? inputs[kind - W_SCALE] : entry;
                    top++;
                } else if (kind == W_NOT && top >= 1) {
                    stack[top - 1] = stack[top - 1] == 0 ? 1 : 0;
                } else if (top >= 2) {
                    top--;
                    int a = stack[top - 1];
                    int b = stack[top];
                    switch (kind) {
                        case '+':
                            stack[top - 1] = a + b;
                            break;
                        case '-':
                            stack[top - 1] = a - b;
                            break;
                        case '*':
                            stack[top - 1] = a * b;
                            break;
                        case '/':
                            stack[top - 1] = b == 0 ? 0 : a / b;
                            break;
                        case '%':
                            stack[top - 1] = b == 0 ? 0 : a % b;
                            break;
                        case '<':
                            stack[top - 1] = a < b ? 1 : 0;
                            break;
                        case '>':
                            stack[top - 1] = a > b ? 1 : 0;
                            break;
                        case '=':
                            stack[top - 1] = a == b ? 1 : 0;
                            break;
                        case W_AND:
                            stack[top - 1] = a != 0 && b != 0 ? 1 : 0;
                            break;
                        default:
                            stack[top - 1] = a != 0 || b != 0 ? 1 : 0;
                            break;
                    }
                }
            }
            return top > 0 ? stack[top - 1] : 0;
        }
    }

    /** What a text tells and no act changes, with the state that it tells to begin with. */
    private static final class House {
        final long[] foodNames = new long[FOODS];
        final long[] mapNames = new long[MAPS];
        final long[] placeNames = new long[PLACES];
        final int[] scales = new int[MAPS];
        final int[] worths = new int[PLACES];
        final int[] placeMaps = new int[PLACES];
        final int[] mapPlaces = new int[MAPS];
        final int[] neighbours = new int[MAPS];
        final int[] liking = new int[MAPS * FOODS];
        final Formulas formulas = new Formulas();
        final State first = new State();
        int foods = 0;
        int maps = 0;
        int places = 0;
        int borders = 0;
        int likingsTold = 0;
        boolean isTasteTold = false;
        boolean isWinterTold = false;
        boolean isDrawTold = false;

        void clear() {
            Arrays.fill(placeMaps, 0);
            Arrays.fill(mapPlaces, 0);
            Arrays.fill(neighbours, 0);
            Arrays.fill(liking, 1);
            Arrays.fill(first.cells, 0);
            formulas.clear();
            foods = 0;
            maps = 0;
            places = 0;
            borders = 0;
            likingsTold = 0;
            isTasteTold = false;
            isWinterTold = false;
            isDrawTold = false;
        }

        /** Whether a line of this first word can still come. */
        boolean hasRoomFor(int word) {
            switch (word) {
                case W_FOOD:
                    return foods < FOODS;
                case W_MAP:
                    return maps < MAPS;
                case W_PLACE:
                    return places < PLACES;
                case W_LIKES:
                    return Integer.bitCount(likingsTold) < MAPS * FOODS;
                case W_BORDER:
                    return borders < BORDERS;
                case W_TASTE:
                    return !isTasteTold;
                case W_WINTER:
                    return !isWinterTold;
                case W_DRAW:
                    return !isDrawTold;
                default:
                    return false;
            }
        }
    }

    /** All that acts change, in one row so that it is quickly kept and brought back. */
    private static final class State {
        final int[] cells = new int[CELLS];

        void copyFrom(State other) {
            System.arraycopy(other.cells, 0, cells, 0, CELLS);
        }
    }

    /** How maps hunger, bite and grow by the house as told. */
    private static final class Engine {
        House house;

        Engine(House house) {
            this.house = house;
        }

        int hungerOf(State state, int map) {
            if ((state.cells[FOLDED] >> map & 1) != 0) {
                return 0;
            }
            setInputs(state, map, 0, 0, 0);
            int own = Math.min(MOST_HUNGER, Math.max(0, house.formulas.valueOf(map)));
            return Math.min(MOST_HUNGER, own + 2 * bitingBorders(state, map));
        }

        /** Borders of a map to those in its drawer, if none of both is folded. */
        int bitingBorders(State state, int map) {
            int open = ~state.cells[FOLDED];
            if ((open >> map & 1) == 0) {
                return 0;
            }
            int count = 0;
            for (int other = 0; other < house.maps; other++) {
                boolean isNear = state.cells[DRAWER + other] == state.cells[DRAWER + map];
                if (isNear && (house.neighbours[map] & open & 1 << other) != 0) {
                    count++;
                }
            }
            return count;
        }

        int givenTo(State state, int map) {
            int given = 0;
            for (int food = 0; food < house.foods; food++) {
                int pair = map * FOODS + food;
                given += state.cells[TROUGH + pair] * house.liking[pair];
            }
            return given;
        }

        int tasteOf(State state, int place, int map) {
            if (!house.isTasteTold) {
                return state.cells[SIZE + place];
            }
            setInputs(state, map, state.cells[SIZE + place], house.worths[place], state.cells[HOLES + place]);
            return house.formulas.valueOf(MAPS);
        }

        private void setInputs(State state, int map, int size, int worth, int holes) {
            int[] inputs = house.formulas.inputs;
            inputs[W_SCALE - W_SCALE] = house.scales[map];
            inputs[W_YEAR - W_SCALE] = state.cells[YEAR];
            inputs[W_EATEN - W_SCALE] = state.cells[EATEN + map];
            inputs[W_COLD - W_SCALE] = state.cells[COLD];
            inputs[W_SIZE - W_SCALE] = size;
            inputs[W_WORTH - W_SCALE] = worth;
            inputs[W_HOLES - W_SCALE] = holes;
        }

        void passYear(State state) {
            for (int map = 0; map < house.maps; map++) {
                eat(state, map, hungerOf(state, map));
            }
            turnYear(state);
        }

        /** One map's part of a year; its hunger is handed in, as searches need it often and it stays. */
        void eat(State state, int map, int hunger) {
            int rest = hunger - givenTo(state, map);
            // Each bite but the last takes a whole place.
            for (int bites = 0; bites < PLACES && rest > 0; bites++) {
                int place = tastiest(state, map);
                if (place == NONE) {
                    break;
                }
                int bite = Math.min(rest, state.cells[SIZE + place]);
                state.cells[SIZE + place] -= bite;
                state.cells[HOLES + place]++;
                state.cells[EATEN + map] += bite;
                rest -= bite;
            }
            int smallest = rest < 0 ? smallestOn(state, map) : NONE;
            if (smallest != NONE) {
                int size = state.cells[SIZE + smallest] - rest;
                state.cells[SIZE + smallest] = Math.min(MOST_SIZE, size);
            }
        }

        private int tastiest(State state, int map) {
            int best = NONE;
            int bestTaste = 0;
            for (int place = 0; place < house.places; place++) {
                if ((house.mapPlaces[map] >> place & 1) == 0 || state.cells[SIZE + place] <= 0) {
                    continue;
                }
                int taste = tasteOf(state, place, map);
                if (best == NONE || taste > bestTaste) {
                    best = place;
                    bestTaste = taste;
                }
            }
            return best;
        }

        private int smallestOn(State state, int map) {
            int best = NONE;
            for (int place = 0; place < house.places; place++) {
                boolean isOn = (house.mapPlaces[map] >> place & 1) != 0;
                if (isOn && (best == NONE || state.cells[SIZE + place] < state.cells[SIZE + best])) {
                    best = place;
                }
            }
            return best;
        }

        private void turnYear(State state) {
            int[] cells = state.cells;
            Arrays.fill(cells, TROUGH, TROUGH + MAPS * FOODS, 0);
            cells[SEED] = (cells[SEED] * 137 + 71) % 1000;
            cells[COLD] = cells[SEED] / 10 % 2;
            cells[YEAR]++;
        }

        int smaller(State before, State after) {
            int bits = 0;
            for (int place = 0; place < house.places; place++) {
                if (after.cells[SIZE + place] < before.cells[SIZE + place]) {
                    bits |= 1 << place;
                }
            }
            return bits;
        }

        int goneIn(State state) {
            int bits = 0;
            for (int place = 0; place < house.places; place++) {
                if (state.cells[SIZE + place] <= 0) {
                    bits |= 1 << place;
                }
            }
            return bits;
        }

        int landIn(State state) {
            int land = 0;
            for (int place = 0; place < house.places; place++) {
                land += state.cells[SIZE + place] * house.worths[place];
            }
            return land;
        }
    }

    /** The states between acts, in a ring: undoing and redoing only moves along it. */
    private static final class History {
        private static final int MOST_ACTS = 40;

        final State[] ring = new State[MOST_ACTS + 1];
        int oldest = 0;
        int done = 0;
        int undone = 0;

        History() {
            for (int i = 0; i < ring.length; i++) {
                ring[i] = new State();
            }
        }

        State now() {
            return ring[(oldest + done) % ring.length];
        }

        /** A copy of what is now, which the act that calls this then changes. */
        State advance() {
            State before = now();
            if (done < MOST_ACTS) {
                done++;
            } else {
                oldest = (oldest + 1) % ring.length;
            }
            undone = 0;
            now().copyFrom(before);
            return now();
        }

        boolean stepBack() {
            if (done == 0) {
                return false;
            }
            done--;
            undone++;
            return true;
        }

        boolean stepOn() {
            if (undone == 0) {
                return false;
            }
            done++;
            undone--;
            return true;
        }

        void restart(State state) {
            oldest = 0;
            done = 0;
            undone = 0;
            ring[0].copyFrom(state);
        }
    }

    /** What years would bring; it works on states of its own, so that nothing is done. */
    private static final class Foresight {
        private static final int MOST_AHEAD = 30;
        private static final int MOST_ODDS = 7;

        final Engine engine;
        final State[] desk = new State[MOST_ODDS + 1];
        int lostPlace = NONE;

        Foresight(Engine engine) {
            this.engine = engine;
            for (int i = 0; i < desk.length; i++) {
                desk[i] = new State();
            }
        }

        State after(State now, int years) {
            State state = desk[0];
            state.copyFrom(now);
            for (int i = 0; i < years; i++) {
                engine.passYear(state);
            }
            return state;
        }

        int firstBite(State now, int map) {
            State state = after(now, 0);
            for (int i = 0; i < MOST_AHEAD; i++) {
                engine.passYear(state);
                if (state.cells[EATEN + map] > now.cells[EATEN + map]) {
                    return i;
                }
            }
            return NONE;
        }

        /** Years till a place that is there now is gone; the first such place is left in lostPlace. */
        int yearsToLoss(State now) {
            int there = ~engine.goneIn(now);
            State state = after(now, 0);
            lostPlace = NONE;
            for (int years = 1; years <= MOST_AHEAD; years++) {
                engine.passYear(state);
                int lost = engine.goneIn(state) & there;
                if (lost != 0) {
                    lostPlace = Integer.numberOfTrailingZeros(lost);
                    return years;
                }
            }
            return NONE;
        }

        int mapsToFold(State now, int years) {
            int there = ~engine.goneIn(now);
            int folded = now.cells[FOLDED];
            int sets = 1 << engine.house.maps;
            State start = desk[1];
            for (int count = 0; count <= MAPS; count++) {
                for (int set = 0; set < sets; set++) {
                    if ((set & folded) != 0 || Integer.bitCount(set) != count) {
                        continue;
                    }
                    start.copyFrom(now);
                    start.cells[FOLDED] |= set;
                    if ((engine.goneIn(after(start, years)) & there) == 0) {
                        return set;
                    }
                }
            }
            return NONE;
        }

        /** In how many of the even ways of the winters to come a place stands behind the years. */
        int standing(State now, int place, int years) {
            desk[0].copyFrom(now);
            return standingFrom(0, place, Math.min(years, MOST_ODDS));
        }

        private int standingFrom(int passed, int place, int years) {
            if (passed >= years) {
                return desk[passed].cells[SIZE + place] > 0 ? 1 : 0;
            }
            State next = desk[passed + 1];
            next.copyFrom(desk[passed]);
            engine.passYear(next);
            if (passed + 1 >= years) {
                return standingFrom(passed + 1, place, years);
            }
            next.cells[COLD] = 0;
            int mild = standingFrom(passed + 1, place, years);
            next.cells[COLD] = 1;
            return mild + standingFrom(passed + 1, place, years);
        }
    }

    /** Searches over ways to feed and to put away; the way that is found lies in the heap. */
    private static final class Rations {
        private static final int MOST_TOGETHER = 24;
        private static final int NEVER = 1000;

        final Engine engine;
        final int[] heap = new int[MAPS];
        int lying = 0;
        // desk[m] is the state in which map m eats: ways that begin alike share it.
        final State[] desk = new State[MAPS + 1];
        final int[] hungers = new int[MAPS];
        final int[] mostUse = new int[MAPS];
        // How much each must get at least to make a place bigger.
        final int[] toMend = new int[MAPS];
        final int[] way = new int[MAPS];
        final int[] tried = new int[MAPS];
        int food = 0;
        int spared = 0;
        int fewestYet = 0;
        int bestLand = NONE;

        Rations(Engine engine) {
            this.engine = engine;
            for (int i = 0; i < desk.length; i++) {
                desk[i] = new State();
            }
        }

        int fewest(State now, int ofFood, int places) {
            prepare(now, ofFood);
            boundUse();
            spared = places;
            int most = Math.min(MOST_TOGETHER, now.cells[STORE + food]);
            fewestYet = most + 1;
            findSparing(0, 0);
            return fewestYet > most ? NONE : fewestYet;
        }

        int mostKept(State now, int ofFood, int n) {
            prepare(now, ofFood);
            bestLand = NONE;
            findKeeping(0, n);
            return bestLand;
        }

        private void prepare(State now, int ofFood) {
            food = ofFood;
            desk[0].copyFrom(now);
            for (int map = 0; map < engine.house.maps; map++) {
                hungers[map] = engine.hungerOf(now, map);
            }
        }

        /** For each map how much of the food can change anything, and from how much on it makes a place bigger. */
        private void boundUse() {
            for (int map = 0; map < engine.house.maps; map++) {
                int liking = engine.house.liking[map * FOODS + food];
                int lack = hungers[map] - engine.givenTo(desk[0], map);
                // Beyond this the place that grows is full, whatever its size was.
                int room = lack + MOST_SIZE;
                mostUse[map] = liking <= 0 || room <= 0 ? 0 : (room + liking - 1) / liking;
                if (lack < 0) {
                    toMend[map] = 0;
                } else {
                    toMend[map] = liking <= 0 ? NEVER : lack / liking + 1;
                }
            }
        }

        /** Whether the maps from this one on can make all that was lost big again: each makes but one place bigger. */
        private boolean canMend(int lost, int map, int left) {
            int within = 0;
            int menders = 0;
            for (int i = map; i < engine.house.maps; i++) {
                if (toMend[i] <= left) {
                    within |= engine.house.mapPlaces[i];
                    menders++;
                }
            }
            return (lost & ~within) == 0 && Integer.bitCount(lost) <= menders;
        }

        /** Tries what this map and those behind it may get; only a way of fewer than yet takes the place of an earlier one. */
        private void findSparing(int map, int used) {
            int left = fewestYet - 1 - used;
            int lost = engine.smaller(desk[0], desk[map]) & spared;
            if (!canMend(lost, map, left)) {
                return;
            }
            if (map >= engine.house.maps) {
                fewestYet = used;
                layWay();
                return;
            }
            int most = Math.min(left, mostUse[map]);
            boolean isLast = map == engine.house.maps - 1;
            for (int turn = 0; turn <= most; turn++) {
                // More for the last map makes no place smaller: from the most downwards, till one way does not spare.
                int n = isLast ? most - turn : turn;
                if (used + n >= fewestYet) {
                    return;
                }
                serve(map, n);
                findSparing(map + 1, used + n);
                if (isLast && fewestYet > used + n) {
                    return;
                }
            }
        }

        private void findKeeping(int map, int left) {
            if (map >= engine.house.maps) {
                int land = engine.landIn(desk[map]);
                if (land > bestLand) {
                    bestLand = land;
                    layWay();
                }
                return;
            }
            for (int n = leastFor(map, left); n <= left; n++) {
                serve(map, n);
                findKeeping(map + 1, left - n);
            }
        }

        /** The last map takes all that is left. */
        private int leastFor(int map, int left) {
            return map == engine.house.maps - 1 ? left : 0;
        }

        private void serve(int map, int n) {
            way[map] = n;
            State next = desk[map + 1];
            next.copyFrom(desk[map]);
            next.cells[TROUGH + map * FOODS + food] += n;
            engine.eat(next, map, hungers[map]);
        }

        private void layWay() {
            lying = engine.house.maps;
            System.arraycopy(way, 0, heap, 0, MAPS);
        }

        int layDrawers(int n) {
            int ways = waysInto(n);
            if (ways > 0) {
                layWay();
            } else {
                lying = 0;
            }
            return ways;
        }

        /** Ways into n drawers without a bite; the first of them is left as the way. */
        int waysInto(int n) {
            int maps = engine.house.maps;
            int all = 1;
            for (int map = 0; map < maps; map++) {
                all *= n;
            }
            int ways = 0;
            // Downwards, so that the first way is the one that is left.
            for (int number = all - 1; number >= 0; number--) {
                if (isWithoutBites(number, n)) {
                    ways++;
                    spell(number, n, way);
                }
            }
            return ways;
        }

        private boolean isWithoutBites(int number, int n) {
            spell(number, n, tried);
            for (int map = 0; map < engine.house.maps; map++) {
                for (int other = 0; other < map; other++) {
                    boolean isBorder = (engine.house.neighbours[map] >> other & 1) != 0;
                    if (isBorder && tried[map] == tried[other]) {
                        return false;
                    }
                }
            }
            return true;
        }

        /** The drawers that a number tells, the last map by its lowest digit. */
        private void spell(int number, int n, int[] into) {
            int rest = number;
            for (int map = engine.house.maps - 1; map >= 0 && n > 0; map--) {
                into[map] = rest % n;
                rest /= n;
            }
        }
    }

    /** What an unknown map was given, and what it can like by that. */
    private static final class Trials {
        private static final int MOST = 30;
        private static final int LIKINGS = 6;
        private static final int NOT_SAME = -2;

        final int[] given = new int[MOST * FOODS];
        final int[] hungers = new int[MOST];
        final boolean[] full = new boolean[MOST];
        final int[] toldAt = new int[MOST];
        final int[] untoldAt = new int[MOST];
        // How many of those that fit like a food so much.
        final int[] tally = new int[FOODS * LIKINGS];
        int count = 0;
        int time = 0;

        int tell(int a, int b, int c, int hunger, boolean isFull) {
            if (count >= MOST) {
                return NONE;
            }
            given[count * FOODS] = a;
            given[count * FOODS + 1] = b;
            given[count * FOODS + 2] = c;
            hungers[count] = hunger;
            full[count] = isFull;
            toldAt[count] = time;
            untoldAt[count] = NONE;
            count++;
            return count - 1;
        }

        boolean takeBack(int trial) {
            if (trial < 0 || trial >= count || untoldAt[trial] != NONE) {
                return false;
            }
            untoldAt[trial] = time;
            return true;
        }

        private boolean counts(int trial, int k) {
            boolean isUntold = untoldAt[trial] != NONE && untoldAt[trial] <= k;
            return toldAt[trial] <= k && !isUntold;
        }

        /** How many likings fit as known at k; the tally tells them by food. */
        int countFitting(int foods, int k) {
            Arrays.fill(tally, 0);
            int most1 = foods > 0 ? LIKINGS : 1;
            int most2 = foods > 1 ? LIKINGS : 1;
            int most3 = foods > 2 ? LIKINGS : 1;
            int fitting = 0;
            for (int a = 0; a < most1; a++) {
                for (int b = 0; b < most2; b++) {
                    for (int c = 0; c < most3; c++) {
                        if (fits(a, b, c, k)) {
                            fitting++;
                            tally[a]++;
                            tally[LIKINGS + b]++;
                            tally[2 * LIKINGS + c]++;
                        }
                    }
                }
            }
            return fitting;
        }

        private boolean fits(int a, int b, int c, int k) {
            for (int i = 0; i < count; i++) {
                int got = given[i * FOODS] * a + given[i * FOODS + 1] * b + given[i * FOODS + 2] * c;
                if (counts(i, k) && got >= hungers[i] != full[i]) {
                    return false;
                }
            }
            return true;
        }

        int sureLiking(int foods, int food, int k) {
            int fitting = countFitting(foods, k);
            if (fitting == 0) {
                return NONE;
            }
            for (int liking = 0; liking < LIKINGS; liking++) {
                if (tally[food * LIKINGS + liking] == fitting) {
                    return liking;
                }
            }
            return NOT_SAME;
        }

        int nextTrial(int foods, int hunger, int what, int k) {
            int fitting = countFitting(foods, k);
            if (fitting == 0) {
                return NONE;
            }
            int best = NONE;
            int bestLeft = fitting + 1;
            for (int food = 0; food < foods; food++) {
                for (int n = 1; n <= 9; n++) {
                    int fullOnes = fullBy(food, n, hunger);
                    int left = Math.max(fullOnes, fitting - fullOnes);
                    if (left < bestLeft) {
                        bestLeft = left;
                        best = 10 * food + n;
                    }
                }
            }
            return what == 0 ? best : bestLeft;
        }

        private int fullBy(int food, int n, int hunger) {
            int sum = 0;
            for (int liking = 0; liking < LIKINGS; liking++) {
                if (liking * n >= hunger) {
                    sum += tally[food * LIKINGS + liking];
                }
            }
            return sum;
        }
    }
}
