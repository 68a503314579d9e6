/** Askings of a cat at a door: habits, hours, what will be, laws in texts, sheets, slots and images. */
public final class CatDoors {
    public static final int BAD = -1000000001, NO = -1000000002, FULL = -1000000003, NONE = -1000000005, NOTHING = -1000000011, KIND = -1000000012, INDEX = -1000000013, SIZE = -1000000014;

    private static final int MOST_ASKINGS = 12;
    private static final int MOST_TEXTS = 14;
    private static final int MOST_WAITING = 60;
    private static final int SHEETS = 4;
    private static final int SLOTS = 5;
    private static final int MOST_PLACES = 24;
    private static final int MOST_TAUGHT = 12;
    private static final int TAPE_BYTES = 96;
    private static final int DAY = 24;
    private static final int LAST_HOUR = 9999;
    private static final int LONGEST_QUIET = 300;
    private static final int MOST_HABIT = 99;
    private static final int MOST_MEANS = 100;
    private static final int MOST_PATIENCE = 99;
    private static final int MOST_PRESS = 199;
    private static final int MOST_OF_FLOATS = 99999;

    // Kind 0 is a plain asking: what has no case of its own does as that one.
    private static final int TURNED = 1, RAINED = 2, FRIGHTENED = 3, DAWN = 4, FEIGNED = 5, KINDS = 6;
    private static final int[] KIND_ABOVE = {-1, 0, 0, 1, 2, 0};
    private static final int[] LEARNS = {8, 3, 8, 12, 16, 15};
    private static final int[] FORGETS = {4, 6, 4, 6, 1, 9};
    private static final int[] SCRATCHES = {2, 0, 2, 7, 3, 1};

    private static final int PATIENCE = 0, RAIN = 1, TOM = 2, FLAP = 3, CAT = 4, WET = 5, THREAT = 6, RULES = 7;
    private static final int[] MOST_OF_RULE = {99, 100, 100, 1, 1, 1, 1};
    private static final int IN = 0, OUT = 1;

    private static final int RISINGS = 0, PAINT = 1, LEFT = 2, CAME = 3, STRANGERS = 4, TALLIES = 5;

    private static final int PRESS = 0, FEE = 1, FINE = 2, KEYS = 3;
    private static final int MOST_OPEN = 8;
    // Codes below this one are numbers of a text, codes from it on are names, codes below 0 are signs.
    private static final int FIRST_NAME = 10000;

    private static final int MISSING = -1, SHORTS = 0, FLOATS = 1;
    private static final int HOLDS_NOTHING = 0, HOLDS_ASKING = 1, HOLDS_SHEET = 2, HOLDS_NUMBER = 3;

    private final House now = new House();
    private final House thought = new House();
    private final House image = new House();
    private boolean kept = false;
    private final Tape tape = new Tape();
    private final Sheet[] sheets = new Sheet[SHEETS];
    private final Slot[] slots = new Slot[SLOTS];
    private final int[] waiting = new int[MOST_WAITING];
    private int waits = 0;
    private final int[] differences = new int[MOST_ASKINGS];

    public CatDoors() {
        for (int i = 0; i < SHEETS; i++) {
            sheets[i] = new Sheet();
        }
        for (int i = 0; i < SLOTS; i++) {
            slots[i] = new Slot();
        }
    }

    // ---- askings

    public int asking(int kind, int hour, int habit, int means) {
        if (!isWithin(kind, KINDS - 1) || !isWithin(hour, DAY - 1)) {
            return BAD;
        }
        if (!isWithin(habit, MOST_HABIT) || !isWithin(means, MOST_MEANS)) {
            return BAD;
        }
        if (now.many >= MOST_ASKINGS) {
            return FULL;
        }
        return now.adds(kind, hour, habit, means);
    }

    public int told(int asking, int what) {
        if (!isAsking(asking)) {
            return BAD;
        }
        Asking one = now.askings[asking];
        switch (what) {
            case 0: return one.kind;
            case 1: return one.hour;
            case 2: return one.habit;
            case 3: return one.means;
            case 4: return one.worked;
            case 5: return one.presses(now);
            case 6: return LEARNS[one.kind];
            case 7: return FORGETS[one.kind];
            case 8: return SCRATCHES[one.kind];
            case 9: return one.meansIt(now);
            case 10: return one.worth();
            default: return BAD;
        }
    }

    public int as(int asking, int kind) {
        if (!isAsking(asking) || !isWithin(kind, KINDS - 1)) {
            return BAD;
        }
        Asking one = now.askings[asking];
        return one.isOf(kind) ? one.habit : KIND;
    }

    public int turns(int asking, int kind) {
        if (!isAsking(asking) || !isWithin(kind, KINDS - 1)) {
            return BAD;
        }
        Asking one = now.askings[asking];
        int was = one.kind;
        one.kind = kind;
        return was;
    }

    public int set(int asking, int what, int v) {
        if (!isAsking(asking)) {
            return BAD;
        }
        Asking one = now.askings[asking];
        int was = BAD;
        if (what == 1 && isWithin(v, DAY - 1)) {
            was = one.hour;
            one.hour = v;
        } else if (what == 2 && isWithin(v, MOST_HABIT)) {
            was = one.habit;
            one.habit = v;
        } else if (what == 3 && isWithin(v, MOST_MEANS)) {
            was = one.means;
            one.means = v;
        }
        return was;
    }

    public int rule(int what, int v) {
        if (!isWithin(what, RULES - 1) || !isWithin(v, MOST_OF_RULE[what])) {
            return BAD;
        }
        int was = now.rules[what];
        now.rules[what] = v;
        return was;
    }

    public int opens(int asking) {
        if (!isAsking(asking)) {
            return BAD;
        }
        return now.getsUp(now.askings[asking]) ? 1 : 0;
    }

    public int deal(int n) {
        if (n < 1 || n > MOST_ASKINGS) {
            return BAD;
        }
        int came = Math.min(n, MOST_ASKINGS - now.many);
        for (int i = 0; i < came; i++) {
            int kind = now.draw() % KINDS;
            int hour = now.draw() % DAY;
            int habit = now.draw() % (MOST_HABIT + 1);
            int means = now.draw() % (MOST_MEANS + 1);
            now.adds(kind, hour, habit, means);
        }
        return came;
    }

    public int seed(int v) {
        int was = now.z;
        now.z = v;
        return was;
    }

    // ---- hours

    public int hours(int n) {
        if (n < 1 || n > 100) {
            return BAD;
        }
        int before = now.tallies[RISINGS];
        now.passHours(Math.min(n, LAST_HOUR - now.hour));
        return now.tallies[RISINGS] - before;
    }

    public int house(int what) {
        switch (what) {
            case 0: return now.rules[CAT];
            case 1: return now.tallies[RISINGS];
            case 2: return now.tallies[PAINT];
            case 3: return now.tallies[LEFT];
            case 4: return now.tallies[CAME];
            case 5: return now.tallies[STRANGERS];
            case 6: return now.habitSum();
            case 7: return now.comingNext();
            default: return BAD;
        }
    }

    // ---- what will be

    public int behind(int n, int what) {
        if (n < 0 || n > 100 || what < 0 || what >= 3 + now.many) {
            return BAD;
        }
        thought.takes(now);
        thought.passHours(n);
        switch (what) {
            case 0: return thought.tallies[RISINGS];
            case 1: return thought.tallies[PAINT];
            case 2: return thought.rules[CAT];
            default: return thought.askings[what - 3].habit;
        }
    }

    public int quiet() {
        thought.takes(now);
        for (int passed = 0; passed <= LONGEST_QUIET; passed++) {
            if (thought.habitSum() == 0) {
                return passed;
            }
            thought.passHours(1);
        }
        return NONE;
    }

    public int firm(int n, int what) {
        if (n < 1 || n > 48 || what < 0 || what > 1) {
            return BAD;
        }
        int best = 0;
        int least = 0;
        for (int patience = 0; patience <= MOST_PATIENCE; patience++) {
            thought.takes(now);
            thought.rules[PATIENCE] = patience;
            thought.passHours(n);
            int habits = thought.habitSum();
            if (patience == 0 || habits < least) {
                least = habits;
                best = patience;
            }
        }
        return what == 0 ? best : least;
    }

    public int givenIn(int n, int asking) {
        if (n < 1 || n > 100 || !isAsking(asking)) {
            return BAD;
        }
        thought.takes(now);
        thought.passHours(n);
        int without = thought.habitSum();
        thought.takes(now);
        thought.askings[asking].works();
        thought.passHours(n);
        return thought.habitSum() - without;
    }

    public int heard(int n, int what) {
        if (n < 1 || n > 100 || what < 0 || what > 1) {
            return BAD;
        }
        if (now.many == 0) {
            return NONE;
        }
        int best = 0;
        int fewest = 0;
        for (int i = 0; i < now.many; i++) {
            thought.takes(now);
            thought.askings[i].habit = 0;
            thought.passHours(n);
            int risings = thought.tallies[RISINGS];
            if (i == 0 || risings < fewest) {
                fewest = risings;
                best = i;
            }
        }
        return what == 0 ? best : fewest;
    }

    public int lamp(int n) {
        if (n < 1 || n > 100) {
            return BAD;
        }
        thought.takes(now);
        int inside = 0;
        for (int i = 0; i < n; i++) {
            thought.passHours(1);
            if (thought.rules[CAT] == IN) {
                inside++;
            }
        }
        return inside;
    }

    public int saved(int n) {
        if (n < 1 || n > 100) {
            return BAD;
        }
        return risingsWithFlap(0, n) - risingsWithFlap(1, n);
    }

    private int risingsWithFlap(int flap, int n) {
        thought.takes(now);
        thought.rules[FLAP] = flap;
        thought.passHours(n);
        return thought.tallies[RISINGS];
    }

    public int taught(int sheet, int what) {
        if (!isWithin(sheet, SHEETS - 1) || what < 0 || what > 1) {
            return BAD;
        }
        if (sheets[sheet].isMissing()) {
            return NOTHING;
        }
        if (now.many == 0) {
            return NONE;
        }
        sumDifferences(sheets[sheet]);
        int best = 0;
        for (int i = 1; i < now.many; i++) {
            if (differences[i] < differences[best]) {
                best = i;
            }
        }
        return what == 0 ? best : differences[best];
    }

    private void sumDifferences(Sheet sheet) {
        thought.takes(now);
        for (int i = 0; i < MOST_ASKINGS; i++) {
            differences[i] = 0;
        }
        for (int k = 0; k < sheet.size && k < MOST_TAUGHT; k++) {
            if (k > 0) {
                thought.passHours(DAY);
            }
            if (sheet.isNumber(k)) {
                addDifferences(sheet.places[k]);
            }
        }
    }

    private void addDifferences(int place) {
        for (int i = 0; i < thought.many; i++) {
            differences[i] += Math.abs(thought.askings[i].habit - place);
        }
    }

    public int fee() {
        Text law = now.lawOf(FEE);
        if (law == null) {
            return now.tallies[PAINT];
        }
        return law.gives(now.tallies[RISINGS], now.tallies[PAINT], 0);
    }

    public int fine(int asking) {
        if (!isAsking(asking)) {
            return BAD;
        }
        Asking one = now.askings[asking];
        Text law = now.lawOf(FINE);
        return law == null ? one.worked : law.gives(one.habit, one.worked, 0);
    }

    // ---- texts

    public int feed(int a, int b, int c) {
        if (tape.length > TAPE_BYTES - 12) {
            return FULL;
        }
        tape.addsBytes(a);
        tape.addsBytes(b);
        tape.addsBytes(c);
        return tape.length;
    }

    public int trim(int n) {
        if (n < 0 || n > tape.length) {
            return BAD;
        }
        tape.length = n;
        return n;
    }

    public int text() {
        Text read = tape.readsText();
        tape.length = 0;
        if (read == null) {
            return -100 - tape.start;
        }
        return now.textCount >= MOST_TEXTS ? FULL : now.addsText(read);
    }

    public int textTold(int text, int what) {
        if (text < 0 || text >= now.textCount || what < 0 || what > 1) {
            return BAD;
        }
        Text one = now.texts[text];
        return what == 0 ? one.key : one.leaves;
    }

    public int why(int key) {
        return isWithin(key, KEYS - 1) ? now.counting[key] : BAD;
    }

    // ---- sheets, slots

    public int sheet(int sheet, int sort, int n) {
        if (!isWithin(sheet, SHEETS - 1) || sort < MISSING || sort > FLOATS) {
            return BAD;
        }
        if (sort == MISSING) {
            sheets[sheet].becomes(MISSING, 0);
            return 0;
        }
        if (n > MOST_PLACES) {
            return BAD;
        }
        if (n < 0) {
            return SIZE;
        }
        sheets[sheet].becomes(sort, n);
        return n;
    }

    public int mark(int sheet, int place, int v) {
        if (!isWithin(sheet, SHEETS - 1)) {
            return BAD;
        }
        Sheet row = sheets[sheet];
        if (row.isMissing()) {
            return NOTHING;
        }
        if (!row.hasPlace(place)) {
            return INDEX;
        }
        if (row.sort == SHORTS) {
            if (v == NONE) {
                return KIND;
            }
            row.places[place] = (short) v;
            return 1;
        }
        if (v != NONE && (v < -MOST_OF_FLOATS || v > MOST_OF_FLOATS)) {
            return BAD;
        }
        row.places[place] = v;
        return 1;
    }

    public int pour(int sheet) {
        if (!isWithin(sheet, SHEETS - 1)) {
            return BAD;
        }
        Sheet row = sheets[sheet];
        if (row.isMissing()) {
            return NOTHING;
        }
        int otherwise = 0;
        for (int i = 0; i < now.many && i < row.size; i++) {
            Asking one = now.askings[i];
            int habit = row.isNumber(i) ? heldWithin(row.places[i], MOST_HABIT) : one.habit;
            if (habit != one.habit) {
                one.habit = habit;
                otherwise++;
            }
        }
        return otherwise;
    }

    public int reads(int sheet) {
        if (!isWithin(sheet, SHEETS - 1)) {
            return BAD;
        }
        Sheet row = sheets[sheet];
        if (row.isMissing()) {
            return NOTHING;
        }
        for (int i = 0; i < row.size; i++) {
            boolean isHour = i < now.many && now.askings[i].hour == row.places[i];
            if (row.isNumber(i) && !isHour) {
                return i;
            }
        }
        return NONE;
    }

    public int copy(int from, int place, int to, int at, int many) {
        if (!isWithin(from, SHEETS - 1) || !isWithin(to, SHEETS - 1)) {
            return BAD;
        }
        Sheet source = sheets[from];
        Sheet target = sheets[to];
        if (source.isMissing() || target.isMissing()) {
            return NOTHING;
        }
        if (source.sort != target.sort) {
            return KIND;
        }
        if (!source.hasPlaces(place, many) || !target.hasPlaces(at, many)) {
            return INDEX;
        }
        System.arraycopy(source.places, place, target.places, at, many);
        return many;
    }

    public int lay(int slot, int thing, int k) {
        if (!isWithin(slot, SLOTS - 1) || !isWithin(thing, HOLDS_NUMBER)) {
            return BAD;
        }
        if (thing == HOLDS_ASKING && !isAsking(k) || thing == HOLDS_SHEET && !isWithin(k, SHEETS - 1)) {
            return BAD;
        }
        if (thing == HOLDS_SHEET && sheets[k].isMissing()) {
            return NOTHING;
        }
        Slot one = slots[slot];
        int held = one.thing;
        one.thing = thing;
        if (thing == HOLDS_ASKING) {
            one.asking.takes(now.askings[k]);
        } else if (thing == HOLDS_SHEET) {
            one.sheet.takes(sheets[k]);
        } else {
            one.number = k;
        }
        return held;
    }

    public int ask(int slot, int kind) {
        if (!isWithin(slot, SLOTS - 1) || !isWithin(kind, KINDS - 1)) {
            return BAD;
        }
        int refusal = slots[slot].refuses(HOLDS_ASKING);
        if (refusal != 0) {
            return refusal;
        }
        Asking one = slots[slot].asking;
        return one.isOf(kind) ? one.worth() : KIND;
    }

    public int item(int slot, int place) {
        if (!isWithin(slot, SLOTS - 1)) {
            return BAD;
        }
        int refusal = slots[slot].refuses(HOLDS_SHEET);
        if (refusal != 0) {
            return refusal;
        }
        Sheet row = slots[slot].sheet;
        if (!row.hasPlace(place)) {
            return INDEX;
        }
        return row.isNumber(place) ? row.places[place] : KIND;
    }

    public int rest(int slot, int n) {
        if (!isWithin(slot, SLOTS - 1)) {
            return BAD;
        }
        int refusal = slots[slot].refuses(HOLDS_NUMBER);
        if (refusal != 0) {
            return refusal;
        }
        return n == 0 ? NO : slots[slot].number % n;
    }

    // ---- rows, images

    public int tell(int v) {
        if (waits >= MOST_WAITING) {
            return FULL;
        }
        waiting[waits] = v;
        waits++;
        return waits;
    }

    public int check(int n) {
        int given = waits;
        waits = 0;
        if (n < 1 || n > 30) {
            return BAD;
        }
        if (!kept) {
            return NO;
        }
        thought.takes(image);
        int due = 2 * Math.min(n, LAST_HOUR - image.hour);
        for (int i = 0; i < due; i++) {
            boolean first = i % 2 == 0;
            if (first) {
                thought.passHours(1);
            }
            int wanted = first ? thought.habitSum() : thought.tallies[RISINGS];
            if (i >= given || waiting[i] != wanted) {
                return 1 + i;
            }
        }
        return given > due ? 1 + due : 0;
    }

    public int keep() {
        image.takes(now);
        kept = true;
        return now.many;
    }

    public int back() {
        if (!kept) {
            return NO;
        }
        now.takes(image);
        return now.many;
    }

    public int count(int what) {
        switch (what) {
            case 0: return now.many;
            case 1: return now.hour;
            case 2: return now.rules[PATIENCE];
            case 3: return now.rules[RAIN];
            case 4: return now.rules[TOM];
            case 5: return now.rules[FLAP];
            case 6: return now.rules[WET];
            case 7: return now.rules[THREAT];
            case 8: return now.textCount;
            case 9: return waits;
            case 10: return tape.length;
            case 11: return now.z;
            default: return BAD;
        }
    }

    private boolean isAsking(int asking) {
        return asking >= 0 && asking < now.many;
    }

    private static boolean isWithin(int v, int most) {
        return v >= 0 && v <= most;
    }

    private static int heldWithin(int v, int most) {
        return Math.max(0, Math.min(v, most));
    }

    /** One asking; what it does by its kind. */
    private static final class Asking {
        int kind = 0;
        int hour = 0;
        int habit = 0;
        int means = 0;
        int worked = 0;

        void takes(Asking other) {
            kind = other.kind;
            hour = other.hour;
            habit = other.habit;
            means = other.means;
            worked = other.worked;
        }

        boolean isOf(int wanted) {
            int above = kind;
            for (int step = 0; step < KINDS && above >= 0; step++) {
                if (above == wanted) {
                    return true;
                }
                above = KIND_ABOVE[above];
            }
            return false;
        }

        int presses(House house) {
            int plain = house.plainPress(this);
            int rained = house.rules[WET] == 1 ? Math.max(0, plain - 20) : plain;
            switch (kind) {
                case TURNED: return plain / 2;
                case FRIGHTENED: return house.rules[THREAT] == 1 ? plain / 2 + 60 : plain / 2;
                case RAINED: return rained;
                case DAWN: return rained + 30;
                case FEIGNED: return plain + 5;
                default: return plain;
            }
        }

        int meansIt(House house) {
            boolean isOut = house.rules[CAT] == OUT;
            switch (kind) {
                case TURNED: return means / 2;
                case FRIGHTENED: return isOut ? 100 : means / 2;
                case RAINED:
                case DAWN: return house.rules[WET] == 1 && !isOut ? 10 : means;
                case FEIGNED: return 0;
                default: return means;
            }
        }

        int worth() {
            switch (kind) {
                case TURNED: return habit + 6;
                case FRIGHTENED: return 2 * (habit + 6);
                case RAINED: return 99 - habit;
                case DAWN: return 99 - habit - 8;
                case FEIGNED: return 3;
                default: return habit;
            }
        }

        void works() {
            worked++;
            habit = Math.min(MOST_HABIT, habit + LEARNS[kind]);
        }

        void fails() {
            habit = Math.max(0, habit - FORGETS[kind]);
        }
    }

    /** All that an image keeps; also used for thoughts, so that they change nothing. */
    private static final class House {
        final int[] rules = {50, 20, 10, 0, 0, 0, 0};
        final int[] tallies = new int[TALLIES];
        final Asking[] askings = new Asking[MOST_ASKINGS];
        int many = 0;
        int hour = 0;
        int z = 1;
        final Text[] texts = new Text[MOST_TEXTS];
        int textCount = 0;
        final int[] counting = {NONE, NONE, NONE};

        House() {
            for (int i = 0; i < MOST_ASKINGS; i++) {
                askings[i] = new Asking();
            }
        }

        void takes(House other) {
            System.arraycopy(other.rules, 0, rules, 0, RULES);
            System.arraycopy(other.tallies, 0, tallies, 0, TALLIES);
            System.arraycopy(other.counting, 0, counting, 0, KEYS);
            many = other.many;
            for (int i = 0; i < many; i++) {
                askings[i].takes(other.askings[i]);
            }
            hour = other.hour;
            z = other.z;
            textCount = other.textCount;
            for (int i = 0; i < textCount; i++) {
                texts[i] = other.texts[i];
            }
        }

        int adds(int kind, int hour, int habit, int means) {
            Asking one = askings[many];
            one.kind = kind;
            one.hour = hour;
            one.habit = habit;
            one.means = means;
            one.worked = 0;
            many++;
            return many - 1;
        }

        int addsText(Text text) {
            texts[textCount] = text;
            counting[text.key] = textCount;
            textCount++;
            return textCount - 1;
        }

        Text lawOf(int key) {
            int text = counting[key];
            return text >= 0 && text < textCount ? texts[text] : null;
        }

        int plainPress(Asking one) {
            Text law = lawOf(PRESS);
            int press = law == null ? one.habit : law.gives(one.habit, one.means, one.worked);
            return heldWithin(press, MOST_PRESS);
        }

        int draw() {
            z = z * 1103515245 + 12345;
            return z >>> 8;
        }

        boolean drawsBelow(int bound) {
            return draw() % 100 < bound;
        }

        void passHours(int n) {
            for (int passed = 0; passed < n; passed++) {
                drawsWeather();
                for (int i = 0; i < many; i++) {
                    if (asksNow(askings[i])) {
                        hears(askings[i]);
                    }
                }
                if (rules[FLAP] == 1 && rules[THREAT] == 1) {
                    tallies[STRANGERS]++;
                }
                hour++;
            }
        }

        void drawsWeather() {
            rules[WET] = drawsBelow(rules[RAIN]) ? 1 : 0;
            rules[THREAT] = drawsBelow(rules[TOM]) ? 1 : 0;
        }

        boolean asksNow(Asking one) {
            return one.hour == hour % DAY && drawsBelow(one.habit);
        }

        void hears(Asking one) {
            if (rules[FLAP] == 1) {
                goesIfMeant(one);
            } else if (one.presses(this) > rules[PATIENCE]) {
                getsUp(one);
            } else {
                tallies[PAINT] += SCRATCHES[one.kind];
                one.fails();
            }
        }

        boolean getsUp(Asking one) {
            tallies[RISINGS]++;
            one.works();
            return goesIfMeant(one);
        }

        boolean goesIfMeant(Asking one) {
            if (!drawsBelow(one.meansIt(this))) {
                return false;
            }
            if (rules[CAT] == IN) {
                rules[CAT] = OUT;
                tallies[LEFT]++;
            } else {
                rules[CAT] = IN;
                tallies[CAME]++;
            }
            return true;
        }

        int habitSum() {
            int sum = 0;
            for (int i = 0; i < many; i++) {
                sum += askings[i].habit;
            }
            return sum;
        }

        int comingNext() {
            int soonest = DAY;
            int next = 0;
            for (int i = 0; i < many; i++) {
                int until = (askings[i].hour - hour % DAY + DAY) % DAY;
                if (askings[i].habit > 0 && until <= soonest) {
                    next = until < soonest ? 1 << i : next | 1 << i;
                    soonest = until;
                }
            }
            return next;
        }
    }

    /** A law: its pieces in the order in which they are worked out, signs behind what they join. */
    private static final class Text {
        final int key;
        final int leaves;
        private final int[] codes;
        private final int[] stack;

        Text(int key, int leaves, int[] codes) {
            this.key = key;
            this.leaves = leaves;
            this.codes = codes;
            // Each leaf stands on the stack once, so it never grows higher.
            this.stack = new int[leaves];
        }

        int gives(int first, int second, int third) {
            int top = 0;
            for (int i = 0; i < codes.length; i++) {
                int code = codes[i];
                if (code >= 0 && top < stack.length) {
                    stack[top] = leaf(code, first, second, third);
                    top++;
                } else if (code == -'!' && top > 0) {
                    stack[top - 1] = stack[top - 1] == 0 ? 1 : 0;
                } else if (code < 0 && top > 1) {
                    top--;
                    stack[top - 1] = joined(-code, stack[top - 1], stack[top]);
                }
            }
            return top > 0 ? stack[0] : 0;
        }

        private static int leaf(int code, int first, int second, int third) {
            switch (code) {
                case FIRST_NAME: return first;
                case FIRST_NAME + 1: return second;
                case FIRST_NAME + 2: return third;
                default: return code;
            }
        }

        private static int joined(int sign, int a, int b) {
            switch (sign) {
                case '|': return a != 0 || b != 0 ? 1 : 0;
                case '&': return a != 0 && b != 0 ? 1 : 0;
                case '<': return a < b ? 1 : 0;
                case '=': return a == b ? 1 : 0;
                case '>': return a > b ? 1 : 0;
                case '+': return a + b;
                case '-': return a - b;
                case '*': return a * b;
                default: return b == 0 ? 0 : a / b;
            }
        }
    }

    /** The bytes that were fed, and the reading of a text from them. */
    private static final class Tape {
        private static final int END = 0, LETTERS = 1, DIGITS = 2, SIGN = 3, WRONG = 4;
        private static final int LOOSEST = 0, TESTS = 2, PIECES = 5;

        int length = 0;
        // Where the word or sign starts that is read now: the fault's place, when a text ends there.
        int start = 0;
        private int end = 0;
        private int sort = END;
        private int key = 0;
        private int leaves = 0;
        private int used = 0;
        private final byte[] bytes = new byte[TAPE_BYTES];
        private final int[] codes = new int[TAPE_BYTES];

        void addsBytes(int four) {
            for (int shift = 24; shift >= 0 && length < TAPE_BYTES; shift -= 8) {
                bytes[length] = (byte) (four >>> shift);
                length++;
            }
        }

        /** Null, if there is a fault: it stands at start. */
        Text readsText() {
            end = 0;
            sort = END;
            leaves = 0;
            used = 0;
            advances();
            if (!readsKey() || !readsLevel(LOOSEST, 0, 0) || sort != END) {
                return null;
            }
            int[] row = new int[used];
            System.arraycopy(codes, 0, row, 0, used);
            return new Text(key, leaves, row);
        }

        private boolean readsKey() {
            if (isWord("press")) {
                key = PRESS;
            } else if (isWord("fee")) {
                key = FEE;
            } else if (isWord("fine")) {
                key = FINE;
            } else {
                return false;
            }
            advances();
            return true;
        }

        private boolean readsLevel(int level, int open, int nots) {
            if (level == PIECES) {
                return readsPiece(open, nots);
            }
            if (!readsLevel(level + 1, open, nots)) {
                return false;
            }
            int most = level == TESTS ? 1 : TAPE_BYTES;
            for (int i = 0; i < most && isSignOf(level); i++) {
                int sign = bytes[start];
                advances();
                if (!readsLevel(level + 1, open, nots)) {
                    return false;
                }
                puts(-sign);
            }
            return true;
        }

        private boolean readsPiece(int open, int nots) {
            if (sort == DIGITS || sort == LETTERS) {
                return readsLeaf();
            }
            if (isSign('!') && nots < MOST_OPEN) {
                advances();
                boolean read = readsPiece(open, nots + 1);
                puts(-'!');
                return read;
            }
            if (!isSign('(') || open >= MOST_OPEN) {
                return false;
            }
            advances();
            if (!readsLevel(LOOSEST, open + 1, nots) || !isSign(')')) {
                return false;
            }
            advances();
            return true;
        }

        private boolean readsLeaf() {
            int code = sort == DIGITS ? number() : name();
            if (code < 0) {
                return false;
            }
            leaves++;
            puts(code);
            advances();
            return true;
        }

        private int number() {
            int value = 0;
            for (int i = start; i < end && i < TAPE_BYTES; i++) {
                value = value * 10 + bytes[i] - '0';
            }
            return value;
        }

        private int name() {
            if (end - start != 1) {
                return -1;
            }
            String names = key == PRESS ? "hmw" : key == FEE ? "rp" : "hw";
            int place = names.indexOf((char) bytes[start]);
            return place < 0 ? -1 : FIRST_NAME + place;
        }

        private void puts(int code) {
            if (used < codes.length) {
                codes[used] = code;
                used++;
            }
        }

        private boolean isWord(String word) {
            if (sort != LETTERS || end - start != word.length()) {
                return false;
            }
            for (int i = 0; i < word.length(); i++) {
                if (bytes[start + i] != word.charAt(i)) {
                    return false;
                }
            }
            return true;
        }

        private boolean isSign(char sign) {
            return sort == SIGN && bytes[start] == sign;
        }

        private boolean isSignOf(int level) {
            switch (level) {
                case 0: return isSign('|');
                case 1: return isSign('&');
                case TESTS: return isSign('<') || isSign('=') || isSign('>');
                case 3: return isSign('+') || isSign('-');
                default: return isSign('*') || isSign('/');
            }
        }

        private void advances() {
            boolean behindWord = sort == LETTERS || sort == DIGITS;
            start = end;
            while (start < length && bytes[start] == ' ') {
                start++;
            }
            boolean needsBlank = behindWord && start == end;
            sort = sortAt(start);
            end = start < length ? start + 1 : start;
            if (sort == END || sort == SIGN) {
                return;
            }
            while (end < length && sortAt(end) == sort) {
                end++;
            }
            if (needsBlank || sort == DIGITS && end - start > 4) {
                sort = WRONG;
            }
        }

        private int sortAt(int place) {
            if (place >= length) {
                return END;
            }
            byte one = bytes[place];
            if (one >= 'a' && one <= 'z') {
                return LETTERS;
            }
            return one >= '0' && one <= '9' ? DIGITS : SIGN;
        }
    }

    /** A row of shorts or of floats; NONE stands for a float that is no number. */
    private static final class Sheet {
        int sort = MISSING;
        int size = 0;
        final int[] places = new int[MOST_PLACES];

        void becomes(int newSort, int newSize) {
            sort = newSort;
            size = newSize;
            for (int i = 0; i < MOST_PLACES; i++) {
                places[i] = 0;
            }
        }

        void takes(Sheet other) {
            sort = other.sort;
            size = other.size;
            System.arraycopy(other.places, 0, places, 0, MOST_PLACES);
        }

        boolean isMissing() {
            return sort == MISSING;
        }

        boolean hasPlace(int place) {
            return place >= 0 && place < size;
        }

        boolean hasPlaces(int place, int many) {
            return place >= 0 && many >= 0 && place <= size && many <= size - place;
        }

        boolean isNumber(int place) {
            return hasPlace(place) && places[place] != NONE;
        }
    }

    /** What a slot holds is its own: a later change of an asking or a sheet does not reach it. */
    private static final class Slot {
        int thing = HOLDS_NOTHING;
        int number = 0;
        final Asking asking = new Asking();
        final Sheet sheet = new Sheet();

        int refuses(int wanted) {
            if (thing == HOLDS_NOTHING) {
                return NOTHING;
            }
            return thing == wanted ? 0 : KIND;
        }
    }
}
