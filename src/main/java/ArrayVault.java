import java.util.Arrays;

/** Arrays with up to three axes, whose versions are all kept, and a language that asks them. */
public final class ArrayVault {
    public static final int REFUSED = -1, NONE = -2, FULL = -3, THERE = -4;

    private static final int AXES = 3;
    private static final int MOST_SIZE = 24;
    private static final int MOST_CELLS = 2000;
    private static final int MOST_ARRAYS = 6;
    private static final int MOST_VERSIONS = 12;
    private static final int MOST_TELLS = 4;

    /** Layer 0 of an array is the work, the layers behind it are those of the versions. */
    private static final int WORK = 0, GONE = -1;

    /** No int is that great, so that it may stand among the cells. */
    private static final long NULL_CELL = 1L << 40;
    private static final long NO_CELL = NULL_CELL + 1;
    private static final long NULL_ANSWER = 1L << 62;
    private static final long NO_ANSWER = NULL_ANSWER + 1;

    private final Tape tape = new Tape();
    private final Tokens tokens = new Tokens(tape);
    private final Store store = new Store();
    private final Box box = new Box();
    private final Plan plan = new Plan();
    private final Reader reader = new Reader(tokens, store, plan);
    private final Answer answer = new Answer();
    private final Machine machine = new Machine(plan, answer);

    public ArrayVault() {
    }

    public int feed(int a, int b, int c, int d, int e) {
        if (!tape.hasRoom(20)) {
            return FULL;
        }
        tape.append(a);
        tape.append(b);
        tape.append(c);
        tape.append(d);
        tape.append(e);
        return tape.length;
    }

    public int end(int n) {
        if (n < 0 || n > tape.length) {
            return REFUSED;
        }
        tape.length = n;
        return n;
    }

    public int make(int x, int y, int z) {
        tokens.cut();
        boolean named = tokens.areOneName();
        int name = tokens.values[0];
        tape.length = 0;
        if (!named || !Cube.allows(x, y, z)) {
            return REFUSED;
        }
        if (store.named(name) != null) {
            return THERE;
        }
        return store.add(name, x, y, z);
    }

    public int set(int array, int x, int y, int z, int v) {
        Cube cube = store.numbered(array);
        if (cube == null || !cube.has(x, y, z)) {
            return NONE;
        }
        cube.layers[WORK][cube.indexOf(x, y, z)] = v;
        return 0;
    }

    public int fill(int array, int from, int to, int start, int dx, int dy, int dz) {
        Cube cube = store.numbered(array);
        if (cube == null || !box.spans(cube, from, to)) {
            return NONE;
        }
        return cube.paint(box, start, dx, dy, dz);
    }

    public int wipe(int array, int from, int to) {
        Cube cube = store.numbered(array);
        if (cube == null || !box.spans(cube, from, to)) {
            return NONE;
        }
        return cube.clear(box);
    }

    public int commit() {
        return store.keepWork();
    }

    public int open(int version) {
        int layer = store.layerOf(version);
        return layer <= WORK ? NONE : store.bringBack(layer);
    }

    public int drop(int version) {
        int layer = store.layerOf(version);
        return layer <= WORK ? NONE : store.forget(layer);
    }

    public int differ(int one, int two) {
        int first = store.layerOf(one);
        int second = store.layerOf(two);
        return first == GONE || second == GONE ? NONE : store.differences(first, second);
    }

    public long get(int array, int x, int y, int z, int version) {
        Cube cube = store.numbered(array);
        int layer = store.layerOf(version);
        if (cube == null || layer == GONE || !cube.has(x, y, z)) {
            return NO_CELL;
        }
        return cube.at(layer, cube.indexOf(x, y, z));
    }

    public int query() {
        tokens.cut();
        tape.length = 0;
        int fault = reader.readQuery();
        if (fault == NONE) {
            machine.ask();
        }
        return fault;
    }

    public int rows() {
        return answer.rowCount;
    }

    public long cell(int r, int c) {
        return answer.at(r, c);
    }

    public int count(int what) {
        switch (what) {
            case 0:
                return store.size;
            case 1:
                return store.kept;
            case 2:
                return store.given;
            case 3:
                return store.volume();
            case 4:
                return store.filled();
            case 5:
                return answer.columnCount;
            default:
                return REFUSED;
        }
    }

    private static final class Tape {
        private static final int MOST = 600;

        private final byte[] bytes = new byte[MOST];
        private int length;

        boolean hasRoom(int more) {
            return length + more <= MOST;
        }

        void append(int four) {
            for (int shift = 24; shift >= 0 && length < MOST; shift -= 8) {
                bytes[length] = (byte) (four >> shift);
                length++;
            }
        }

        /** Behind the end there is -1, which is no byte, so that who reads on stops there. */
        int at(int place) {
            return place >= 0 && place < length ? bytes[place] & 255 : -1;
        }
    }

    /** What a text is made of. A token that the machine can do something with knows what. */
    private enum Token {
        OF("of"), WHERE("where"), BY("by"),
        COUNT("count"), SUM("sum"), MIN("min"), MAX("max"), FIRST("first"),
        AND("and", Code.AND), OR("or", Code.OR), NOT("not"), NULL("null"), ABS("abs"),
        IT("it", Code.IT), X("x", Code.X), Y("y", Code.Y), Z("z", Code.Z),
        OPEN("("), CLOSE(")"), OPEN_BOX("["), CLOSE_BOX("]"), COMMA(","), COLON(":"), AT("@"),
        PLUS("+", Code.ADD), MINUS("-", Code.SUBTRACT),
        STAR("*", Code.TIMES), SLASH("/", Code.DIVIDE), PERCENT("%", Code.REMAINDER),
        EQUAL("=", Code.EQUAL), UNEQUAL("!=", Code.UNEQUAL), LESS("<", Code.LESS),
        AT_MOST("<=", Code.AT_MOST), MORE(">", Code.MORE), AT_LEAST(">=", Code.AT_LEAST),
        NAME(""), NUMBER(""), END(""), BAD("");

        private static final Token[] ALL = values();

        private final String text;
        private final int op;

        Token(String text) {
            this(text, Code.NOTHING);
        }

        Token(String text, int op) {
            this.text = text;
            this.op = op;
        }

        /** The token that is written as these bytes of the tape, null if none is. */
        static Token spelled(Tape tape, int place, int length) {
            for (int i = 0; i < ALL.length; i++) {
                if (ALL[i].text.length() == length && ALL[i].standsAt(tape, place)) {
                    return ALL[i];
                }
            }
            return null;
        }

        private boolean standsAt(Tape tape, int place) {
            for (int i = 0; i < text.length(); i++) {
                if (tape.at(place + i) != text.charAt(i)) {
                    return false;
                }
            }
            return true;
        }

        boolean isOpFrom(int first, int last) {
            return op >= first && op <= last;
        }
    }

    /**
     * The tape, cut into tokens. Where a byte begins none, BAD ends the row: the reader comes to it
     * only if nothing before it is wrong, so the first fault is the one that is told.
     */
    private static final class Tokens {
        private static final int LONGEST_WORD = 6;
        private static final long TOO_GREAT = 1L << 31;

        private final Tape tape;
        private final Token[] kinds = new Token[Tape.MOST + 1];
        private final int[] places = new int[Tape.MOST + 1];
        private final int[] values = new int[Tape.MOST + 1];
        private int size;

        Tokens(Tape tape) {
            this.tape = tape;
        }

        void cut() {
            size = 0;
            int place = 0;
            while (place < tape.length) {
                int length = tape.at(place) == ' ' ? 1 : take(place);
                if (length == 0) {
                    put(Token.BAD, place, 0);
                    return;
                }
                place += length;
            }
            put(Token.END, tape.length, 0);
        }

        boolean areOneName() {
            return size == 2 && kinds[0] == Token.NAME && wordLength(0) == tape.length;
        }

        private void put(Token kind, int place, int value) {
            if (size < kinds.length) {
                kinds[size] = kind;
                places[size] = place;
                values[size] = value;
                size++;
            }
        }

        /** How long the token at a place is; 0 if none begins there. */
        private int take(int place) {
            int first = tape.at(place);
            if (isLetter(first)) {
                return takeWord(place);
            }
            return isDigit(first) ? takeNumber(place) : takeSign(place);
        }

        private int takeWord(int place) {
            int length = wordLength(place);
            if (length > LONGEST_WORD) {
                return 0;
            }
            Token word = Token.spelled(tape, place, length);
            put(word == null ? Token.NAME : word, place, packed(place, length));
            return length;
        }

        private int takeNumber(int place) {
            long value = 0;
            int length = 0;
            while (length < Tape.MOST && isDigit(tape.at(place + length))) {
                value = Math.min(TOO_GREAT, value * 10 + tape.at(place + length) - '0');
                length++;
            }
            if (value >= TOO_GREAT) {
                return 0;
            }
            put(Token.NUMBER, place, (int) value);
            return length;
        }

        private int takeSign(int place) {
            for (int length = 2; length > 0; length--) {
                Token sign = Token.spelled(tape, place, length);
                if (sign != null) {
                    put(sign, place, 0);
                    return length;
                }
            }
            return 0;
        }

        private int wordLength(int place) {
            int length = 0;
            while (length < Tape.MOST && isLetter(tape.at(place + length))) {
                length++;
            }
            return length;
        }

        /** Six letters of five bits each fit an int, so names need no texts of their own. */
        private int packed(int place, int length) {
            int word = 0;
            for (int i = 0; i < length; i++) {
                word = word * 32 + tape.at(place + i) - 'a' + 1;
            }
            return word;
        }

        private static boolean isLetter(int b) {
            return b >= 'a' && b <= 'z';
        }

        private static boolean isDigit(int b) {
            return b >= '0' && b <= '9';
        }
    }

    private static final class Box {
        private static final int PLACES = 32 * 32 * 32;

        private final int[] low = new int[AXES];
        private final int[] high = new int[AXES];

        void cover(Cube cube) {
            for (int axis = 0; axis < AXES; axis++) {
                limit(axis, 0, cube.sizes[axis] - 1);
            }
        }

        void limit(int axis, int first, int last) {
            low[axis] = first;
            high[axis] = last;
        }

        /** Becomes the box between two packed places; false if an array has no such box. */
        boolean spans(Cube cube, int from, int to) {
            if (from < 0 || from >= PLACES || to < 0 || to >= PLACES) {
                return false;
            }
            for (int axis = 0; axis < AXES; axis++) {
                int shift = 10 - 5 * axis;
                limit(axis, (from >> shift) & 31, (to >> shift) & 31);
                if (low[axis] > high[axis] || high[axis] >= cube.sizes[axis]) {
                    return false;
                }
            }
            return true;
        }
    }

    /** One array: its cells in the work and in each version. */
    private static final class Cube {
        private final int name;
        private final int[] sizes = new int[AXES];
        private final int volume;

        /** A version's cells are made when it first keeps the array; until then they are all NULL. */
        private final long[][] layers = new long[MOST_VERSIONS + 1][];

        Cube(int name, int x, int y, int z) {
            this.name = name;
            sizes[0] = x;
            sizes[1] = y;
            sizes[2] = z;
            volume = x * y * z;
            layers[WORK] = new long[volume];
            Arrays.fill(layers[WORK], NULL_CELL);
        }

        static boolean allows(int x, int y, int z) {
            return isSize(x) && isSize(y) && isSize(z) && x * y * z <= MOST_CELLS;
        }

        private static boolean isSize(int n) {
            return n >= 1 && n <= MOST_SIZE;
        }

        boolean has(int x, int y, int z) {
            return x >= 0 && x < sizes[0] && y >= 0 && y < sizes[1] && z >= 0 && z < sizes[2];
        }

        int indexOf(int x, int y, int z) {
            return (x * sizes[1] + y) * sizes[2] + z;
        }

        boolean isSizedLike(Cube other) {
            return sizes[0] == other.sizes[0] && sizes[1] == other.sizes[1] && sizes[2] == other.sizes[2];
        }

        long at(int layer, int index) {
            return layers[layer] == null ? NULL_CELL : layers[layer][index];
        }

        int paint(Box box, int start, int dx, int dy, int dz) {
            int painted = 0;
            for (int x = box.low[0]; x <= box.high[0]; x++) {
                for (int y = box.low[1]; y <= box.high[1]; y++) {
                    for (int z = box.low[2]; z <= box.high[2]; z++) {
                        layers[WORK][indexOf(x, y, z)] = start + dx * x + dy * y + dz * z;
                        painted++;
                    }
                }
            }
            return painted;
        }

        int clear(Box box) {
            int cleared = 0;
            for (int x = box.low[0]; x <= box.high[0]; x++) {
                for (int y = box.low[1]; y <= box.high[1]; y++) {
                    for (int z = box.low[2]; z <= box.high[2]; z++) {
                        int index = indexOf(x, y, z);
                        cleared += layers[WORK][index] == NULL_CELL ? 0 : 1;
                        layers[WORK][index] = NULL_CELL;
                    }
                }
            }
            return cleared;
        }

        void keepWork(int layer) {
            if (layers[layer] == null) {
                layers[layer] = new long[volume];
            }
            System.arraycopy(layers[WORK], 0, layers[layer], 0, volume);
        }

        void bringBack(int layer) {
            if (layers[layer] == null) {
                Arrays.fill(layers[WORK], NULL_CELL);
            } else {
                System.arraycopy(layers[layer], 0, layers[WORK], 0, volume);
            }
        }

        int differences(int one, int two) {
            int different = 0;
            for (int i = 0; i < volume; i++) {
                different += at(one, i) == at(two, i) ? 0 : 1;
            }
            return different;
        }

        int filled() {
            int filled = 0;
            for (int i = 0; i < volume; i++) {
                filled += layers[WORK][i] == NULL_CELL ? 0 : 1;
            }
            return filled;
        }
    }

    /** All arrays, and which version each of their layers holds. */
    private static final class Store {
        private static final int FREE = 0;

        private final Cube[] cubes = new Cube[MOST_ARRAYS];
        private int size;
        private final int[] numbers = new int[MOST_VERSIONS + 1];
        private int kept;
        private int given;

        Cube numbered(int array) {
            return array >= 0 && array < size ? cubes[array] : null;
        }

        Cube named(int name) {
            for (int i = 0; i < size; i++) {
                if (cubes[i].name == name) {
                    return cubes[i];
                }
            }
            return null;
        }

        int add(int name, int x, int y, int z) {
            if (size == MOST_ARRAYS) {
                return FULL;
            }
            cubes[size] = new Cube(name, x, y, z);
            size++;
            return size - 1;
        }

        int layerOf(int version) {
            if (version == 0) {
                return WORK;
            }
            for (int layer = WORK + 1; layer <= MOST_VERSIONS; layer++) {
                if (numbers[layer] == version) {
                    return layer;
                }
            }
            return GONE;
        }

        int keepWork() {
            for (int layer = WORK + 1; layer <= MOST_VERSIONS; layer++) {
                if (numbers[layer] == FREE) {
                    for (int i = 0; i < size; i++) {
                        cubes[i].keepWork(layer);
                    }
                    kept++;
                    given++;
                    numbers[layer] = given;
                    return given;
                }
            }
            return FULL;
        }

        int bringBack(int layer) {
            int different = differences(layer, WORK);
            for (int i = 0; i < size; i++) {
                cubes[i].bringBack(layer);
            }
            return different;
        }

        int forget(int layer) {
            numbers[layer] = FREE;
            kept--;
            return kept;
        }

        int differences(int one, int two) {
            int different = 0;
            for (int i = 0; i < size; i++) {
                different += cubes[i].differences(one, two);
            }
            return different;
        }

        int volume() {
            int volume = 0;
            for (int i = 0; i < size; i++) {
                volume += cubes[i].volume;
            }
            return volume;
        }

        int filled() {
            int filled = 0;
            for (int i = 0; i < size; i++) {
                filled += cubes[i].filled();
            }
            return filled;
        }
    }

    /** EXPRs and TESTs in the order in which a stack does them. A TEST leaves 1 or 0. */
    private static final class Code {
        static final int NOTHING = 0, NUMBER = 1, CELL = 2, X = 3, Y = 4, Z = 5, IT = 6;
        static final int NEGATE = 7, ABS = 8, IS_NULL = 9, NOT = 10;
        static final int ADD = 11, SUBTRACT = 12, TIMES = 13, DIVIDE = 14, REMAINDER = 15;
        static final int EQUAL = 16, UNEQUAL = 17, LESS = 18, AT_MOST = 19, MORE = 20, AT_LEAST = 21;
        static final int AND = 22, OR = 23;

        /** Each token makes one step at most, so a tape never makes more than it has bytes. */
        private final int[] ops = new int[Tape.MOST];
        private final int[] numbers = new int[Tape.MOST];
        private final long[][] cells = new long[Tape.MOST][];
        private int size;

        void add(int op) {
            addStep(op, 0, null);
        }

        void addNumber(int number) {
            addStep(NUMBER, number, null);
        }

        void addCells(long[] layer) {
            addStep(CELL, 0, layer);
        }

        private void addStep(int op, int number, long[] layer) {
            if (size < ops.length) {
                ops[size] = op;
                numbers[size] = number;
                cells[size] = layer;
                size++;
            }
        }
    }

    /** A query as it was read. */
    private static final class Plan {
        private static final int NO_AXIS = -1;

        private final Code code = new Code();
        private final Box box = new Box();
        private final Token[] tells = new Token[MOST_TELLS];
        private final int[] tellFrom = new int[MOST_TELLS];
        private final int[] tellTo = new int[MOST_TELLS];
        private int tellCount;
        private int testFrom;
        private int testTo;
        private int axis;
        private int layer;

        /** Null until the reader has come to it, behind the tells. */
        private Cube cube;

        void restart() {
            code.size = 0;
            tellCount = 0;
            testFrom = 0;
            testTo = 0;
            axis = NO_AXIS;
            cube = null;
        }

        void addTell(Token tell, int from) {
            if (tellCount < MOST_TELLS) {
                tells[tellCount] = tell;
                tellFrom[tellCount] = from;
                tellTo[tellCount] = code.size;
                tellCount++;
            }
        }

        boolean hasTest() {
            return testFrom < testTo;
        }

        int rowCount() {
            return axis == NO_AXIS ? 1 : box.high[axis] - box.low[axis] + 1;
        }

        int firstCoordinate() {
            return axis == NO_AXIS ? 0 : box.low[axis];
        }
    }

    /** Reads tokens from left to right into a plan; each part answers whether it was read without a fault. */
    private static final class Reader {
        private static final int DEEPEST = 8;
        private static final int MOST_FACTORS = 100;

        private final Tokens tokens;
        private final Store store;
        private final Plan plan;
        private final Code code;
        private int at;
        private Token kind;
        private int fault;
        private int factors;
        private Cube cube;
        private int layer;

        /** Arrays of the tells: their sizes can be judged only when the query's array is known. */
        private final Cube[] early = new Cube[MOST_FACTORS];
        private final int[] earlyPlaces = new int[MOST_FACTORS];
        private int earlyCount;

        Reader(Tokens tokens, Store store, Plan plan) {
            this.tokens = tokens;
            this.store = store;
            this.plan = plan;
            this.code = plan.code;
        }

        int readQuery() {
            at = 0;
            kind = tokens.kinds[0];
            factors = 0;
            earlyCount = 0;
            plan.restart();
            boolean good = tells() && expect(Token.OF) && source() && range() && test() && axis()
                && expect(Token.END);
            return good ? NONE : fault;
        }

        private boolean tells() {
            for (int i = 0; i < MOST_TELLS; i++) {
                if (!tell()) {
                    return false;
                }
                if (!accept(Token.COMMA)) {
                    return true;
                }
            }
            return fail();
        }

        private boolean tell() {
            Token tell = kind;
            int from = code.size;
            if (tell == Token.SUM || tell == Token.MIN || tell == Token.MAX || tell == Token.FIRST) {
                advance();
                if (!expect(Token.OPEN) || !sum(0) || !expect(Token.CLOSE)) {
                    return false;
                }
            } else if (!expect(Token.COUNT)) {
                return false;
            }
            plan.addTell(tell, from);
            return true;
        }

        private boolean source() {
            boolean good = array();
            // A tell's array stands before all that is read now, so its fault is the first.
            for (int i = 0; cube != null && i < earlyCount; i++) {
                if (!early[i].isSizedLike(cube)) {
                    fault = earlyPlaces[i];
                    return false;
                }
            }
            plan.cube = cube;
            plan.layer = layer;
            return good;
        }

        /** Leaves what it has read in cube (null if there is no such array) and layer. */
        private boolean array() {
            cube = kind == Token.NAME ? store.named(tokens.values[at]) : null;
            layer = WORK;
            if (cube == null || (plan.cube != null && !cube.isSizedLike(plan.cube))) {
                return fail();
            }
            advance();
            if (kind != Token.AT) {
                return true;
            }
            advance();
            layer = kind == Token.NUMBER ? store.layerOf(tokens.values[at]) : GONE;
            if (layer <= WORK) {
                return fail();
            }
            advance();
            return true;
        }

        private boolean range() {
            plan.box.cover(plan.cube);
            if (!accept(Token.OPEN_BOX)) {
                return true;
            }
            for (int axis = 0; axis < AXES; axis++) {
                if ((axis > 0 && !expect(Token.COMMA)) || !rangeOf(axis)) {
                    return false;
                }
            }
            return expect(Token.CLOSE_BOX);
        }

        private boolean rangeOf(int axis) {
            if (accept(Token.STAR)) {
                return true;
            }
            int first = tokens.values[at];
            if (!coordinate(axis, 0)) {
                return false;
            }
            int last = first;
            if (accept(Token.COLON)) {
                last = tokens.values[at];
                if (!coordinate(axis, first)) {
                    return false;
                }
            }
            plan.box.limit(axis, first, last);
            return true;
        }

        private boolean coordinate(int axis, int least) {
            int value = tokens.values[at];
            if (kind != Token.NUMBER || value < least || value >= plan.cube.sizes[axis]) {
                return fail();
            }
            advance();
            return true;
        }

        private boolean test() {
            if (!accept(Token.WHERE)) {
                return true;
            }
            plan.testFrom = code.size;
            boolean good = any(0);
            plan.testTo = code.size;
            return good;
        }

        private boolean axis() {
            if (!accept(Token.BY)) {
                return true;
            }
            if (!kind.isOpFrom(Code.X, Code.Z)) {
                return fail();
            }
            plan.axis = kind.op - Code.X;
            advance();
            return true;
        }

        private boolean any(int depth) {
            boolean good = all(depth);
            for (int i = 0; good && i < Tape.MOST && accept(Token.OR); i++) {
                good = all(depth);
                code.add(Code.OR);
            }
            return good;
        }

        private boolean all(int depth) {
            boolean good = one(depth);
            for (int i = 0; good && i < Tape.MOST && accept(Token.AND); i++) {
                good = one(depth);
                code.add(Code.AND);
            }
            return good;
        }

        private boolean one(int depth) {
            if (kind == Token.NOT) {
                boolean good = deepen(Token.NOT, depth) && one(depth + 1);
                code.add(Code.NOT);
                return good;
            }
            if (kind == Token.OPEN) {
                return deepen(Token.OPEN, depth) && any(depth + 1) && expect(Token.CLOSE);
            }
            if (accept(Token.NULL)) {
                boolean good = bracket(depth);
                code.add(Code.IS_NULL);
                return good;
            }
            boolean good = sum(depth);
            int op = kind.op;
            good = good && sign() && sum(depth);
            code.add(op);
            return good;
        }

        private boolean sign() {
            if (!kind.isOpFrom(Code.EQUAL, Code.AT_LEAST)) {
                return fail();
            }
            advance();
            return true;
        }

        private boolean sum(int depth) {
            boolean good = product(depth);
            for (int i = 0; good && i < Tape.MOST && kind.isOpFrom(Code.ADD, Code.SUBTRACT); i++) {
                int op = kind.op;
                advance();
                good = product(depth);
                code.add(op);
            }
            return good;
        }

        private boolean product(int depth) {
            boolean good = factor(depth);
            for (int i = 0; good && i < Tape.MOST && kind.isOpFrom(Code.TIMES, Code.REMAINDER); i++) {
                int op = kind.op;
                advance();
                good = factor(depth);
                code.add(op);
            }
            return good;
        }

        private boolean factor(int depth) {
            if (kind == Token.MINUS) {
                boolean good = deepen(Token.MINUS, depth) && factor(depth + 1);
                code.add(Code.NEGATE);
                return good;
            }
            if (kind == Token.OPEN) {
                return bracket(depth);
            }
            if (accept(Token.ABS)) {
                boolean good = bracket(depth);
                code.add(Code.ABS);
                return good;
            }
            if (factors == MOST_FACTORS) {
                return fail();
            }
            factors++;
            return kind == Token.NAME ? cellBeside() : plainFactor();
        }

        private boolean bracket(int depth) {
            return deepen(Token.OPEN, depth) && sum(depth + 1) && expect(Token.CLOSE);
        }

        private boolean plainFactor() {
            if (kind == Token.NUMBER) {
                code.addNumber(tokens.values[at]);
            } else if (kind.isOpFrom(Code.X, Code.IT)) {
                code.add(kind.op);
            } else {
                return fail();
            }
            advance();
            return true;
        }

        private boolean cellBeside() {
            int place = tokens.places[at];
            if (!array()) {
                return false;
            }
            if (plan.cube == null && earlyCount < MOST_FACTORS) {
                early[earlyCount] = cube;
                earlyPlaces[earlyCount] = place;
                earlyCount++;
            }
            code.addCells(cube.layers[layer]);
            return true;
        }

        /** Goes past a token that leads one level down, if there is such a level. */
        private boolean deepen(Token wanted, int depth) {
            if (kind != wanted || depth >= DEEPEST) {
                return fail();
            }
            advance();
            return true;
        }

        private boolean accept(Token wanted) {
            if (kind != wanted) {
                return false;
            }
            advance();
            return true;
        }

        private boolean expect(Token wanted) {
            if (kind != wanted) {
                return fail();
            }
            advance();
            return true;
        }

        /** The last token, END or BAD, is never left, so there is always one to look at. */
        private void advance() {
            if (at < tokens.size - 1) {
                at++;
                kind = tokens.kinds[at];
            }
        }

        private boolean fail() {
            fault = tokens.places[at];
            return false;
        }
    }

    /** Does a plan at each place of its box. */
    private static final class Machine {
        /** More than the factors of a query, so that the stack can hold them all. */
        private static final int HEIGHT = 128;

        private final Plan plan;
        private final Answer answer;
        private final long[] values = new long[HEIGHT];
        private final boolean[] nulls = new boolean[HEIGHT];
        private int height;
        private final int[] place = new int[AXES];
        private int index;

        Machine(Plan plan, Answer answer) {
            this.plan = plan;
            this.answer = answer;
        }

        void ask() {
            answer.restart(plan);
            Box box = plan.box;
            for (int x = box.low[0]; x <= box.high[0]; x++) {
                for (int y = box.low[1]; y <= box.high[1]; y++) {
                    for (int z = box.low[2]; z <= box.high[2]; z++) {
                        place[0] = x;
                        place[1] = y;
                        place[2] = z;
                        index = plan.cube.indexOf(x, y, z);
                        visit();
                    }
                }
            }
        }

        private void visit() {
            if (plan.hasTest()) {
                run(plan.testFrom, plan.testTo);
                if (values[0] == 0) {
                    return;
                }
            }
            int row = plan.axis == Plan.NO_AXIS ? 0 : place[plan.axis] - plan.box.low[plan.axis];
            for (int i = 0; i < plan.tellCount; i++) {
                if (plan.tells[i] == Token.COUNT) {
                    answer.add(Token.COUNT, row, i + 1, 1);
                } else {
                    run(plan.tellFrom[i], plan.tellTo[i]);
                    if (!nulls[0]) {
                        answer.add(plan.tells[i], row, i + 1, values[0]);
                    }
                }
            }
        }

        /** What comes out stands at the bottom of the stack. */
        private void run(int from, int to) {
            height = 0;
            for (int i = from; i < to; i++) {
                step(i);
            }
        }

        private void step(int i) {
            int op = plan.code.ops[i];
            switch (op) {
                case Code.NUMBER:
                    push(plan.code.numbers[i], false);
                    break;
                case Code.X:
                case Code.Y:
                case Code.Z:
                    push(place[op - Code.X], false);
                    break;
                case Code.IT:
                    pushCell(plan.cube.layers[plan.layer]);
                    break;
                case Code.CELL:
                    pushCell(plan.code.cells[i]);
                    break;
                case Code.NEGATE:
                case Code.ABS:
                case Code.IS_NULL:
                case Code.NOT:
                    change(op);
                    break;
                default:
                    join(op);
            }
        }

        private void pushCell(long[] layer) {
            boolean isNull = layer == null || layer[index] == NULL_CELL;
            push(isNull ? 0 : layer[index], isNull);
        }

        private void push(long value, boolean isNull) {
            if (height < HEIGHT) {
                values[height] = value;
                nulls[height] = isNull;
                height++;
            }
        }

        private void change(int op) {
            if (height < 1) {
                return;
            }
            int top = height - 1;
            if (op == Code.NEGATE) {
                values[top] = -values[top];
            } else if (op == Code.ABS) {
                values[top] = Math.abs(values[top]);
            } else if (op == Code.NOT) {
                values[top] = 1 - values[top];
            } else {
                values[top] = nulls[top] ? 1 : 0;
                nulls[top] = false;
            }
        }

        private void join(int op) {
            if (height < 2) {
                return;
            }
            height--;
            int top = height - 1;
            long left = values[top];
            long right = values[height];
            boolean isNull = nulls[top] || nulls[height];
            if (op >= Code.EQUAL) {
                values[top] = !isNull && holds(op, left, right) ? 1 : 0;
                nulls[top] = false;
            } else {
                boolean byZero = right == 0 && (op == Code.DIVIDE || op == Code.REMAINDER);
                nulls[top] = isNull || byZero;
                values[top] = nulls[top] ? 0 : reckon(op, left, right);
            }
        }

        private static boolean holds(int op, long left, long right) {
            switch (op) {
                case Code.EQUAL:
                    return left == right;
                case Code.UNEQUAL:
                    return left != right;
                case Code.LESS:
                    return left < right;
                case Code.AT_MOST:
                    return left <= right;
                case Code.MORE:
                    return left > right;
                case Code.AT_LEAST:
                    return left >= right;
                case Code.AND:
                    return left != 0 && right != 0;
                default:
                    return left != 0 || right != 0;
            }
        }

        private static long reckon(int op, long left, long right) {
            switch (op) {
                case Code.ADD:
                    return left + right;
                case Code.SUBTRACT:
                    return left - right;
                case Code.TIMES:
                    return left * right;
                case Code.DIVIDE:
                    return right == 0 ? 0 : left / right;
                default:
                    return right == 0 ? 0 : left % right;
            }
        }
    }

    /** The rows of the latest query. */
    private static final class Answer {
        private static final int WIDTH = MOST_TELLS + 1;

        private final long[] values = new long[MOST_SIZE * WIDTH];
        private final boolean[] nulls = new boolean[MOST_SIZE * WIDTH];
        private int rowCount;
        private int columnCount;

        void restart(Plan plan) {
            rowCount = plan.rowCount();
            columnCount = plan.tellCount + 1;
            for (int row = 0; row < rowCount; row++) {
                values[row * WIDTH] = plan.firstCoordinate() + (long) row;
                for (int column = 1; column < columnCount; column++) {
                    Token tell = plan.tells[column - 1];
                    values[row * WIDTH + column] = 0;
                    nulls[row * WIDTH + column] = tell != Token.COUNT && tell != Token.SUM;
                }
            }
        }

        void add(Token tell, int row, int column, long value) {
            int i = row * WIDTH + column;
            if (tell == Token.COUNT || tell == Token.SUM) {
                values[i] += value;
            } else if (nulls[i] || (tell == Token.MIN && value < values[i])
                || (tell == Token.MAX && value > values[i])) {
                values[i] = value;
                nulls[i] = false;
            }
        }

        long at(int row, int column) {
            if (row < 0 || row >= rowCount || column < 0 || column >= columnCount) {
                return NO_ANSWER;
            }
            int i = row * WIDTH + column;
            return nulls[i] ? NULL_ANSWER : values[i];
        }
    }
}
