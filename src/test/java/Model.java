import java.util.ArrayList;
import java.util.Arrays;
import java.util.LinkedHashMap;
import java.util.List;
import java.util.Map;
import java.util.Set;
import java.util.TreeMap;
import java.util.function.Function;
import java.util.function.Predicate;

/**
 * The document once more, written with what the program may not use: maps, exceptions, functions.
 * ModelTest lets both do the same calls.
 */
final class Model {
    private static final Set<String> RESERVED = Set.of("of", "where", "by", "count", "sum", "min", "max", "first", "and",
        "or", "not", "null", "it", "x", "y", "z", "abs");

    record Place(int x, int y, int z) {
        int along(String axis) {
            return axis.equals("x") ? x : axis.equals("y") ? y : z;
        }
    }

    record Token(String text, int place) {
    }

    interface Expr extends Function<Place, Long> {
    }

    interface Test extends Predicate<Place> {
    }

    private static final class Fault extends RuntimeException {
        private static final long serialVersionUID = 1;
        final int place;

        Fault(int place) {
            super(null, null, false, false);
            this.place = place;
        }
    }

    private final Map<String, Place> sizes = new LinkedHashMap<>();
    private Map<String, Map<Place, Integer>> work = new LinkedHashMap<>();
    private final TreeMap<Integer, Map<String, Map<Place, Integer>>> versions = new TreeMap<>();
    private int given;
    private String tape = "";
    List<List<Long>> answer = new ArrayList<>();
    int columns;

    int feed(String twenty) {
        if (tape.length() + 20 > 600) {
            return ArrayVault.FULL;
        }
        tape += twenty;
        return tape.length();
    }

    int end(int n) {
        if (n < 0 || n > tape.length()) {
            return ArrayVault.REFUSED;
        }
        tape = tape.substring(0, n);
        return n;
    }

    int make(int x, int y, int z) {
        String name = tape;
        tape = "";
        boolean sized = Math.min(x, Math.min(y, z)) >= 1 && Math.max(x, Math.max(y, z)) <= 24 && x * y * z <= 2000;
        if (!name.matches("[a-z]{1,6}") || RESERVED.contains(name) || !sized) {
            return ArrayVault.REFUSED;
        }
        if (sizes.containsKey(name)) {
            return ArrayVault.THERE;
        }
        if (sizes.size() == 6) {
            return ArrayVault.FULL;
        }
        sizes.put(name, new Place(x, y, z));
        work.put(name, new LinkedHashMap<>());
        return sizes.size() - 1;
    }

    private String nameOf(int array) {
        return array >= 0 && array < sizes.size() ? new ArrayList<>(sizes.keySet()).get(array) : null;
    }

    private boolean inside(String name, int x, int y, int z) {
        Place s = name == null ? null : sizes.get(name);
        return s != null && x >= 0 && x < s.x && y >= 0 && y < s.y && z >= 0 && z < s.z;
    }

    int set(int array, int x, int y, int z, int v) {
        String name = nameOf(array);
        if (!inside(name, x, y, z)) {
            return ArrayVault.NONE;
        }
        work.get(name).put(new Place(x, y, z), v);
        return 0;
    }

    private List<Place> between(String name, int from, int to) {
        if (from < 0 || from > 32767 || to < 0 || to > 32767) {
            return null;
        }
        Place a = new Place(from / 1024, from / 32 % 32, from % 32);
        Place b = new Place(to / 1024, to / 32 % 32, to % 32);
        if (!inside(name, a.x, a.y, a.z) || !inside(name, b.x, b.y, b.z) || b.x < a.x || b.y < a.y || b.z < a.z) {
            return null;
        }
        return places(a, b);
    }

    private static List<Place> places(Place a, Place b) {
        List<Place> all = new ArrayList<>();
        for (int x = a.x; x <= b.x; x++) {
            for (int y = a.y; y <= b.y; y++) {
                for (int z = a.z; z <= b.z; z++) {
                    all.add(new Place(x, y, z));
                }
            }
        }
        return all;
    }

    int fill(int array, int from, int to, int start, int dx, int dy, int dz) {
        List<Place> box = between(nameOf(array), from, to);
        if (box == null) {
            return ArrayVault.NONE;
        }
        for (Place p : box) {
            work.get(nameOf(array)).put(p, (int) ((long) start + (long) dx * p.x + (long) dy * p.y + (long) dz * p.z));
        }
        return box.size();
    }

    int wipe(int array, int from, int to) {
        List<Place> box = between(nameOf(array), from, to);
        if (box == null) {
            return ArrayVault.NONE;
        }
        int before = work.get(nameOf(array)).size();
        work.get(nameOf(array)).keySet().removeAll(Set.copyOf(box));
        return before - work.get(nameOf(array)).size();
    }

    private static Map<String, Map<Place, Integer>> copy(Map<String, Map<Place, Integer>> cells) {
        Map<String, Map<Place, Integer>> copy = new LinkedHashMap<>();
        cells.forEach((name, map) -> copy.put(name, new LinkedHashMap<>(map)));
        return copy;
    }

    int commit() {
        if (versions.size() == 12) {
            return ArrayVault.FULL;
        }
        given++;
        versions.put(given, copy(work));
        return given;
    }

    private Map<String, Map<Place, Integer>> cellsOf(int version) {
        return version == 0 ? work : versions.get(version);
    }

    int open(int version) {
        if (!versions.containsKey(version)) {
            return ArrayVault.NONE;
        }
        int different = differ(0, version);
        work = copy(versions.get(version));
        sizes.keySet().forEach(name -> work.putIfAbsent(name, new LinkedHashMap<>()));
        return different;
    }

    int drop(int version) {
        return versions.remove(version) == null ? ArrayVault.NONE : versions.size();
    }

    int differ(int one, int two) {
        if (cellsOf(one) == null || cellsOf(two) == null) {
            return ArrayVault.NONE;
        }
        int different = 0;
        for (String name : sizes.keySet()) {
            for (Place p : allOf(name)) {
                Integer a = cellsOf(one).getOrDefault(name, Map.of()).get(p);
                Integer b = cellsOf(two).getOrDefault(name, Map.of()).get(p);
                different += java.util.Objects.equals(a, b) ? 0 : 1;
            }
        }
        return different;
    }

    private List<Place> allOf(String name) {
        Place s = sizes.get(name);
        return places(new Place(0, 0, 0), new Place(s.x - 1, s.y - 1, s.z - 1));
    }

    long get(int array, int x, int y, int z, int version) {
        String name = nameOf(array);
        if (!inside(name, x, y, z) || cellsOf(version) == null) {
            return (1L << 40) + 1;
        }
        Integer v = cellsOf(version).getOrDefault(name, Map.of()).get(new Place(x, y, z));
        return v == null ? 1L << 40 : v;
    }

    int count(int what) {
        return switch (what) {
            case 0 -> sizes.size();
            case 1 -> versions.size();
            case 2 -> given;
            case 3 -> sizes.values().stream().mapToInt(s -> s.x * s.y * s.z).sum();
            case 4 -> work.values().stream().mapToInt(Map::size).sum();
            case 5 -> columns;
            default -> ArrayVault.REFUSED;
        };
    }

    long cell(int r, int c) {
        if (r < 0 || r >= answer.size() || c < 0 || c >= columns) {
            return (1L << 62) + 1;
        }
        Long v = answer.get(r).get(c);
        return v == null ? 1L << 62 : v;
    }

    int query() {
        String text = tape;
        tape = "";
        try {
            new Query(text).answer();
            return ArrayVault.NONE;
        } catch (Fault fault) {
            return fault.place;
        }
    }

    private final class Query {
        private final String text;
        private Token token;
        private int next;
        private int factors;
        private String source;
        private int version;
        private final Map<Integer, String> judgedLater = new TreeMap<>();
        private final List<String> tells = new ArrayList<>();
        private final List<Expr> exprs = new ArrayList<>();

        Query(String text) {
            this.text = text;
            advance();
        }

        /** A token that is none has the text null, one that is the end an empty one. */
        private void advance() {
            while (next < text.length() && text.charAt(next) == ' ') {
                next++;
            }
            int from = next;
            String rest = text.substring(from);
            String found = "";
            for (String form : new String[] {"[a-z]+", "[0-9]+", "!=|<=|>=|[\\[\\](),:@*+/%=<>-]"}) {
                var m = java.util.regex.Pattern.compile(form).matcher(rest);
                if (m.lookingAt()) {
                    found = m.group();
                }
            }
            next = from + found.length();
            boolean bad = found.isEmpty() && !rest.isEmpty() || found.matches("[a-z]{7,}")
                || found.matches("[0-9]+") && new java.math.BigInteger(found).bitLength() > 31;
            token = new Token(bad ? null : found, from);
        }

        private boolean is(String... texts) {
            return token.text != null && Arrays.asList(texts).contains(token.text);
        }

        private boolean isNumber() {
            return token.text != null && token.text.matches("[0-9]+");
        }

        private Fault fault() {
            return new Fault(token.place);
        }

        private String take(String... texts) {
            if (!is(texts)) {
                throw fault();
            }
            String taken = token.text;
            advance();
            return taken;
        }

        private boolean takeIf(String wanted) {
            boolean there = is(wanted);
            if (there) {
                advance();
            }
            return there;
        }

        void answer() {
            do {
                if (tells.size() == 4) {
                    throw fault();
                }
                tells.add(take("count", "sum", "min", "max", "first"));
                if (tells.get(tells.size() - 1).equals("count")) {
                    exprs.add(p -> 1L);
                } else {
                    take("(");
                    exprs.add(expr(0));
                    take(")");
                }
            } while (takeIf(","));
            take("of");
            source = name();
            for (var e : judgedLater.entrySet()) {
                if (!sizes.get(e.getValue()).equals(sizes.get(source))) {
                    throw new Fault(e.getKey());
                }
            }
            version = version();
            Place s = sizes.get(source);
            int[] low = {0, 0, 0};
            int[] high = {s.x - 1, s.y - 1, s.z - 1};
            if (takeIf("[")) {
                for (int i = 0; i < 3; i++) {
                    if (i > 0) {
                        take(",");
                    }
                    if (!takeIf("*")) {
                        int size = high[i] + 1;
                        low[i] = coordinate(0, size);
                        high[i] = takeIf(":") ? coordinate(low[i], size) : low[i];
                    }
                }
                take("]");
            }
            Test test = takeIf("where") ? test(0) : p -> true;
            String axis = takeIf("by") ? take("x", "y", "z") : null;
            take("");
            fillRows(places(new Place(low[0], low[1], low[2]), new Place(high[0], high[1], high[2])), test, axis);
        }

        private void fillRows(List<Place> box, Test test, String axis) {
            TreeMap<Integer, List<Place>> groups = new TreeMap<>();
            for (Place p : box) {
                groups.computeIfAbsent(axis == null ? 0 : p.along(axis), k -> new ArrayList<>()).add(p);
            }
            answer = new ArrayList<>();
            columns = tells.size() + 1;
            groups.forEach((coordinate, places) -> {
                List<Long> row = new ArrayList<>(List.of((long) coordinate));
                for (int i = 0; i < tells.size(); i++) {
                    List<Long> values = places.stream().filter(test).map(exprs.get(i)).filter(v -> v != null).toList();
                    row.add(switch (tells.get(i)) {
                        case "count" -> (long) values.size();
                        case "sum" -> values.stream().mapToLong(v -> v).sum();
                        case "min" -> values.stream().min(Long::compare).orElse(null);
                        case "max" -> values.stream().max(Long::compare).orElse(null);
                        default -> values.isEmpty() ? null : values.get(0);
                    });
                }
                answer.add(row);
            });
        }

        private int coordinate(int least, int below) {
            if (!isNumber() || number() < least || number() >= below) {
                throw fault();
            }
            int value = number();
            advance();
            return value;
        }

        private int number() {
            return (int) Long.parseLong(token.text);
        }

        private String name() {
            if (token.text == null || !sizes.containsKey(token.text)) {
                throw fault();
            }
            String name = token.text;
            advance();
            return name;
        }

        private int version() {
            if (!takeIf("@")) {
                return 0;
            }
            if (!isNumber() || !versions.containsKey(number())) {
                throw fault();
            }
            int version = number();
            advance();
            return version;
        }

        private void deeper(int depth) {
            if (depth == 8) {
                throw fault();
            }
        }

        private Test test(int depth) {
            Test left = all(depth);
            while (takeIf("or")) {
                Test a = left;
                Test b = all(depth);
                left = p -> a.test(p) || b.test(p);
            }
            return left;
        }

        private Test all(int depth) {
            Test left = not(depth);
            while (takeIf("and")) {
                Test a = left;
                Test b = not(depth);
                left = p -> a.test(p) && b.test(p);
            }
            return left;
        }

        private Test not(int depth) {
            if (is("not")) {
                deeper(depth);
                advance();
                Test inner = not(depth + 1);
                return p -> !inner.test(p);
            }
            if (is("null")) {
                advance();
                Expr inner = bracket(depth);
                return p -> inner.apply(p) == null;
            }
            if (is("(")) {
                deeper(depth);
                advance();
                Test inner = test(depth + 1);
                take(")");
                return inner;
            }
            Expr a = expr(depth);
            String sign = take("=", "!=", "<", "<=", ">", ">=");
            Expr b = expr(depth);
            return p -> a.apply(p) != null && b.apply(p) != null && holds(sign, a.apply(p).compareTo(b.apply(p)));
        }

        private boolean holds(String sign, int order) {
            return switch (sign) {
                case "=" -> order == 0;
                case "!=" -> order != 0;
                case "<" -> order < 0;
                case "<=" -> order <= 0;
                case ">" -> order > 0;
                default -> order >= 0;
            };
        }

        private Expr bracket(int depth) {
            if (is("(")) {
                deeper(depth);
            }
            take("(");
            Expr inner = expr(depth + 1);
            take(")");
            return inner;
        }

        private Expr expr(int depth) {
            Expr left = term(depth);
            while (is("+", "-")) {
                left = joined(take("+", "-"), left, term(depth));
            }
            return left;
        }

        private Expr term(int depth) {
            Expr left = factor(depth);
            while (is("*", "/", "%")) {
                left = joined(take("*", "/", "%"), left, factor(depth));
            }
            return left;
        }

        private Expr joined(String sign, Expr a, Expr b) {
            return p -> {
                Long u = a.apply(p);
                Long v = b.apply(p);
                if (u == null || v == null || v == 0 && (sign.equals("/") || sign.equals("%"))) {
                    return null;
                }
                return switch (sign) {
                    case "+" -> u + v;
                    case "-" -> u - v;
                    case "*" -> u * v;
                    case "/" -> u / v;
                    default -> u - v * (u / v);
                };
            };
        }

        private Expr factor(int depth) {
            if (is("-")) {
                deeper(depth);
                advance();
                Expr inner = factor(depth + 1);
                return p -> inner.apply(p) == null ? null : Long.valueOf(-inner.apply(p));
            }
            if (is("abs")) {
                advance();
                Expr inner = bracket(depth);
                return p -> inner.apply(p) == null ? null : Long.valueOf(Math.abs(inner.apply(p)));
            }
            if (is("(")) {
                return bracket(depth);
            }
            factors++;
            if (factors > 100) {
                throw fault();
            }
            if (isNumber()) {
                long value = number();
                advance();
                return p -> value;
            }
            if (is("x", "y", "z")) {
                String axis = take("x", "y", "z");
                return p -> (long) p.along(axis);
            }
            if (takeIf("it")) {
                return p -> valueOf(source, version, p);
            }
            return cellBeside();
        }

        private Expr cellBeside() {
            int place = token.place;
            String name = name();
            if (source == null) {
                judgedLater.put(place, name);
            } else if (!sizes.get(name).equals(sizes.get(source))) {
                throw new Fault(place);
            }
            int of = version();
            return p -> valueOf(name, of, p);
        }

        private Long valueOf(String name, int version, Place p) {
            Integer v = cellsOf(version).getOrDefault(name, Map.of()).get(p);
            return v == null ? null : Long.valueOf(v);
        }
    }
}
