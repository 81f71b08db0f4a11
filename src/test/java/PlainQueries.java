import java.util.ArrayList;
import java.util.Arrays;
import java.util.HashMap;
import java.util.List;
import java.util.Map;

/**
 * Sections 5 and 6, and the WORK of section 3, done a second time, for PlainHall: values are objects (Long, String,
 * null for NULL), a truth is a Boolean (null for UNKNOWN), and each query is asked as it stands.
 */
final class PlainQueries {
    /** More than any work that is let. */
    private static final long MUCH = 1_000_000_000L;

    /** A block that is asked: where in its sources it stands, and the group that is told now. */
    static final class Place {
        final Place around;
        Object[][] rows;
        List<Object[][]> group;

        Place(Place itsAround, Object[]... itsRows) {
            around = itsAround;
            rows = itsRows;
        }
    }

    private final PlainHall hall;
    /** The rows of each table, as the statement sees them, and the answers and the work of views. */
    private final Map<String, List<Object[]>> rows = new HashMap<>();
    private final Map<String, Long> work = new HashMap<>();

    PlainQueries(PlainHall itsHall) {
        hall = itsHall;
    }

    void see(String table, List<Object[]> its) {
        rows.put(table, its);
    }

    List<Object[]> rowsOf(String source) {
        if (!rows.containsKey(source)) {
            rows.put(source, ask(hall.view(source).query, null));
        }
        return rows.get(source);
    }

    // ---- values

    static int compare(Object one, Object other) {
        if (one == null || other == null) {
            return one == other ? 0 : one == null ? -1 : 1;
        }
        return one instanceof Long ? Long.compare((Long) one, (Long) other) : ((String) one).compareTo((String) other);
    }

    static boolean has(List<Object[]> rows, Object[] row) {
        for (Object[] one : rows) {
            if (Arrays.equals(one, row)) {
                return true;
            }
        }
        return false;
    }

    private static List<Object[]> once(List<Object[]> all) {
        List<Object[]> once = new ArrayList<>();
        for (Object[] row : all) {
            if (!has(once, row)) {
                once.add(row);
            }
        }
        return once;
    }

    // ---- queries

    List<Object[]> ask(PlainText.Query query, Place around) {
        List<Object[]> all = new ArrayList<>();
        for (int i = 0; i < query.blocks.size(); i++) {
            List<Object[]> one = ask(query.blocks.get(i), around);
            if (query.joins.get(i).equals("except")) {
                all.removeIf(row -> has(one, row));
            } else {
                all.addAll(one);
            }
            all = i == 0 ? all : once(all);
        }
        all.sort((row, other) -> compare(query.keys, row, other));
        List<Object[]> told = new ArrayList<>();
        for (int i = 0; i < all.size(); i++) {
            if (i >= query.offset && told.size() < query.limit) {
                told.add(all.get(i));
            }
        }
        return told;
    }

    private static int compare(List<PlainText.Key> keys, Object[] row, Object[] other) {
        for (PlainText.Key key : keys) {
            int found = compare(row[(int) key.item() - 1], other[(int) key.item() - 1]);
            if (found != 0) {
                return key.isDown() ? -found : found;
            }
        }
        return 0;
    }

    private List<Object[]> ask(PlainText.Block block, Place around) {
        Place place = new Place(around);
        List<Object[][]> stay = new ArrayList<>();
        for (Object[][] combination : combinations(block, place)) {
            place.rows = combination;
            if (block.where == null || isTrue(block.where, place)) {
                stay.add(combination);
            }
        }
        List<Object[]> told = new ArrayList<>();
        if (PlainText.isGrouped(block)) {
            for (List<Object[][]> group : groups(block, stay, place)) {
                place.group = group;
                place.rows = group.isEmpty() ? new Object[block.sources.size()][] : group.get(0);
                if (block.having == null || isTrue(block.having, place)) {
                    told.add(items(block, place));
                }
            }
        } else {
            for (Object[][] combination : stay) {
                place.rows = combination;
                told.add(items(block, place));
            }
        }
        return block.isDistinct ? once(told) : told;
    }

    private List<Object[][]> combinations(PlainText.Block block, Place place) {
        List<Object[][]> all = new ArrayList<>();
        all.add(new Object[block.sources.size()][]);
        for (int s = 0; s < block.sources.size(); s++) {
            PlainText.Source source = block.sources.get(s);
            List<Object[][]> longer = new ArrayList<>();
            for (Object[][] one : all) {
                boolean hasOne = false;
                for (Object[] row : rowsOf(source.name())) {
                    place.rows = with(one, s, row);
                    if (source.on() == null || isTrue(source.on(), place)) {
                        hasOne = true;
                        longer.add(place.rows);
                    }
                }
                if (source.how().equals("left") && !hasOne) {
                    longer.add(with(one, s, new Object[hall.source(source.name()).names().size()]));
                }
            }
            all = longer;
        }
        return all;
    }

    private static Object[][] with(Object[][] rows, int source, Object[] row) {
        Object[][] longer = rows.clone();
        longer[source] = row;
        return longer;
    }

    private List<List<Object[][]>> groups(PlainText.Block block, List<Object[][]> stay, Place place) {
        List<List<Object[][]>> groups = new ArrayList<>();
        if (block.groupedBy.isEmpty()) {
            groups.add(stay);
            return groups;
        }
        Map<List<Object>, List<Object[][]>> byValues = new HashMap<>();
        for (Object[][] combination : stay) {
            byValues.computeIfAbsent(valuesOf(block, combination, place), values -> new ArrayList<>()).add(combination);
        }
        groups.addAll(byValues.values());
        groups.sort((group, other) -> {
            List<Object> values = valuesOf(block, group.get(0), place);
            List<Object> others = valuesOf(block, other.get(0), place);
            int found = 0;
            for (int i = 0; i < values.size() && found == 0; i++) {
                found = compare(values.get(i), others.get(i));
            }
            return found;
        });
        return groups;
    }

    private List<Object> valuesOf(PlainText.Block block, Object[][] combination, Place place) {
        place.rows = combination;
        List<Object> values = new ArrayList<>();
        for (PlainText.Part ref : block.groupedBy) {
            values.add(value(ref, place));
        }
        return values;
    }

    private Object[] items(PlainText.Block block, Place place) {
        List<Object> values = new ArrayList<>();
        for (int s = 0; block.star >= 0 && s < block.sources.size(); s++) {
            values.addAll(Arrays.asList(place.rows[s]));
        }
        for (PlainText.Item item : block.items) {
            values.add(value(item.sum(), place));
        }
        return values.toArray();
    }

    // ---- tests

    boolean isTrue(PlainText.Part test, Place place) {
        return Boolean.TRUE.equals(truth(test, place));
    }

    private static Boolean not(Boolean truth) {
        return truth == null ? null : !truth;
    }

    private static Boolean and(Boolean one, Boolean other) {
        if (Boolean.FALSE.equals(one) || Boolean.FALSE.equals(other)) {
            return false;
        }
        return one == null || other == null ? null : true;
    }

    private static Boolean or(Boolean one, Boolean other) {
        return not(and(not(one), not(other)));
    }

    static Boolean compare(Object left, String sign, Object right) {
        if (left == null || right == null) {
            return null;
        }
        int found = compare(left, right);
        switch (sign) {
            case "=":
                return found == 0;
            case "<":
                return found < 0;
            case "<=":
                return found <= 0;
            case ">":
                return found > 0;
            case ">=":
                return found >= 0;
            default:
                return found != 0;
        }
    }

    Boolean truth(PlainText.Part test, Place place) {
        Boolean truth = test.is("and");
        switch (test.kind) {
            case "or":
                for (PlainText.Part part : test.parts) {
                    truth = or(truth, truth(part, place));
                }
                return truth;
            case "and":
                for (PlainText.Part part : test.parts) {
                    truth = and(truth, truth(part, place));
                }
                return truth;
            case "not":
                return not(truth(test.part(0), place));
            case "brackets":
                return truth(test.part(0), place);
            case "exists":
                return !ask(test.query, place).isEmpty();
            case "compare":
                return compare(value(test.part(0), place), test.signs.get(0), value(test.part(1), place));
            case "is null":
                return value(test.part(0), place) == null != test.isNot;
            case "in":
                for (Object one : among(test, place)) {
                    truth = or(truth, compare(value(test.part(0), place), "=", one));
                }
                break;
            default:
                Object value = value(test.part(0), place);
                truth = and(compare(value, ">=", value(test.part(1), place)),
                        compare(value, "<=", value(test.part(2), place)));
        }
        return test.isNot ? not(truth) : truth;
    }

    private List<Object> among(PlainText.Part test, Place place) {
        List<Object> values = new ArrayList<>();
        for (int i = 1; i < test.parts.size(); i++) {
            values.add(value(test.part(i), place));
        }
        for (Object[] row : test.query == null ? List.<Object[]>of() : ask(test.query, place)) {
            values.add(row[0]);
        }
        return values;
    }

    // ---- sums

    Object value(PlainText.Part sum, Place place) {
        switch (sum.kind) {
            case "number":
                return sum.number;
            case "word":
                return sum.name;
            case "null":
                return null;
            case "round":
                return value(sum.part(0), place);
            case "minus":
                return reckoned(0L, "-", value(sum.part(0), place));
            case "reckoning":
                Object soFar = value(sum.part(0), place);
                for (int i = 1; i < sum.parts.size(); i++) {
                    soFar = reckoned(soFar, sum.signs.get(i), value(sum.part(i), place));
                }
                return soFar;
            case "case":
                return value(sum.part(isTrue(sum.part(0), place) ? 1 : 2), place);
            case "coalesce":
                Object first = value(sum.part(0), place);
                return first == null ? value(sum.part(1), place) : first;
            case "ref":
                Place of = place;
                for (int i = 0; i < sum.outward; i++) {
                    of = of.around;
                }
                return of.rows[sum.source] == null ? null : of.rows[sum.source][sum.column];
            default:
                return aggregate(sum, place);
        }
    }

    private static Object reckoned(Object left, String sign, Object right) {
        if (left == null || right == null || "/%".contains(sign) && (Long) right == 0) {
            return null;
        }
        long one = (Long) left;
        long other = (Long) right;
        switch (sign) {
            case "+":
                return one + other;
            case "-":
                return one - other;
            case "*":
                return one * other;
            case "/":
                return one / other;
            default:
                return one % other;
        }
    }

    private Object aggregate(PlainText.Part sum, Place place) {
        if (sum.name.equals("count(*)")) {
            return (long) place.group.size();
        }
        Object[][] rows = place.rows;
        List<Object> values = new ArrayList<>();
        for (Object[][] one : place.group) {
            place.rows = one;
            Object value = value(sum.part(0), place);
            if (value != null && !(sum.isDistinct && values.contains(value))) {
                values.add(value);
            }
        }
        place.rows = rows;
        if (sum.name.equals("count") || values.isEmpty()) {
            return sum.name.equals("count") ? (Object) (long) values.size() : null;
        }
        if (sum.name.equals("sum")) {
            return values.stream().mapToLong(value -> (Long) value).sum();
        }
        values.sort(PlainQueries::compare);
        return values.get(sum.name.equals("min") ? 0 : values.size() - 1);
    }

    // ---- work

    long workOf(PlainText.Query query) {
        long work = 0;
        for (PlainText.Block block : query.blocks) {
            long combinations = 1;
            long views = 0;
            long within = 0;
            for (PlainText.Source source : block.sources) {
                if (hall.view(source.name()) != null) {
                    views += workOf(source.name());
                    if (views >= MUCH) {
                        return MUCH;
                    }
                }
                combinations *= Math.max(1, rowsOf(source.name()).size());
            }
            for (PlainText.Query inner : PlainText.queriesIn(block)) {
                within = Math.min(MUCH, within + workOf(inner));
            }
            work = Math.min(MUCH, work + combinations + combinations * within + views);
        }
        return work;
    }

    /** The work of a view; one that is too much for any statement counts as very much, and is not asked. */
    long workOf(String view) {
        if (!work.containsKey(view)) {
            long one = workOf(hall.view(view).query);
            work.put(view, one > PlainHall.MOST_WORK ? MUCH : one);
        }
        return work.get(view);
    }
}
