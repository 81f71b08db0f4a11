import java.util.ArrayList;
import java.util.Comparator;
import java.util.HashSet;
import java.util.List;
import java.util.Set;

/** Section 11 done a second time, for PlainHall: the plans of a query, as explain writes them. */
final class PlainPlans {
    private record Access(long cost, long size, int index) {
    }

    private final PlainHall hall;
    private final PlainText.Block block;
    private final List<PlainText.Part> parts = new ArrayList<>();
    private long least = Long.MAX_VALUE;
    private String best;

    private PlainPlans(PlainHall itsHall, PlainText.Block itsBlock) {
        hall = itsHall;
        block = itsBlock;
    }

    static String explain(PlainHall hall, PlainText.Query query) {
        List<PlainText.Block> blocks = PlainText.blocksIn(query);
        blocks.sort(Comparator.comparingInt(block -> block.place));
        StringBuilder output = new StringBuilder();
        for (PlainText.Block block : blocks) {
            output.append(new PlainPlans(hall, block).plan());
        }
        return output.toString();
    }

    private String plan() {
        boolean hasLeft = false;
        parts.addAll(PlainText.partsOf(block.where));
        for (PlainText.Source source : block.sources) {
            hasLeft |= source.how().equals("left");
            parts.addAll(source.how().equals("join") ? PlainText.partsOf(source.on()) : List.of());
        }
        tryOrders(new ArrayList<>(), hasLeft);
        return best;
    }

    /** Goes through the orders that begin with some sources, those with lesser numbers first. */
    private void tryOrders(List<Integer> begun, boolean isAsItStands) {
        if (begun.size() == block.sources.size()) {
            tryOrder(begun);
        }
        for (int s = 0; s < block.sources.size(); s++) {
            if (!begun.contains(s) && (!isAsItStands || s == begun.size())) {
                begun.add(s);
                tryOrders(begun, isAsItStands);
                begun.remove(begun.size() - 1);
            }
        }
    }

    private void tryOrder(List<Integer> order) {
        long cost = 0;
        long rows = 1;
        StringBuilder told = new StringBuilder();
        Set<Integer> earlier = new HashSet<>();
        for (int source : order) {
            Access access = access(source, earlier);
            cost += access.cost * rows;
            rows *= access.size;
            earlier.add(source);
            told.append(source).append(access.index < 0 ? "scan" : "." + access.index).append(',');
        }
        if (cost < least) {
            least = cost;
            best = told.append(cost).append(';').toString();
        }
    }

    private Access access(int source, Set<Integer> earlier) {
        PlainHall.Table table = hall.table(block.sources.get(source).name());
        if (table == null) {
            return new Access(20, 10, -1);
        }
        int versions = table.versions.size();
        Access access = new Access(versions, versions, -1);
        if (block.sources.get(source).how().equals("left")) {
            return access;
        }
        for (PlainHall.Index index : hall.indexesOf(table)) {
            long size = versions;
            int equal = 0;
            while (equal < index.columns.length && hasEquality(source, index.columns[equal], earlier)) {
                size = parted(size, table.spreads[index.columns[equal]]);
                equal++;
            }
            boolean hasBound = equal < index.columns.length && hasBound(source, index.columns[equal]);
            size = hasBound ? parted(size, 2) : size;
            long cost = index.tree.height() + size;
            access = (equal > 0 || hasBound) && cost < access.cost ? new Access(cost, size, index.number) : access;
        }
        return access;
    }

    private static long parted(long size, int by) {
        return size / by + (size % by == 0 ? 0 : 1);
    }

    private boolean hasEquality(int source, int column, Set<Integer> earlier) {
        return hasPart(List.of("="), source, column, earlier);
    }

    private boolean hasBound(int source, int column) {
        return hasPart(List.of("<", "<=", ">", ">="), source, column, Set.of());
    }

    private boolean hasPart(List<String> signs, int source, int column, Set<Integer> known) {
        for (PlainText.Part part : parts) {
            for (int side = 0; side < 2 && part.is("compare") && signs.contains(part.signs.get(0)); side++) {
                PlainText.Part ref = part.part(side);
                if (ref.is("ref") && ref.outward == 0 && ref.source == source && ref.column == column
                        && isKnown(part.part(1 - side), known)) {
                    return true;
                }
            }
        }
        return false;
    }

    /** Whether a sum has no query, and no refs but to some sources of the block, and to blocks around. */
    private static boolean isKnown(PlainText.Part sum, Set<Integer> known) {
        boolean isKnown = sum.query == null && !(sum.is("ref") && sum.outward == 0 && !known.contains(sum.source));
        for (PlainText.Part part : sum.parts) {
            isKnown &= isKnown(part, known);
        }
        return isKnown;
    }
}
