import java.util.ArrayList;
import java.util.Comparator;
import java.util.List;

/** Section 10 done a second time, for PlainHall: an index as a tree of real leaves and nodes. */
final class PlainTree<E> {
    private static final int MOST_ENTRIES = 4, MOST_PARTS = 5, STAY = 3;

    /** A leaf, which has entries, or a node above, which has parts. */
    private static final class Node<E> {
        Node<E> above;
        List<E> entries = new ArrayList<>();
        List<Node<E>> parts = new ArrayList<>();
    }

    private final Comparator<E> order;
    private Node<E> top;

    PlainTree(Comparator<E> itsOrder) {
        order = itsOrder;
    }

    private List<Node<E>> leavesOf(Node<E> node) {
        List<Node<E>> leaves = new ArrayList<>();
        if (node != null && node.parts.isEmpty()) {
            leaves.add(node);
        } else if (node != null) {
            node.parts.forEach(part -> leaves.addAll(leavesOf(part)));
        }
        return leaves;
    }

    int leaves() {
        return leavesOf(top).size();
    }

    int height() {
        int height = 0;
        for (Node<E> node = top; node != null; node = node.parts.isEmpty() ? null : node.parts.get(0)) {
            height++;
        }
        return height;
    }

    List<E> entries() {
        List<E> entries = new ArrayList<>();
        leavesOf(top).forEach(leaf -> entries.addAll(leaf.entries));
        return entries;
    }

    void clear() {
        top = null;
    }

    void put(E entry) {
        if (top == null) {
            top = new Node<>();
        }
        Node<E> into = null;
        for (Node<E> leaf : leavesOf(top)) {
            into = into == null || order.compare(leaf.entries.get(0), entry) <= 0 ? leaf : into;
        }
        into.entries.add(entry);
        into.entries.sort(order);
        if (into.entries.size() > MOST_ENTRIES) {
            Node<E> behind = new Node<>();
            behind.entries = new ArrayList<>(into.entries.subList(STAY, into.entries.size()));
            into.entries = new ArrayList<>(into.entries.subList(0, STAY));
            putBehind(into, behind);
        }
    }

    private void putBehind(Node<E> node, Node<E> behind) {
        if (node.above == null) {
            top = new Node<>();
            top.parts.add(node);
            node.above = top;
        }
        Node<E> above = node.above;
        behind.above = above;
        above.parts.add(above.parts.indexOf(node) + 1, behind);
        if (above.parts.size() > MOST_PARTS) {
            Node<E> next = new Node<>();
            next.parts = new ArrayList<>(above.parts.subList(STAY, above.parts.size()));
            next.parts.forEach(part -> part.above = next);
            above.parts = new ArrayList<>(above.parts.subList(0, STAY));
            putBehind(above, next);
        }
    }
}
