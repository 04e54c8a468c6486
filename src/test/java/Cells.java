import java.lang.reflect.Array;
import java.lang.reflect.Field;
import java.lang.reflect.Modifier;
import java.util.ArrayDeque;
import java.util.ArrayList;
import java.util.Collections;
import java.util.Deque;
import java.util.IdentityHashMap;
import java.util.List;
import java.util.Set;

/** The places where a house keeps its longs, found from the object on, since how it holds its state is free. */
final class Cells {
    /** A field of an object (index = -1), or an element of an array. */
    private static final class Cell {
        private final Object holder;
        private final Field field;
        private final int index;

        private Cell(Object holder, Field field, int index) {
            this.holder = holder;
            this.field = field;
            this.index = index;
        }

        private long get() throws IllegalAccessException {
            return field == null ? Array.getLong(holder, index) : field.getLong(holder);
        }

        private void set(long n) throws IllegalAccessException {
            if (field == null) {
                Array.setLong(holder, index, n);
            } else {
                field.setLong(holder, n);
            }
        }
    }

    private final SettleHouse house;
    private final List<Cell> cells = new ArrayList<>();

    Cells(SettleHouse house) throws IllegalAccessException {
        this.house = house;
        Set<Object> seen = Collections.newSetFromMap(new IdentityHashMap<>());
        Deque<Object> next = new ArrayDeque<>();
        next.add(house);
        while (!next.isEmpty()) {
            Object holder = next.remove();
            if (seen.add(holder)) {
                lookInto(holder, next);
            }
        }
    }

    private void lookInto(Object holder, Deque<Object> next) throws IllegalAccessException {
        if (holder instanceof List<?> list) {
            list.stream().filter(x -> x != null).forEach(next::add);
        } else if (holder.getClass().isArray()) {
            lookIntoArray(holder, next);
        } else if (holder.getClass().getName().startsWith("SettleHouse")) {
            for (Field field : holder.getClass().getDeclaredFields()) {
                lookIntoField(holder, field, next);
            }
        }
    }

    private void lookIntoArray(Object array, Deque<Object> next) {
        for (int i = 0; i < Array.getLength(array); i++) {
            if (array instanceof long[]) {
                cells.add(new Cell(array, null, i));
            } else if (array instanceof Object[] objects && objects[i] != null) {
                next.add(objects[i]);
            }
        }
    }

    private void lookIntoField(Object holder, Field field, Deque<Object> next) throws IllegalAccessException {
        if (Modifier.isStatic(field.getModifiers())) {
            return;
        }
        field.setAccessible(true);
        if (field.getType() == long.class) {
            cells.add(new Cell(holder, field, -1));
        } else if (!field.getType().isPrimitive() && field.get(holder) != null) {
            next.add(field.get(holder));
        }
    }

    /** Changes what a party has, behind the back of the house: whether there is a place that has() tells of. */
    boolean change(int party, int security, long by) throws IllegalAccessException {
        long before = house.has(party, security);
        for (Cell cell : cells) {
            if (cell.get() == before) {
                cell.set(before + by);
                if (house.has(party, security) == before + by) {
                    return true;
                }
                cell.set(before);
            }
        }
        return false;
    }
}
