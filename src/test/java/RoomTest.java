import java.lang.reflect.Array;
import java.lang.reflect.Field;
import java.lang.reflect.Modifier;
import java.util.ArrayDeque;
import java.util.Collections;
import java.util.Deque;
import java.util.IdentityHashMap;
import java.util.Set;
import java.util.function.BiConsumer;

/** The room that an object keeps in the dearest runs of 512 calls. */
public final class RoomTest implements Kinds {
    // The room of a run has 7.3 million fields and elements. Rows grow by doubling, so what is given up on the way
    // is no more than what is kept.
    private static final long MOST = 7_300_000 / 10;

    public static void main(String[] args) throws IllegalAccessException {
        run("long lines, laid out again and again", RoomTest::longLines);
        run("cleared and told again", RoomTest::clearedAgain);
        run("more lines than may be", RoomTest::tooManyLines);
        Check.done();
    }

    private static void run(String what, BiConsumer<ProsePages, Integer> call) throws IllegalAccessException {
        ProsePages desk = new ProsePages();
        for (int i = 0; i < 512; i++) {
            call.accept(desk, i);
        }
        long kept = kept(desk);
        Check.due(what + ": " + kept + " fields and elements are few", kept > 0 && kept < MOST, true);
    }

    private static long kept(Object root) throws IllegalAccessException {
        Set<Object> seen = Collections.newSetFromMap(new IdentityHashMap<>());
        Deque<Object> open = new ArrayDeque<>();
        open.add(root);
        long all = 0;
        while (!open.isEmpty()) {
            Object next = open.remove();
            if (!seen.add(next)) {
                continue;
            }
            if (next.getClass().isArray()) {
                all += Array.getLength(next);
                for (int i = 0; next instanceof Object[] && i < Array.getLength(next); i++) {
                    addIfThere(open, Array.get(next, i));
                }
                continue;
            }
            for (Field field : next.getClass().getDeclaredFields()) {
                if (!Modifier.isStatic(field.getModifiers())) {
                    all++;
                    field.setAccessible(true);
                    addIfThere(open, field.getType().isPrimitive() ? null : field.get(next));
                }
            }
        }
        return all;
    }

    private static void addIfThere(Deque<Object> open, Object found) {
        if (found != null) {
            open.add(found);
        }
    }

    /** Four lists and a QUOTE, then a CODE of many short lines behind all their signs, laid out often. */
    private static void longLines(ProsePages desk, int call) {
        int[] kinds = {NUMBERED, ITEM, NUMBERED, ITEM, NUMBERED, ITEM, NUMBERED, ITEM, QUOTE, CODE};
        if (call < kinds.length) {
            desk.begin(kinds[call], 999999999);
        } else if (call < kinds.length + 375) {
            desk.say(10, 10, 10, 10, 4);
        } else {
            desk.pages(40, 60);
        }
    }

    private static void clearedAgain(ProsePages desk, int call) {
        switch (call % 4) {
            case 0:
                desk.begin(PARAGRAPH, 0);
                break;
            case 1:
                desk.say('a', 'b', 'c', 'd', 4);
                break;
            case 2:
                desk.pages(5, 8);
                break;
            default:
                desk.clear();
        }
    }

    private static void tooManyLines(ProsePages desk, int call) {
        if (call == 0) {
            desk.begin(QUOTE, 0);
        } else if (call == 1) {
            desk.begin(CODE, 0);
        } else if (call < 400) {
            desk.say(10, 10, 10, 10, 4);
        } else {
            Check.throwsState("too many lines", () -> desk.pages(5, 8));
        }
    }
}
