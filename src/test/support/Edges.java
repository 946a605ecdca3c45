import java.lang.reflect.InvocationTargetException;
import java.lang.reflect.Method;
import java.lang.reflect.Modifier;
import java.util.ArrayList;
import java.util.Arrays;
import java.util.Comparator;
import java.util.IdentityHashMap;
import java.util.List;
import java.util.Map;

/**
 * What the edge tests share: the answers that are due, scenes to call in, and refusals, behind which
 * an object must look just like a twin on which the refused call was never made.
 */
final class Edges {
    static final int NONE = -1, BAD = -2, NOT = -3, FULL = -4;
    static final int NULL = -11, INDEX = -12, CAST = -13, STORE = -14, SIZE = -15;
    static final int LEAST = Integer.MIN_VALUE, MOST = Integer.MAX_VALUE;
    static final long LONG_BAD = Long.MIN_VALUE + 2;

    interface Call {
        long on(BoatNames x);
    }

    interface NumberCall {
        long on(BoatNames x, int number);
    }

    interface Scene {
        BoatNames make();
    }

    /** Nothing is told; 3 boats and some of all else; all rows full; texts with faults. */
    static final Scene EMPTY = BoatNames::new;
    static final Scene SOME = Edges::some;
    static final Scene ALL = Edges::all;
    static final Scene FAULTY = Edges::faulty;
    static final Scene[] SCENES = {EMPTY, SOME, ALL, FAULTY};

    private static final Map<Scene, List<Long>> UNTOUCHED = new IdentityHashMap<>();
    private static String test = "";
    private static int asked = 0;
    private static int wrong = 0;

    private Edges() {
    }

    /** Runs each test of a class: its methods named after a promise or the terms, in the order of their names. */
    static void run(Class<?> tests) {
        Method[] methods = tests.getDeclaredMethods();
        Arrays.sort(methods, Comparator.comparing(Method::getName));
        int ran = 0;
        for (Method each : methods) {
            if (each.getName().matches("(promise\\d+|terms)_\\w+") && Modifier.isStatic(each.getModifiers())) {
                runOne(each);
                ran++;
            }
        }
        if (ran == 0) {
            wrong++;
        }
        System.out.println(ran + " edges, " + asked + " answers, " + wrong + " wrong");
        if (wrong != 0) {
            System.exit(1);
        }
    }

    private static void runOne(Method each) {
        test = each.getName();
        int before = asked;
        try {
            each.setAccessible(true);
            each.invoke(null);
        } catch (InvocationTargetException thrown) {
            wrong++;
            System.out.println(test + ": threw " + thrown.getCause());
        } catch (IllegalAccessException hidden) {
            wrong++;
            System.out.println(test + ": cannot be run");
        }
        if (asked == before) {
            wrong++;
            System.out.println(test + ": asks nothing");
        }
    }

    static void due(String what, long got, long want) {
        asked++;
        if (got != want) {
            wrong++;
            System.out.println(test + ": " + what + " answered " + got + ", due is " + want);
        }
    }

    static void same(String what, List<Long> got, List<Long> want) {
        asked++;
        if (!got.equals(want)) {
            wrong++;
            int place = 0;
            while (place < got.size() && place < want.size() && got.get(place).equals(want.get(place))) {
                place++;
            }
            System.out.println(test + ": " + what + " differs from place " + place + " on");
        }
    }

    /** The call is refused with an answer, and nothing but the latest finding has changed. */
    static void refused(Scene scene, String what, Call call, long want) {
        boolean isFinding = want <= NULL && want >= SIZE;
        refused(scene, what, call, want, isFinding ? (int) (-10 - want) : scene.make().count(8));
    }

    /** The call is answered, and yet nothing has changed. */
    static void unchanged(Scene scene, String what, Call call, long want) {
        refused(scene, what, call, want, scene.make().count(8));
    }

    static void refused(Scene scene, String what, Call call, long want, int finding) {
        BoatNames x = scene.make();
        due(what, call.on(x), want);
        due(what + ", then the finding", x.count(8), finding);
        same(what + ", then what is held", look(x), UNTOUCHED.computeIfAbsent(scene, s -> look(s.make())));
    }

    /** The call is refused with BAD whatever is told, and nothing has changed. */
    static void bad(String what, Call call) {
        for (Scene scene : SCENES) {
            refused(scene, what, call, BAD);
        }
    }

    /** BAD for the numbers next below 0 and next behind the last one, and for the farthest ones. */
    static void badAround(String what, int last, NumberCall call) {
        for (int number : new int[] {-1, last + 1, LEAST, MOST}) {
            bad(what + " " + number, x -> call.on(x, number));
        }
    }

    /** As badAround, where what may be hangs on the scene, or where the answer is another one. */
    static void refusedAround(Scene scene, String what, int last, NumberCall call, long want) {
        for (int number : new int[] {-1, last + 1, LEAST, MOST}) {
            refused(scene, what + " " + number, x -> call.on(x, number), want);
        }
    }

    /** All boats that there are not, in each scene: 0 to 2 are there in SOME, 0 to 7 in ALL, none in the others. */
    static void badBoats(String what, NumberCall call, long want) {
        refusedAround(EMPTY, what, -1, call, want);
        refusedAround(SOME, what, 2, call, want);
        refusedAround(ALL, what, 7, call, want);
        refusedAround(FAULTY, what, -1, call, want);
    }

    static BoatNames told(String hates, String boats) {
        BoatNames x = new BoatNames();
        typeAll(x, 0, hates);
        typeAll(x, 1, boats);
        return x;
    }

    static void typeAll(BoatNames x, int text, String bytes) {
        for (char b : bytes.toCharArray()) {
            x.type(text, b);
        }
    }

    static BoatNames with(BoatNames x, int... events) {
        for (int e = 0; e + 2 < events.length; e += 3) {
            x.event(events[e], events[e + 1], events[e + 2]);
        }
        return x;
    }

    static void row(BoatNames x, int s, int form, int... items) {
        x.sheet(s, form, items.length);
        for (int i = 0; i < items.length; i++) {
            x.put(s, form, i, items[i]);
        }
    }

    static void rowIs(String what, BoatNames x, int s, int form, int... items) {
        for (int i = 0; i < items.length; i++) {
            due(what + ", item " + i, x.get(s, form, i), items[i]);
        }
    }

    /** Where a boat is, whom it is named after, its grudge and its strength. */
    static void at(String what, BoatNames x, int week, int boat, int... wants) {
        for (int i = 0; i < 4; i++) {
            due(what + ": at(" + week + ", " + boat + ", " + i + ")", x.at(week, boat, i), wants[i]);
        }
    }

    static String times(String part, int n) {
        return String.join(";", java.util.Collections.nCopies(n, part));
    }

    private static void seeWhatIs(BoatNames x, int week, int boat) {
        int name = x.at(week, boat, 1);
        x.seen(week, boat, name < 0 ? 8 : name);
    }

    private static BoatNames some() {
        BoatNames x = with(told("103;205;012", "l0a5;s0b9;t1c3"), 0, 3, 0, 1, 4, 1);
        seeWhatIs(x, 2, 0);
        row(x, 0, 0, 1, 22, 3);
        row(x, 1, 1, 300, -300, 5, 6);
        row(x, 2, 2, 70000, -7, 1 << 30, 0, 9);
        x.get(0, 0, 3);
        return x;
    }

    private static BoatNames all() {
        BoatNames x = told("103;205;301;012;716;527;034;121;643;416;255;378", "l0a5;s1b3;t2c9;l3d1;s4e6;t0f8;l5g7;s1h2");
        for (int i = 0; i < 8; i++) {
            x.event(i % 3, 2 * i + 1, i);
        }
        for (int i = 0; i < 8; i++) {
            seeWhatIs(x, 3 * i, i);
        }
        row(x, 0, 0, 1, 2, 3);
        row(x, 1, 1, 1000, -1000);
        row(x, 2, 2, 1, 1, 1);
        row(x, 3, 1, 4, 5, 6, 7);
        x.copy(0, 0, 1, 0, 1);
        return x;
    }

    private static BoatNames faulty() {
        BoatNames x = with(told("103;20", "l0a5;s0b"), 2, 1, 0);
        x.seen(1, 0, 1);
        row(x, 1, 2, 0, 3, 0);
        x.lose(0);
        return x;
    }

    /**
     * All that can be asked of what an object holds, and then what comes to light as it is taken
     * apart byte by byte and event by event: with its scene well within an object's 512 calls.
     */
    static List<Long> look(BoatNames x) {
        List<Long> seen = new ArrayList<>();
        for (int what = 0; what < 8; what++) {
            seen.add((long) x.count(what));
        }
        seen.add(x.digest());
        for (int two = 0; two < 64; two++) {
            seen.add((long) x.told(two / 8, two % 8));
        }
        lookAtSheets(x, seen);
        for (int left = x.count(4); left > 0; left--) {
            seen.add((long) x.back());
            seen.add(x.digest());
        }
        seen.add((long) x.forget());
        seen.add(x.digest());
        for (int text = 0; text < 2; text++) {
            for (int left = x.count(2 + text); left > 0; left--) {
                seen.add((long) x.undo(text));
                seen.add((long) x.fault(text));
            }
        }
        return seen;
    }

    private static void lookAtSheets(BoatNames x, List<Long> seen) {
        for (int s = 0; s < 4; s++) {
            for (int form = 0; form < 3; form++) {
                for (int i = 0; i < 5; i++) {
                    seen.add((long) x.get(s, form, i));
                }
            }
            seen.add((long) x.lose(s));
        }
    }
}
