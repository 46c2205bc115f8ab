import com.sun.management.ThreadMXBean;
import java.lang.management.ManagementFactory;
import java.lang.reflect.Array;
import java.lang.reflect.Constructor;
import java.lang.reflect.Field;
import java.lang.reflect.Method;
import java.lang.reflect.Modifier;
import java.util.Collections;
import java.util.IdentityHashMap;
import java.util.Set;
import java.util.TreeSet;

/** The public face, calls with wild arguments in many states, that calls make no objects and an object is small. */
public final class FaceTest {
    private static final Due DUE = new Due();
    private static final String FACE = "feed(int,int,int,int,int) end(int) village() fault(int) told(int) tie(int,int) "
        + "plan(int) planned(int,int) lets(int,int) chance(int) pass(int) who(int,int) house(int,int) word(int) "
        + "keep(int) take(int) sum(int) best(int,int) rests() rest(int,int) settle() longer(int,int,int) "
        + "guard(int,int) rings(int) when(int) bound(int,int) law(boolean,int,int,int) bestLaw(int) feast() "
        + "turned(int,int) whom(int) edge(int,int) show(int) book() count(int)";
    private static final int[] WILD = {Integer.MIN_VALUE, -1001, -3, -2, -1, 0, 1, 2, 3, 4, 5, 6, 7, 10, 15, 28, 29, 31,
        32, 60, 69, 70, 400, 900, 999, 1000, 9999, Integer.MAX_VALUE - 1, Integer.MAX_VALUE};
    private static final String FULL_VILLAGE = "house a 99 20 100;house b 9 19 90;house c 5 9 50;house d 0 0 0;"
        + "house e 7 7 7;person a of e;person b of d;person c of c;person d of b;person e of a;tie a b 20;tie b a 0;"
        + "tie c d 12;tie e a 9;tie d e 17;chairs 4;after 3;last;";

    public static void main(String[] args) throws Exception {
        constants();
        methods();
        privateNames();
        wildCalls();
        noObjects();
        smallObject();
        DUE.close();
    }

    private static void constants() throws Exception {
        String[] names = {"NONE", "RANGE", "FULL", "STATE"};
        for (int i = 0; i < names.length; i++) {
            Field field = OwnedByGuests.class.getField(names[i]);
            DUE.due(names[i], field.getInt(null), -1 - i);
            DUE.due(names[i] + " is final", Modifier.isFinal(field.getModifiers()) ? 1 : 0, 1);
        }
        for (Field field : OwnedByGuests.class.getDeclaredFields()) {
            boolean isFace = Set.of(names).contains(field.getName());
            DUE.due(field.getName() + " is private", Modifier.isPrivate(field.getModifiers()) ? 1 : 0, isFace ? 0 : 1);
        }
    }

    private static void methods() {
        Set<String> want = new TreeSet<>(Set.of(FACE.split(" ")));
        Set<String> got = new TreeSet<>();
        for (Method method : OwnedByGuests.class.getDeclaredMethods()) {
            if (!Modifier.isPrivate(method.getModifiers())) {
                StringBuilder types = new StringBuilder();
                for (Class<?> type : method.getParameterTypes()) {
                    types.append(types.length() == 0 ? "" : ",").append(type.getName());
                }
                got.add(method.getName() + "(" + types + ")");
                DUE.due(method + " is public", Modifier.isPublic(method.getModifiers()) ? 1 : 0, 1);
                DUE.due(method + " answers an int", method.getReturnType() == int.class ? 1 : 0, 1);
            }
        }
        DUE.due("the methods " + got, got.equals(want) ? 1 : 0, 1);
        Constructor<?>[] all = OwnedByGuests.class.getDeclaredConstructors();
        DUE.due("constructors", all.length, 1);
        DUE.due("its parameters", all[0].getParameterCount(), 0);
        int modifiers = OwnedByGuests.class.getModifiers();
        DUE.due("public and final", Modifier.isPublic(modifiers) && Modifier.isFinal(modifiers) ? 1 : 0, 1);
    }

    /** Rule 1 of LANGUAGE.md: no private method bears the name of a public one. */
    private static void privateNames() {
        Set<String> face = new TreeSet<>();
        for (String method : FACE.split(" ")) {
            face.add(method.substring(0, method.indexOf('(')));
        }
        for (Method method : OwnedByGuests.class.getDeclaredMethods()) {
            if (Modifier.isPrivate(method.getModifiers())) {
                DUE.due("private " + method.getName(), face.contains(method.getName()) ? 1 : 0, 0);
            }
        }
        for (Class<?> inside : OwnedByGuests.class.getDeclaredClasses()) {
            DUE.due(inside.getName() + " is static", Modifier.isStatic(inside.getModifiers()) ? 1 : 0, 1);
            DUE.due(inside.getName() + " is private", Modifier.isPrivate(inside.getModifiers()) ? 1 : 0, 1);
            for (Method method : inside.getDeclaredMethods()) {
                DUE.due(inside.getName() + "." + method.getName(), face.contains(method.getName()) ? 1 : 0, 0);
            }
        }
    }

    private static void wildCalls() throws Exception {
        String[] villages = {"", "house h 1 1 1;", "person x;", "house h 9 9 99;person x of h;person z;stroll 50;",
            FULL_VILLAGE};
        int calls = 0;
        for (String text : villages) {
            for (Method method : OwnedByGuests.class.getMethods()) {
                if (method.getDeclaringClass() == OwnedByGuests.class) {
                    OwnedByGuests x = Due.of(text);
                    calls += callAll(x, method, new Object[method.getParameterCount()], 0);
                }
            }
        }
        DUE.due("wild calls were made", calls > 10000 ? 1 : 0, 1);
    }

    /** All pairs of wild numbers for the first two parameters, some for the others. */
    private static int callAll(OwnedByGuests x, Method method, Object[] args, int i) throws Exception {
        if (i == args.length) {
            method.invoke(x, args);
            return 1;
        }
        int calls = 0;
        if (method.getParameterTypes()[i] == boolean.class) {
            args[i] = i == 0;
            return callAll(x, method, args, i + 1);
        }
        int step = i < 2 ? 1 : 7;
        for (int k = 0; k < WILD.length; k += step) {
            args[i] = WILD[k];
            calls += callAll(x, method, args, i + 1);
        }
        return calls;
    }

    /** All calls of a run live in one room: they may make next to nothing. */
    private static void noObjects() {
        ThreadMXBean threads = (ThreadMXBean) ManagementFactory.getThreadMXBean();
        OwnedByGuests x = Due.of(FULL_VILLAGE);
        long before = 0;
        for (int round = 0; round < 20; round++) {
            if (round == 10) {
                before = threads.getCurrentThreadAllocatedBytes();
            }
            everyCall(x);
        }
        long made = threads.getCurrentThreadAllocatedBytes() - before;
        DUE.due("bytes made by ten rounds of calls, " + made + ", are few", made < 20000 ? 1 : 0, 1);
    }

    /** A room of 600,000 objects and 7.3 million fields and elements has place for some hundreds of villages. */
    private static void smallObject() throws Exception {
        int[] counts = new int[2];
        countAll(Due.of(FULL_VILLAGE), counts, Collections.newSetFromMap(new IdentityHashMap<>()));
        DUE.due("objects and arrays, " + counts[0] + ", are few", counts[0] < 200 ? 1 : 0, 1);
        DUE.due("fields and elements, " + counts[1] + ", are few", counts[1] < 12000 ? 1 : 0, 1);
        DUE.due("they were found", counts[0] > 50 && counts[1] > 900 ? 1 : 0, 1);
    }

    /** Adds all objects and arrays that are reached, and their fields and elements. */
    private static void countAll(Object object, int[] counts, Set<Object> seen) throws Exception {
        if (object == null || !seen.add(object)) {
            return;
        }
        counts[0]++;
        if (object.getClass().isArray()) {
            counts[1] += Array.getLength(object);
            if (object instanceof Object[] all) {
                for (Object one : all) {
                    countAll(one, counts, seen);
                }
            }
            return;
        }
        for (Field field : object.getClass().getDeclaredFields()) {
            if (!Modifier.isStatic(field.getModifiers())) {
                counts[1]++;
                field.setAccessible(true);
                if (!field.getType().isPrimitive()) {
                    countAll(field.get(object), counts, seen);
                }
            }
        }
    }

    private static void everyCall(OwnedByGuests x) {
        x.feed(0x30303030, 0, 0, 0, 0);
        x.end(4);
        x.plan(1);
        x.pass(3);
        x.keep(0);
        x.take(0);
        x.word(0);
        x.house(0, 0);
        x.sum(0);
        x.best(0, 4);
        x.rests();
        x.rest(0, 0);
        x.settle();
        x.longer(0, 60, 0);
        x.guard(0, 1);
        x.rings(1);
        x.when(0);
        x.bound(0, -1000);
        x.bestLaw(20);
        x.whom(0);
        x.edge(0, 1);
        x.show(0);
        x.feed(0x30203020, 0x303b3020, 0x31203130, 0, 0);
        x.end(7);
        x.book();
        x.feed(0x31303233, 0x34000000, 0, 0, 0);
        x.end(5);
        x.feast();
        x.turned(0, 999);
    }
}
