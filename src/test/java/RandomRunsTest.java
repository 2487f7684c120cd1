import java.lang.reflect.InvocationTargetException;
import java.lang.reflect.Method;
import java.lang.reflect.Modifier;
import java.util.ArrayList;
import java.util.List;
import java.util.Random;

/**
 * Random calls, of all promises: no call throws what its clause does not name, what is refused or asked changes
 * nothing, undo() and again() bring back what was, and all parts are SOUND at all times.
 */
public final class RandomRunsTest {
    private static final int[] EDGES = {Integer.MIN_VALUE, -2, -1, 0, 1, 2, 7, 24, 127, 671, 9999, 65535, Integer.MAX_VALUE};
    private static final Method[] CALLS = calls();

    public static void main(String[] args) {
        for (int seed = 0; seed < 60; seed++) {
            runOfUsefulCalls(new Random(seed));
        }
        for (int seed = 0; seed < 40; seed++) {
            runOfAnyCalls(new Random(seed));
        }
        Check.end();
    }

    private static Method[] calls() {
        List<Method> calls = new ArrayList<>();
        for (Method one : MarketHall.class.getDeclaredMethods()) {
            if (Modifier.isPublic(one.getModifiers())) {
                calls.add(one);
            }
        }
        calls.sort((a, b) -> a.getName().compareTo(b.getName()));
        return calls.toArray(new Method[0]);
    }

    /** Makes a call; answers whether it was refused. */
    private static boolean isRefused(MarketHall x, Method call, Object[] with) {
        try {
            call.invoke(x, with);
            return false;
        } catch (InvocationTargetException e) {
            boolean named = false;
            for (Class<?> one : call.getExceptionTypes()) {
                named |= one == e.getCause().getClass();
            }
            Check.due(call.getName() + " threw " + e.getCause() + ", named by its clause", named, true);
            return true;
        } catch (IllegalAccessException e) {
            Check.fail(call.getName() + " can not be called");
            return true;
        }
    }

    private static void runOfUsefulCalls(Random random) {
        MarketHall x = new MarketHall();
        if (random.nextBoolean()) {
            x.season(random.nextInt(65536), 1 + random.nextInt(12));
        } else {
            begin(x, random);
        }
        for (int n = 0; n < 380; n++) {
            Method call = CALLS[random.nextInt(CALLS.length)];
            Object[] with = useful(x, call, random);
            boolean looksAround = n % 10 == 0;
            List<Long> before = looksAround ? all(x) : null;
            int deeds = x.sum(21);
            int undoable = x.sum(22);
            boolean refused = isRefused(x, call, with);
            if (looksAround && refused) {
                Check.due(call.getName() + " was refused, and changed nothing", before.equals(all(x)), true);
            } else if (looksAround && x.sum(21) == deeds + 1 && !call.getName().equals("again")) {
                undoAndDoAgain(x, call, with, before, undoable);
            }
            if (n % 20 == 0) {
                Check.due("isSound(0) behind " + call.getName(), x.isSound(0), true);
            }
        }
        List<Long> before = all(x);
        x.keep(0);
        x.pass(Math.min(72, 671 - x.sum(0)));
        x.again(0);
        Check.due("again brings back what was", withoutUndoable(before).equals(withoutUndoable(all(x))), true);
    }

    private static void begin(MarketHall x, Random random) {
        for (int n = 0; n < 2; n++) {
            x.sort(1 + random.nextInt(9), random.nextInt(13), random.nextInt(13), 200 + random.nextInt(200), 30);
            x.grower(random.nextInt(26), random.nextInt(10));
            x.room(1 + random.nextInt(12), random.nextInt(10), random.nextInt(10));
            x.buyer(random.nextInt(5), random.nextInt(40000), random.nextInt(2));
            x.clock(random.nextInt(18), 6, 6, 1 + random.nextInt(60), random.nextInt(10));
            x.truck(30 + random.nextInt(70), random.nextInt(20));
            x.inspector(random.nextInt(19), random.nextInt(4));
        }
    }

    /** What was undone is as it was, but for how much more can be undone; done again, it is what it was, too. */
    private static void undoAndDoAgain(MarketHall x, Method call, Object[] with, List<Long> before, int undoable) {
        List<Long> behind = all(x);
        x.undo();
        Check.due("how many can be undone", x.sum(22), Math.min(7, undoable));
        if (call.getName().equals("tasks")) {
            return;
        }
        Check.due("undo of " + call.getName(), withoutUndoable(before).equals(withoutUndoable(all(x))), true);
        isRefused(x, call, with);
        Check.due("the same of " + call.getName(), withoutUndoable(behind).equals(withoutUndoable(all(x))), true);
    }

    private static List<Long> withoutUndoable(List<Long> told) {
        List<Long> some = new ArrayList<>(told);
        some.set(22, 0L);
        return some;
    }

    /** Arguments that are often numbers of things that there are. */
    private static Object[] useful(MarketHall x, Method call, Random random) {
        Class<?>[] types = call.getParameterTypes();
        Object[] with = new Object[types.length];
        for (int n = 0; n < types.length; n++) {
            int most = new int[] {2, 6, 6, 40, 300}[random.nextInt(5)];
            int number = random.nextInt(20) == 0 ? EDGES[random.nextInt(EDGES.length)] : random.nextInt(most);
            with[n] = types[n] == boolean.class ? (Object) (number % 2 == 0) : (Object) number;
        }
        int now = x.sum(0);
        switch (call.getName()) {
            case "pass": with[0] = random.nextInt(10); break;
            case "deliver": return new Object[] {0, random.nextInt(2), 1 + random.nextInt(40), random.nextInt(500), 0};
            case "grade": return new Object[] {last(x, 4, random), 1, random.nextInt(10), random.nextInt(65536)};
            case "queue": return new Object[] {random.nextInt(2), last(x, 4, random), 300, 100 + random.nextInt(200)};
            case "order": return new Object[] {random.nextInt(2), random.nextInt(2), 3, 1 + random.nextInt(20),
                50 + random.nextInt(500), 127};
            case "load": return new Object[] {last(x, 12, random), random.nextInt(2)};
            case "send": return new Object[] {random.nextInt(2), now + 1 + random.nextInt(5)};
            case "quarrel": return new Object[] {last(x, 12, random), random.nextInt(4)};
            case "round": return new Object[] {random.nextInt(2), 127, 1 + random.nextInt(2)};
            case "best": return new Object[] {now + random.nextInt(49), random.nextInt(4)};
            case "sign": return new Object[] {(int) "pd0123456,;;".charAt(random.nextInt(12))};
            default: break;
        }
        return with;
    }

    /** One of the latest things of a kind that sum() tells. */
    private static int last(MarketHall x, int what, Random random) {
        return Math.max(0, x.sum(what) - 1 - random.nextInt(5));
    }

    /** More calls than an object is used for, with any arguments. */
    private static void runOfAnyCalls(Random random) {
        MarketHall x = new MarketHall();
        if (random.nextBoolean()) {
            x.season(random.nextInt(65536), 12);
        }
        for (int n = 0; n < 1500; n++) {
            Method call = CALLS[random.nextInt(CALLS.length)];
            Object[] with = useful(x, call, random);
            for (int k = 0; k < with.length; k++) {
                if (random.nextInt(6) == 0 && with[k] instanceof Integer) {
                    with[k] = random.nextBoolean() ? EDGES[random.nextInt(EDGES.length)] : random.nextInt();
                }
            }
            isRefused(x, call, with);
        }
    }

    /** All that is told of all things; the first 24 are what sum() tells. */
    private static List<Long> all(MarketHall x) {
        List<Long> told = new ArrayList<>();
        for (int what = 0; what < 24; what++) {
            told.add((long) x.sum(what));
        }
        for (int account = 0; account < 10; account++) {
            told.add((long) x.account(account));
        }
        String[] names = {"grown", "owed", "kept", "pallet", "owes", "ordered", "parcel", "hand", "haul", "trip", "looked",
            "quarrelled"};
        int[] whats = {9, 5, 11, 16, 15, 10, 21, 13, 12, 5, 10, 8};
        int[] things = {2, 2, 3, 4, 10, 11, 12, 17, 18, 18, 19, 20};
        for (int n = 0; n < names.length; n++) {
            for (int thing = 0; thing < x.sum(things[n]); thing++) {
                for (int what = 0; what < whats[n]; what++) {
                    told.add(ask(x, names[n], thing, what));
                }
            }
        }
        for (int clock = 0; clock < x.sum(17); clock++) {
            for (int place = 0; place < x.hand(clock, 5); place++) {
                for (int what = 0; what < 3; what++) {
                    told.add((long) x.lot(clock, place, what));
                }
            }
        }
        addRows(told, x, "found", 24, 6);
        addRows(told, x, "entry", 60, 5);
        return told;
    }

    private static void addRows(List<Long> told, MarketHall x, String name, int most, int whats) {
        for (int back = 0; back < most; back++) {
            for (int what = 0; what < whats; what++) {
                told.add(ask(x, name, back, what));
            }
        }
    }

    /** What a call tells; a number that none tells, if it is refused. */
    private static long ask(MarketHall x, String name, int thing, int what) {
        try {
            return ((Number) MarketHall.class.getMethod(name, int.class, int.class).invoke(x, thing, what)).longValue();
        } catch (InvocationTargetException e) {
            return Long.MIN_VALUE;
        } catch (ReflectiveOperationException e) {
            throw new IllegalStateException(e);
        }
    }
}
