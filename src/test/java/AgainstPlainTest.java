import java.lang.reflect.InvocationTargetException;
import java.lang.reflect.Method;
import java.util.ArrayList;
import java.util.Arrays;
import java.util.Comparator;
import java.util.List;
import java.util.Random;

/** Runs of calls by chance (from fixed seeds) on SparseChecks and on Plain: every answer must be the same. */
public final class AgainstPlainTest {
    private static final int RUNS = 1500;
    private static final int CALLS = 440;
    private static final int[] EDGES = {
        Integer.MIN_VALUE, Integer.MAX_VALUE, -100, -32, -31, -10, -9, -2, -1, 0, 1, 2, 5, 6, 7, 8, 9, 10, 14, 15, 16, 17,
        19, 20, 21, 30, 31, 32, 63, 64, 98, 99, 100, 255, 256, 512
    };

    private final Random random;
    private final SparseChecks real = new SparseChecks();
    private final Plain plain = new Plain();
    private final List<String> told = new ArrayList<>();

    private AgainstPlainTest(long seed) {
        random = new Random(seed);
    }

    public static void main(String[] args) throws ReflectiveOperationException {
        for (int run = 0; run < RUNS && !Due.anyWrong(); run++) {
            AgainstPlainTest test = new AgainstPlainTest(run);
            test.run();
            if (Due.anyWrong()) {
                System.out.println("run " + run + ": " + test.told);
            }
        }
        Due.end();
    }

    private void run() throws ReflectiveOperationException {
        Method[] calls = SparseChecks.class.getDeclaredMethods();
        List<Method> shown = new ArrayList<>();
        for (Method call : calls) {
            if (java.lang.reflect.Modifier.isPublic(call.getModifiers())) {
                shown.add(call);
            }
        }
        shown.sort(Comparator.comparing(Method::getName));
        for (int i = 0; i < CALLS && !Due.anyWrong(); i++) {
            if (i == 0 && random.nextInt(8) != 0 || random.nextInt(150) == 0) {
                tellCode();
            }
            Method call = shown.get(random.nextInt(shown.size()));
            int often = switch (call.getName()) {
                case "chance" -> 40;
                case "share" -> 5;
                case "code", "wipe", "unsee", "again" -> 8;
                case "write", "fault", "seed" -> 3;
                default -> 1;
            };
            if (random.nextInt(often) == 0) {
                ask(call.getName(), call.getParameterTypes(), arguments(call));
            }
        }
    }

    private void tellCode() throws ReflectiveOperationException {
        Class<?>[] none = {};
        ask("wipe", none);
        int n = 2 + random.nextInt(8);
        StringBuilder text = new StringBuilder("C").append(n).append(random.nextInt(3) == 0 ? random.nextInt(10) : 0);
        int dense = random.nextInt(100);
        for (int checks = random.nextInt(7); checks > 0; checks--) {
            text.append('c');
            for (int b = 0; b < n; b++) {
                if (random.nextInt(100) < dense) {
                    text.append(b);
                }
            }
            text.append('.');
        }
        if (random.nextInt(10) == 0) {
            text.setCharAt(random.nextInt(text.length()), "Cc.0123456789 ".charAt(random.nextInt(14)));
        }
        for (char letter : text.toString().toCharArray()) {
            ask("write", new Class<?>[] {int.class}, (int) letter);
        }
        ask("fault", none);
        ask("code", none);
        for (int b = 0; b < n && random.nextInt(12) != 0; b++) {
            ask("level", new Class<?>[] {int.class, int.class}, b, random.nextInt(63) - 31);
        }
        ask("begin", none);
    }

    private void ask(String name, Class<?>[] types, Object... arguments) throws ReflectiveOperationException {
        String call = name + Arrays.toString(arguments);
        told.add(call);
        try {
            long got = ((Number) SparseChecks.class.getDeclaredMethod(name, types).invoke(real, arguments)).longValue();
            Method due = Plain.class.getDeclaredMethod(name, types);
            Due.is(call, got, ((Number) due.invoke(plain, arguments)).longValue());
        } catch (InvocationTargetException thrown) {
            Due.holds(call + " threw " + thrown.getCause(), false);
        }
    }

    private Object[] arguments(Method call) {
        if (random.nextInt(25) == 0) {
            return anyArguments(call.getParameterTypes());
        }
        int n = plain.about(0);
        int checks = plain.about(1);
        return switch (call.getName()) {
            case "write" -> some("Cc.0123456789".charAt(random.nextInt(13)));
            case "about" -> some(random.nextInt(17));
            case "bit" -> some(random.nextInt(n), random.nextInt(3));
            case "check" -> some(random.nextInt(checks + 1));
            case "message", "put" -> some(random.nextInt(checks + 1), random.nextInt(n));
            case "level" -> some(random.nextInt(n), random.nextInt(63) - 31);
            case "round" -> some(1 + random.nextInt(random.nextInt(4) == 0 ? 99 : 4));
            case "grow" -> some(random.nextInt(n), 1 + random.nextInt(checks + 1));
            case "offset" -> some(random.nextInt(10));
            case "traps" -> some(1 + random.nextInt(n), random.nextInt(checks + 1), random.nextInt(2));
            case "same" -> some(row(checks));
            case "judge" -> judged(n, checks);
            case "see" -> seen(n);
            case "share" -> new Object[] {random.nextInt(checks + 1), random.nextBoolean()};
            case "chance" -> new Object[] {1 + random.nextInt(31), random.nextInt(11), random.nextBoolean()};
            case "seed" -> new Object[] {random.nextLong()};
            case "drawn" -> some(1 + random.nextInt(20));
            case "keep", "again" -> some(random.nextInt(2));
            default -> anyArguments(call.getParameterTypes());
        };
    }

    private static Object[] some(int... numbers) {
        Object[] arguments = new Object[numbers.length];
        for (int i = 0; i < numbers.length; i++) {
            arguments[i] = numbers[i];
        }
        return arguments;
    }

    private Object[] anyArguments(Class<?>[] types) {
        Object[] arguments = new Object[types.length];
        for (int i = 0; i < types.length; i++) {
            int number = random.nextInt(4) == 0 ? EDGES[random.nextInt(EDGES.length)] : random.nextInt(12) - 1;
            if (types[i] == boolean.class) {
                arguments[i] = random.nextBoolean();
            } else if (types[i] == long.class) {
                arguments[i] = random.nextBoolean() ? random.nextLong() >> random.nextInt(64) : (Long) (long) number;
            } else {
                arguments[i] = number;
            }
        }
        return arguments;
    }

    private int row(int checks) {
        List<Integer> left = new ArrayList<>();
        for (int c = 0; c < checks; c++) {
            left.add(c);
        }
        int row = 0;
        while (!left.isEmpty()) {
            row = 10 * row + left.remove(random.nextInt(left.size()));
        }
        return random.nextInt(12) == 0 ? row + random.nextInt(12) - 1 : row;
    }

    /** Doings of which most can be, so that the judging goes far. */
    private Object[] judged(int n, int checks) {
        int doings = 1 + random.nextInt(4);
        long row = 0;
        for (int i = 0; i < doings; i++) {
            int doing = switch (random.nextInt(9)) {
                case 0, 1 -> 100 + random.nextInt(random.nextInt(5) == 0 ? 100 : 5);
                case 2 -> 200;
                case 3 -> 300 + 10 * random.nextInt(checks + 1) + random.nextInt(n);
                case 4 -> 400 + 10 * random.nextInt(n) + random.nextInt(2);
                case 5 -> 500;
                case 6 -> 600 + 10 * random.nextInt(checks + 1) + random.nextInt(2);
                case 7 -> 700 + random.nextInt(10);
                default -> random.nextInt(1000);
            };
            row = 1000 * row + doing;
        }
        return new Object[] {doings, row};
    }

    /** What would be seen, were some BIT turned, so that WHICH is seldom empty. */
    private Object[] seen(int n) {
        if (random.nextInt(4) == 0) {
            return some(random.nextInt(21), random.nextInt(64));
        }
        int rounds = random.nextInt(4) == 0 ? random.nextInt(21) : random.nextInt(3);
        Plain other = new Plain();
        other.write('C');
        other.write('0' + n);
        other.write('0' + plain.about(2));
        for (int c = 0; c < plain.about(1); c++) {
            other.write('c');
            for (int b = 0; b < n; b++) {
                if ((plain.check(c) >> b & 1) == 1) {
                    other.write('0' + b);
                }
            }
            other.write('.');
        }
        other.code();
        int turned = random.nextInt(n);
        for (int b = 0; b < n; b++) {
            int level = plain.bit(b, 0) - 100;
            other.level(b, b == turned ? -level : level);
        }
        other.begin();
        if (rounds > 0) {
            other.round(rounds);
        }
        return some(rounds, other.about(5));
    }
}
