import java.lang.reflect.Method;
import java.lang.reflect.Modifier;
import java.util.ArrayList;
import java.util.Comparator;
import java.util.List;
import java.util.Random;

/** Runs of calls by chance, on the class and on the model: every answer must be the same. */
public final class ModelTest {
    private static final int RUNS = 400, MOST_CALLS = 512;
    private static final int[] ODD = {-1, -2, 40, 41, 100, Integer.MAX_VALUE, Integer.MIN_VALUE, Integer.MAX_VALUE - 8};

    private final Random random;
    private final ElbowQueue real = new ElbowQueue();
    private final QueueModel model = new QueueModel();
    private final List<Method> calls;
    private final List<Method> twins;
    private int made;

    private ModelTest(long seed, List<Method> calls, List<Method> twins) {
        random = new Random(seed);
        this.calls = calls;
        this.twins = twins;
    }

    public static void main(String[] args) throws Exception {
        List<Method> calls = new ArrayList<>();
        for (Method method : ElbowQueue.class.getDeclaredMethods()) {
            if (Modifier.isPublic(method.getModifiers())) {
                calls.add(method);
            }
        }
        calls.sort(Comparator.comparing(Method::getName));
        List<Method> twins = new ArrayList<>();
        for (Method call : calls) {
            twins.add(QueueModel.class.getMethod(call.getName(), call.getParameterTypes()));
        }
        Check.due("calls of the face", calls.size(), 32);
        int runs = args.length > 0 ? Integer.parseInt(args[0]) : RUNS;
        for (long seed = 1; seed <= runs; seed++) {
            new ModelTest(seed, calls, twins).run(seed);
        }
        Check.end();
    }

    private void run(long seed) throws Exception {
        while (made < MOST_CALLS - 180) {
            if (random.nextInt(60) == 0 || made == 0) {
                tell(seed);
            } else {
                call(seed, random.nextInt(calls.size()));
            }
        }
    }

    private void call(long seed, int which) throws Exception {
        Method call = calls.get(which);
        if (call.getName().equals("feed") && random.nextInt(8) != 0 || call.getName().equals("town")) {
            return;
        }
        Object[] numbers = new Object[call.getParameterCount()];
        for (int i = 0; i < numbers.length; i++) {
            numbers[i] = number(call.getName(), i);
        }
        same(seed, which, numbers);
    }

    private void same(long seed, int which, Object[] numbers) throws Exception {
        int got = (Integer) calls.get(which).invoke(real, numbers);
        int want = (Integer) twins.get(which).invoke(model, numbers);
        made++;
        Check.due("seed " + seed + ", call " + made + ": " + calls.get(which).getName() + List.of(numbers), got, want);
    }

    private int number(String name, int i) {
        if (random.nextInt(25) == 0) {
            return ODD[random.nextInt(ODD.length)];
        }
        int[] most = switch (name) {
            case "row" -> new int[] {3, 3, 20};
            case "set" -> new int[] {3, 20, 18};
            case "copy" -> new int[] {3, 12, 3, 12, 10};
            case "drop" -> new int[] {12};
            case "feed" -> new int[] {256};
            case "minutes" -> new int[] {random.nextInt(4) == 0 ? 21 : 3};
            case "hatch" -> new int[] {4, 10};
            case "say", "as", "person" -> new int[] {16, 6};
            case "ahead", "order" -> new int[] {61, 9};
            case "grows" -> new int[] {17, 9, 11, 2};
            case "seen" -> new int[] {3, 2, 9};
            default -> new int[] {16, 2};
        };
        return random.nextInt(most[i] + 1);
    }

    private void tell(long seed) throws Exception {
        String text = text();
        for (int i = 0; i < text.length(); i++) {
            same(seed, find("feed"), new Object[] {(int) text.charAt(i)});
        }
        same(seed, find("town"), new Object[0]);
        same(seed, find("fault"), new Object[0]);
    }

    private int find(String name) {
        for (int i = 0; i < calls.size(); i++) {
            if (calls.get(i).getName().equals(name)) {
                return i;
            }
        }
        return -1;
    }

    private String text() {
        StringBuilder text = new StringBuilder();
        text.append('q').append(random.nextInt(4)).append(',').append(random.nextInt(10)).append(';');
        int waiters = random.nextInt(9);
        int passers = random.nextInt(9);
        int bound = random.nextBoolean() ? 100 : 10;
        for (int k = 0; k < waiters; k++) {
            text.append(person(bound)).append(';');
        }
        for (int k = 0; k < passers; k++) {
            text.append('p').append(person(bound)).append(',').append(random.nextInt(waiters + 5)).append(';');
        }
        if (random.nextInt(3) == 0) {
            spoil(text);
        }
        return text.toString();
    }

    private String person(int bound) {
        return "bwsfd".charAt(random.nextInt(5)) + String.valueOf(random.nextInt(bound)) + "," + random.nextInt(4);
    }

    private void spoil(StringBuilder text) {
        String signs = "qbwsfdp0123456789,; x";
        int at = random.nextInt(text.length());
        char sign = signs.charAt(random.nextInt(signs.length()));
        switch (random.nextInt(5)) {
            case 0 -> text.deleteCharAt(at);
            case 1 -> text.insert(at, sign);
            case 2 -> text.setCharAt(at, sign);
            case 3 -> text.setLength(at);
            default -> text.append("b1,0;pb1,0,0;", 0, random.nextInt(14));
        }
    }
}
