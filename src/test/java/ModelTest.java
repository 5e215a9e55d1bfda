import java.lang.reflect.Method;
import java.lang.reflect.Modifier;
import java.util.ArrayList;
import java.util.Arrays;
import java.util.Comparator;
import java.util.List;
import java.util.Map;
import java.util.Random;

/**
 * All promises: runs of 512 calls by lot (the same ones each time), each answer held against that
 * of Model, the document read a second time. How many runs may be told as the second argument.
 */
public final class ModelTest {
    private static final int CALLS = 512;
    private static final int RUNS = 150;
    private static final int[] EXTREMES =
        {Integer.MIN_VALUE, -2147483647, -4096, -1, 96, 100, 256, 512, 65536, Integer.MAX_VALUE};

    /** The greatest number that each argument may well be. */
    private static final Map<String, int[]> GREATEST = Map.ofEntries(
        Map.entry("feed", new int[] {255}), Map.entry("shoreOf", new int[] {6, 7}),
        Map.entry("isleOf", new int[] {2}), Map.entry("shore", new int[] {5, 9, 30}),
        Map.entry("powders", new int[] {6, 99}), Map.entry("hushes", new int[] {6}),
        Map.entry("isle", new int[] {1, 30}), Map.entry("hours", new int[] {99}),
        Map.entry("noise", new int[] {6, 23}), Map.entry("loudest", new int[] {23, 1}),
        Map.entry("behind", new int[] {99, 1}), Map.entry("shoreBehind", new int[] {6, 99, 1}),
        Map.entry("first", new int[] {6}), Map.entry("whoFirst", new int[] {2}),
        Map.entry("most", new int[] {99, 1}), Map.entry("farthest", new int[] {99, 1}),
        Map.entry("hush", new int[] {6, 99}), Map.entry("fewest", new int[] {6, 99}),
        Map.entry("fromWhere", new int[] {6, 99, 1}), Map.entry("powderWanted", new int[] {6, 99, 1}),
        Map.entry("newShore", new int[] {5, 99, 1}), Map.entry("which", new int[] {6, 2}),
        Map.entry("treaty", new int[] {6, 6, 1}), Map.entry("thunder", new int[] {6, 7, 20, 1}),
        Map.entry("nearest", new int[] {1}), Map.entry("shared", new int[] {2}),
        Map.entry("loudHour", new int[] {1}), Map.entry("mean", new int[] {1}),
        Map.entry("gap", new int[] {1}), Map.entry("spent", new int[] {99}),
        Map.entry("swap", new int[] {6, 99}), Map.entry("ring", new int[] {99}),
        Map.entry("row", new int[] {30}), Map.entry("lots", new int[] {20, 99, 1}),
        Map.entry("count", new int[] {16}));

    private final Due due = new Due("ModelTest");
    private final Random random = new Random(20261118);
    private final List<Method> face = new ArrayList<>();
    private TowardTheLoudest bay;
    private Model model;
    private int run;
    private int calls;

    public static void main(String[] args) throws ReflectiveOperationException {
        int runs = args.length > 1 ? Integer.parseInt(args[1]) : RUNS;
        new ModelTest().goThrough(runs);
    }

    private void goThrough(int runs) throws ReflectiveOperationException {
        for (Method method : TowardTheLoudest.class.getDeclaredMethods()) {
            if (Modifier.isPublic(method.getModifiers())) {
                face.add(method);
            }
        }
        face.sort(Comparator.comparing(Method::getName));
        due.is("how many methods the face has", face.size(), 41);
        for (run = 0; run < runs; run++) {
            bay = new TowardTheLoudest();
            model = new Model();
            int shores = random.nextInt(9);
            for (calls = 0; calls < CALLS; calls++) {
                if (calls < shores) {
                    ask("shore", random.nextInt(6), random.nextInt(10), random.nextInt(31));
                } else {
                    step();
                }
            }
        }
        due.end();
    }

    private void step() throws ReflectiveOperationException {
        int lot = random.nextInt(100);
        if (lot < 2) {
            tell(text());
        } else if (lot < 4) {
            tellWay();
        } else if (lot < 8 && run % 10 == 9) {
            for (int i = 0; i < 20; i++) {
                ask("hours", 99);
            }
        } else {
            Method method = face.get(random.nextInt(face.size()));
            boolean drops = method.getName().equals("clear") || method.getName().equals("judge");
            if (!drops || random.nextInt(3) == 0) {
                ask(method.getName(), arguments(method));
            }
        }
    }

    private int[] arguments(Method method) {
        int[] greatest = GREATEST.getOrDefault(method.getName(), new int[0]);
        int[] arguments = new int[greatest.length];
        for (int i = 0; i < arguments.length; i++) {
            int lot = random.nextInt(100);
            if (lot < 3) {
                arguments[i] = EXTREMES[random.nextInt(EXTREMES.length)];
            } else if (lot < 8) {
                arguments[i] = random.nextBoolean() ? -1 : greatest[i] + 1;
            } else if (lot < 20 && greatest[i] > 20) {
                arguments[i] = random.nextInt(4) == 0 ? greatest[i] : random.nextInt(5);
            } else {
                arguments[i] = random.nextInt(greatest[i] + 1);
            }
        }
        if (method.getName().equals("isle") && arguments[0] == 1) {
            arguments[1] = random.nextInt(7);
        }
        if (method.getName().equals("lots")) {
            arguments[1] = random.nextInt();
        }
        return arguments;
    }

    private String text() {
        StringBuilder text = new StringBuilder();
        int statements = random.nextInt(7);
        for (int i = 0; i < statements; i++) {
            char sign = "spqivh".charAt(random.nextInt(6));
            text.append(sign);
            switch (sign) {
                case 's': text.append(digit(5)).append(digit(9)).append(number(30)); break;
                case 'p': text.append(digit(6)).append(number(99)); break;
                case 'q': text.append(digit(6)); break;
                case 'i': text.append(number(30)); break;
                case 'v': text.append(digit(5)); break;
                default: text.append(number(99)); break;
            }
            text.append(';');
        }
        if (random.nextInt(4) == 0 && text.length() > 0) {
            int at = random.nextInt(text.length());
            switch (random.nextInt(3)) {
                case 0: text.deleteCharAt(at); break;
                case 1: text.setCharAt(at, "spqivh;0123456789 ".charAt(random.nextInt(18))); break;
                default: text.setLength(at); break;
            }
        }
        return text.toString();
    }

    private int digit(int greatest) {
        return random.nextInt(20) == 0 ? random.nextInt(10) : random.nextInt(greatest + 1);
    }

    private String number(int greatest) {
        int number = random.nextInt(20) == 0 ? random.nextInt(100) : random.nextInt(greatest + 1);
        return String.format("%02d", number);
    }

    private void tell(String text) throws ReflectiveOperationException {
        for (int i = 0; i < text.length(); i++) {
            ask("feed", text.charAt(i));
        }
        ask("bay");
    }

    /** A ROW of what is so for some hours, that which() and judge() have something to find. */
    private void tellWay() throws ReflectiveOperationException {
        ask("clear");
        int length = random.nextInt(13);
        boolean places = random.nextInt(3) != 0;
        for (int i = 0; i < length; i++) {
            ask("row", places ? model.placeBehind(i) : Math.floorMod(model.loudestBehind(i), 18));
        }
        if (random.nextInt(4) == 0) {
            ask("row", random.nextInt(10));
        }
        if (places) {
            for (int what = 0; what < 3; what++) {
                ask("which", random.nextInt(7), what);
            }
        } else {
            ask("judge");
        }
    }

    private void ask(String name, int... arguments) throws ReflectiveOperationException {
        Class<?>[] types = new Class<?>[arguments.length];
        Arrays.fill(types, int.class);
        Object[] values = Arrays.stream(arguments).boxed().toArray();
        Number got = (Number) TowardTheLoudest.class.getMethod(name, types).invoke(bay, values);
        long want = model.call(name, arguments);
        due.is("run " + run + ", call " + calls + ": " + name + Arrays.toString(arguments),
            got.longValue(), want);
    }
}
