import java.lang.reflect.Method;
import java.lang.reflect.Modifier;
import java.util.ArrayList;
import java.util.Comparator;
import java.util.List;

/** Every call with small, odd and far arguments in many states: it must not throw, and answer what the model answers. */
public final class ExtremeTest {
    private static final int[] FAR = {Integer.MIN_VALUE, Integer.MIN_VALUE + 1, -1 << 20, -101, -10, -2, -1, 31, 32, 60, 61, 99,
        100, 101, 127, 128, 200, 201, 255, 256, 511, 1023, 1024, 65535, 1 << 30, 99999999, 100000000, Integer.MAX_VALUE - 1,
        Integer.MAX_VALUE};
    private static final String[] TEXTS = {"n2;011;s0", "n7;011c11;121c11;231c11;341c11;451c11;561c11;s0",
        "n5;012c52;123;234c11;024;345;s4", "n4;012;022c91;232;132c55;s3", "n3;0130c99;s1",
        "n7;012c15;123;234c26;345;456c37;567;609;036c48;147;s6"};

    private static long seed = 5;

    private static int pick(int bound) {
        seed = seed * 6364136223846793005L + 1442695040888963407L;
        return (int) ((seed >>> 33) % bound);
    }

    private static int argument() {
        return pick(5) == 0 ? FAR[pick(FAR.length)] : pick(pick(2) == 0 ? 5 : 13) - 1;
    }

    private static List<Method> calls() {
        List<Method> calls = new ArrayList<>();
        for (Method m : WalkingBus.class.getDeclaredMethods()) {
            if (Modifier.isPublic(m.getModifiers())) {
                calls.add(m);
            }
        }
        calls.sort(Comparator.comparing(Method::getName));
        return calls;
    }

    private static int wrong = 0;
    private static long right = 0;

    private static void ask(Method call, WalkingBus bus, Model model, StringBuilder told, Object... args) throws Exception {
        told.append(call.getName()).append(java.util.Arrays.toString(args)).append('\n');
        long got;
        try {
            got = ((Number) call.invoke(bus, args)).longValue();
        } catch (java.lang.reflect.InvocationTargetException e) {
            wrong++;
            System.out.println("thrown: " + e.getCause() + " by the last of\n" + told);
            return;
        }
        long due = ((Number) Model.class.getDeclaredMethod(call.getName(), call.getParameterTypes())
                .invoke(model, args)).longValue();
        if (got == due) {
            right++;
        } else {
            wrong++;
            System.out.println("answered " + got + ", the model " + due + " by the last of\n" + told);
        }
    }

    private static void prepare(WalkingBus bus, Model model) {
        String text = TEXTS[pick(TEXTS.length)];
        bus.sheet(3, 1, text.length());
        model.sheet(3, 1, text.length());
        for (int i = 0; i < text.length(); i++) {
            bus.put(3, i, text.charAt(i));
            model.put(3, i, text.charAt(i));
        }
        bus.streets(3, 1, 0, text.length());
        model.streets(3, 1, 0, text.length());
        int kids = pick(12);
        for (int k = 0; k < kids; k++) {
            int kind = pick(3), corner = pick(7), age = 4 + pick(8), ready = pick(61);
            bus.child(kind, corner, age, ready);
            model.child(kind, corner, age, ready);
        }
    }

    public static void main(String[] args) throws Exception {
        List<Method> calls = calls();
        int runs = args.length > 0 ? Integer.parseInt(args[0]) : 150;
        for (int run = 0; run < runs && wrong < 3; run++) {
            WalkingBus bus = new WalkingBus();
            Model model = new Model();
            if (pick(10) != 0) {
                prepare(bus, model);
            }
            StringBuilder told = new StringBuilder();
            for (int k = 0; k < 400 && wrong < 3; k++) {
                Method call = calls.get(pick(calls.size()));
                Object[] numbers = new Object[call.getParameterCount()];
                for (int a = 0; a < numbers.length; a++) {
                    numbers[a] = argument();
                }
                ask(call, bus, model, told, numbers);
            }
        }
        System.out.println(right + " answers are the model's, " + wrong + " are not");
        if (wrong != 0) {
            System.exit(1);
        }
    }
}
