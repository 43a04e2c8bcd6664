import java.lang.reflect.InvocationTargetException;
import java.lang.reflect.Method;
import java.lang.reflect.Modifier;
import java.util.Arrays;

/** No call throws, whatever its arguments: in a new room, in a small one, and with all helpers and calls there are. */
public final class FullRoomTest {
    private static final int[] ARGUMENTS = {
        -2147483648, -9, -1, 0, 1, 3, 4, 9, 10, 15, 16, 17, 199, 200, 255, 1000, 5000, 20000, 1048576, 2147483647};
    private static final int[] SMALL = {-1, 0, 1, 3, 2147483647};
    private static int wrong = 0;

    public static void main(String[] args) throws Exception {
        for (Method m : CallRoom.class.getDeclaredMethods()) {
            if (Modifier.isPublic(m.getModifiers())) {
                for (int state = 0; state < 4; state++) {
                    everyWay(m, state);
                }
            }
        }
        allAtOnce();
        System.out.println(wrong == 0 ? "no call throws" : wrong + " calls throw or are wrong");
        if (wrong != 0) System.exit(1);
    }

    private static CallRoom roomIn(int state) {
        CallRoom x = new CallRoom();
        if (state == 0) return x;
        int helpers = state == 1 ? 1 : 10;
        int calls = state == 1 ? 2 : 200;
        for (int h = 0; h < helpers; h++) {
            x.helper(255 - h);
            x.duty(h);
        }
        for (int c = 0; c < calls; c++) {
            x.call(c % 4, c / 4 % 4, 1 + c, 5000 - c, c % helpers);
        }
        if (state == 3) x.ticks(20000);
        return x;
    }

    private static void everyWay(Method m, int state) throws IllegalAccessException {
        int[] from = m.getParameterCount() > 2 ? SMALL : ARGUMENTS;
        Object[] arguments = new Object[m.getParameterCount()];
        int ways = (int) Math.pow(from.length, arguments.length);
        CallRoom x = roomIn(state);
        for (int way = 0, used = 300; way < ways; way++, used++) {
            if (used == 500) {
                x = roomIn(state);
                used = 300;
            }
            int rest = way;
            for (int i = 0; i < arguments.length; i++) {
                arguments[i] = from[rest % from.length];
                rest /= from.length;
            }
            try {
                m.invoke(x, arguments);
            } catch (InvocationTargetException e) {
                wrong++;
                System.out.println(m.getName() + Arrays.toString(arguments) + " throws " + e.getCause());
            }
        }
    }

    /** The last helper and the last call count as all others do. */
    private static void allAtOnce() {
        CallRoom x = roomIn(2);
        x.ticks(1);
        is("helpers with grade 0 somewhere are busy too", x.count(8), 0);
        int with = 0;
        for (int h = 0; h < 10; h++) {
            with += x.helperOf(h, 1);
        }
        is("calls on", x.count(4), with);
        is("all calls", x.count(3) + x.count(4) + x.count(5) + x.count(6) + x.count(7), 200);
        x.prefer(0);
        x.rule(3);
        is("the last call waits", x.callOf(199, 0), 0);
        is("others are on", x.why(199), 2);
        x.ticks(19999);
        is("all done or left", x.count(5) + x.count(6), 200);
        is("all free", x.count(8), 10);
        int served = 0;
        for (int h = 0; h < 10; h++) {
            served += x.helperOf(h, 4);
        }
        is("done", x.count(5), served);
        is("given", x.within(2147483647), served);
    }

    private static void is(String what, int got, int due) {
        if (got != due) {
            wrong++;
            System.out.println(what + ": " + got + ", due is " + due);
        }
    }
}
