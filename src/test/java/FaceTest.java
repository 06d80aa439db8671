import java.lang.reflect.Constructor;
import java.lang.reflect.Field;
import java.lang.reflect.Method;
import java.lang.reflect.Modifier;
import java.util.Random;
import java.util.Set;
import java.util.TreeSet;

/** The face is the document's and no more; and no call throws or leaves a register's range. */
public final class FaceTest {
    private static final Rows ROWS = new Rows();
    private static final Set<String> FACE = Set.of("boolean poke(int,int,int)", "int peek(int)",
            "boolean start(int,int)", "boolean set(int,int)", "int register(int)", "int run(int)",
            "boolean stopped()", "boolean interrupt()", "void line(boolean)", "int touches()",
            "int touched(int)", "int steps()");
    private static final int[] MOST = {65535, 65535, 65535, 65535, 65535, 255, 255, 255, 65535};

    public static void main(String[] args) {
        face();
        for (int seed = 0; seed < 3000; seed++) {
            anyCalls(new Random(seed));
        }
        ROWS.end();
    }

    private static void face() {
        Set<String> found = new TreeSet<>();
        for (Method method : WideCore.class.getDeclaredMethods()) {
            if (!Modifier.isPrivate(method.getModifiers()) && !method.isSynthetic()) {
                String all = method.toString().replace("WideCore.", "");
                ROWS.due(all + " is public", all.startsWith("public "), true);
                found.add(all.substring("public ".length()));
            }
        }
        ROWS.due("the methods " + found, found.equals(FACE), true);
        for (Field field : WideCore.class.getDeclaredFields()) {
            boolean isPrivate = Modifier.isPrivate(field.getModifiers());
            ROWS.due("field " + field.getName(), isPrivate || field.getName().equals("NONE"), true);
        }
        Constructor<?>[] constructors = WideCore.class.getDeclaredConstructors();
        ROWS.due("constructors", constructors.length, 1);
        ROWS.due("the class is public and final",
                WideCore.class.getModifiers() & (Modifier.PUBLIC | Modifier.FINAL), Modifier.PUBLIC | Modifier.FINAL);
    }

    /** At most 60 + 30 * 14 calls: nothing is promised after 512. */
    private static void anyCalls(Random random) {
        WideCore core = new WideCore();
        for (int i = 0; i < 60; i++) {
            core.poke(random.nextInt(1021), random.nextInt(), 4);
        }
        int made = 0;
        for (int call = 0; call < 30; call++) {
            int number = random.nextBoolean() ? random.nextInt() : random.nextInt(70000);
            switch (random.nextInt(8)) {
                case 0 -> core.poke(number, random.nextInt(), random.nextInt(6));
                case 1 -> core.start(random.nextInt(300), number);
                case 2 -> core.set(random.nextInt(10), number);
                case 3 -> core.interrupt();
                case 4 -> core.line(random.nextBoolean());
                case 5 -> core.touched(number);
                default -> made += core.run(random.nextInt(61));
            }
            inRange(core);
            ROWS.due("steps", core.steps(), made);
        }
    }

    private static void inRange(WideCore core) {
        for (int i = 0; i < MOST.length; i++) {
            int value = core.register(i);
            ROWS.due("range of register " + i, value >= 0 && value <= MOST[i], true);
        }
        if ((core.register(6) & 16) != 0) {
            ROWS.due("narrow X and Y", core.register(1) < 256 && core.register(2) < 256, true);
        }
    }
}
