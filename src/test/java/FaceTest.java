import java.lang.reflect.Constructor;
import java.lang.reflect.Field;
import java.lang.reflect.Method;
import java.lang.reflect.Modifier;
import java.util.Random;
import java.util.TreeSet;

/** The public face as the document has it, and that no call throws for any arguments in any state. */
public final class FaceTest {
    private static final String FACE = "at(int) int, check() int, exact() boolean, frame(int,int,int) int, gap(int,int) int, "
            + "identifier(int) int, letter(int) int, offset(long) int, print() int, read() int, reader(int,int,int) int, "
            + "sign(int) void, span(int,int,int) int, touched(int,int) int";
    private static final int[] ODD = {Integer.MIN_VALUE, Integer.MIN_VALUE + 1, -513, -3, -2, -1, 0, 1, 2, 20, 21, 40, 41, 60,
        61, 99, 100, 1999, 2000, 2047, 2048, 10000, 10001, 65536, Integer.MAX_VALUE - 1, Integer.MAX_VALUE};

    private static final String TEXT = "frame 3 10 30 5 reads 2 15 reads 4 8\n frame 20 60 99 60 \n";
    private static final int DEAREST = 20;

    public static void main(String[] args) {
        face();
        lastCalls();
        anyCalls();
        Expect.end();
    }

    private static void face() {
        Expect.sentence("The public face");
        TreeSet<String> found = new TreeSet<>();
        for (Method m : FrameTables.class.getDeclaredMethods()) {
            if (!Modifier.isPrivate(m.getModifiers())) {
                StringBuilder name = new StringBuilder(m.getName()).append('(');
                for (Class<?> type : m.getParameterTypes()) {
                    name.append(name.charAt(name.length() - 1) == '(' ? "" : ",").append(type.getName());
                }
                found.add(name.append(") ").append(m.getReturnType().getName()).toString());
                Expect.due(m.getName() + " is public", Modifier.isPublic(m.getModifiers()), true);
            }
        }
        Expect.due("methods", String.join(", ", found), FACE);
        for (Field f : FrameTables.class.getDeclaredFields()) {
            Expect.due(f.getName() + " is private", Modifier.isPrivate(f.getModifiers()), true);
        }
        Constructor<?>[] made = FrameTables.class.getDeclaredConstructors();
        Expect.due("constructors", made.length, 1);
        Expect.due("its parameters", made[0].getParameterCount(), 0);
        Expect.due("it is public", Modifier.isPublic(made[0].getModifiers()), true);
        Expect.due("the class is public", Modifier.isPublic(FrameTables.class.getModifiers()), true);
        Expect.due("the class is final", Modifier.isFinal(FrameTables.class.getModifiers()), true);
    }

    private static void lastCalls() {
        Expect.sentence("An object is used for at most 512 calls after it has been made");
        Counted x = new Counted();
        x.frames(40, 1, 1, 0);
        while (x.callsLeft() > 3) {
            Expect.due("offset(39), " + x.callsLeft() + " calls left", x.offset(39), 40);
        }
        Expect.due("the 510th: offset(40)", x.offset(40), 40);
        Expect.due("the 511th: exact()", x.exact(), true);
        Expect.due("the 512th: at(40)", x.at(40), 0);
    }

    private static void anyCalls() {
        Expect.sentence("no call throws, for any arguments in any state");
        for (int seed = 0; seed < 1000; seed++) {
            Random random = new Random(seed);
            Counted x = new Counted();
            while (x.callsLeft() >= DEAREST) {
                int kind = random.nextInt(16);
                try {
                    call(x, kind, random);
                } catch (RuntimeException | StackOverflowError e) {
                    Expect.due("seed " + seed + ", " + x.callsLeft() + " calls left, kind " + kind + ": " + e, 1, 0);
                }
            }
        }
    }

    private static int any(Random random, int most) {
        return random.nextInt(8) == 0 ? ODD[random.nextInt(ODD.length)] : random.nextInt(most + 2);
    }

    private static void call(Counted x, int kind, Random random) {
        switch (kind) {
            case 0, 1, 2 -> x.frame(any(random, 20), any(random, 60), any(random, 99));
            case 3, 4 -> x.reader(any(random, 40), any(random, 20), any(random, 100));
            case 5 -> x.identifier(any(random, 40));
            case 6 -> x.span(any(random, 3), any(random, 2047), any(random, 2047));
            case 7 -> x.offset(random.nextInt(20) == 0 ? random.nextLong() : any(random, 100));
            case 8 -> x.at(any(random, 40));
            case 9 -> x.gap(any(random, 40), any(random, 60));
            case 10 -> x.check();
            case 11 -> x.sign(random.nextInt());
            case 12 -> x.type(TEXT.substring(random.nextInt(2), TEXT.length() - random.nextInt(2)));
            case 13 -> x.print();
            case 14 -> letterInRange(x.letter(any(random, 2000)));
            default -> anyRarer(x, random);
        }
    }

    private static void letterInRange(int letter) {
        Expect.due("letter " + letter + " is a sign or -1", letter == -1 || letter >= 1 && letter <= 255, true);
    }

    private static void anyRarer(Counted x, Random random) {
        x.touched(any(random, 40), any(random, 20));
        x.exact();
        if (random.nextInt(4) == 0) {
            x.read();
        }
    }
}
