import java.util.function.Supplier;

/** Whether a call takes the numbers that are there, and throws for those next to them without a change. */
final class Bounds {
    interface Numbered {
        Object run(Gate gate, int number);
    }

    private Bounds() {
    }

    /** The numbers from 0 on, as many as count, are there. */
    static void counted(Supplier<Gate> scene, int count, Class<? extends RuntimeException> kind, Numbered call) {
        for (int number = 0; number < count; number++) {
            takes(scene, number, kind, call);
        }
        for (int number : new int[] {Integer.MIN_VALUE, -100, -1, count, count + 1, 31, 32, 100, 200, Integer.MAX_VALUE}) {
            throwsFor(scene, number, kind, call);
        }
    }

    /** The numbers from least to most are there. */
    static void ranged(Supplier<Gate> scene, int least, int most, Class<? extends RuntimeException> kind, Numbered call) {
        takes(scene, least, kind, call);
        takes(scene, least + 1, kind, call);
        takes(scene, most - 1, kind, call);
        takes(scene, most, kind, call);
        for (int number : new int[] {Integer.MIN_VALUE, least - 1, most + 1, Integer.MAX_VALUE}) {
            throwsFor(scene, number, kind, call);
        }
    }

    static void takes(Supplier<Gate> scene, int number, Class<? extends RuntimeException> kind, Numbered call) {
        Object answer = Check.answer(() -> call.run(scene.get(), number));
        Check.same(number + " is taken", answer.equals(kind.getSimpleName()), false);
    }

    static void throwsFor(Supplier<Gate> scene, int number, Class<? extends RuntimeException> kind, Numbered call) {
        Twin.refuses("" + number, kind, scene, gate -> call.run(gate, number));
    }
}
