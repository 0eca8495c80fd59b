import java.util.ArrayDeque;
import java.util.ArrayList;
import java.util.Deque;
import java.util.List;

/** SILOS once more, as queues of LOTS {STEP, tons}. */
final class PlainSilos {
    private final List<Deque<int[]>> queues = List.of(new ArrayDeque<>(), new ArrayDeque<>(), new ArrayDeque<>());

    void store(int grade, int step, int tons) {
        queues.get(grade).add(new int[] {step, tons});
    }

    int tons(int s) {
        int sum = 0;
        for (int[] lot : queues.get(s)) {
            sum += lot[1];
        }
        return sum;
    }

    int lots(int s) {
        return queues.get(s).size();
    }

    /** What is taken of each LOT for a BAG; the SILO has so many tons. */
    List<int[]> bag(int s, int n) {
        Deque<int[]> queue = queues.get(s);
        List<int[]> taken = new ArrayList<>();
        int lacking = n;
        while (lacking > 0) {
            int[] lot = queue.peek();
            int tons = Math.min(lacking, lot[1]);
            taken.add(new int[] {lot[0], tons});
            lot[1] -= tons;
            lacking -= tons;
            if (lot[1] == 0) {
                queue.remove();
            }
        }
        return taken;
    }
}
