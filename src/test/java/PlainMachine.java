import java.util.ArrayList;
import java.util.List;

/** The machine of Part IV once more, told in another way, to hold the class against it. */
final class PlainMachine {
    private static final class Frame {
        final int proc;
        final int back;
        final int floor;
        final int[] own = new int[20];

        Frame(int proc, int back, int floor) {
            this.proc = proc;
            this.back = back;
            this.floor = floor;
        }
    }

    private static final class Over extends Exception {
        private static final long serialVersionUID = 1;
        final int outcome;

        Over(int outcome) {
            this.outcome = outcome;
        }
    }

    private final int[] words;
    private final int[] input;
    private final int base;
    final int[] memory;
    final List<Integer> pile = new ArrayList<>();
    private final List<Frame> frames = new ArrayList<>();
    final List<Integer> output = new ArrayList<>();
    int outcome = 1;
    int place;
    int steps;
    int read;

    PlainMachine(int[] words, int[] input) {
        this.words = words;
        this.input = input;
        base = 5 + 3 * words[3];
        memory = new int[words[2]];
        try {
            call(words[4]);
        } catch (Over over) {
            outcome = over.outcome;
        }
    }

    static boolean isFormed(int[] w) {
        if (w.length < 5 || w[0] != 7919 || w[1] != w.length || w[2] < 0 || w[2] > 20000) {
            return false;
        }
        return w[3] >= 0 && w[3] <= 60 && 5 + 3 * w[3] <= w[1] && w[4] >= 0 && w[4] <= w[3] - 1;
    }

    int frameCount() {
        return frames.size();
    }

    int own(int k) {
        return frames.isEmpty() || k < 0 || k > 19 ? 0 : frames.get(frames.size() - 1).own[k];
    }

    int run(int n) {
        int done = 0;
        while (done < n && outcome == 1) {
            int before = place;
            try {
                step();
                done++;
            } catch (Over over) {
                outcome = over.outcome;
                place = before;
            }
        }
        steps += done;
        return done;
    }

    private boolean isCode(int p) {
        return p >= 0 && p < words.length - base;
    }

    private int number(int k) throws Over {
        if (!isCode(place + k)) {
            throw new Over(3);
        }
        return words[base + place + k];
    }

    private void check(boolean fine, int outcomeElse) throws Over {
        if (!fine) {
            throw new Over(outcomeElse);
        }
    }

    private void room(int takes, int puts) throws Over {
        int floor = frames.isEmpty() ? 0 : frames.get(frames.size() - 1).floor;
        check(pile.size() - floor >= takes && pile.size() - takes + puts <= 2000, 6);
    }

    private int pop() {
        return pile.remove(pile.size() - 1);
    }

    private void call(int p) throws Over {
        check(p >= 0 && p < words[3], 3);
        int entry = words[5 + 3 * p];
        int parameters = words[6 + 3 * p];
        int owns = words[7 + 3 * p];
        check(isCode(entry) && parameters >= 0 && parameters <= owns && owns <= 20, 3);
        room(parameters, 0);
        check(frames.size() < 250, 7);
        Frame frame = new Frame(p, place + 2, pile.size() - parameters);
        for (int k = parameters - 1; k >= 0; k--) {
            frame.own[k] = pop();
        }
        frames.add(frame);
        place = entry;
    }

    private void step() throws Over {
        int op = number(0);
        check(op >= 0 && op <= 26, 3);
        Frame frame = frames.get(frames.size() - 1);
        if (op <= 6) {
            stepOfWords(op, frame);
        } else if (op <= 18) {
            stepOfSigns(op);
        } else if (op == 19) {
            check(isCode(number(1)), 3);
            place = number(1);
        } else if (op == 20) {
            check(isCode(number(1)), 3);
            room(1, 0);
            place = pop() == 0 ? number(1) : place + 2;
        } else if (op == 21) {
            call(number(1));
        } else {
            stepOfOne(op, frame);
        }
    }

    private void stepOfWords(int op, Frame frame) throws Over {
        int a = number(1);
        int n = op >= 5 ? number(2) : 0;
        check(op != 1 && op != 2 || a >= 0 && a < words[7 + 3 * frame.proc], 3);
        check(op != 3 && op != 4 || a >= 0 && a < memory.length, 3);
        check(op < 5 || a >= 0 && n >= 0 && (long) a + n <= memory.length, 3);
        room(op == 6 ? 2 : op == 2 || op == 4 || op == 5 ? 1 : 0, op == 6 || op == 2 || op == 4 ? 0 : 1);
        if (op >= 5) {
            int i = pile.get(pile.size() - (op == 5 ? 1 : 2));
            check(i >= 0 && i < n, 4);
            int v = pop();
            if (op == 5) {
                pile.add(memory[a + v]);
            } else {
                memory[a + pop()] = v;
            }
            place += 3;
            return;
        }
        if (op == 0) {
            pile.add(a);
        } else if (op == 1) {
            pile.add(frame.own[a]);
        } else if (op == 2) {
            frame.own[a] = pop();
        } else if (op == 3) {
            pile.add(memory[a]);
        } else {
            memory[a] = pop();
        }
        place += 2;
    }

    private void stepOfSigns(int op) throws Over {
        if (op == 12) {
            room(1, 1);
            pile.add(-pop());
            place++;
            return;
        }
        room(2, 1);
        long b = pile.get(pile.size() - 1);
        long a = pile.get(pile.size() - 2);
        check(op != 10 && op != 11 || b != 0, 5);
        long[] made = {a + b, a - b, a * b, b == 0 ? 0 : a / b, b == 0 ? 0 : a % b, 0, a == b ? 1 : 0,
            a != b ? 1 : 0, a < b ? 1 : 0, a <= b ? 1 : 0, a > b ? 1 : 0, a >= b ? 1 : 0};
        pop();
        pop();
        pile.add((int) made[op - 7]);
        place++;
    }

    private void stepOfOne(int op, Frame frame) throws Over {
        if (op == 26) {
            outcome = 2;
        } else if (op == 25) {
            room(0, 1);
            pile.add(read < input.length ? input[read++] : -1);
        } else {
            room(1, op == 23 ? 1 : 0);
            check(op != 24 || output.size() < 8000, 8);
            int v = pop();
            if (op == 24) {
                output.add(v);
            } else if (op == 23) {
                while (pile.size() > frame.floor) {
                    pop();
                }
                pile.add(v);
                frames.remove(frames.size() - 1);
                if (frames.isEmpty()) {
                    outcome = 2;
                } else {
                    place = frame.back - 1;
                }
            }
        }
        place++;
    }
}
