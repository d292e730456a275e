import java.util.ArrayDeque;
import java.util.ArrayList;
import java.util.Deque;
import java.util.HashMap;
import java.util.List;
import java.util.Map;
import java.util.SortedMap;
import java.util.SortedSet;
import java.util.TreeMap;
import java.util.TreeSet;

/** The document once more, in the plainest words and with no regard to speed: the tests' measure. */
final class PlainModel {
    private final int[] code = new int[96];
    private final List<String> tables = new ArrayList<>();
    private final int[] start = new int[16];
    private List<SortedMap<Integer, int[]>> blocks = null;
    private List<Integer> rewritten = null;
    private Map<Integer, Integer> traps = null;

    private int stepsDone = 0;
    private int[] registers = new int[4];
    private int[] cells = new int[16];
    private int pc = 0;
    private Deque<Integer> stack = new ArrayDeque<>();
    private List<Integer> output = new ArrayList<>();
    private long[] counters = new long[64];

    void poke(int address, int value) {
        if (address < 0 || address > 95) {
            throw new IndexOutOfBoundsException();
        }
        code[address] = Math.floorMod(value, 256);
        blocks = null;
        rewritten = null;
    }

    int declare(int base, int count) {
        if (count < 1 || count > 96 || base < 0 || (long) base + count > 96) {
            throw new IllegalArgumentException();
        }
        if (tables.size() == 4) {
            throw new IllegalStateException();
        }
        tables.add(base + "+" + count);
        blocks = null;
        rewritten = null;
        return tables.size();
    }

    void data(int cell, int value) {
        if (cell < 0 || cell > 15) {
            throw new IndexOutOfBoundsException();
        }
        start[cell] = value;
    }

    private static int length(int first) {
        if (first == 71 || first > 77) {
            return 0;
        }
        if (first < 48) {
            return 1;
        }
        return first >= 72 && first <= 75 || first == 77 ? 3 : 2;
    }

    private static boolean ends(int first) {
        return first == 0 || first == 3 || first >= 60 && first <= 75;
    }

    /** Where an instruction of the code sends the PC, but for the next one. */
    private List<Integer> goals(int at) {
        List<Integer> goals = new ArrayList<>();
        int first = code[at];
        if (first >= 60 && first <= 68) {
            goals.add(at + 2 + signed(code[at + 1]));
        } else if (first == 69 || first == 70) {
            goals.add(code[at + 1]);
        } else if (first >= 72 && first <= 75) {
            for (int i = 0; i < code[at + 2]; i++) {
                goals.add(code[code[at + 1] + i]);
            }
        }
        return goals;
    }

    private static int signed(int n) {
        return n < 128 ? n : n - 256;
    }

    int analyse() {
        blocks = null;
        rewritten = null;
        SortedSet<Integer> reached = new TreeSet<>();
        SortedSet<Integer> heads = new TreeSet<>();
        heads.add(0);
        reached.add(0);
        boolean grew = true;
        while (grew) {
            grew = false;
            for (int at : new ArrayList<>(reached)) {
                check(at);
                int first = code[at];
                List<Integer> next = goals(at);
                heads.addAll(next);
                if (!ends(first) || first >= 60 && first <= 67 || first == 70) {
                    next.add(at + length(first));
                    if (ends(first)) {
                        heads.add(at + length(first));
                    }
                }
                grew |= reached.addAll(next);
            }
        }
        overlaps(reached);
        blocks = blocksOf(heads);
        return blocks.size();
    }

    private void check(int at) {
        boolean good = at >= 0 && at <= 95 && length(code[at]) > 0 && at + length(code[at]) <= 96
                && code[at] != 2 && code[at] != 76 && code[at] != 77;
        if (good && code[at] >= 72 && code[at] <= 75) {
            good = tables.contains(code[at + 1] + "+" + code[at + 2]);
        }
        if (!good) {
            throw new UnsupportedOperationException();
        }
    }

    private void overlaps(SortedSet<Integer> reached) {
        int[] times = new int[96];
        boolean[] inTable = new boolean[96];
        for (int at : reached) {
            for (int i = 0; i < length(code[at]); i++) {
                times[at + i]++;
            }
            if (code[at] >= 72 && code[at] <= 75) {
                for (int i = 0; i < code[at + 2]; i++) {
                    inTable[code[at + 1] + i] = true;
                }
            }
        }
        for (int i = 0; i < 96; i++) {
            if (times[i] > 1 || times[i] == 1 && inTable[i]) {
                throw new UnsupportedOperationException();
            }
        }
    }

    /** Each block: its instructions' bytes by their addresses. */
    private List<SortedMap<Integer, int[]>> blocksOf(SortedSet<Integer> heads) {
        List<SortedMap<Integer, int[]>> all = new ArrayList<>();
        for (int head : heads) {
            SortedMap<Integer, int[]> block = new TreeMap<>();
            int at = head;
            do {
                int[] bytes = new int[length(code[at])];
                System.arraycopy(code, at, bytes, 0, bytes.length);
                block.put(at, bytes);
                at += bytes.length;
            } while (!ends(block.get(block.lastKey())[0]) && !heads.contains(at));
            all.add(block);
        }
        return all;
    }

    private static int size(SortedMap<Integer, int[]> block) {
        int size = 0;
        for (int[] bytes : block.values()) {
            size += bytes.length;
        }
        return size;
    }

    int block(int k, int what) {
        if (blocks == null || k < 0 || k >= blocks.size()) {
            throw new IndexOutOfBoundsException();
        }
        if (what < 0 || what > 2) {
            throw new IllegalArgumentException();
        }
        SortedMap<Integer, int[]> block = blocks.get(k);
        return what == 0 ? block.firstKey() : what == 1 ? size(block) : block.size();
    }

    int blockAt(int address) {
        for (int k = 0; blocks != null && k < blocks.size(); k++) {
            int head = blocks.get(k).firstKey();
            if (address >= head && address < head + size(blocks.get(k))) {
                return k;
            }
        }
        return -1;
    }

    int rewrite() {
        if (blocks == null) {
            throw new IllegalStateException();
        }
        rewritten = null;
        List<Integer> memory = new ArrayList<>();
        for (int b : code) {
            memory.add(b);
        }
        traps = new HashMap<>();
        for (int k = 0; k < blocks.size(); k++) {
            SortedMap<Integer, int[]> block = blocks.get(k);
            int newCode = memory.size();
            memory.addAll(List.of(76, k));
            int moved = 0;
            for (Map.Entry<Integer, int[]> e : block.entrySet()) {
                if (moved < 2) {
                    memory.addAll(anew(e.getKey(), e.getValue()));
                    moved += e.getValue().length;
                    int behind = e.getKey() + e.getValue().length;
                    if ((moved >= 2 || size(block) == 1) && !ends(e.getValue()[0])) {
                        memory.addAll(List.of(69, behind));
                    }
                }
            }
            if (size(block) == 1) {
                memory.set(block.firstKey(), 2);
                traps.put(block.firstKey(), newCode);
            } else {
                memory.set(block.firstKey(), 69);
                memory.set(block.firstKey() + 1, newCode);
            }
        }
        int used = memory.size() - 96;
        if (used > 160) {
            throw new UnsupportedOperationException();
        }
        while (memory.size() < 256) {
            memory.add(0);
        }
        rewritten = memory;
        return used;
    }

    private static List<Integer> anew(int at, int[] bytes) {
        int first = bytes[0];
        if (first >= 60 && first <= 67) {
            return List.of(first, 2, 69, at + 2, 69, at + 2 + signed(bytes[1]));
        }
        if (first == 68) {
            return List.of(69, at + 2 + signed(bytes[1]));
        }
        if (first == 70) {
            return List.of(77, bytes[1], at + 2);
        }
        List<Integer> same = new ArrayList<>();
        for (int b : bytes) {
            same.add(b);
        }
        return same;
    }

    int code(int address, boolean second) {
        if (address < 0 || address > 255) {
            throw new IndexOutOfBoundsException();
        }
        if (second && rewritten == null) {
            throw new IllegalStateException();
        }
        return second ? rewritten.get(address) : address < 96 ? code[address] : 0;
    }

    int run(boolean second, int limit) {
        if (limit < 0 || limit > 3000) {
            throw new IllegalArgumentException();
        }
        if (second && rewritten == null) {
            throw new IllegalStateException();
        }
        int[] memory = new int[256];
        for (int i = 0; i < 256; i++) {
            memory[i] = code(i, second);
        }
        registers = new int[4];
        cells = start.clone();
        pc = 0;
        stack = new ArrayDeque<>();
        output = new ArrayList<>();
        counters = new long[64];
        stepsDone = 0;
        while (stepsDone < limit) {
            if (!second && blocks != null) {
                for (int k = 0; k < blocks.size(); k++) {
                    if (blocks.get(k).firstKey() == pc) {
                        counters[k]++;
                    }
                }
            }
            boolean halt = pc < 256 && memory[pc] == 0;
            if (!halt && !step(memory, second)) {
                return 2;
            }
            stepsDone++;
            if (halt) {
                return 1;
            }
        }
        return 0;
    }

    private boolean step(int[] memory, boolean second) {
        if (pc > 255 || length(memory[pc]) == 0 || pc + length(memory[pc]) > 256) {
            return false;
        }
        int first = memory[pc];
        int n = length(first) > 1 ? memory[pc + 1] : 0;
        int m = length(first) > 2 ? memory[pc + 2] : 0;
        int next = pc + length(first);
        int r = first % 4;
        if (first == 2) {
            if (!second || !traps.containsKey(pc)) {
                return false;
            }
            next = traps.get(pc);
        } else if (first == 3) {
            if (stack.isEmpty()) {
                return false;
            }
            next = stack.pop();
        } else if (first >= 12 && first < 16) {
            if (output.size() == 40) {
                return false;
            }
            output.add(registers[r]);
        } else if (first >= 60 && first <= 68) {
            boolean goes = first == 68 || (first < 64 ? registers[r] == 0 : registers[r] < 0);
            if (goes) {
                next += signed(n);
                if (next < 0 || next > 255) {
                    return false;
                }
            }
        } else if (first == 69) {
            next = n;
        } else if (first == 70 || first == 77) {
            if (stack.size() == 8) {
                return false;
            }
            stack.push(first == 70 ? next : m);
            next = n;
        } else if (first >= 72 && first <= 75) {
            if (m == 0) {
                return false;
            }
            int entry = n + (registers[r] % m + m) % m;
            if (entry > 255) {
                return false;
            }
            next = memory[entry];
        } else if (first == 76) {
            counters[n % 64]++;
        } else {
            calculate(first, n);
        }
        pc = next;
        return true;
    }

    private void calculate(int first, int n) {
        int r = first % 4;
        int left = (first / 4) % 4;
        if (first >= 4 && first < 8) {
            registers[r] += 1;
        } else if (first >= 8 && first < 12) {
            registers[r] -= 1;
        } else if (first >= 16 && first < 32) {
            registers[left] += registers[r];
        } else if (first >= 32 && first < 48) {
            registers[left] -= registers[r];
        } else if (first >= 48 && first < 52) {
            registers[r] = signed(n);
        } else if (first >= 52 && first < 56) {
            registers[r] = cells[n % 16];
        } else if (first >= 56 && first < 60) {
            cells[n % 16] = registers[r];
        }
    }

    int steps() {
        return stepsDone;
    }

    int register(int i) {
        if (i < 0 || i > 6) {
            throw new IndexOutOfBoundsException();
        }
        return i < 4 ? registers[i] : i == 4 ? pc : i == 5 ? stack.size() : output.size();
    }

    int cell(int i) {
        if (i < 0 || i > 15) {
            throw new IndexOutOfBoundsException();
        }
        return cells[i];
    }

    int output(int i) {
        if (i < 0 || i >= output.size()) {
            throw new IndexOutOfBoundsException();
        }
        return output.get(i);
    }

    long counter(int k) {
        if (k < 0 || k > 63) {
            throw new IndexOutOfBoundsException();
        }
        return counters[k];
    }
}
