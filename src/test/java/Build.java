/** Short ways to a network in a certain state. */
final class Build {
    private Build() {
    }

    static LevelingNetwork benchmarks(int count) {
        LevelingNetwork x = new LevelingNetwork();
        for (int i = 0; i < count; i++) {
            x.addBenchmark();
        }
        return x;
    }

    /**
     * A triangle 0-1-2 with the forest lines 0 (0 to 1, 100, length 5) and 1 (1 to 2, 50, length 3), the line 2
     * (2 to 0, -140, length 9) that closes a loop of length 17 with misclosure 10, and benchmark 3 on its own.
     */
    static LevelingNetwork triangle() {
        LevelingNetwork x = benchmarks(4);
        x.addLine(0, 1, 100, 5);
        x.addLine(1, 2, 50, 3);
        x.addLine(2, 0, -140, 9);
        return x;
    }

    /** Lines of one length around all benchmarks; the last one has the given difference, the others 0. */
    static LevelingNetwork ring(int lines, int length, int misclosure) {
        LevelingNetwork x = benchmarks(lines);
        for (int i = 0; i < lines; i++) {
            x.addLine(i, (i + 1) % lines, i == lines - 1 ? misclosure : 0, length);
        }
        return x;
    }

    static void type(LevelingNetwork x, String text) {
        for (int i = 0; i < text.length(); i++) {
            x.type(text.charAt(i));
        }
    }

    static int run(LevelingNetwork x, String script) {
        type(x, script);
        return x.runScript();
    }

    static String output(LevelingNetwork x, int length) {
        StringBuilder text = new StringBuilder();
        for (int i = 0; i < length; i++) {
            text.append(x.outputAt(i));
        }
        return text.toString();
    }
}
