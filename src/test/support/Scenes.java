/** States of which many tests ask. */
final class Scenes {
    /** Net 0 of 'plenty', as it is shaped: what the shared tests know as run 3. */
    private static final int[][] RUN_3 = {{8, 0, 1}, {8, 0, 1}, {14, 8, 9}, {6, 10, 2}, {8, 11, -2}, {14, 12, -1}};

    private Scenes() {
    }

    static Scene empty() {
        return new Scene("a new object");
    }

    /** One function and one net of n letters, the net with two gates. */
    static Scene ofLetters(int n) {
        return new Scene("one function and one net of " + n + " letters").then("function", n).then("put", 0, 0, 1)
            .then("net", n).then("gate", 0, 8, 0, n - 1).then("gate", 0, 6, 8, 0).then("out", 0, 0, 9);
    }

    /**
     * Functions of 4, 1, 6, 8, 7, 2, 5 letters, some torn; nets of 3, 8, 1, 3 letters. The LEAST sum found last is
     * function 0's, the latest SHAPING is net 0's, with steps, and can be undone.
     */
    static Scene plenty() {
        Scene scene = new Scene("plenty");
        plentyOfFunctions(scene);
        plentyOfNets(scene);
        return scene.then("least", 0).then("shape", 0);
    }

    private static void plentyOfFunctions(Scene scene) {
        scene.then("function", 4).then("bits", 0, 0, 61183, 16).then("put", 0, 0, 2).then("tear", 0, 1, 3)
            .then("function", 1).then("put", 1, 1, 1)
            .then("function", 6).then("bits", 2, 0, 0x96696996, 32).then("bits", 2, 32, 0x0FF01248, 32)
            .then("tear", 2, 2, 0).then("tear", 2, 3, 5).then("put", 2, 24, 2).then("tear", 2, 5, 4)
            .then("tear", 2, 6, 0)
            .then("function", 8).then("bits", 3, 224, -2, 32).then("put", 3, 255, 2)
            .then("function", 7).then("put", 4, 127, 1)
            .then("function", 2).then("bits", 5, 0, 15, 4).then("tear", 5, 0, 0)
            .then("function", 5).then("bits", 6, 0, 0x7E7E7E7E, 32);
    }

    private static void plentyOfNets(Scene scene) {
        scene.then("net", 3);
        for (int[] gate : RUN_3) {
            scene.then("gate", 0, gate[0], gate[1], gate[2]);
        }
        scene.then("out", 0, 0, 13).then("out", 0, 4, 1)
            .then("net", 8).then("gate", 1, 9, 0, 7).then("gate", 1, 15, 8, 6).then("gate", 1, 7, 9, 9)
            .then("keep", 1, 1, 1).then("out", 1, 0, 10).then("out", 1, 2, -1).then("out", 1, 3, -2)
            .then("out", 1, 5, 7)
            .then("net", 1)
            .then("net", 3).then("gate", 3, 8, 1, 0).then("gate", 3, 6, 8, 2).then("out", 3, 0, 9).then("out", 3, 4, 0);
    }

    /** 16 functions and 8 nets, of 1 to 8 letters; net 7 has 40 gates, each reading the one ahead of it. */
    static Scene full() {
        Scene scene = new Scene("all there is room for");
        for (int f = 0; f < 16; f++) {
            scene.then("function", 1 + f % 8).then("put", f, 1, 1 + f % 2);
        }
        for (int net = 0; net < 8; net++) {
            scene.then("net", net + 1).then("out", net, net % 6, 0);
        }
        scene.then("gate", 7, 6, 0, 1);
        for (int g = 1; g < 40; g++) {
            scene.then("gate", 7, 6, 7 + g, g % 8);
        }
        return scene.then("out", 7, 5, 47).then("keep", 7, 39, 1).then("tear", 15, 31, 7).then("tear", 15, 30, 0)
            .then("least", 10).then("shape", 7);
    }
}
