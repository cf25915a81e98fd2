/** CHESTS, and the edges of promises 6 (fill), 7 (drain) and 16 (chest). */
public final class ChestsTest {
    private static final int BAD = BrokeLoop.BAD;
    private static final int[] ROOMS = {20000, 30000, 10000, 10000};

    public static void main(String[] args) {
        chestsAtFirst();
        whichChests();
        whichNumbers();
        filledToItsRoom();
        filledBeyondItsRoom();
        filledWhenFull();
        filledWithNothing();
        filledWithTheLeastAndTheMost();
        greatestSurplus();
        spilledFibreIsCounted();
        consistencyOfAnEmptyChest();
        consistencyRounds();
        takenFromAnEmptyChest();
        takenAtMostWhatIsThere();
        takenFibreRoundsDown();
        drainedTheLeastAndTheMost();
        greatestSumWithoutTicks();
        greatestSumIsAtTheEndOfATick();
        greatestSumStays();
        greatestSumOfAFullChest();
        Checks.end("ChestsTest");
    }

    /** "At first the pulp chest has 400 of fibre and 9600 of water, the others are empty." */
    private static void chestsAtFirst() {
        BrokeLoop loop = new BrokeLoop();
        Checks.chestHas("at first", loop, 0, 400, 9600);
        for (int chest = 1; chest < 4; chest++) {
            Checks.chestHas("at first", loop, chest, 0, 0);
            Checks.due("room at first", loop.chest(chest, 3), ROOMS[chest]);
        }
        Checks.due("room of the pulp chest at first", loop.chest(0, 3), 10000);
    }

    /** "There are the chests 0 pulp, 1 broke, 2 mixing and 3 machine"; BAD "if there is no such chest". */
    private static void whichChests() {
        int[] wrong = {-1, 4, Integer.MIN_VALUE, Integer.MAX_VALUE};
        for (int chest : wrong) {
            BrokeLoop loop = new BrokeLoop();
            Checks.due("chest(" + chest + ", 0)", loop.chest(chest, 0), BAD);
            Checks.due("fill(" + chest + ", 0, 0)", loop.fill(chest, 0, 0), BAD);
            Checks.due("drain(" + chest + ", 1)", loop.drain(chest, 1), BAD);
        }
        for (int chest = 0; chest < 4; chest++) {
            BrokeLoop loop = new BrokeLoop();
            Checks.empty(loop, chest);
            Checks.due("fill(" + chest + ", 3, 5)", loop.fill(chest, 3, 5), 0);
            Checks.chestHas("filled", loop, chest, 3, 5);
            for (int other = 0; other < 4; other++) {
                if (other != chest) {
                    Checks.chestHas("besides", loop, other, other == 0 ? 400 : 0, other == 0 ? 9600 : 0);
                }
            }
            Checks.due("drain(" + chest + ", 8)", loop.drain(chest, 8), 3);
            Checks.chestHas("drained", loop, chest, 0, 0);
        }
    }

    /** BAD if "what is out of range": 0 to 4. */
    private static void whichNumbers() {
        BrokeLoop loop = new BrokeLoop();
        int[] wrong = {-1, 5, Integer.MIN_VALUE, Integer.MAX_VALUE};
        for (int chest = 0; chest < 4; chest++) {
            for (int what : wrong) {
                Checks.due("chest(" + chest + ", " + what + ")", loop.chest(chest, what), BAD);
            }
        }
        loop.fill(3, 30, 70);
        loop.run(1);
        // 50 in 600, of which 500 with 41 go onto the machine.
        int[] due = {9, 91, 90, 9900, 100};
        for (int what = 0; what < 5; what++) {
            Checks.due("chest(3, " + what + ")", loop.chest(3, what), due[what]);
        }
    }

    private static BrokeLoop filledUpTo(int chest, int mass) {
        BrokeLoop loop = new BrokeLoop();
        Checks.empty(loop, chest);
        loop.fill(chest, 0, mass);
        return loop;
    }

    /** "A room for their sum: 20000, 30000, 10000 and 10000": one below it, and just up to it. */
    private static void filledToItsRoom() {
        for (int chest = 0; chest < 4; chest++) {
            BrokeLoop loop = filledUpTo(chest, ROOMS[chest] - 1);
            Checks.due("one below the room of " + chest, loop.chest(chest, 3), 1);
            Checks.due("fill to the room of " + chest, loop.fill(chest, 1, 0), 0);
            Checks.chestHas("up to its room", loop, chest, 1, ROOMS[chest] - 1);
            Checks.due("no room is left in " + chest, loop.chest(chest, 3), 0);
            Checks.due("nothing is spilled", loop.account(3), 0);
        }
    }

    /** "If the sum is above its room then, the surplus is taken from it again, and spilled": one above it. */
    private static void filledBeyondItsRoom() {
        for (int chest = 0; chest < 4; chest++) {
            BrokeLoop loop = filledUpTo(chest, ROOMS[chest] - 1);
            Checks.due("fill to one beyond the room of " + chest, loop.fill(chest, 2, 0), 0);
            Checks.chestHas("one beyond its room", loop, chest, 2, ROOMS[chest] - 2);
            Checks.due("no room is left in " + chest, loop.chest(chest, 3), 0);
            loop = filledUpTo(chest, ROOMS[chest] - 1);
            Checks.due("fill to 4999 beyond", loop.fill(chest, 5000, 0), 4999 * 5000 / (ROOMS[chest] + 4999));
            Checks.due("no room is left in " + chest, loop.chest(chest, 3), 0);
        }
    }

    private static void filledWhenFull() {
        for (int chest = 0; chest < 4; chest++) {
            BrokeLoop loop = filledUpTo(chest, ROOMS[chest]);
            Checks.due("fill of nothing into the full chest", loop.fill(chest, 0, 0), 0);
            Checks.due("fill of the full chest", loop.fill(chest, 5000, 0), 5000 * 5000 / (ROOMS[chest] + 5000));
            Checks.due("no room is left in " + chest, loop.chest(chest, 3), 0);
            int fibre = loop.chest(chest, 0);
            Checks.due("fill of the full chest with 1 of water", loop.fill(chest, 0, 1), fibre / (ROOMS[chest] + 1));
            Checks.chestHas("the surplus of 1 is water", loop, chest, fibre, ROOMS[chest] - fibre);
        }
    }

    private static void filledWithNothing() {
        BrokeLoop loop = new BrokeLoop();
        for (int chest = 0; chest < 4; chest++) {
            Checks.due("fill(" + chest + ", 0, 0)", loop.fill(chest, 0, 0), 0);
            Checks.chestHas("nothing came", loop, chest, chest == 0 ? 400 : 0, chest == 0 ? 9600 : 0);
        }
        Checks.due("given", loop.account(1), 0);
        Checks.due("changes", loop.told(12), 4);
    }

    /** "fibre: 0 to 5000, water: 0 to 50000", and those next to them. */
    private static void filledWithTheLeastAndTheMost() {
        BrokeLoop loop = new BrokeLoop();
        Checks.due("fill(1, -1, 0)", loop.fill(1, -1, 0), BAD);
        Checks.due("fill(1, 0, -1)", loop.fill(1, 0, -1), BAD);
        Checks.due("fill(1, 5001, 0)", loop.fill(1, 5001, 0), BAD);
        Checks.due("fill(1, 0, 50001)", loop.fill(1, 0, 50001), BAD);
        Checks.due("fill(1, 5000, 50001)", loop.fill(1, 5000, 50001), BAD);
        Checks.due("fill(1, 5001, 50000)", loop.fill(1, 5001, 50000), BAD);
        Checks.chestHas("nothing came", loop, 1, 0, 0);
        Checks.due("fill(1, 5000, 0)", loop.fill(1, 5000, 0), 0);
        Checks.chestHas("the most fibre", loop, 1, 5000, 0);
        Checks.due("fill(3, 0, 50000)", loop.fill(3, 0, 50000), 0);
        Checks.chestHas("the most water", loop, 3, 0, 10000);
        Checks.due("fill(2, 5000, 50000)", loop.fill(2, 5000, 50000), 45000 * 5000 / 55000);
        Checks.chestHas("the most of both", loop, 2, 5000 - 4090, 10000 - 910);
        Checks.due("fill(2, 4999, 49999)", loop.fill(2, 4999, 49999), 54998 * 5909 / 64998);
        Checks.due("fill(0, 1, 1)", loop.fill(0, 1, 1), 0);
        Checks.chestHas("one of both", loop, 0, 401, 9601);
    }

    /** No product of a surplus and a fibre is greater than this one. */
    private static void greatestSurplus() {
        BrokeLoop loop = new BrokeLoop();
        for (int i = 0; i < 6; i++) {
            loop.fill(1, 5000, 0);
        }
        Checks.chestHas("full of fibre", loop, 1, 30000, 0);
        Checks.due("consistency", loop.chest(1, 2), 1000);
        Checks.due("the greatest surplus", loop.fill(1, 5000, 50000), (int) (55000L * 35000 / 85000));
        Checks.chestHas("behind it", loop, 1, 12353, 17647);
    }

    /** "The surplus is taken from it again, and spilled; its fibre is counted." */
    private static void spilledFibreIsCounted() {
        BrokeLoop loop = new BrokeLoop();
        loop.fill(3, 5000, 4999);
        Checks.due("spilled", loop.account(3), 0);
        Checks.due("a surplus of 1 with fibre and water", loop.fill(3, 2, 0), 0);
        Checks.due("a surplus without fibre counts none", loop.account(3), 0);
        Checks.chestHas("its water is gone", loop, 3, 5002, 4998);
        Checks.due("a surplus of 2", loop.fill(3, 0, 2), 1);
        Checks.due("spilled", loop.account(3), 1);
        Checks.due("a surplus of 2000", loop.fill(3, 0, 2000), 2000 * 5001 / 12000);
        Checks.due("spilled", loop.account(3), 834);
        Checks.due("given, as it was given", loop.account(1), 5002);
    }

    /** The consistency is "0 if it is empty". */
    private static void consistencyOfAnEmptyChest() {
        BrokeLoop loop = new BrokeLoop();
        for (int chest = 1; chest < 4; chest++) {
            Checks.due("consistency of the empty chest " + chest, loop.chest(chest, 2), 0);
        }
        Checks.empty(loop, 0);
        Checks.due("consistency of the emptied pulp chest", loop.chest(0, 2), 0);
    }

    /** "The consistency of a chest, in thousandths, is fibre * 1000 / (fibre + water)". */
    private static void consistencyRounds() {
        int[][] rows = {{1, 0, 1000}, {0, 1, 0}, {1, 998, 1}, {1, 999, 1}, {1, 1000, 0}, {999, 1, 999}, {1000, 1, 999},
                {999, 0, 1000}, {2, 1, 666}, {1, 1, 500}, {39, 961, 39}, {40, 960, 40}, {5000, 0, 1000}};
        for (int[] row : rows) {
            BrokeLoop loop = new BrokeLoop();
            loop.fill(3, row[0], row[1]);
            Checks.due("consistency of " + row[0] + " in " + row[1], loop.chest(3, 2), row[2]);
        }
    }

    /** "The fibre that is taken is m * f / (f + w), or 0 if the chest is empty". */
    private static void takenFromAnEmptyChest() {
        BrokeLoop loop = new BrokeLoop();
        for (int chest = 1; chest < 4; chest++) {
            Checks.due("drain(" + chest + ", 1)", loop.drain(chest, 1), 0);
            Checks.due("drain(" + chest + ", 50000)", loop.drain(chest, 50000), 0);
            Checks.chestHas("still empty", loop, chest, 0, 0);
        }
        Checks.due("drained", loop.account(4), 0);
        Checks.due("changes", loop.told(12), 6);
    }

    /** "m is at most f + w": one less than there is, all of it, one more. */
    private static void takenAtMostWhatIsThere() {
        int[][] rows = {{9999, 399, 1, 0}, {10000, 400, 0, 0}, {10001, 400, 0, 0}, {50000, 400, 0, 0}};
        for (int[] row : rows) {
            BrokeLoop loop = new BrokeLoop();
            Checks.due("drain(0, " + row[0] + ")", loop.drain(0, row[0]), row[1]);
            Checks.chestHas("drained of " + row[0], loop, 0, row[2], row[3]);
            Checks.due("drained", loop.account(4), row[1]);
        }
    }

    /** "The fibre that is taken is m * f / (f + w) [..], the rest of m is water." */
    private static void takenFibreRoundsDown() {
        BrokeLoop loop = new BrokeLoop();
        loop.fill(2, 1, 1);
        Checks.due("half a kilogram", loop.drain(2, 1), 0);
        Checks.chestHas("the rest is water", loop, 2, 1, 0);
        Checks.due("the last kilogram", loop.drain(2, 1), 1);
        loop.fill(2, 0, 5);
        Checks.due("of water alone", loop.drain(2, 3), 0);
        Checks.chestHas("water alone", loop, 2, 0, 2);
        loop.fill(3, 7, 0);
        Checks.due("of fibre alone", loop.drain(3, 3), 3);
        Checks.chestHas("fibre alone", loop, 3, 4, 0);
        loop = new BrokeLoop();
        Checks.due("24 of 10000", loop.drain(0, 24), 0);
        loop.undo();
        Checks.due("25 of 10000", loop.drain(0, 25), 1);
        Checks.chestHas("25 of 10000", loop, 0, 399, 9576);
    }

    /** "mass: 1 to 50000", and those next to them. */
    private static void drainedTheLeastAndTheMost() {
        BrokeLoop loop = new BrokeLoop();
        Checks.due("drain(0, 0)", loop.drain(0, 0), BAD);
        Checks.due("drain(0, -1)", loop.drain(0, -1), BAD);
        Checks.due("drain(0, 50001)", loop.drain(0, 50001), BAD);
        Checks.due("drain(0, -2^31)", loop.drain(0, Integer.MIN_VALUE), BAD);
        Checks.due("drain(0, 2^31 - 1)", loop.drain(0, Integer.MAX_VALUE), BAD);
        Checks.chestHas("nothing is drained", loop, 0, 400, 9600);
        Checks.due("drain(0, 1)", loop.drain(0, 1), 0);
        Checks.chestHas("1 is drained", loop, 0, 400, 9599);
        Checks.due("drain(0, 50000)", loop.drain(0, 50000), 400);
        for (int i = 0; i < 6; i++) {
            loop.fill(1, 5000, 0);
        }
        Checks.due("drain(1, 49999) of a chest full of fibre", loop.drain(1, 49999), 30000);
        Checks.due("drained", loop.account(4), 30400);
    }

    /** "4 the greatest sum of fibre and water that it had at the end of a tick so far (0 if there was none)". */
    private static void greatestSumWithoutTicks() {
        BrokeLoop loop = new BrokeLoop();
        for (int chest = 0; chest < 4; chest++) {
            loop.fill(chest, 100, 200);
            Checks.due("greatest sum of " + chest + " without ticks", loop.chest(chest, 4), 0);
        }
        loop.run(1);
        Checks.holds("greatest sum of a tick", loop.chest(0, 4) > 0);
        loop.begin();
        Checks.due("greatest sum of a loop that is begun", loop.chest(0, 4), 0);
    }

    private static void greatestSumIsAtTheEndOfATick() {
        BrokeLoop loop = new BrokeLoop();
        loop.set(2, 0);
        loop.fill(1, 0, 3000);
        Checks.empty(loop, 1);
        loop.run(1);
        Checks.due("a sum before the tick does not count", loop.chest(1, 4), 0);
        loop.fill(1, 0, 2000);
        Checks.due("a sum behind the tick does not count", loop.chest(1, 4), 0);
        loop.run(1);
        Checks.due("a sum at the end of the tick counts", loop.chest(1, 4), 2000);
        // 500 stay in the mixing chest for a part of the tick alone.
        BrokeLoop whole = new BrokeLoop();
        whole.run(1);
        Checks.due("a sum within the tick does not count", whole.chest(2, 4), 0);
        Checks.due("nor in the machine chest", whole.chest(3, 4), 0);
        Checks.due("the pulp chest at the end", whole.chest(0, 4), 10500);
    }

    private static void greatestSumStays() {
        BrokeLoop loop = new BrokeLoop();
        loop.set(2, 0);
        loop.fill(1, 0, 2000);
        loop.run(1);
        loop.drain(1, 1);
        loop.run(1);
        Checks.due("one less leaves it", loop.chest(1, 4), 2000);
        loop.fill(1, 0, 1);
        loop.run(1);
        Checks.due("the same leaves it", loop.chest(1, 4), 2000);
        loop.fill(1, 0, 1);
        loop.run(1);
        Checks.due("one more raises it", loop.chest(1, 4), 2001);
        Checks.empty(loop, 1);
        loop.run(1);
        Checks.due("an empty chest leaves it", loop.chest(1, 4), 2001);
    }

    private static void greatestSumOfAFullChest() {
        BrokeLoop loop = new BrokeLoop();
        loop.set(2, 0);
        for (int chest = 0; chest < 4; chest++) {
            loop.fill(chest, 0, 50000);
        }
        loop.run(1);
        for (int chest = 0; chest < 4; chest++) {
            Checks.due("greatest sum of the full chest " + chest, loop.chest(chest, 4), ROOMS[chest]);
        }
    }
}
