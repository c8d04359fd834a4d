/** "Stones", "The banker", and the promises 1 to 9. */
final class StoneSentences extends Sentences {
    StoneSentences(Document document) {
        super(document);
    }

    @Override
    void all() {
        newYard();
        numbers();
        sizes();
        weights();
        letters();
        order();
        oneInTheHand();
        outOfTheHand();
        masons();
        oneIsLeft();
        edge();
        pay();
        stone();
        state();
        size();
        heap();
        lift();
        throwAway();
        dress();
        dressThrows();
        whet();
    }

    private void newYard() {
        Run run = says(1, "Creates a yard without stones, wall, quarry, arch and gaps.");
        run.refuses(BOUNDS, "state", 0).refuses(BOUNDS, "size", 0, 'l').refuses(BOUNDS, "lift", 0);
        run.refuses(BOUNDS, "loadOn", 0).refuses(ELEMENT, "heap", 0).refuses(STATE, "throwAway");
        run.refuses(STATE, "width", 0).refuses(STATE, "room", 0).refuses(STATE, "isComplete", 0);
        run.refuses(STATE, "throughs", 0).refuses(STATE, "at", 0, true, 0).refuses(STATE, "fill", 0, true);
        run.refuses(STATE, "fillAt", 0, true, 0).refuses(STATE, "press", true, 0, 1L).refuses(STATE, "push", 0, 0L);
        run.refuses(STATE, "mover").refuses(STATE, "fall");
        run.refuses(STATE, "bed", 1).refuses(STATE, "split", 1).refuses(BOUNDS, "fault", 0, 0);
        run.refuses(BOUNDS, "blocks", 0).refuses(BOUNDS, "take", 0, 0);
        run.refuses(STATE, "voussoir", 0, 1, 1, 0, 0).refuses(STATE, "crown", 0, 0).refuses(STATE, "set");
        run.refuses(STATE, "strike").refuses(STATE, "thrust");
        run.refuses(ELEMENT, "nextGap").refuses(ELEMENT, "mend", 0L);
        run.refuses(BOUNDS, "phase", 0).refuses(BOUNDS, "meet", 0, 1, false);
        run.refuses(ARITHMETIC, "wallShare").refuses(ARITHMETIC, "meanLoad");
        run.is(true, "isTrue").is(0, "frost").is(12, "whet").is(0, "quarry", 4, 1).is(0, "arch", 2);
        run.is(0, "stone", 1, 1, 1).is(1, "gap", 1, 0).is(0, "oldWall");
    }

    private void numbers() {
        Run run = says("Stones", "At most 60 are numbered from 0");
        for (int i = 0; i < 60; i++) {
            run.is(i, "stone", 1, 1, 1);
        }
        run.refuses(STATE, "stone", 1, 1, 1);
        run.is('h', "state", 0).is('h', "state", 59).is(59, "heap", 59);
        run.refuses(BOUNDS, "state", 60).refuses(BOUNDS, "state", -1).refuses(ELEMENT, "heap", 60);
        run.is(59, "lift", 0).is(0, "throwAway");
        run.refuses(STATE, "stone", 1, 1, 1);
    }

    private void sizes() {
        Run run = says("Stones", "each with a length, 1 to 9, a height, 1 to 4, and a tail, 1 to 6");
        run.is(0, "stone", 1, 1, 1).is(1, "stone", 9, 1, 1).is(2, "stone", 1, 4, 1).is(3, "stone", 1, 1, 6);
        run.is(1, "size", 0, 'l').is(1, "size", 0, 'h').is(1, "size", 0, 't');
        run.is(9, "size", 1, 'l').is(4, "size", 2, 'h').is(6, "size", 3, 't');
        run.refuses(ARGUMENT, "stone", 0, 1, 1).refuses(ARGUMENT, "stone", 10, 1, 1);
        run.refuses(ARGUMENT, "stone", 1, 0, 1).refuses(ARGUMENT, "stone", 1, 5, 1);
        run.refuses(ARGUMENT, "stone", 1, 1, 0).refuses(ARGUMENT, "stone", 1, 1, 7);
    }

    private void weights() {
        Run run = says("Stones", "its volume is these multiplied, its weight 5 times that");
        run.is(0, "stone", 1, 1, 1).is(5, "size", 0, 'w');
        run.is(1, "stone", 9, 4, 6).is(1080, "size", 1, 'w');
        run.is(2, "stone", 2, 3, 5).is(150, "size", 2, 'w');
    }

    private void letters() {
        Run run = says("Stones", "A stone is in the heap 'h', in the hand 'n', in the wall 'w', packed in the wall 'p', "
                + "on it as a cope 'c', or gone 'g'.");
        run.does("build", 4, 4, 0);
        run.is(0, "stone", 4, 2, 1).is('h', "state", 0).is(0, "lift", 0).is('n', "state", 0);
        run.is(0, "lay", 0, true, 0).is('w', "state", 0);
        run.lay(4, 2, 1, 0, false, 0);
        int packed = run.pack(1, 1, 1, 0);
        int cope = run.cope(1, 1, 4);
        int gone = run.hold(1, 1, 1);
        run.does("throwAway");
        run.is('p', "state", packed).is('c', "state", cope).is('g', "state", gone);
        run.is('w', "state", 0).is('w', "state", 1);
    }

    private void order() {
        Run run = says("Stones", "the greatest height first, then the greatest length, then the greatest tail, "
                + "then the lowest number");
        run.does("stone", 9, 1, 6);
        run.does("stone", 1, 2, 1);
        run.is(1, "heap", 0).is(0, "heap", 1);
        run = says("Stones", "then the greatest length");
        run.does("stone", 2, 1, 6);
        run.does("stone", 3, 1, 1);
        run.is(1, "heap", 0).is(0, "heap", 1);
        run = says("Stones", "then the greatest tail");
        run.does("stone", 2, 1, 1);
        run.does("stone", 2, 1, 2);
        run.is(1, "heap", 0).is(0, "heap", 1);
        run = says("Stones", "then the lowest number");
        run.stones(3, 4, 1, 4);
        run.is(0, "heap", 0).is(1, "heap", 1).is(2, "heap", 2);
        run.does("build", 4, 4, 0);
        run.does("lift", 0);
        run.does("lay", 0, true, 0);
        run.does("push", 0, 1000L);
        run.is(1, "heap", 0).is(1, "fall").is(0, "heap", 0).is(1, "heap", 1).is(2, "heap", 2);
        run = says("Stones", "The heap is in order");
        run.refuses(ELEMENT, "heap", 0);
        int[][] sizes = {{1, 1, 1}, {2, 1, 1}, {1, 1, 2}, {1, 2, 1}, {9, 4, 6}, {9, 4, 5}, {8, 4, 6}, {9, 3, 6}};
        for (int[] size : sizes) {
            run.does("stone", size[0], size[1], size[2]);
        }
        int[] order = {4, 5, 6, 7, 3, 1, 2, 0};
        for (int i = 0; i < order.length; i++) {
            run.is(order[i], "heap", i);
        }
        run.refuses(ELEMENT, "heap", 8);
    }

    private void oneInTheHand() {
        Run run = says("Stones", "One stone at a time is lifted from the heap into the hand");
        run.stones(3, 1, 1, 1);
        run.is(2, "lift", 1).is('n', "state", 1);
        run.is(0, "heap", 0).is(2, "heap", 1).refuses(ELEMENT, "heap", 2);
        run.refuses(STATE, "lift", 0).refuses(STATE, "lift", 2).refuses(UNSUPPORTED, "lift", 1);
        run.is(1, "throwAway").is(1, "lift", 0).is(0, "throwAway").is(0, "lift", 2);
        run.refuses(ELEMENT, "heap", 0);
    }

    private void outOfTheHand() {
        Run run = says("Stones", "from there it is laid, packed, put as a cope, or thrown away, which makes it gone");
        run.does("build", 4, 4, 0);
        run.does("stone", 4, 2, 1);
        run.refuses(STATE, "lay", 0, true, 0).refuses(STATE, "pack", 0).refuses(STATE, "cope").refuses(STATE, "throwAway");
        run.does("lift", 0);
        run.does("lay", 0, true, 0);
        run.refuses(STATE, "throwAway");
        run.lay(4, 2, 1, 0, false, 0);
        run.pack(1, 1, 1, 0);
        run.refuses(STATE, "throwAway");
        run.cope(1, 1, 4);
        run.refuses(STATE, "throwAway");
        int gone = run.hold(1, 1, 1);
        run.is(gone, "throwAway").is('g', "state", gone).refuses(STATE, "throwAway").refuses(UNSUPPORTED, "lift", gone);
        for (int stone = 0; stone < 4; stone++) {
            run.refuses(UNSUPPORTED, "lift", stone);
        }
    }

    private void masons() {
        Run run = says("The banker", "The stone in the hand can be dressed by a mason, 0 to 3");
        run.does("stone", 9, 4, 6);
        run.refuses(STATE, "dress", 0, 'l', 1);
        run.does("lift", 0);
        run.refuses(BOUNDS, "dress", -1, 'l', 1).refuses(BOUNDS, "dress", 4, 'l', 1);
        run.is(3, "dress", 0, 'l', 1).is(6, "dress", 1, 'l', 2).is(3, "dress", 2, 'h', 1).is(6, "dress", 3, 't', 2);
        run.does("throwAway");
        run.refuses(STATE, "dress", 0, 'l', 1);
    }

    private void oneIsLeft() {
        Run run = says("The banker", "its length, height or tail becomes less by some, 1 being left at least");
        run.hold(9, 4, 6);
        run.refuses(UNSUPPORTED, "dress", 0, 'l', 9).is(24, "dress", 0, 'l', 8).refuses(UNSUPPORTED, "dress", 0, 'l', 1);
        run.is(1, "size", 0, 'l').is(4, "size", 0, 'h').is(6, "size", 0, 't');
        run.does("whet");
        run.refuses(UNSUPPORTED, "dress", 0, 'h', 4).is(33, "dress", 0, 'h', 3).refuses(UNSUPPORTED, "dress", 0, 'h', 1);
        run.is(1, "size", 0, 'l').is(1, "size", 0, 'h').is(6, "size", 0, 't');
        run.refuses(UNSUPPORTED, "dress", 0, 't', 6).is(48, "dress", 0, 't', 5).refuses(UNSUPPORTED, "dress", 0, 't', 1);
        run.is(1, "size", 0, 'l').is(1, "size", 0, 'h').is(1, "size", 0, 't').is(5, "size", 0, 'w');
    }

    private void edge() {
        Run run = says("The banker", "The chisel has an edge of 12 at first");
        run.hold(9, 4, 6);
        run.is(24, "dress", 0, 'l', 8).is(36, "dress", 0, 't', 4).refuses(UNSUPPORTED, "dress", 0, 't', 1);
        run.is(0, "whet");
        run = says("The banker", "dressing takes as much as it takes off, and cannot be done if the edge is less");
        run.hold(9, 4, 6);
        run.does("dress", 0, 'l', 7);
        run.does("dress", 0, 't', 1);
        run.refuses(UNSUPPORTED, "dress", 0, 't', 5);
        run.does("whet");
        run.does("dress", 0, 'l', 1);
        run.does("dress", 0, 'h', 3);
        run.is(8, "whet");
        run.is(42, "dress", 0, 't', 2).is(10, "whet");
        run.does("throwAway");
        run.hold(9, 4, 6);
        run.does("dress", 1, 'l', 8);
        run.refuses(UNSUPPORTED, "dress", 1, 't', 5).is(36, "dress", 1, 't', 4);
        run.refuses(UNSUPPORTED, "dress", 1, 't', 1).refuses(UNSUPPORTED, "dress", 1, 'h', 1);
        run = says("The banker", "to whet makes it 12");
        run.is(12, "whet").is(12, "whet");
        run.hold(9, 4, 6);
        run.does("dress", 0, 'l', 8);
        run.does("dress", 0, 'h', 3);
        run.is(1, "whet");
        run.is(48, "dress", 0, 't', 5).is(7, "whet").is(12, "whet");
    }

    private void pay() {
        Run run = says("The banker", "A mason is paid 3 for each that is taken off.");
        run.hold(9, 4, 6);
        run.is(3, "dress", 2, 'l', 1).is(9, "dress", 2, 'h', 2).is(18, "dress", 2, 't', 3).is(6, "dress", 3, 'l', 2);
        run.does("throwAway");
        run.does("whet");
        run.hold(9, 4, 6);
        run.is(42, "dress", 2, 'l', 8);
    }

    private void stone() {
        says(2, "Returns its number.").is(0, "stone", 5, 2, 3).is(1, "stone", 5, 2, 3).is(2, "stone", 1, 1, 1);
        Run run = says(2, "Throws `IllegalArgumentException` if a number is out of range");
        int[][] wrong = {{0, 1, 1}, {10, 1, 1}, {1, 0, 1}, {1, 5, 1}, {1, 1, 0}, {1, 1, 7}, {-1, 1, 1}, {1, -1, 1}, {1, 1, -1},
            {LEAST, 1, 1}, {MOST, 1, 1}, {1, LEAST, 1}, {1, MOST, 1}, {1, 1, LEAST}, {1, 1, MOST}};
        for (int[] w : wrong) {
            run.refuses(ARGUMENT, "stone", w[0], w[1], w[2]);
        }
        run.is(0, "stone", 1, 1, 1);
        run = says(2, "Throws `IllegalStateException` if there are 60");
        run.stones(59, 1, 1, 1);
        run.is(59, "stone", 1, 1, 1).refuses(STATE, "stone", 9, 4, 6);
        run.refuses(ARGUMENT, "stone", 10, 1, 1);
    }

    private void state() {
        says(3, "Returns the letter.").is(0, "stone", 1, 1, 1).is('h', "state", 0).is(0, "lift", 0).is('n', "state", 0);
        Run run = says(3, "Throws `IndexOutOfBoundsException` if there is no such stone");
        run.refuses(BOUNDS, "state", 0);
        run.stones(2, 1, 1, 1);
        run.is('h', "state", 1);
        for (int wrong : new int[] {2, -1, 59, 60, LEAST, MOST}) {
            run.refuses(BOUNDS, "state", wrong);
        }
    }

    private void size() {
        Run run = says(4, "Returns the number.");
        run.does("stone", 3, 2, 4);
        run.is(3, "size", 0, 'l').is(2, "size", 0, 'h').is(4, "size", 0, 't').is(120, "size", 0, 'w');
        run = says(4, "Throws `IndexOutOfBoundsException` if there is no such stone");
        run.refuses(BOUNDS, "size", 0, 'l');
        run.stones(2, 1, 1, 1);
        for (int wrong : new int[] {2, -1, 60, LEAST, MOST}) {
            run.refuses(BOUNDS, "size", wrong, 'l').refuses(BOUNDS, "size", wrong, 'x');
        }
        run = says(4, "Throws `IllegalArgumentException` if there is no such thing");
        run.stones(1, 1, 1, 1);
        for (char wrong : new char[] {0, 'a', 'k', 'm', 'g', 'i', 's', 'u', 'v', 'x', 'L', 'H', 'T', 'W', (char) 65535}) {
            run.refuses(ARGUMENT, "size", 0, wrong);
        }
    }

    private void heap() {
        says(5, "Returns the stone.").is(0, "stone", 1, 1, 1).is(1, "stone", 2, 1, 1).is(1, "heap", 0).is(0, "heap", 1);
        Run run = says(5, "- `index`: the index in its order, from 0");
        run.stones(2, 1, 1, 1);
        run.refuses(ELEMENT, "heap", -1).is(0, "heap", 0).is(1, "heap", 1).refuses(ELEMENT, "heap", 2);
        run = says(5, "Throws `NoSuchElementException` if there is none");
        run.refuses(ELEMENT, "heap", 0);
        run.stones(3, 1, 1, 1);
        run.is(2, "heap", 2);
        for (int wrong : new int[] {3, -1, 60, LEAST, MOST}) {
            run.refuses(ELEMENT, "heap", wrong);
        }
        run.does("lift", 2);
        run.refuses(ELEMENT, "heap", 2).is(1, "heap", 1);
    }

    private void lift() {
        Run run = says(6, "Returns how many are left in the heap.");
        run.stones(2, 1, 1, 1);
        run.is(1, "lift", 0).is(0, "throwAway").is(0, "lift", 1);
        run = says(6, "Throws `IndexOutOfBoundsException` if there is no such stone");
        run.refuses(BOUNDS, "lift", 0);
        run.stones(2, 1, 1, 1);
        for (int wrong : new int[] {2, -1, 60, LEAST, MOST}) {
            run.refuses(BOUNDS, "lift", wrong);
        }
        run.does("lift", 0);
        run.refuses(BOUNDS, "lift", 2).refuses(BOUNDS, "lift", -1);
        run = says(6, "Throws `UnsupportedOperationException` if it is not in the heap");
        run.does("build", 4, 4, 0);
        run.lay(4, 2, 1, 0, true, 0);
        run.lay(4, 2, 1, 0, false, 0);
        int packed = run.pack(1, 1, 1, 0);
        int cope = run.cope(1, 1, 4);
        int gone = run.hold(1, 1, 1);
        run.does("throwAway");
        for (int stone : new int[] {0, packed, cope, gone}) {
            run.refuses(UNSUPPORTED, "lift", stone);
        }
        int held = run.hold(1, 1, 1);
        for (int stone : new int[] {0, packed, cope, gone, held}) {
            run.refuses(UNSUPPORTED, "lift", stone);
        }
        run = says(6, "Throws `IllegalStateException` if there is one in the hand");
        run.stones(2, 1, 1, 1);
        run.does("lift", 0);
        run.refuses(STATE, "lift", 1).is('h', "state", 1).is('n', "state", 0);
    }

    private void throwAway() {
        Run run = says(7, "Returns the stone.");
        run.stones(2, 1, 1, 1);
        run.is(1, "lift", 1).is(1, "throwAway").is('g', "state", 1);
        run = says(7, "Throws `IllegalStateException` if there is no stone in the hand");
        run.refuses(STATE, "throwAway");
        run.hold(1, 1, 1);
        run.does("throwAway");
        run.refuses(STATE, "throwAway");
    }

    private void dress() {
        Run run = says(8, "- `mason`: the mason, 0 to 3");
        run.hold(9, 4, 6);
        run.is(3, "dress", 0, 'l', 1).is(3, "dress", 3, 'l', 1).refuses(BOUNDS, "dress", 4, 'l', 1);
        run = says(8, "- `by`: how much is taken off, from 1");
        run.hold(9, 4, 6);
        run.refuses(ARGUMENT, "dress", 0, 'l', 0).is(3, "dress", 0, 'l', 1);
        run = says(8, "Returns what the mason was paid in all.");
        run.hold(9, 4, 6);
        run.is(6, "dress", 1, 'l', 2).is(9, "dress", 1, 't', 1).is(3, "dress", 0, 't', 1);
    }

    private void dressThrows() {
        Run run = says(8, "Throws `IndexOutOfBoundsException` if there is no such mason");
        run.refuses(BOUNDS, "dress", 4, 'l', 1).refuses(BOUNDS, "dress", -1, 'w', 0);
        run.hold(9, 4, 6);
        for (int wrong : new int[] {-1, 4, LEAST, MOST}) {
            run.refuses(BOUNDS, "dress", wrong, 'l', 1).refuses(BOUNDS, "dress", wrong, 'w', 1);
            run.refuses(BOUNDS, "dress", wrong, 'l', 0).refuses(BOUNDS, "dress", wrong, 'l', 9);
        }
        run = says(8, "Throws `IllegalArgumentException` if there is no such size, or less than 1 would be taken off");
        run.refuses(ARGUMENT, "dress", 0, 'w', 1).refuses(ARGUMENT, "dress", 0, 'l', 0);
        run.hold(9, 4, 6);
        for (char wrong : new char[] {'w', 0, 'k', 'm', 'g', 'i', 's', 'u', 'L', 'H', 'T', (char) 65535}) {
            run.refuses(ARGUMENT, "dress", 0, wrong, 1);
        }
        for (int wrong : new int[] {0, -1, LEAST}) {
            run.refuses(ARGUMENT, "dress", 3, 'l', wrong).refuses(ARGUMENT, "dress", 3, 'h', wrong);
            run.refuses(ARGUMENT, "dress", 3, 't', wrong);
        }
        run.refuses(ARGUMENT, "dress", 0, 'w', 9);
        run = says(8, "Throws `IllegalStateException` if there is no stone in the hand");
        run.refuses(STATE, "dress", 0, 'l', 1).refuses(STATE, "dress", 3, 't', 99);
        run.stones(1, 9, 4, 6);
        run.refuses(STATE, "dress", 0, 'h', 1);
        run = says(8, "Throws `UnsupportedOperationException` if less than 1 would be left, or the edge is less");
        run.hold(2, 1, 6);
        run.refuses(UNSUPPORTED, "dress", 0, 'l', 2).refuses(UNSUPPORTED, "dress", 0, 'h', 1);
        run.refuses(UNSUPPORTED, "dress", 0, 't', 6).refuses(UNSUPPORTED, "dress", 0, 't', MOST);
        run.does("dress", 0, 't', 5);
        run.does("throwAway");
        run.hold(9, 4, 6);
        run.refuses(UNSUPPORTED, "dress", 0, 'l', 8).is(36, "dress", 0, 'l', 7).refuses(UNSUPPORTED, "dress", 0, 'l', 1);
    }

    private void whet() {
        Run run = says(9, "Returns the edge that it had.");
        run.is(12, "whet");
        run.hold(9, 1, 6);
        run.does("dress", 0, 'l', 7);
        run.does("dress", 0, 't', 5);
        run.is(0, "whet").is(12, "whet");
    }
}
