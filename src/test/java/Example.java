/** The example of README.md, which shows what stands between the marks; ReadmeTest compares both, and the answers. */
final class Example {
    private Example() {
    }

    private static void type(GlideShelves tower, String text) {
        for (char sign : text.toCharArray()) {
            tower.append(sign);
        }
    }

    static void run() {
        // from here
        GlideShelves tower = new GlideShelves();
        System.out.println(tower.addShelf(2));           // 0: its number; it takes the slots 0 and 1 in front
        System.out.println(tower.addShelf(4));           // 1: it takes the slots 0 to 3 behind
        System.out.println(tower.fetch(1));              // 2: the ticks; the lift brings it to the window
        System.out.println(tower.fill(3, 20));           // 20: so many things of the kind 3 are in it now
        System.out.println(tower.stowAt(1, 10));         // 12: the ticks; the lift stows it at the slot 10 behind
        type(tower, "3*5,7*1");                          // a call of append() for each character
        System.out.println(tower.firstError());          // 7: the length, as there is no error
        System.out.println(tower.accept());              // 0: the number of the order; the buffer is empty now
        System.out.println(tower.canServe(0));           // false: there is nothing of the kind 7
        try {
            tower.serve(0);
        } catch (IllegalStateException e) {
            System.out.println(tower.orders());          // 1: a refused call has changed nothing
        }
        System.out.println(tower.fetch(0));              // 10: the lift comes from the slot 10
        tower.fill(7, 1);
        System.out.println(tower.stow());                // 0: where it was
        System.out.println(tower.choiceFor(0));          // 3: the shelves 0 and 1, as bits
        System.out.println(tower.serve(0));              // 34: both are fetched, give, and are stowed
        System.out.println(tower.stockByShelves(3));     // 15
        tower.undo();                                    // all that the latest call did
        System.out.println(tower.orders());              // 1
        System.out.println(tower.stockByShelves(3));     // 20
        // to here
    }
}
