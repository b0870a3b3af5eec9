/** Boxes at the edges that the document names: the empty, the full, the late ones. */
final class Boxes {
    private Boxes() {
    }

    static PetitionBox empty() {
        return new PetitionBox();
    }

    /** One plain petition, number 0, of sender 0. */
    static PetitionBox withOne(int rank, int bound) {
        PetitionBox box = new PetitionBox();
        box.send(0, rank, bound);
        return box;
    }

    static PetitionBox withQuota(int quota) {
        PetitionBox box = new PetitionBox();
        box.setQuota(quota);
        return box;
    }

    /** The quota 10 and so many plain petitions of bound 200, number i sent by i % 8. */
    static PetitionBox with(int petitions, int rank) {
        PetitionBox box = withQuota(10);
        for (int i = 0; i < petitions; i++) {
            box.send(i % 8, rank, 200);
        }
        return box;
    }

    /** As many petitions as the box can hold, numbers 0 to 39. */
    static PetitionBox full(int rank) {
        return with(40, rank);
    }

    /** An empty box from which so many petitions, numbers 0 and on, were withdrawn one by one. */
    static PetitionBox withEntries(int entries) {
        PetitionBox box = new PetitionBox();
        for (int number = 0; number < entries; number++) {
            box.send(number % 8, number % 5, 200);
            box.withdraw(number);
        }
        return box;
    }

    /** An empty box after so many undoable calls, which set the grace to 101, 102 and so on. */
    static PetitionBox withSaved(int calls) {
        PetitionBox box = new PetitionBox();
        for (int i = 1; i <= calls; i++) {
            box.setGrace(100 + i);
        }
        return box;
    }

    static PetitionBox withText(int length) {
        PetitionBox box = new PetitionBox();
        for (int i = 0; i < length; i++) {
            box.append(i % 2 == 0 ? 's' : ';');
        }
        return box;
    }

    /** An empty box with an empty text at a time; makes fewer than 300 calls. */
    static PetitionBox atTime(int time) {
        PetitionBox box = new PetitionBox();
        Checks.write(box, "t50;".repeat(25));
        for (int i = 0; i < time / 1250; i++) {
            box.carryOut();
        }
        box.clearText();
        for (int left = time % 1250; left > 0; left -= 200) {
            box.pass(Math.min(200, left));
        }
        return box;
    }
}
