/** The boundaries that the document names for snapshots: the promises 29 and 30. */
public final class SnapshotEdgeTests extends Checks {
    public static void main(String[] args) {
        saveChangesNothing();
        saveOfANewObject();
        saveInPlaceOfAnother();
        snapshotIsApart();
        restoreEachPart();
        restoreWithoutSnapshot();
        restoreKeepsTheSnapshot();
        restoreOfTheSameState();
        restoreDropsResults();
        restoreClosesTheCursor();
        restoreLeavesTheBuffer();
        restoreLeavesTheFault();
        restoreAfterRefusedLoads();
        saveAndLoadByTurns();
        loadAfterRestoreLeavesTheSnapshot();
        snapshotsOfTwoObjects();
        tellAll("SnapshotEdgeTests");
    }

    /** A finder that differs from a new one in all that can be saved. */
    private static ReductionFinder first() {
        ReductionFinder x = loop("s=s+a[i];t=max(t,b[i]);u=c[i]*2;", 1, 16);
        x.fill(0, 1);
        x.fill(1, 2);
        x.fill(2, 3);
        for (int variable = 0; variable < 8; variable++) {
            x.setInitial(variable, 100 * variable - 350);
        }
        return x;
    }

    /** Makes all that can be saved different from the finder of first(). */
    private static void change(ReductionFinder x) {
        loadText(x, "s=s*s;z=1&z;");
        x.setMode(0);
        x.setCount(3);
        x.fill(0, 4);
        x.fill(1, 5);
        x.fill(2, 6);
        for (int variable = 0; variable < 8; variable++) {
            x.setInitial(variable, 999 - variable);
        }
    }

    private static ReductionFinder savedFirst() {
        ReductionFinder x = first();
        x.save();
        return x;
    }

    private static void saveChangesNothing() {
        sentence("Saves the statements, the mode, ..: the cursor, the results, the buffer and the fault stay");
        ReductionFinder x = first();
        dueThrow(() -> loadText(x, "s="), ARGUMENT);
        x.execute(1, 3);
        float sum = x.resultFloat(0);
        x.open(0);
        x.next();
        appendText(x, "z=3;");
        x.save();
        due(x.faultPosition(), 2);
        due(x.resultFloat(0), sum);
        due(restOfCursor(x), "100 200");
        due(x.append(0), 4);
        due(x.load(), 1);
        due(nodesOf(x, 7), "3");
    }

    private static void saveOfANewObject() {
        sentence("a snapshot of a loop without statements");
        ReductionFinder x = new ReductionFinder();
        x.save();
        change(x);
        x.restore();
        ReductionFinder y = new ReductionFinder();
        y.save();
        dueSameState(x, y);
    }

    private static void saveInPlaceOfAnother() {
        sentence("in place of an earlier snapshot");
        ReductionFinder x = savedFirst();
        change(x);
        x.save();
        loadText(x, "u=1;v=2;w=3;x=4;");
        x.setMode(1);
        x.setCount(7);
        x.fill(0, 9);
        x.setInitial(0, 0);
        x.restore();
        ReductionFinder y = first();
        change(y);
        y.save();
        dueSameState(x, y);
    }

    private static void snapshotIsApart() {
        sentence("what is changed after save is not changed in the snapshot");
        ReductionFinder x = savedFirst();
        change(x);
        x.restore();
        dueSameState(x, savedFirst());
    }

    private static void restoreEachPart() {
        sentence("Restores what was saved: the statements, the mode, the number of iterations, the elements, the initial values");
        Deed[] changes = {
            y -> loadText(y, "s=1;"),
            y -> y.setMode(0),
            y -> y.setCount(0),
            y -> y.setElement(0, 0, 1),
            y -> y.setElement(1, 8, 1),
            y -> y.setElement(2, 15, 1),
            y -> y.setInitial(0, 1),
            y -> y.setInitial(7, 1),
        };
        for (Deed change : changes) {
            ReductionFinder x = savedFirst();
            change.on(x);
            x.restore();
            dueSameState(x, savedFirst());
        }
        ReductionFinder x = savedFirst();
        change(x);
        x.restore();
        due(x.statements(), 3);
        due(x.kind(1), 2);
        due(x.operator(1), 6);
        due(x.terms(1), 1);
        due(x.height(2), 2);
        due(x.isParallel(), true);
        due(modeOf(x), 1);
        due(countOf(x), 16);
        due(x.element(0, 0), -99);
        due(initialOf(x, 0), -350);
        due(initialOf(x, 7), 350);
        due(x.cost(0, 0), 48);
        due(x.execute(3, 0), 3);
    }

    private static void restoreWithoutSnapshot() {
        sentence("restore: if there is no snapshot");
        dueRefused(ReductionFinder::new, Checks::restore, STATE);
        dueRefused(SnapshotEdgeTests::first, Checks::restore, STATE);
        ReductionFinder x = first();
        dueThrow(() -> restore(x), STATE);
        dueThrow(() -> restore(x), STATE);
        x.save();
        due(answerOf(() -> restore(x)), "restored");
    }

    private static void restoreKeepsTheSnapshot() {
        sentence("the snapshot is kept");
        ReductionFinder x = savedFirst();
        for (int times = 0; times < 5; times++) {
            change(x);
            x.restore();
            due(x.statements(), 3);
            due(x.element(2, 15), first().element(2, 15));
            due(initialOf(x, 3), -50);
        }
        dueSameState(x, savedFirst());
    }

    private static void restoreOfTheSameState() {
        sentence("restore right after save");
        ReductionFinder x = savedFirst();
        x.restore();
        x.restore();
        dueSameState(x, savedFirst());
    }

    private static void restoreDropsResults() {
        sentence("a successful call of restore drops the results, even if nothing else changes");
        ReductionFinder x = savedFirst();
        x.execute(0, 0);
        x.restore();
        dueThrow(() -> x.resultFloat(0), STATE);
        dueThrow(() -> x.result(0), STATE);
        dueThrow(() -> x.difference(0), STATE);
        ReductionFinder y = first();
        y.execute(0, 0);
        y.save();
        y.restore();
        dueThrow(() -> y.resultFloat(0), STATE);
    }

    private static void restoreClosesTheCursor() {
        sentence("a call of restore succeeded after the cursor was opened, even if nothing else changes");
        ReductionFinder x = savedFirst();
        x.open(0);
        x.restore();
        dueThrow(x::hasNext, STATE);
        dueThrow(x::next, STATE);
        x.open(0);
        x.save();
        due(x.next(), 300);
        x.restore();
        dueThrow(x::next, STATE);
    }

    private static void restoreLeavesTheBuffer() {
        sentence("the buffer is no part of a snapshot");
        ReductionFinder x = first();
        appendText(x, "s=1;");
        x.save();
        appendText(x, "t=2;");
        x.restore();
        due(x.append(0), 8);
        due(x.load(), 2);
        x.restore();
        due(x.append(0), 0);
        dueThrow(x::load, ARGUMENT);
        due(x.statements(), 3);
    }

    private static void restoreLeavesTheFault() {
        sentence("the fault position is no part of a snapshot");
        ReductionFinder x = first();
        dueThrow(() -> loadText(x, "s=1"), ARGUMENT);
        x.save();
        loadText(x, "s=1;");
        x.restore();
        due(x.faultPosition(), -1);
        dueThrow(() -> loadText(x, "s=12"), ARGUMENT);
        x.restore();
        due(x.faultPosition(), 4);
    }

    private static void restoreAfterRefusedLoads() {
        sentence("a refused load changes neither the statements nor the snapshot");
        String tooGreat = "u=1;v=2;w=3;" + repeated("s=s+s;", 7);
        ReductionFinder x = savedFirst();
        for (int times = 0; times < 3; times++) {
            dueThrow(() -> loadText(x, repeated("s=s+s;", 7)), STATE);
            dueThrow(() -> loadText(x, tooGreat), STATE);
            due(nodesOf(x, 0), "300 100 200");
            due(x.statements(), 3);
        }
        loadText(x, "z=z+7;");
        dueThrow(() -> loadText(x, repeated("s=s+s;", 7)), STATE);
        due(nodesOf(x, 7), "300 107 7");
        due(nodesOf(x, 0), "100");
        x.restore();
        due(nodesOf(x, 0), "300 100 200");
        due(nodesOf(x, 7), "107");
    }

    private static void saveAndLoadByTurns() {
        sentence("save, load and restore by turns");
        ReductionFinder x = new ReductionFinder();
        for (int round = 1; round <= 9; round++) {
            loadText(x, "s=" + round + ";");
            x.save();
            loadText(x, "s=1" + round + ";");
            loadText(x, "s=2" + round + ";");
            due(nodesOf(x, 0), "2" + round);
            x.restore();
            due(nodesOf(x, 0), "" + round);
            loadText(x, "s=3" + round + ";");
            due(nodesOf(x, 0), "3" + round);
            x.restore();
            due(nodesOf(x, 0), "" + round);
        }
    }

    private static void loadAfterRestoreLeavesTheSnapshot() {
        sentence("what is changed after restore is not changed in the snapshot");
        ReductionFinder x = savedFirst();
        x.restore();
        change(x);
        x.restore();
        x.fill(0, 77);
        x.setInitial(0, 5);
        x.setMode(0);
        x.setCount(1);
        loadText(x, "z=2;");
        x.restore();
        dueSameState(x, savedFirst());
    }

    private static void snapshotsOfTwoObjects() {
        sentence("each object has a snapshot of its own");
        ReductionFinder x = savedFirst();
        ReductionFinder y = new ReductionFinder();
        dueThrow(() -> restore(y), STATE);
        y.save();
        x.restore();
        due(x.statements(), 3);
        y.restore();
        due(y.statements(), 0);
    }
}
