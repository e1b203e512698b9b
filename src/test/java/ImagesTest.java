/** Promises 20 and 21. */
public final class ImagesTest {
  private static final Checks C = new Checks("ImagesTest");

  public static void main(String[] args) {
    keptAndRestored();
    twoImages();
    refusals();
    C.end();
  }

  /** Promise 21, "The PATH is as an IMAGE kept it (no HALF can be undone then): 1." */
  private static void keptAndRestored() {
    ErrandLanes x = Checks.on("path 4 0;person fat 2 1 8;person boy 6 0 0;");
    x.halves(2);
    C.due("image(0)", x.image(0), 1);
    C.due("undos stay", x.count(3), 2);
    x.halves(6);
    C.due("both are done", x.count(4), 2);
    x.row(0, 0, 3);
    x.feed(0x20, 1);
    C.due("restore(0)", x.restore(0), 1);
    C.due("halves", x.count(2), 2);
    C.due("none can be undone", x.count(3), 0);
    C.due("undo()", x.undo(), Checks.STATE);
    C.due("none is done", x.count(4), 0);
    C.due("spot", x.person(0, 0), 4);
    C.due("way", x.person(0, 1), 0);
    C.due("errand", x.person(0, 2), 1);
    C.due("the tape stays", x.count(5), 1);
    C.due("rows stay", x.count(0), 1);
    C.due("halves(4)", x.halves(4), 3);
    C.due("restore(0) anew", x.restore(0), 1);
    C.due("none is done, anew", x.count(4), 0);
    C.due("an image is of its own", x.ahead(0, 4, 0), 0);
    C.due("undo() behind a half", x.halves(1) + x.undo(), 0);
    C.due("the image's halves", x.count(2), 2);
  }

  /** Promise 20, "An IMAGE (0, 1) is kept of the PATH: 1." */
  private static void twoImages() {
    ErrandLanes x = Checks.on("path 4 0;person fat 2 1 8;person boy 6 0 0;");
    x.image(1);
    Checks.read(x, "path 9 1;person cow 18 0 0;");
    x.image(0);
    C.due("restore(1)", x.restore(1), 1);
    C.due("people", x.count(1), 2);
    C.due("goal", x.errand(0, 0), 8);
    C.due("kind", x.kind(1), 2);
    x.halves(2);
    C.due("its law", x.person(0, 2), 1);
    C.due("restore(0)", x.restore(0), 1);
    C.due("people", x.count(1), 1);
    C.due("kind", x.kind(0), 5);
    x.image(1);
    C.due("an image in place of another", x.restore(1), 1);
    C.due("people", x.count(1), 1);
    x.halves(60);
    C.due("its spots", x.person(0, 0), 18);
  }

  /** Promises 20 and 21, "BAD", "STATE: none was kept." */
  private static void refusals() {
    ErrandLanes x = Checks.on("path 4 0;person fat 2 1 8;");
    C.due("image(-1)", x.image(-1), Checks.BAD);
    C.due("image(2)", x.image(2), Checks.BAD);
    C.due("restore(-1)", x.restore(-1), Checks.BAD);
    C.due("restore(2)", x.restore(2), Checks.BAD);
    C.due("restore(0)", x.restore(0), Checks.STATE);
    x.image(0);
    C.due("the other was not kept", x.restore(1), Checks.STATE);
    x.halves(2);
    C.due("refused, it leaves the undos", x.restore(1) == Checks.STATE ? x.count(3) : -1, 2);
  }
}
