/** Boundary cases of promises 20 and 21. */
final class ImageSentences {
  private static final String TWO = "path 4 0;person fat 2 1 8;person boy 6 0 0;";
  private static final int[] NO_IMAGES = {-1, 2, 3, Integer.MIN_VALUE, Integer.MAX_VALUE};

  private final Sentences s;

  ImageSentences(Sentences s) {
    this.s = s;
  }

  void all() {
    kept();
    keptRefused();
    restored();
    restoredRefused();
  }

  private void kept() {
    s.promise(20, "An IMAGE (0, 1) is kept of the PATH: 1.");
    ErrandLanes x = Checks.on(TWO);
    s.due("image(0)", x.image(0), 1);
    x.halves(2);
    s.due("image(1)", x.image(1), 1);
    s.due("undos stay", x.count(3), 2);
    s.due("halves stay", x.count(2), 2);
    x.halves(1);
    s.due("0 was kept ahead of them", x.restore(0), 1);
    s.due("its halves", x.count(2), 0);
    s.due("its errand", x.person(0, 2), 0);
    s.due("1 behind them", x.restore(1), 1);
    s.due("its halves", x.count(2), 2);
    s.due("its errand", x.person(0, 2), 1);
    x.halves(4);
    s.due("1 again, in place of it", x.image(1), 1);
    x.restore(0);
    x.restore(1);
    s.due("its halves", x.count(2), 6);
    Checks.read(x, "path 2 0;");
    s.due("of a path of nobody", x.image(0), 1);
  }

  private void keptRefused() {
    s.promise(20, "BAD; STATE: no PATH.");
    ErrandLanes x = new ErrandLanes();
    s.due("image(0)", x.image(0), Checks.STATE);
    s.due("image(1)", x.image(1), Checks.STATE);
    for (int k : NO_IMAGES) {
      s.due("BAD is ahead: image(" + k + ")", x.image(k), Checks.BAD);
    }
    Checks.read(x, TWO);
    s.due("nothing was kept", x.restore(0), Checks.STATE);
    for (int k : NO_IMAGES) {
      s.due("image(" + k + ")", x.image(k), Checks.BAD);
    }
    s.due("nothing was kept", x.restore(1), Checks.STATE);
  }

  private void restored() {
    s.promise(21, "The PATH is as an IMAGE kept it (no HALF can be undone then): 1.");
    ErrandLanes x = Checks.on(TWO);
    x.halves(3);
    x.image(0);
    x.halves(3);
    s.due("both are done", x.count(4), 2);
    x.row(0, 0, 3);
    x.feed(' ', 1);
    s.due("restore(0)", x.restore(0), 1);
    int[] counts = {1, 2, 3, 0, 0, 1};
    for (int what = 0; what < 6; what++) {
      s.due("count(" + what + ")", x.count(what), counts[what]);
    }
    s.due("undo()", x.undo(), Checks.STATE);
    s.due("spot", x.person(0, 0), 3);
    s.due("way", x.person(0, 1), 0);
    s.due("errand", x.person(0, 2), 1);
    s.due("goal", x.errand(0, 0), 8);
    s.due("done in 3", x.halves(3), 3);
    s.due("those can be undone", x.undo(), 2);
    s.due("again", x.restore(0), 1);
    s.due("none is done", x.count(4), 0);
    s.due("of another path", Checks.read(x, "path 9 1;person cow 18 0 0;person monk 0 1 2;person fat 2 1 4;"), 3);
    x.halves(1);
    s.due("restore(0)", x.restore(0), 1);
    s.due("people", x.count(1), 2);
    s.due("kind", x.kind(0), 1);
    s.due("no third", x.kind(2), Checks.BAD);
    s.due("its law, and length: done in 3", x.halves(3), 3);
    x.halves(1);
    s.due("from 8 down", x.person(1, 0), 7);
  }

  private void restoredRefused() {
    s.promise(21, "BAD; STATE: none was kept.");
    ErrandLanes x = new ErrandLanes();
    s.due("restore(0)", x.restore(0), Checks.STATE);
    s.due("restore(1)", x.restore(1), Checks.STATE);
    for (int k : NO_IMAGES) {
      s.due("BAD is ahead: restore(" + k + ")", x.restore(k), Checks.BAD);
    }
    Checks.read(x, TWO);
    x.image(1);
    x.halves(2);
    s.due("0 was not kept", x.restore(0), Checks.STATE);
    s.due("refused, it leaves the halves", x.count(2), 2);
    s.due("and those to undo", x.count(3), 2);
    for (int k : NO_IMAGES) {
      s.due("restore(" + k + ")", x.restore(k), Checks.BAD);
    }
    s.due("those to undo", x.count(3), 2);
    s.due("1 was kept", x.restore(1), 1);
  }
}
