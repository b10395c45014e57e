import java.util.function.Consumer;
import java.util.function.ToLongFunction;

/** Two objects with the same calls behind them: one is asked once more, the other is not. */
final class Twins {
  private final Due due;

  // Many calls are asked in one state: what the other twin shows there is looked at once.
  private Consumer<DviPages> plain = null;
  private String plainNow = "";
  private String plainLater = "";
  private String plainOtherWay = "";

  Twins(Due due) {
    this.due = due;
  }

  /** The call answers as told, and nothing tells the two apart afterwards. */
  void refused(String what, Consumer<DviPages> made, ToLongFunction<DviPages> call, long want) {
    lookAtPlain(made);
    DviPages asked = made(made);
    due.is(what, call.applyAsLong(asked), want);
    due.is(what + ", what is seen", Seen.now(asked), plainNow);
    due.is(what + ", later calls", Seen.later(asked, false), plainLater);
    DviPages again = made(made);
    due.is(what, call.applyAsLong(again), want);
    due.is(what + ", other later calls", Seen.later(again, true), plainOtherWay);
  }

  private void lookAtPlain(Consumer<DviPages> made) {
    if (made != plain) {
      DviPages x = made(made);
      plain = made;
      plainNow = Seen.now(x);
      plainLater = Seen.later(x, false);
      plainOtherWay = Seen.later(made(made), true);
    }
  }

  /** The call is taken and answers as told; the object is handed on for more questions. */
  DviPages taken(String what, Consumer<DviPages> made, ToLongFunction<DviPages> call, long want) {
    DviPages x = made(made);
    due.is(what, call.applyAsLong(x), want);
    return x;
  }

  private static DviPages made(Consumer<DviPages> made) {
    DviPages x = new DviPages();
    made.accept(x);
    return x;
  }
}
