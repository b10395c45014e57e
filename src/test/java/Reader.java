/** Reads files in an object with some fonts, and looks at where reading stops and by which fault. */
final class Reader {
  private final Due due;

  Reader(Due due) {
    this.due = due;
  }

  /** Font 3 has CHECK 77, font 70 has 78. */
  static DviPages made() {
    DviPages x = new DviPages();
    x.font(3, 77);
    x.font(70, 78);
    x.width(3, 65, 100);
    x.width(3, 200, 1000000);
    x.width(70, 65, -40);
    return x;
  }

  /** Head and a page: 60 bytes. */
  static Bytes onPage() {
    return new Bytes().head(1000).page(1, -1);
  }

  /** Head and a page with font 3 at hand: 77 bytes. */
  static Bytes withFont() {
    return onPage().define(3, 77).u1(174);
  }

  /** Head and a tail: 44 bytes. */
  static Bytes tailed() {
    return new Bytes().head(1000).tail(-1, 1000, 0, 0, 0, 0);
  }

  /** Reading stops at this byte, by this fault. */
  DviPages stops(String what, Bytes bytes, int at, int fault) {
    DviPages x = made();
    due.is(what + ": read", bytes.readBy(x), -1 - at);
    due.is(what + ": fault", x.fault(), fault);
    return x;
  }

  /** The file is whole, with so many pages. */
  DviPages whole(String what, Bytes bytes, int pages) {
    DviPages x = made();
    due.is(what + ": read", bytes.readBy(x), pages);
    due.is(what + ": fault", x.fault(), 0);
    return x;
  }

  /** All is right so far: what is missed next is at the length. */
  DviPages open(String what, Bytes bytes) {
    return stops(what, bytes, bytes.size(), 2);
  }
}
