/**
 * Arguments outside the document's bounds: the one below, the one above, ones whose product with
 * eight wraps around to a good one, and the smallest and largest int.
 */
final class Wrong {
  static final int[] MUTATORS = {-1, 4, 1 << 30, Integer.MIN_VALUE, Integer.MAX_VALUE};
  static final int[] SLOTS = {-1, 8, Integer.MIN_VALUE, Integer.MAX_VALUE};
  static final int[] PLACES = {-1, 24, Integer.MIN_VALUE, Integer.MAX_VALUE};
  static final int[] VALUES = {-1, 1000001, Integer.MIN_VALUE, Integer.MAX_VALUE};
  static final int[] COUNTS = {-1, 5, Integer.MIN_VALUE, Integer.MAX_VALUE};

  private Wrong() {}

  /** Numbers that no frame has, in a mutator with so many frames. */
  static int[] framesBeyond(int has) {
    return new int[] {-1, has, has + 1, 1 << 29, Integer.MIN_VALUE, Integer.MAX_VALUE};
  }

  /** Numbers of frames that a mutator with so many can't be cut to. */
  static int[] cutsBeyond(int has) {
    return new int[] {0, -1, has + 1, 65, Integer.MIN_VALUE, Integer.MAX_VALUE};
  }
}
