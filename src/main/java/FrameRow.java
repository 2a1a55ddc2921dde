import java.util.Arrays;
import java.util.NoSuchElementException;

/**
 * Frames of several mutators, one over the other, and globals that all of them share, in one row.
 *
 * <p>The row holds the slots and globals that there are, without gaps and in the document's order,
 * so that whatever the document asks "in the order" is one walk from 0 to length.
 */
public final class FrameRow {
  private static final int MUTATORS = 4;
  private static final int MOST_FRAMES = 64;
  private static final int SLOTS = 8;
  private static final int GLOBALS = 16;
  private static final int PLACES = SLOTS + GLOBALS;
  private static final int MOST_VALUE = 1000000;

  private final int[] row;
  private final int[] frameCounts;
  private int length;
  private int calls;

  public FrameRow() {
    // As long as it can ever get, so that no later call makes an array.
    row = new int[MUTATORS * MOST_FRAMES * SLOTS + GLOBALS];
    frameCounts = new int[MUTATORS];
    Arrays.fill(frameCounts, 1);
    length = MUTATORS * SLOTS + GLOBALS;
    calls = 0;
  }

  public int call(int mutator) throws NoSuchElementException, IllegalStateException {
    checkMutator(mutator);
    if (frameCounts[mutator] >= MOST_FRAMES) {
      throw new IllegalStateException("the mutator has all the frames it may have");
    }
    addFrame(mutator);
    calls++;
    return frameCounts[mutator];
  }

  public int leave(int mutator, int slot) throws NoSuchElementException, IllegalStateException {
    checkMutator(mutator);
    checkSlot(slot);
    if (frameCounts[mutator] <= 1) {
      throw new IllegalStateException("the mutator has one frame only");
    }
    int answer = row[upperFrame(mutator) + slot];
    dropFrames(mutator, frameCounts[mutator] - 1);
    row[upperFrame(mutator)] = answer;
    return frameCounts[mutator];
  }

  public int cut(int mutator, int frames) throws NoSuchElementException {
    checkMutator(mutator);
    int had = frameCounts[mutator];
    if (frames < 1 || frames > had) {
      throw new NoSuchElementException("the mutator has no such frame");
    }
    dropFrames(mutator, frames);
    return had - frames;
  }

  public int get(int mutator, int at) throws NoSuchElementException {
    checkMutator(mutator);
    checkPlace(at);
    return row[indexOfPlace(mutator, at)];
  }

  public int put(int mutator, int at, int v)
      throws NoSuchElementException, IllegalArgumentException {
    checkMutator(mutator);
    checkPlace(at);
    checkValue(v);
    int index = indexOfPlace(mutator, at);
    int before = row[index];
    row[index] = v;
    return before;
  }

  public int peek(int mutator, int frame, int slot) throws NoSuchElementException {
    checkMutator(mutator);
    if (frame < 0 || frame >= frameCounts[mutator]) {
      throw new NoSuchElementException("the mutator has no such frame");
    }
    checkSlot(slot);
    return row[startOfFrame(mutator, frame) + slot];
  }

  public int holds(int v) throws IllegalArgumentException {
    checkValue(v);
    return countOf(v);
  }

  public int root(int k) throws IllegalArgumentException {
    if (k < 0) {
      throw new IllegalArgumentException("k is below 0");
    }
    int left = k;
    for (int i = 0; i < length; i++) {
      if (row[i] != 0) {
        if (left == 0) {
          return row[i];
        }
        left--;
      }
    }
    return 0;
  }

  public int turn(int v, int w) throws IllegalArgumentException {
    if (v == 0) {
      throw new IllegalArgumentException("nothing cannot be turned");
    }
    checkValue(v);
    checkValue(w);
    return replace(0, v, w);
  }

  public int renew() {
    int different = 0;
    for (int i = 0; i < length; i++) {
      if (row[i] > 0) {
        different++;
        // Below 0, so that a new value is not taken for an old one further on in the walk.
        replace(i, row[i], -different);
      }
    }
    for (int i = 0; i < length; i++) {
      row[i] = -row[i];
    }
    return different;
  }

  public int count(int what) throws IllegalArgumentException {
    switch (what) {
      case 0:
        return framesOfAll();
      case 1:
        return length - countOf(0);
      case 2:
        return mostFrames();
      case 3:
        return calls;
      case 4:
        return differentValues();
      default:
        throw new IllegalArgumentException("there is no such count");
    }
  }

  private static void checkMutator(int mutator) {
    if (mutator < 0 || mutator >= MUTATORS) {
      throw new NoSuchElementException("there is no such mutator");
    }
  }

  private static void checkSlot(int slot) {
    if (slot < 0 || slot >= SLOTS) {
      throw new NoSuchElementException("there is no such slot");
    }
  }

  private static void checkPlace(int at) {
    if (at < 0 || at >= PLACES) {
      throw new NoSuchElementException("there is no such place");
    }
  }

  private static void checkValue(int v) {
    if (v < 0 || v > MOST_VALUE) {
      throw new IllegalArgumentException("this is no value");
    }
  }

  private int startOfFrame(int mutator, int frame) {
    int below = frame;
    for (int m = 0; m < mutator; m++) {
      below += frameCounts[m];
    }
    return below * SLOTS;
  }

  private int upperFrame(int mutator) {
    return startOfFrame(mutator, frameCounts[mutator] - 1);
  }

  private int indexOfPlace(int mutator, int at) {
    if (at < SLOTS) {
      return upperFrame(mutator) + at;
    }
    return length - PLACES + at;
  }

  private void addFrame(int mutator) {
    int start = startOfFrame(mutator, frameCounts[mutator]);
    System.arraycopy(row, start, row, start + SLOTS, length - start);
    Arrays.fill(row, start, start + SLOTS, 0);
    length += SLOTS;
    frameCounts[mutator]++;
  }

  private void dropFrames(int mutator, int left) {
    int start = startOfFrame(mutator, left);
    int end = startOfFrame(mutator, frameCounts[mutator]);
    System.arraycopy(row, end, row, start, length - end);
    length -= end - start;
    frameCounts[mutator] = left;
  }

  private int countOf(int v) {
    int found = 0;
    for (int i = 0; i < length; i++) {
      if (row[i] == v) {
        found++;
      }
    }
    return found;
  }

  private int replace(int from, int v, int w) {
    int found = 0;
    for (int i = from; i < length; i++) {
      if (row[i] == v) {
        row[i] = w;
        found++;
      }
    }
    return found;
  }

  private int framesOfAll() {
    int all = 0;
    for (int m = 0; m < MUTATORS; m++) {
      all += frameCounts[m];
    }
    return all;
  }

  private int mostFrames() {
    int most = 0;
    for (int m = 0; m < MUTATORS; m++) {
      most = Math.max(most, frameCounts[m]);
    }
    return most;
  }

  private int differentValues() {
    int different = 0;
    for (int i = 0; i < length; i++) {
      if (row[i] != 0 && isFirstOfItsValue(i)) {
        different++;
      }
    }
    return different;
  }

  private boolean isFirstOfItsValue(int index) {
    for (int i = 0; i < index; i++) {
      if (row[i] == row[index]) {
        return false;
      }
    }
    return true;
  }
}
