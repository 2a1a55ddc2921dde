import java.util.function.Supplier;

/**
 * All that can be read of a state: each slot of each frame, each place, and the counts.
 *
 * <p>A large state has more to read than one object's 512 calls, so that it is made anew whenever
 * a number of questions has been asked.
 */
final class Reading {
  private static final int QUESTIONS = 200;

  private final Supplier<? extends Frames> maker;
  private final StringBuilder text = new StringBuilder();
  private Frames x = null;
  private int asked = 0;

  private Reading(Supplier<? extends Frames> maker) {
    this.maker = maker;
  }

  static String of(Supplier<? extends Frames> maker) {
    Reading reading = new Reading(maker);
    for (int mutator = 0; mutator < 4; mutator++) {
      reading.readFrames(mutator);
      reading.readPlaces(mutator);
    }
    reading.readCounts();
    return reading.text.toString();
  }

  private String ask(Call question) {
    if (asked % QUESTIONS == 0) {
      x = maker.get();
    }
    asked++;
    String answer = question.on(x);
    text.append(' ').append(answer);
    return answer;
  }

  /** Up to the first frame that there is not, which is told in the text too. */
  private void readFrames(int mutator) {
    text.append(" frames of mutator ").append(mutator).append(':');
    boolean there = true;
    for (int frame = 0; there && frame <= 64; frame++) {
      for (int slot = 0; there && slot < 8; slot++) {
        there = !ask(Call.peek(mutator, frame, slot)).startsWith("throws.");
      }
    }
  }

  private void readPlaces(int mutator) {
    text.append(" places of mutator ").append(mutator).append(':');
    for (int at = 0; at < 24; at++) {
      ask(Call.get(mutator, at));
    }
  }

  private void readCounts() {
    text.append(" counts:");
    for (int what = 0; what < 5; what++) {
      ask(Call.count(what));
    }
  }
}
