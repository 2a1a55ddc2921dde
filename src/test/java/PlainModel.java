import java.util.ArrayList;
import java.util.Collections;
import java.util.LinkedHashMap;
import java.util.List;
import java.util.Map;
import java.util.NoSuchElementException;

/** The document's words in the plainest form, held otherwise than FrameRow holds them. */
final class PlainModel implements Frames {
  private final List<List<int[]>> stacks = new ArrayList<>();
  private final int[] globals = new int[16];
  private int calls = 0;

  PlainModel() {
    for (int mutator = 0; mutator < 4; mutator++) {
      stacks.add(new ArrayList<>(List.of(new int[8])));
    }
  }

  @Override
  public int call(int mutator) {
    List<int[]> stack = stack(mutator);
    stateIf(stack.size() == 64);
    stack.add(new int[8]);
    calls++;
    return stack.size();
  }

  @Override
  public int leave(int mutator, int slot) {
    List<int[]> stack = stack(mutator);
    noSuchIf(slot < 0 || slot > 7);
    stateIf(stack.size() == 1);
    int value = stack.remove(stack.size() - 1)[slot];
    upper(mutator)[0] = value;
    return stack.size();
  }

  @Override
  public int cut(int mutator, int frames) {
    List<int[]> stack = stack(mutator);
    noSuchIf(frames < 1 || stack.size() < frames);
    int went = stack.size() - frames;
    stack.subList(frames, stack.size()).clear();
    return went;
  }

  @Override
  public int get(int mutator, int at) {
    stack(mutator);
    noSuchIf(at < 0 || at > 23);
    return at < 8 ? upper(mutator)[at] : globals[at - 8];
  }

  @Override
  public int put(int mutator, int at, int v) {
    int before = get(mutator, at);
    argumentIf(isNoValue(v));
    if (at < 8) {
      upper(mutator)[at] = v;
    } else {
      globals[at - 8] = v;
    }
    return before;
  }

  @Override
  public int peek(int mutator, int frame, int slot) {
    List<int[]> stack = stack(mutator);
    noSuchIf(frame < 0 || frame >= stack.size() || slot < 0 || slot > 7);
    return stack.get(frame)[slot];
  }

  @Override
  public int holds(int v) {
    argumentIf(isNoValue(v));
    return Collections.frequency(order(), v);
  }

  @Override
  public int root(int k) {
    argumentIf(k < 0);
    List<Integer> values = notNothing();
    return k < values.size() ? values.get(k) : 0;
  }

  @Override
  public int turn(int v, int w) {
    argumentIf(v == 0 || isNoValue(v) || isNoValue(w));
    int found = holds(v);
    change(Map.of(v, w));
    return found;
  }

  @Override
  public int renew() {
    Map<Integer, Integer> names = new LinkedHashMap<>();
    for (int value : notNothing()) {
      names.putIfAbsent(value, names.size() + 1);
    }
    change(names);
    return names.size();
  }

  @Override
  public int count(int what) {
    argumentIf(what < 0 || what > 4);
    int[] counts = {
      stacks.stream().mapToInt(List::size).sum(),
      notNothing().size(),
      stacks.stream().mapToInt(List::size).max().getAsInt(),
      calls,
      (int) notNothing().stream().distinct().count()
    };
    return counts[what];
  }

  private List<int[]> stack(int mutator) {
    noSuchIf(mutator < 0 || mutator > 3);
    return stacks.get(mutator);
  }

  private int[] upper(int mutator) {
    List<int[]> stack = stacks.get(mutator);
    return stack.get(stack.size() - 1);
  }

  private List<int[]> parts() {
    List<int[]> parts = new ArrayList<>();
    stacks.forEach(parts::addAll);
    parts.add(globals);
    return parts;
  }

  private List<Integer> order() {
    List<Integer> values = new ArrayList<>();
    for (int[] part : parts()) {
      for (int value : part) {
        values.add(value);
      }
    }
    return values;
  }

  private List<Integer> notNothing() {
    List<Integer> values = order();
    values.removeIf(value -> value == 0);
    return values;
  }

  private void change(Map<Integer, Integer> names) {
    for (int[] part : parts()) {
      for (int i = 0; i < part.length; i++) {
        part[i] = names.getOrDefault(part[i], part[i]);
      }
    }
  }

  private static boolean isNoValue(int v) {
    return v < 0 || v > 1000000;
  }

  private static void noSuchIf(boolean so) {
    if (so) {
      throw new NoSuchElementException();
    }
  }

  private static void argumentIf(boolean so) {
    if (so) {
      throw new IllegalArgumentException();
    }
  }

  private static void stateIf(boolean so) {
    if (so) {
      throw new IllegalStateException();
    }
  }
}
