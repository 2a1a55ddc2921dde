import java.util.Arrays;
import java.util.function.ToIntFunction;

/** One call with its arguments, that can be made on any object and tells its own text. */
final class Call {
  private final String text;
  private final ToIntFunction<Frames> body;

  private Call(ToIntFunction<Frames> body, String method, int... arguments) {
    String list = Arrays.toString(arguments);
    this.text = method + "(" + list.substring(1, list.length() - 1) + ")";
    this.body = body;
  }

  static Call call(int mutator) {
    return new Call(x -> x.call(mutator), "call", mutator);
  }

  static Call leave(int mutator, int slot) {
    return new Call(x -> x.leave(mutator, slot), "leave", mutator, slot);
  }

  static Call cut(int mutator, int frames) {
    return new Call(x -> x.cut(mutator, frames), "cut", mutator, frames);
  }

  static Call get(int mutator, int at) {
    return new Call(x -> x.get(mutator, at), "get", mutator, at);
  }

  static Call put(int mutator, int at, int v) {
    return new Call(x -> x.put(mutator, at, v), "put", mutator, at, v);
  }

  static Call peek(int mutator, int frame, int slot) {
    return new Call(x -> x.peek(mutator, frame, slot), "peek", mutator, frame, slot);
  }

  static Call holds(int v) {
    return new Call(x -> x.holds(v), "holds", v);
  }

  static Call root(int k) {
    return new Call(x -> x.root(k), "root", k);
  }

  static Call turn(int v, int w) {
    return new Call(x -> x.turn(v, w), "turn", v, w);
  }

  static Call renew() {
    return new Call(x -> x.renew(), "renew");
  }

  static Call count(int what) {
    return new Call(x -> x.count(what), "count", what);
  }

  /** The answer in the form that the issues tell it in. */
  String on(Frames x) {
    try {
      return Integer.toString(body.applyAsInt(x));
    } catch (RuntimeException e) {
      return thrown(e.getClass());
    }
  }

  static String thrown(Class<?> exception) {
    return "throws." + exception.getSimpleName();
  }

  @Override
  public String toString() {
    return text;
  }
}
