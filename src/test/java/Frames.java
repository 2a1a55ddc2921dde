/** The document's methods, so that one script of calls can be played to the class and the model. */
interface Frames {
  int call(int mutator);

  int leave(int mutator, int slot);

  int cut(int mutator, int frames);

  int get(int mutator, int at);

  int put(int mutator, int at, int v);

  int peek(int mutator, int frame, int slot);

  int holds(int v);

  int root(int k);

  int turn(int v, int w);

  int renew();

  int count(int what);
}
