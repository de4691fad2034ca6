/** What can be called by name: the program (Caller), or its second telling (Model). */
interface Calls {
  int call(String name, int... a);
}
