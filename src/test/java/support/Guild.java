/** What both the program and the model answer: a call told by its name and its arguments. */
interface Guild {
    /** The answer as text; a thrown exception as its simple name. */
    String ask(String call, int... arguments);
}
