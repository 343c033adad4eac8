/**
 * Words of the document (section 0: its terms, 1 to 31: a promise), the test that is theirs alone, and changes of the
 * class by which that test must fail: each a text of the class and, behind it, what stands there instead.
 */
record Sentence(int section, String words, Runnable test, String... changes) {
}
