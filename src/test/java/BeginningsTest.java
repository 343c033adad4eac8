import java.util.Set;

/** Each byte that there is behind each beginning of hills that use all of the form: whether a hill goes on so, and if not, where. */
public final class BeginningsTest {
    private static final String[] HILLS = {
        "see 2 k=1&!(r>4);hide 1 m>1;sight 2;drift 4 r<2|c=5;drift 3 s>0",
        "sight 0;sight 10;see 0 h<0;hide 99 k>99;drift 7 c=10",
        "see 1 !!!!!h=1&!!!!!k=2|!!!!!r=3",
        "see 1 (((((h=1)))))&(((((k=2)))))|(((((c=3)))))",
        "hide 1 !(!(!h=1&!k=2)|!(m=3&!s=4))",
        "drift 1 ((h<1|k=2&!r>3)&(c<4|!(m=5)))|!s>6",
        "drift 1 !(!(h=1))&!((!(k=1)))|((((!r=1))))",
        "sight 1;sight 1;sight 1;sight 1;sight 1;sight 1;sight 1;sight 1;sight 1;sight 1",
        "see 1 h=1;see 1 h=1;see 1 h=1;see 1 h=1;see 1 h=1;see 1 h=1;see 1 h=1;see 1 h=1;see 1 h=1;see 1 h=1",
        "see 10 h=10|h=10|h=10|h=10|h=10|h=10|h=10|h=10|h=10|h=10|h=10|h=10|h=10|h=10|h=10|h=10|h=10|h=10|h=7",
    };

    private BeginningsTest() {
    }

    public static void main(String[] args) {
        for (String hill : HILLS) {
            Set<String> open = Model.atFirst();
            for (int size = 0; size < hill.length(); size++) {
                look(hill.substring(0, size), open);
                open = Model.behind(open, hill.charAt(size));
            }
            Checks.due("hill() of " + hill, Checks.hill(hill), 0);
            Checks.due("the model ends with " + hill, Model.canEnd(open) ? 1 : 0, 1);
            if (hill.length() < 100) look(hill, open);
        }
        Checks.end("BeginningsTest");
    }

    private static void look(String beginning, Set<String> open) {
        for (char sign = 0; sign < 128; sign++) {
            Set<String> then = Model.behind(open, sign);
            int goesOn = Model.canEnd(then) ? 0 : -10 - beginning.length() - 1;
            int due = then.isEmpty() ? -10 - beginning.length() : goesOn;
            String text = beginning + sign;
            Checks.due("hill() of " + text, Checks.hill(text), due);
            // What stands behind a fault changes nothing of its place.
            if (then.isEmpty() && text.length() < 100) Checks.due("hill() of " + text + ";", Checks.hill(text + ";"), due);
        }
    }
}
