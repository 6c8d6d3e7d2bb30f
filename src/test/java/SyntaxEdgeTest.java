import java.util.ArrayList;
import java.util.List;

/** SYNTAX of Part I: at every token of texts that use the whole grammar, and at each end. */
public final class SyntaxEdgeTest {
    // A ~ stands behind a LABEL, so that it can be told from other words.
    private static final String GAME = "class A { field f ; method m ( ) { null ; ret ; } method n ( a ) { L~ : load a ; if L ; null ; ret ; } } "
            + "class B : A { } class C : B { method k ( a , b , c ) { push 1 ; store v ; load v ; pop ; self ; get f ; pop ; self ; push 2 ; put f ; "
            + "null ; dup ; swap ; same ; pop ; push 1 ; dup ; add ; dup ; sub ; dup ; mul ; dup ; less ; pop ; push 4 ; push 2 ; div ; out ; "
            + "jump M ; M~ : new A ; push 3 ; call n 1 ; ret ; } field g ; }";
    private static final String MOD = "mod M after N needs O breaks P after Q { class D { field f ; } class E : D { } patch A { field g ; method p ( a ) { load a ; ret ; } "
            + "over m { arg 0 ; give 0 ; null ; ret ; } head m { L~ : null ; cancel ; } tail m { value ; set ; } ahead n call m { } behind n call m # 2 { arg 1 ; give 2 ; } "
            + "turn n call m to p ; turn n call m # 3 to p ; const n 1 to 2 ; const n -1 # 4 to -2 ; } patch B { } class F { } }";

    private SyntaxEdgeTest() {
    }

    public static void main(String[] args) {
        whole();
        textsEnd();
        noToken();
        anotherToken();
        leftOut();
        oneClassAtLeast();
        nothingBehind();
        ordersOfEachBody();
        wordsOfTwoKinds();
        wordAheadOfAColon();
        perhaps();
        House.finish();
    }

    /** Reads a text of these tokens as a game or mod; SYNTAX is due at the mark, or no fault without one. */
    private static void read(boolean game, String marked) {
        String text = marked.replace("~", "");
        int kind = text.indexOf('^') < 0 ? 0 : Marked.SYNTAX;
        if (game) {
            Marked.game(kind, text);
        } else {
            Marked.mod(kind, text);
        }
    }

    private static String join(List<String> tokens) {
        return String.join(" ", tokens);
    }

    private static boolean isLabel(String token) {
        return token.endsWith("~");
    }

    /** The first so many tokens. */
    private static List<String> first(String[] tokens, int many) {
        List<String> list = new ArrayList<>();
        for (int i = 0; i < many; i++) {
            list.add(tokens[i]);
        }
        return list;
    }

    /** A word counts as a LABEL only with its : behind it; without, it is itself what can't come. */
    private static void markAtLabelElseAt(List<String> tokens, String mark) {
        int last = tokens.size() - 1;
        if (last >= 0 && isLabel(tokens.get(last))) {
            tokens.set(last, "^" + tokens.get(last));
            tokens.add(mark);
        } else {
            tokens.add("^" + mark);
        }
    }

    private static void whole() {
        read(true, GAME);
        read(false, MOD);
        read(true, GAME.replace(" ", "\n"));
        read(false, MOD.replace(" ", "  \n "));
    }

    /** "SYNTAX: a token that can't come there ..: the text's length at the end". */
    private static void textsEnd() {
        for (boolean game : new boolean[] {true, false}) {
            String[] tokens = (game ? GAME : MOD).split(" ");
            int depth = 0;
            for (int many = 0; many < tokens.length; many++) {
                List<String> text = first(tokens, many);
                if (many > 0) {
                    depth += tokens[many - 1].equals("{") ? 1 : tokens[many - 1].equals("}") ? -1 : 0;
                }
                boolean complete = game && many > 0 && depth == 0 && tokens[many - 1].equals("}");
                if (complete) {
                    read(true, join(text));
                } else if (many > 0 && isLabel(tokens[many - 1])) {
                    read(game, join(first(tokens, many - 1)) + " ^" + tokens[many - 1]);
                } else {
                    read(game, join(text) + "^");
                    read(game, join(text) + "  \n^");
                }
            }
        }
    }

    /** "or is none (at its first byte ..)", at the place of each token. */
    private static void noToken() {
        for (boolean game : new boolean[] {true, false}) {
            String[] tokens = (game ? GAME : MOD).split(" ");
            for (int at = 0; at <= tokens.length; at++) {
                for (String none : new String[] {"@", "abcdefghijk", "1234567890", "-"}) {
                    List<String> text = first(tokens, at);
                    markAtLabelElseAt(text, none);
                    for (int i = at; i < tokens.length; i++) {
                        text.add(tokens[i]);
                    }
                    read(game, join(text));
                }
            }
        }
    }

    /** "a token that can't come there": a ) in the place of each token but those at which one can come. */
    private static void anotherToken() {
        for (boolean game : new boolean[] {true, false}) {
            String[] tokens = (game ? GAME : MOD).split(" ");
            for (int at = 0; at < tokens.length; at++) {
                boolean canCome = tokens[at].equals(")") || tokens[at].equals(",") || at > 0 && tokens[at - 1].equals("(");
                if (canCome) {
                    continue;
                }
                List<String> text = first(tokens, at);
                markAtLabelElseAt(text, ")");
                for (int i = at + 1; i < tokens.length; i++) {
                    text.add(tokens[i]);
                }
                read(game, join(text));
            }
        }
    }

    /** Each sign of the grammar, left out: what comes in its place can't. */
    private static void leftOut() {
        read(true, "class A ^field f ; }");
        read(true, "class A { field f ^}");
        read(true, "class A { method m ^) { } }");
        read(true, "class A { method m ( ^{ } }");
        read(true, "class A { method m ( a ^{ } }");
        read(true, "class A { method m ( a ^b ) { } }");
        read(true, "class A { method m ( ) ^null ; ret ; } }");
        read(true, "class A { method m ( ) { null ^ret ; } }");
        read(true, "class A { method m ( ) { null ; ret ; ^method n ( ) { } }");
        read(true, "class A { method m ( ) { null ; ret ; } ^class B { }");
        read(false, "mod M ^class B { } }");
        read(false, "mod M { patch A ^head m { } } }");
        read(false, "mod M { patch A { ahead n ^m { } } }");
        read(false, "mod M { patch A { ahead n call m ^1 { } } }");
        read(false, "mod M { patch A { turn n call m ^p ; } }");
        read(false, "mod M { patch A { turn n call m to p ^} }");
        read(false, "mod M { patch A { turn n call m to ^; } }");
        read(false, "mod M { patch A { turn n call to ^p ; } }");
        read(false, "mod M { patch A { const n 1 to ^; } }");
        read(false, "mod M { patch A { const n ^to 2 ; } }");
        read(false, "mod M { patch A { const n 1 ^2 ; } }");
        read(false, "mod M { patch A { const n 1 to 2 ^} }");
        read(false, "mod M { patch A { ^m { } } }");
    }

    /** "GAME: { CLASS }*, one at least." */
    private static void oneClassAtLeast() {
        read(true, "^");
        read(true, " \n ^");
        read(true, "class A { }");
        read(true, "class A { } class B { }");
        // A mod needs none.
        read(false, "mod M { }");
        read(false, "^");
    }

    private static void nothingBehind() {
        for (String more : new String[] {"}", "{", ";", "field f;", "method m(){}", "patch A{}", "mod M{}", "1", "x", "#"}) {
            read(true, "class A { } ^" + more);
            if (!more.isEmpty()) {
                read(false, "mod M { } ^" + more);
            }
        }
        read(false, "mod M { } ^class A { }");
        read(true, "class A { } \n ");
        read(false, "mod M { } \n ");
    }

    /** "in bodies of over, head, tail, ahead, behind besides 'arg' | 'give', but of the last four no 'ret'; of head 'cancel'; of tail 'value' | 'set'." */
    private static void ordersOfEachBody() {
        String[] bodies = {"method k() ", "over m ", "head m ", "tail m ", "ahead n call m ", "behind n call m "};
        String[] orders = {"ret", "arg 0", "give 0", "cancel", "value", "set"};
        String[] allowed = {"100000", "111000", "011100", "011011", "011000", "011000"};
        for (int b = 0; b < bodies.length; b++) {
            for (int o = 0; o < orders.length; o++) {
                boolean may = allowed[b].charAt(o) == '1';
                // It is come to by no way, so that the pile does not matter.
                read(false, "mod M { patch A { " + bodies[b] + "{ L~ : jump L ; " + (may ? "" : "^") + orders[o] + " ; jump L ; } } }");
            }
            for (String no : new String[] {"TURN", "turn", "PUSH 1", "halt", "field f", "class"}) {
                read(false, "mod M { patch A { " + bodies[b] + "{ ^" + no + " ; } } }");
            }
        }
        // What an ORDER of another kind of BODY is can be a LABEL.
        read(false, "mod M { patch A { head m { ret~ : null ; value~ : pop ; } over m { cancel~ : jump cancel ; } } }");
    }

    /** "Words of two kinds of things may be alike; no WORD is barred". */
    private static void wordsOfTwoKinds() {
        String[] words = {"class", "field", "method", "mod", "patch", "over", "head", "tail", "ahead", "behind", "turn", "const", "call", "to", "after",
            "needs", "breaks", "push", "null", "load", "store", "ret", "arg", "give", "cancel", "value", "set", "main"};
        for (String w : words) {
            read(true, "class W { field W ; method W ( W ) { W~ : load W ; store W ; self ; null ; put W ; new W ; call W 0 ; if W ; jump W ; } } class x : W { }".replace("W", w));
            read(false, "mod W after W needs W breaks W { class W : W { field W ; } patch W { field W ; method W ( W ) { null ; ret ; } head W { W~ : jump W ; } "
                    .replace("W", w) + "ahead W call W { } turn W call W to W ; const W 1 to 2 ; } }".replace("W", w));
        }
    }

    /** "a WORD ahead of a : is a LABEL; another one that is no ORDER of this kind of BODY can't come there". */
    private static void wordAheadOfAColon() {
        read(true, "class A { method m ( ) { push~ : push 1 ; ret~ : ret ; } }");
        read(true, "class A { method m ( ) { ^foo ; } }");
        read(true, "class A { method m ( ) { foo~ : ^bar ; } }");
        read(true, "class A { method m ( ) { foo~ : ^bar : null ; ret ; } }");
        read(true, "class A { method m ( ) { foo~ : ^; } }");
        read(true, "class A { method m ( ) { foo~ : ^} }");
        read(true, "class A { method m ( ) { ^1 : null ; ret ; } }");
        read(true, "class A { method m ( ) { ^: null ; ret ; } }");
    }

    /** "[ ] perhaps, { }* any number of times": none, one, several. */
    private static void perhaps() {
        read(true, "class A { } class B : A { }");
        read(true, "class A { } class B : ^: A { }");
        read(true, "class A { } class B : A ^A { }");
        read(true, "class A { method m ( ) { L~ : jump L ; } method n ( a ) { L~ : jump L ; } method k ( a , b ) { L~ : jump L ; } }");
        read(true, "class A { method m ( ^, a ) { } }");
        read(true, "class A { method m ( a , ^) { } }");
        read(true, "class A { method m ( a , ^, b ) { } }");
        read(false, "mod M after N { }");
        read(false, "mod M after N ^N { }");
        read(false, "mod M after ^1 { }");
        read(false, "mod M { patch A { behind n call m { } behind n call m # 1 { } } }");
        read(false, "mod M { patch A { behind n call m # 1 ^# 1 { } } }");
        read(false, "mod M { patch A { behind n call m # ^{ } } }");
        read(false, "mod M { patch A { behind n call m # ^x { } } }");
        read(false, "mod M { patch A { const n 1 # ^to 2 ; } }");
        read(false, "mod M { patch A { over m ^call m { } } }");
        read(false, "mod M { patch A { turn n ^to p ; } }");
    }
}
