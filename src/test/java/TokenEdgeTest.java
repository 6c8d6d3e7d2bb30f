/** The boundaries of the tokens of Part I, a sentence of the document a method. */
public final class TokenEdgeTest {
    private TokenEdgeTest() {
    }

    public static void main(String[] args) {
        everyByteInAText();
        everyByteOfAWord();
        firstByteOfAWord();
        tenAtMost();
        allTenCount();
        everyLetterCounts();
        shortestWords();
        asManyTokensAsBytes();
        numbersAreNoWords();
        oneToNineDigits();
        minusDirectlyAhead();
        numbersByTheirValue();
        blanks();
        noneNeeded();
        asItsTurnComes();
        House.finish();
    }

    private static boolean isLetter(int c) {
        return c >= 'a' && c <= 'z' || c >= 'A' && c <= 'Z';
    }

    private static boolean isDigit(int c) {
        return c >= '0' && c <= '9';
    }

    /** Letters, digits, the signs { } ( ) ; : , # and blanks (32, 10): every other byte is no token. */
    private static void everyByteInAText() {
        for (int c = 0; c < 256; c++) {
            String byteOf = String.valueOf((char) c);
            boolean joins = isLetter(c) || isDigit(c) || c == ' ' || c == '\n';
            if (joins) {
                Marked.game(0, "class A" + byteOf + "{}");
            } else if (c == '{' || c == ':') {
                Marked.game(Marked.SYNTAX, "class A" + byteOf + "^{}");
            } else if (c != '^') {
                Marked.game(Marked.SYNTAX, "class A^" + byteOf + "{}");
            }
        }
    }

    /** "a letter, then letters and digits". */
    private static void everyByteOfAWord() {
        for (int c = 0; c < 256; c++) {
            if (isLetter(c) || isDigit(c)) {
                Marked.game(0, "class b" + (char) c + "{} class b{} class b" + (char) c + "a{}");
                Marked.game(Marked.NAME, "class b" + (char) c + "{} class ^b" + (char) c + "{}");
            }
        }
    }

    private static void firstByteOfAWord() {
        for (int c = 33; c < 127; c++) {
            if (isLetter(c)) {
                Marked.game(0, "class " + (char) c + "{}");
            } else if (c != '^') {
                Marked.game(Marked.SYNTAX, "class ^" + (char) c + "{}");
            }
        }
        Marked.game(Marked.SYNTAX, "class ^1a{}");
        Marked.game(Marked.SYNTAX, "class ^-a{}");
        Marked.game(Marked.SYNTAX, "class ^_a{}");
    }

    /** "10 at most"; "a longer WORD .. is none, at its first byte". */
    private static void tenAtMost() {
        for (String word : new String[] {"a", "abcdefghi", "abcdefghij", "a123456789", "ZZZZZZZZZZ"}) {
            Marked.game(0, "class " + word + "{ field " + word + "; method " + word + "(" + word + "){ " + word + ": load " + word + "; ret; } }");
        }
        for (String word : new String[] {"abcdefghijk", "a1234567890", "ZZZZZZZZZZZ", "a".repeat(500)}) {
            Marked.game(Marked.SYNTAX, "class ^" + word + "{}");
            Marked.game(Marked.SYNTAX, "class A { field ^" + word + "; }");
            Marked.game(Marked.SYNTAX, "class A { method ^" + word + "() { } }");
            Marked.game(Marked.SYNTAX, "class A { method m(^" + word + ") { } }");
            Marked.body(Marked.SYNTAX, "{ ^" + word + ": null; ret; }");
            Marked.body(Marked.SYNTAX, "{ jump ^" + word + "; }");
            Marked.mod(Marked.SYNTAX, "mod ^" + word + " { }");
            Marked.mod(Marked.SYNTAX, "mod M after ^" + word + " { }");
            Marked.mod(Marked.SYNTAX, "^" + word + " M { }");
        }
        // At the text's end, too.
        Marked.game(Marked.SYNTAX, "class abcdefghij^");
        Marked.game(Marked.SYNTAX, "class ^abcdefghijk");
    }

    private static void allTenCount() {
        Marked.game(0, "class abcdefghij{} class abcdefghik{} class abcdefghi{} class bbcdefghij{} class Abcdefghij{} class abcdeFghij{}");
        Marked.game(Marked.NAME, "class abcdefghij{} class ^abcdefghij{}");
    }

    /** Words of two that differ in either one are two: as the LABELS of a body, which must not be told twice. */
    private static void everyLetterCounts() {
        String letters = "abcdefghijklmnopqrstuvwxyzABCDEFGHIJKLMNOPQRSTUVWXYZ";
        String all = letters + "0123456789";
        for (char last : all.toCharArray()) {
            StringBuilder body = new StringBuilder();
            for (char first : letters.toCharArray()) {
                body.append(first).append(last).append(":jump ").append(first).append(last).append(';');
            }
            Marked.game(0, "class A{method m(){" + body + "}}");
        }
        for (char first : letters.toCharArray()) {
            StringBuilder body = new StringBuilder();
            for (char last : all.substring(2).toCharArray()) {
                body.append(first).append(last).append(":jump ").append(first).append(last).append(';');
            }
            Marked.game(0, "class A{method m(){" + body + "}}");
        }
    }

    /** A word of the one letter a is a word wherever one can come. */
    private static void shortestWords() {
        WeaveHouse house = Mods.of("class a { field a; method a(a) { a: load a; if a; self; get a; pop; new a; null; call a 1; store a; load a; ret; } }",
                "mod b { class c : a { } }", "mod a needs b after b { class b : c { } patch a { head a { a: null; if a; null; store a; load a; pop; } ahead a call a { } turn a call a to a; } }");
        Mods.whys(house, 0, 0);
        House.due("the class above", house.klass(1, 1), 0);
        House.due("the turned call", house.order(0, 0, 13, 0), 27);
    }

    /** 4000 tokens of a byte each. */
    private static void asManyTokensAsBytes() {
        for (String sign : new String[] {"{", ";", "1"}) {
            Marked.game(Marked.SYNTAX, "^" + (sign.equals("1") ? "1 " : sign + sign).repeat(2000));
        }
        Marked.game(Marked.SYNTAX, "class A{" + "}^" + "}".repeat(3991));
        Marked.game(Marked.SYNTAX, "class A{method m(){^" + ";".repeat(3981));
    }

    /** A NUMBER is no WORD, not even one that a program may hold a word's letters as. */
    private static void numbersAreNoWords() {
        Marked.game(Marked.SYNTAX, "class ^" + lettersOf("A") + "{}");
        Marked.mod(Marked.SYNTAX, "^" + lettersOf("mod") + " M{}");
        Marked.patch(Marked.SYNTAX, "^" + lettersOf("over") + " m{L:jump L;}");
        Marked.patch(Marked.SYNTAX, "^" + lettersOf("head") + " m{}");
        Marked.patch(Marked.SYNTAX, "ahead m ^" + lettersOf("call") + " n{}");
        Marked.patch(Marked.SYNTAX, "turn m call n ^" + lettersOf("to") + " k;");
        Marked.patch(Marked.SYNTAX, "const m 1 ^" + lettersOf("to") + " 2;");
        for (String order : new String[] {"self", "null", "dup", "pop", "add", "ret", "out"}) {
            Marked.body(Marked.SYNTAX, "{null;null;^" + lettersOf(order) + ";null;ret;}");
        }
        Marked.body(Marked.SYNTAX, "{null;^" + lettersOf("if") + " L;L:null;ret;}");
    }

    /** The letters as digits to the base of 64, a being 1. */
    private static int lettersOf(String word) {
        int number = 0;
        for (char c : word.toCharArray()) {
            number = number * 64 + (c >= 'a' ? c - 'a' + 1 : c - 'A' + 27);
        }
        return number;
    }

    /** "1 to 9 digits"; "a longer .. NUMBER is none, at its first byte". */
    private static void oneToNineDigits() {
        for (String number : new String[] {"0", "9", "12345678", "999999999", "000000000", "-0", "-9", "-999999999", "-000000001"}) {
            pushed(number, Integer.parseInt(number));
            Marked.body(0, "{ push " + number + "; ret; }");
        }
        for (String number : new String[] {"1000000000", "0000000000", "2147483648", "-1000000000", "-0000000000", "9".repeat(300)}) {
            Marked.body(Marked.SYNTAX, "{ push ^" + number + "; ret; }");
            Marked.body(Marked.SYNTAX, "{ self; call m ^" + number + "; ret; }");
            Marked.patch(Marked.SYNTAX, "const m ^" + number + " to 1;");
            Marked.patch(Marked.SYNTAX, "const m 1 to ^" + number + ";");
            Marked.patch(Marked.SYNTAX, "const m 1 # ^" + number + " to 1;");
            Marked.patch(Marked.SYNTAX, "ahead m call n # ^" + number + " { }");
        }
        Marked.game(Marked.SYNTAX, "class A { method m() { push 123456789^");
        Marked.game(Marked.SYNTAX, "class A { method m() { push ^1234567890");
    }

    private static void pushed(String number, int due) {
        WeaveHouse house = House.woven(House.mainGame("push " + number + "; ret;"));
        House.due("the number " + number, house.order(0, 0, 0, 2), due);
        house.go(2);
        House.due("pushed " + number, house.state(10), due);
    }

    /** "perhaps - directly ahead". */
    private static void minusDirectlyAhead() {
        Marked.body(0, "{ push -1; ret; }");
        Marked.body(0, "{ push-1;ret; }");
        Marked.body(Marked.SYNTAX, "{ push ^- 1; ret; }");
        Marked.body(Marked.SYNTAX, "{ push ^-\n1; ret; }");
        Marked.body(Marked.SYNTAX, "{ push ^--1; ret; }");
        Marked.body(Marked.SYNTAX, "{ push ^-; ret; }");
        Marked.body(Marked.SYNTAX, "{ push ^-a; ret; }");
        Marked.body(Marked.SYNTAX, "{ push ^+1; ret; }");
        Marked.body(Marked.SYNTAX, "{ push 1^-; ret; }");
        Marked.body(Marked.SYNTAX, "{ push 1^-1; ret; }");
        Marked.game(Marked.SYNTAX, "class A { method m() { push ^-");
        Marked.game(Marked.SYNTAX, "class A { method m() { push -1^");
    }

    private static void numbersByTheirValue() {
        WeaveHouse house = House.woven(House.mainGame("push 007; push -0; add; push 7; add; ret;"),
                "mod M { patch A { const main 7 # 02 to -008; const main 0 to 00012; } }");
        House.due("both are there", house.told(0, 0), 0);
        House.due("the first seven", house.order(0, 0, 0, 2), 7);
        House.due("no 0 any more", house.order(0, 0, 1, 2), 12);
        House.due("the second seven", house.order(0, 0, 3, 2), -8);
    }

    /** "Between them blanks (32, 10)." */
    private static void blanks() {
        Marked.game(0, "\n \n class\nA\n\n{ \n} \n");
        Marked.game(Marked.SYNTAX, "class^\tA{}");
        Marked.game(Marked.SYNTAX, "class A{}^\r\n");
        Marked.game(Marked.SYNTAX, "class A{}^\0");
        Marked.game(Marked.SYNTAX, "class A{^\u000b}");
        Marked.game(Marked.SYNTAX, "class A{^\u001f}");
        Marked.game(Marked.SYNTAX, "class A{^\u00a0}");
        // A blank within a word or number makes two of it.
        Marked.game(Marked.SYNTAX, "^cla ss A{}");
        Marked.game(Marked.SYNTAX, "class A ^B{}");
        Marked.body(Marked.SYNTAX, "{ push 1 ^2; ret; }");
        Marked.game(Marked.SYNTAX, "^classA{}");
    }

    private static void noneNeeded() {
        Marked.game(0, "class A{field f;method m(a,b){L:push-1;if L;load a;get f;out;self;load b;call m 1;ret;}}class B:A{}");
        Marked.mod(0, "mod M{patch A{ahead m call n#1{}const m-1#1to-2;turn m call n#2to k;const m 1to 2;}}");
        Marked.body(Marked.SYNTAX, "{push 1^x;ret;}");
        Marked.body(Marked.SYNTAX, "{^push1;ret;}");
    }

    /** "a token looked at as its turn comes": what is no token further on is not noticed ahead of another fault. */
    private static void asItsTurnComes() {
        Marked.game(Marked.SYNTAX, "class ^; @");
        Marked.game(Marked.NAME, "class A{} class ^A @");
        Marked.game(Marked.NAME, "class A{} class B:^C @");
        Marked.game(Marked.NAME, "class A{field f;field ^f@");
        Marked.game(Marked.MUCH, House.many(1, 16, "class A%{}") + "class ^B abcdefghijk");
        Marked.body(Marked.NAME, "{ jump ^L; } @");
        Marked.body(Marked.MUCH, "{ self; call m ^8 @");
        Marked.game(Marked.SYNTAX, "class A { method m() { } } ^@");
        Marked.game(Marked.SYNTAX, "class A ^@ class A{}");
        Marked.game(Marked.SYNTAX, "^@");
    }
}
