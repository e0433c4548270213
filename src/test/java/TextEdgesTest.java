/** What the document bounds of the tape and of texts (its part 1, promises 1 to 4): on each bound, and beyond it. */
public final class TextEdgesTest {
    private static final String SOME = "symbol a 0 1;symbol f 2 2;symbol g 1 1;term f(?0,g(a));rule g(g(?0)) to ?0;"
        + "entry f(?1,?1);entry g(?0);room 3;";

    private TextEdgesTest() { }

    public static void main(String[] args) {
        newObjectHasNothing();
        tapeOf700Bytes();
        feedBeyond700();
        textOf700Bytes();
        bankOfSoManyBytes();
        bankIsTheFirstBytes();
        tapeIsEmptyThen();
        allAnew();
        allAnewOfTextItself();
        termsAsTheyCome();
        blanksBetweenTokens();
        bytesThatAreTokens();
        bytesWithinWords();
        bytesBehindNumbers();
        wordsOfClauses();
        tokensThatCantStand();
        textThatEndsTooSoon();
        numbersTooMuch();
        namesTooMuch();
        symbolsTooMany();
        rulesTooMany();
        entriesTooMany();
        termsTooDeep();
        namesNotTold();
        toldAlready();
        rulesThatAreNone();
        rulesOfSizeTwelve();
        entriesTwice();
        firstAlongTheText();
        leastOfOneToken();
        faultIsTheLatest();
        Checks.end();
    }

    /** A bank in use: with acts, bindings, a memo, refused calls, an image. */
    private static TermBank used() {
        TermBank bank = new TermBank();
        Checks.told(bank, SOME);
        bank.bind(5, 1);
        bank.normal(2);
        bank.variable(8);
        bank.image();
        bank.normal(4);
        bank.variable(6);
        bank.unify(2, 3);
        return bank;
    }

    /** A text with a fault: which, where; all stays but STATUS 0, and the tape is empty. */
    private static void faulty(String text, int code, int place) {
        TermBank bank = used();
        TermBank twin = used();
        String what = "'" + text + "'";
        Checks.due("bank of " + what, Checks.told(bank, text), code);
        Checks.due("fault of " + what, bank.fault(), place);
        for (int k = 0; k < 4; k++) {
            Checks.due("STATUS " + k + " of " + what, bank.count(13 + k), twin.count(13 + k) + (k == 0 ? 1 : 0));
        }
        Checks.due("tape behind " + what, bank.count(12), 0);
        Checks.due("acts behind " + what, bank.count(11), twin.count(11));
        Twins.same(what, Twins.picture(bank), Twins.picture(twin));
        Twins.sameBehind(what, bank, twin);
    }

    /** A text without a fault: what is there then. */
    private static TermBank fine(String text, String told) {
        TermBank bank = used();
        Checks.due("bank of '" + text + "'", Checks.told(bank, text), 0);
        Checks.due("fault of '" + text + "'", bank.fault(), -1);
        Checks.due("STATUS 0 of '" + text + "'", bank.count(13), 0);
        Twins.same("told by '" + text + "'", Twins.told(bank), told);
        return bank;
    }

    private static String repeated(String text, int times) {
        return new String(new char[times]).replace("\0", text);
    }

    /** "No SYMBOLS, no TERMS." And ROOM is 4 without. */
    private static void newObjectHasNothing() {
        TermBank bank = new TermBank();
        Twins.same("a new object", Twins.picture(bank),
            "symbols; terms; rules; entries; room 4\ncounts 0 0 0 0 4 0 0 0 0 0 -1\nmemo\nbound -1 -1 -1 -1 -1 -1 -1 -1");
        for (int what = 11; what < 17; what++) {
            Checks.due("a new object's count(" + what + ")", bank.count(what), 0);
        }
        Checks.due("a new object's fault()", bank.fault(), -1);
        Checks.due("a new object's undo()", bank.undo(), -1);
        Checks.due("a new object's restore()", bank.restore() ? 1 : 0, 0);
        Checks.due("the restore() changes nothing", bank.count(14), 0);
    }

    /** "Twenty bytes come behind the tape, of each number the highest first: how many it has" */
    private static void tapeOf700Bytes() {
        TermBank bank = new TermBank();
        for (int k = 1; k <= 35; k++) {
            Checks.due("feed no. " + k, bank.feed(-1, Integer.MIN_VALUE, Integer.MAX_VALUE, 0, k), 20 * k);
            Checks.due("bytes of the tape", bank.count(12), 20 * k);
        }
        // Each byte of the five numbers, from the highest to the lowest, in its own place.
        String text = "term ?0;term ?1; ter";
        int[] places = {0, 0, 0, 0, 4, 5, 6, 7, 8, 8, 8, 8, 12, 13, 14, 15, 16, 17, 17, 17};
        for (int k = 0; k < 20; k++) {
            TermBank other = new TermBank();
            int[] n = Checks.numbers(text.substring(0, k) + "!" + text.substring(k + 1));
            other.feed(n[0], n[1], n[2], n[3], n[4]);
            Checks.due("bank of a bad byte " + k, other.bank(20), 1);
            Checks.due("fault of a bad byte " + k, other.fault(), places[k]);
        }
    }

    /** "NONE, and none come, if it would have more than 700" */
    private static void feedBeyond700() {
        TermBank bank = new TermBank();
        Checks.feed(bank, repeated("term ?0;", 87) + "room");
        Checks.due("700 bytes", bank.count(12), 700);
        for (int k = 0; k < 3; k++) {
            Checks.due("feed beyond 700", bank.feed(0x2020373b, 0x21212121, 0, -1, 5), -1);
            Checks.due("700 bytes still", bank.count(12), 700);
        }
        Checks.due("no STATUS by it", bank.count(13) + bank.count(14) + bank.count(15) + bank.count(16), 0);
        Checks.due("the bytes are as they were", bank.bank(700), 1);
        Checks.due("the last word lacks its number", bank.fault(), 700);
        Checks.due("there is room again", bank.feed(0, 0, 0, 0, 0), 20);
    }

    /** "A TEXT of at most 700 bytes tells a BANK." */
    private static void textOf700Bytes() {
        String text = repeated("term ?0;", 86) + "term    ?1 ;";
        Checks.due("its length", text.length(), 700);
        fine(text, "symbols; terms ?0 ?1; rules; entries; room 4");
        TermBank bank = new TermBank();
        Checks.feed(bank, text);
        Checks.due("without its last sign", bank.bank(699), 1);
        Checks.due("it ends too soon there", bank.fault(), 699);
        fine(repeated(" ", 700), "symbols; terms; rules; entries; room 4");
        fine(repeated("\n", 692) + "term ?3;", "symbols; terms ?3; rules; entries; room 4");
        faulty(repeated(" ", 699) + "!", 1, 699);
        faulty(repeated("a", 700), 1, 0);
        faulty("room " + repeated("0", 695), 2, 5);
    }

    /** "IllegalArgumentException: the tape has not so many, n below 0 (nothing changes)." */
    private static void bankOfSoManyBytes() {
        for (int n : new int[] {-1, 21, Integer.MIN_VALUE, Integer.MAX_VALUE}) {
            Twins.illegal("bank(" + n + ")", () -> {
                TermBank bank = used();
                Checks.told(bank, "!");
                Checks.feed(bank, "term ?4;");
                return bank;
            }, bank -> bank.bank(n));
        }
        Twins.illegal("bank(1) of an empty tape", TextEdgesTest::used, bank -> bank.bank(1));
        TermBank bank = used();
        Checks.feed(bank, "term ?4;");
        Checks.illegal("bank(21)", () -> bank.bank(21));
        Checks.illegal("bank(-1)", () -> bank.bank(-1));
        Checks.due("then bank(20), all of the tape", bank.bank(20), 0);
        Checks.due("it told a term", bank.term(0, 1), 4);
        Checks.due("bank(0) of an empty tape", bank.bank(0), 0);
        Checks.due("it told none", bank.count(1), 0);
    }

    /** "The tape's first n bytes" */
    private static void bankIsTheFirstBytes() {
        int[] due = {1, 1, 1, 1, 1, 1, 1, 1, 0, 0, 1, 1, 1, 1, 1, 1, 1, 0};
        int[] place = {0, 0, 0, 0, 4, 5, 6, 7, -1, -1, 9, 9, 9, 13, 14, 15, 16, -1};
        for (int n = 1; n < due.length; n++) {
            TermBank bank = new TermBank();
            Checks.feed(bank, "term ?0; term ?1;");
            Checks.due("bank(" + n + ")", bank.bank(n), due[n]);
            Checks.due("its fault", bank.fault(), place[n]);
            Checks.due("its terms", bank.count(1), n < 8 ? 0 : n < 10 ? 1 : n < 17 ? 0 : 2);
            Checks.due("no byte is left", bank.count(12), 0);
        }
    }

    /** "(it is empty then)": with a fault, too. */
    private static void tapeIsEmptyThen() {
        TermBank bank = new TermBank();
        Checks.feed(bank, "term ?0;term ?1;");
        bank.bank(8);
        Checks.due("the tape is empty", bank.count(12), 0);
        Checks.illegal("nothing of it is left", () -> bank.bank(1));
        Checks.due("the next bytes are the first ones", Checks.told(bank, "term ?2;"), 0);
        Checks.due("told by them", bank.term(0, 1), 2);
        Checks.feed(bank, "term ?0;!");
        Checks.due("a fault", bank.bank(9), 1);
        Checks.due("the tape is empty", bank.count(12), 0);
        Checks.due("the next bytes are the first ones again", Checks.told(bank, "term ?5;"), 0);
        Checks.due("told by them again", bank.term(0, 1), 5);
    }

    /** "are a BANK, all anew: 0 .. ACTS, the image are gone." */
    private static void allAnew() {
        TermBank bank = used();
        Checks.due("a bank without anything", bank.bank(0), 0);
        Twins.same("all anew", Twins.picture(bank),
            "symbols; terms; rules; entries; room 4\ncounts 0 0 0 0 4 0 0 0 0 0 -1\nmemo\nbound -1 -1 -1 -1 -1 -1 -1 -1");
        Checks.due("no acts", bank.count(11), 0);
        Checks.due("none to undo", bank.undo(), -1);
        Checks.due("no image", bank.restore() ? 1 : 0, 0);
        Checks.due("acts come again", bank.variable(3), 0);
        Checks.due("one", bank.count(11), 1);
        Checks.due("undone", bank.undo(), 0);
    }

    /** What an earlier text has told is not told any more: no name, no room, no entry, no count of clauses. */
    private static void allAnewOfTextItself() {
        fine("symbol f 2 2;symbol a 0 1;room 9;entry f(?1,?1);",
            "symbols f22 a01; terms ?1 f(0,0); rules; entries 1; room 9");
        faulty("term a;", 3, 5);
        TermBank bank = new TermBank();
        String symbols = tenSymbols();
        for (int k = 0; k < 3; k++) {
            Checks.due("ten symbols again", Checks.told(bank, symbols + "room 2;"), 0);
            Checks.due("ten", bank.count(0), 10);
        }
        Checks.due("room without", Checks.told(bank, symbols), 0);
        Checks.due("is 4", bank.count(4), 4);
        // A text with a fault that told a room and symbols tells nothing to the next one.
        Checks.due("a fault", Checks.told(bank, "room 7;symbol q 0 1;!"), 1);
        Checks.due("a room then", Checks.told(bank, "room 6;symbol q 0 1;"), 0);
        Checks.due("it is told", bank.count(4), 6);
    }

    /** "TERMS are numbered as they come (.. its ARGUMENTS come ahead of it, the first one first; one that is there doesn't)" */
    private static void termsAsTheyCome() {
        fine("symbol h 3 1;symbol g 1 1;symbol a 0 1;term h(g(?2),h(?1,?2,a),g(?1));term g(?2);term ?0;",
            "symbols h31 g11 a01; terms ?2 g(0) ?1 a h(2,0,3) g(2) h(1,4,5) ?0; rules; entries; room 4");
        fine("symbol g 1 1;symbol f 2 1;rule f(g(?1),?0) to f(?1,?0);entry g(?0);term f(?0,?0);",
            "symbols g11 f21; terms ?1 g(0) ?0 f(1,2) f(0,2) g(2) f(2,2); rules 3>4; entries 5; room 4");
        fine("term ?7;term ?0;term ?7;", "symbols; terms ?7 ?0; rules; entries; room 4");
    }

    /** "blanks (32, 10) between them, which count for nothing": as many as can be, and none but between words, between NUMBERS. */
    private static void blanksBetweenTokens() {
        String[] tokens = {"symbol", "f", "2", "3", ";", "symbol", "a", "0", "1", ";", "rule", "f", "(", "?", "7", ",", "a", ")", "to", "?",
            "7", ";", "entry", "f", "(", "f", "(", "a", ",", "?", "0", ")", ",", "?", "7", ")", ";", "room", "6", ";", "term", "?", "1", ";"};
        String told = "symbols f23 a01; terms ?7 a f(0,1) ?0 f(1,3) f(4,0) ?1; rules 2>0; entries 5; room 6";
        for (String blank : new String[] {" ", "\n", "  ", " \n", "\n\n\n"}) {
            StringBuilder text = new StringBuilder();
            for (String token : tokens) {
                text.append(blank).append(token);
            }
            fine(text.toString(), told);
            fine(text + blank, told);
        }
        fine("symbol f2 3;symbol a0 1;rule f(?7,a)to?7;entry f(f(a,?0),?7);room6;term?1;", told);
        faulty("symbolf 2 3;", 1, 0);
        faulty("symbol f 23;", 2, 9);
        faulty("symbol f2 3;entryf(?0,?1);", 1, 12);
        faulty("symbol f 2 3;ru le f(?0,?0) to ?0;", 1, 13);
        faulty("symbol f 2 3;rule f(?0,?0) t o ?0;", 1, 27);
        faulty("room 1 0;", 1, 7);
    }

    /** "words (a .. z ..), NUMBERS (0 .. 9 ..), signs ? ( ) , ; and blanks (32, 10)": behind a clause only a blank can stand. */
    private static void bytesThatAreTokens() {
        for (int letter = 0; letter < 256; letter++) {
            TermBank bank = new TermBank();
            boolean blank = letter == 32 || letter == 10;
            Checks.due("byte " + letter + " behind a clause", Checks.told(bank, "term ?0;" + (char) letter), blank ? 0 : 1);
            Checks.due("its fault", bank.fault(), blank ? -1 : 8);
        }
    }

    /** "words (a .. z, the longest row)" */
    private static void bytesWithinWords() {
        for (int letter = 0; letter < 256; letter++) {
            TermBank bank = new TermBank();
            boolean blank = letter == 32 || letter == 10;
            boolean isLetter = letter >= 97 && letter <= 122;
            Checks.due("byte " + letter + " behind a word", Checks.told(bank, "term" + (char) letter + "?0;"), blank ? 0 : 1);
            Checks.due("its fault", bank.fault(), blank ? -1 : isLetter ? 0 : letter == '?' ? 5 : 4);
            // A name of one letter.
            TermBank other = new TermBank();
            Checks.due("byte " + letter + " as a name", Checks.told(other, "symbol " + (char) letter + " 0 1;"), isLetter ? 0 : 1);
            Checks.due("its fault", other.fault(), isLetter ? -1 : blank ? 9 : 7);
        }
    }

    /** "NUMBERS (0 .. 9, the longest row)", "a NUMBER of 2 digits or more" */
    private static void bytesBehindNumbers() {
        for (int letter = 0; letter < 256; letter++) {
            TermBank bank = new TermBank();
            boolean blank = letter == 32 || letter == 10;
            boolean digit = letter >= 48 && letter <= 57;
            Checks.due("byte " + letter + " behind a number", Checks.told(bank, "room 0" + (char) letter + ";"),
                blank ? 0 : digit ? 2 : 1);
            Checks.due("its fault", bank.fault(), blank ? -1 : digit ? 5 : letter == ';' ? 7 : 6);
            TermBank other = new TermBank();
            Checks.due("byte " + letter + " as a number", Checks.told(other, "room " + (char) letter + ";"), digit ? 0 : 1);
            Checks.due("its fault", other.fault(), digit ? -1 : blank ? 6 : 5);
        }
    }

    /** "CLAUSE: ('symbol' .. | 'term' .. | 'rule' .. 'to' .. | 'entry' .. | 'room' ..) ';'" */
    private static void wordsOfClauses() {
        String[] words = {"symbol", "term", "rule", "entry", "room"};
        String[] rests = {" z 0 1;", " ?5;", " f(?0) to ?0;", " ?6;", " 7;"};
        String before = "symbol f 1 1;";
        for (int k = 0; k < words.length; k++) {
            String word = words[k];
            String rest = rests[k];
            Checks.due("'" + word + "'", Checks.told(new TermBank(), before + word + rest), 0);
            faulty(before + word.substring(1) + rest, 1, 13);
            faulty(before + word.substring(0, word.length() - 1) + rest, 1, 13);
            faulty(before + word + "s" + rest, 1, 13);
            faulty(before + "s" + word + rest, 1, 13);
            for (int i = 0; i < word.length(); i++) {
                faulty(before + word.substring(0, i) + "x" + word.substring(i + 1) + rest, 1, 13);
                faulty(before + word.substring(0, i) + Character.toUpperCase(word.charAt(i)) + word.substring(i + 1) + rest, 1, 13);
            }
        }
        for (String to : new String[] {"t", "o", "too", "ot", "tt", "oo", "a", "f", "rule"}) {
            faulty(before + "rule f(?0) " + to + " ?0;", 1, 24);
        }
        faulty(before + "to;", 1, 13);
        faulty(before + "f;", 1, 13);
        faulty(before + "?0;", 1, 13);
    }

    /** "1 a TOKEN that can't stand there": each place of each clause with another token in it. */
    private static void tokensThatCantStand() {
        String[] tokens = {"symbol", " ", "n", " ", "1", " ", "2", ";", "rule", " ", "n", "(", "?", "0", ")", " ", "to", " ", "?", "0",
            ";", "entry", " ", "n", "(", "n", "(", "?", "1", ")", ")", ";", "room", " ", "5", ";", "term", " ", "?", "2", ";"};
        String[] others = {"(", ")", ",", ";", "?", "3", "n", "!"};
        StringBuilder before = new StringBuilder();
        for (int k = 0; k < tokens.length; k++) {
            for (String other : others) {
                if (!tokens[k].equals(" ") && !canStand(tokens[k], k, other)) {
                    faulty(before + " " + other, 1, before.length() + 1);
                }
            }
            before.append(tokens[k]);
        }
        Checks.due("all in its place", Checks.told(new TermBank(), before.toString()), 0);
        String f = "symbol f 3 1;symbol c 0 1;";
        faulty(f + "term f(c,c);", 1, 36);
        faulty(f + "term f(c);", 1, 34);
        faulty(f + "term f(c,c,c,c);", 1, 38);
        faulty(f + "term f();", 1, 33);
        faulty(f + "term f(c,,c);", 1, 35);
        faulty(f + "term f(c c,c);", 1, 35);
        faulty(f + "term c();", 1, 32);
        faulty(f + "term c c;", 1, 33);
        faulty(f + "term f c,c,c;", 1, 33);
        faulty(f + "term ?0(c);", 1, 33);
    }

    /** Whether another token can stand in the place of one: a name or ? where a term begins, a number where one is. */
    private static boolean canStand(String token, int k, String other) {
        boolean termBegins = token.equals("n") && k != 2 || token.equals("?");
        boolean number = Character.isDigit(token.charAt(0));
        return token.equals(other) || termBegins && (other.equals("n") || other.equals("?")) || number && other.equals("3");
    }

    /** "(the text's length where it ends too soon)": a text cut off behind each of its bytes. */
    private static void textThatEndsTooSoon() {
        String text = "symbol f 1 2;rule f(?0) to ?0;entry f(?1);room 5;term f(f(?2));";
        for (int cut = 0; cut <= text.length(); cut++) {
            int word = cut;
            while (word > 0 && Character.isLetter(text.charAt(word - 1))) {
                word--;
            }
            boolean inWord = word < cut && cut < text.length() && Character.isLetter(text.charAt(cut));
            boolean whole = cut == 0 || text.charAt(cut - 1) == ';';
            TermBank bank = new TermBank();
            Checks.feed(bank, text);
            Checks.due("cut at " + cut, bank.bank(cut), whole ? 0 : 1);
            Checks.due("fault of the cut at " + cut, bank.fault(), whole ? -1 : inWord ? word : cut);
            Checks.due("STATUS of the cut at " + cut, bank.count(13), whole ? 0 : 1);
        }
        faulty("term ?0 \n ", 1, 10);
        faulty("symbol ", 1, 7);
        faulty("symbol f", 1, 8);
    }

    /** "2 .. a NUMBER of 2 digits or more, or not as told (VARIABLE 0 to 7; 'room': 0 to 9)"; ARITY 0 to 3, WEIGHT 1 to 9. */
    private static void numbersTooMuch() {
        String[] tails = {"", ";", " 1;", "!"};
        for (int arity = 0; arity < 10; arity++) {
            if (arity < 4) {
                fine("symbol q " + arity + " 1;", "symbols q" + arity + "1; terms; rules; entries; room 4");
            } else {
                faulty("symbol q " + arity + " 1;", 2, 9);
            }
        }
        for (int weight = 0; weight < 10; weight++) {
            if (weight > 0) {
                fine("symbol q 2 " + weight + ";", "symbols q2" + weight + "; terms; rules; entries; room 4");
            } else {
                faulty("symbol q 2 " + weight + ";", 2, 11);
            }
        }
        for (int number = 0; number < 10; number++) {
            if (number < 8) {
                fine("term ?" + number + ";", "symbols; terms ?" + number + "; rules; entries; room 4");
            } else {
                faulty("term ?" + number + ";", 2, 6);
            }
            fine("room " + number + ";", "symbols; terms; rules; entries; room " + number);
        }
        for (String two : new String[] {"00", "01", "10", "03", "99", "000", "2147483648", "4294967297"}) {
            for (String tail : tails) {
                faulty("symbol q " + two + tail, 2, 9);
                faulty("symbol q 0 " + two + tail, 2, 11);
                faulty("term ?" + two + tail, 2, 6);
                faulty("entry ?" + two + tail, 2, 7);
                faulty("room " + two + tail, 2, 5);
            }
        }
        faulty("symbol q 0 9 9;", 1, 13);
        faulty("room 9 9;", 1, 7);
        faulty("term ?7 7;", 1, 8);
    }

    /** "2 .. a NAME of 2 letters or more" */
    private static void namesTooMuch() {
        fine("symbol a 0 1;symbol z 0 1;term z;", "symbols a01 z01; terms z; rules; entries; room 4");
        for (String name : new String[] {"aa", "az", "symbol", "to", "abcdefghijklmnopqrstuvwxyz"}) {
            faulty("symbol " + name + " 0 1;", 2, 7);
            faulty("symbol " + name, 2, 7);
            faulty("symbol a 0 1;term " + name + ";", 2, 18);
            faulty("symbol a 0 1;entry " + name, 2, 19);
            faulty("symbol a 0 1;rule " + name + " to a;", 2, 18);
            faulty("symbol a 0 1;symbol b 0 1;rule b to " + name + ";", 2, 36);
            faulty("symbol g 1 1;term g(" + name + ");", 2, 20);
        }
    }

    private static String tenSymbols() {
        StringBuilder text = new StringBuilder();
        for (char name = 'a'; name < 'k'; name++) {
            text.append("symbol ").append(name).append(" 1 1;");
        }
        return text.toString();
    }

    /** "SYMBOLS 0, 1 .. (at most 10)", "the word of the 11th 'symbol'" */
    private static void symbolsTooMany() {
        String ten = tenSymbols();
        TermBank bank = fine(ten, "symbols a11 b11 c11 d11 e11 f11 g11 h11 i11 j11; terms; rules; entries; room 4");
        Checks.due("the 10th", bank.symbol(9, 0), 'j');
        Checks.none("the 11th", () -> bank.symbol(10, 0));
        Checks.due("a term of the 10th", bank.make(9, bank.variable(0), 0, 0), 1);
        Checks.due("none of the 11th", bank.make(10, 0, 0, 0), -1);
        for (String rest : new String[] {" k 0 1;", " a 0 1;", "", ";", " kk", "!"}) {
            faulty(ten + "symbol" + rest, 2, 130);
        }
        faulty(ten + "term ?0;symbol k 0 1;", 2, 138);
        faulty(ten + "symbols k 0 1;", 1, 130);
    }

    private static String eightRules() {
        return "symbol f 1 1;" + repeated("rule f(?0) to ?0;", 8);
    }

    /** "RULES 0, 1 .. (at most 8)", "the 9th 'rule'" */
    private static void rulesTooMany() {
        String eight = eightRules();
        fine(eight, "symbols f11; terms ?0 f(0); rules 1>0 1>0 1>0 1>0 1>0 1>0 1>0 1>0; entries; room 4");
        for (String rest : new String[] {" f(?0) to ?0;", " ?0 to ?0;", "", ";", " 1", "!"}) {
            faulty(eight + "rule" + rest, 2, eight.length());
        }
        faulty(eight + "term ?0;rule f(?0) to ?0;", 2, eight.length() + 8);
        faulty(eight + "to", 1, eight.length());
    }

    private static String twelveEntries() {
        StringBuilder text = new StringBuilder("symbol f 1 1;");
        for (int v = 0; v < 8; v++) {
            text.append("entry ?").append(v).append(';');
        }
        return text + "entry f(?0);entry f(?1);entry f(?2);entry f(?3);";
    }

    /** "ENTRIES (at most 12 ..)", "the 13th 'entry'" */
    private static void entriesTooMany() {
        String twelve = twelveEntries();
        fine(twelve, "symbols f11; terms ?0 ?1 ?2 ?3 ?4 ?5 ?6 ?7 f(0) f(1) f(2) f(3); rules; "
            + "entries 0 1 2 3 4 5 6 7 8 9 10 11; room 4");
        for (String rest : new String[] {" f(?4);", " ?0;", "", ";", " 1", "!"}) {
            faulty(twelve + "entry" + rest, 2, twelve.length());
        }
        faulty(twelve + "term f(?7);entry f(?7);", 2, twelve.length() + 11);
        faulty(twelve + "entri", 1, twelve.length());
    }

    /** "a NAME of a TERM, or the ? of one, that would be the 7th deep" */
    private static void termsTooDeep() {
        String g = "symbol g 1 1;symbol a 0 1;symbol f 3 1;";
        int n = g.length();
        for (String leaf : new String[] {"?0", "a"}) {
            fine(g + "term g(g(g(g(g(" + leaf + ")))));",
                "symbols g11 a01 f31; terms " + leaf + " g(0) g(1) g(2) g(3) g(4); rules; entries; room 4");
            faulty(g + "term g(g(g(g(g(g(" + leaf + "))))));", 2, n + 17);
            faulty(g + "entry g(g(g(g(g(g(" + leaf + "))))));", 2, n + 18);
            faulty(g + "rule g(g(g(g(g(g(" + leaf + ")))))) to a;", 2, n + 17);
            faulty(g + "rule g(a) to g(g(g(g(g(g(" + leaf + "))))));", 2, n + 25);
            faulty(g + "term f(g(g(g(g(g(" + leaf + "))))),a,a);", 2, n + 17);
            faulty(g + "term f(a,g(g(g(g(g(" + leaf + "))))),a);", 2, n + 19);
            faulty(g + "term f(a,a,g(g(g(g(g(" + leaf + "))))));", 2, n + 21);
        }
        fine(g + "term f(g(g(g(g(a)))),a,f(a,a,f(a,a,f(a,a,f(a,a,?0)))));", "symbols g11 a01 f31; terms a g(0) g(1) g(2) g(3) ?0 "
            + "f(0,0,5) f(0,0,6) f(0,0,7) f(0,0,8) f(4,0,9); rules; entries; room 4");
        // The 7th deep name is too much before its arguments are looked at; what can't stand there is not.
        faulty(g + "term g(g(g(g(g(g(g", 2, n + 17);
        faulty(g + "term g(g(g(g(g(g(?", 2, n + 17);
        faulty(g + "term g(g(g(g(g(g(?9", 2, n + 17);
        faulty(g + "term g(g(g(g(g(g()", 1, n + 17);
        faulty(g + "term g(g(g(g(g(g(1", 1, n + 17);
        faulty(g + "term g(g(g(g(g(g(", 1, n + 17);
        faulty(g + "term g(g(g(g(g(g", 1, n + 16);
        faulty(g + "term g(g(g(g(g(gg", 2, n + 15);
    }

    /** "3 in a TERM a NAME that isn't told" */
    private static void namesNotTold() {
        String g = "symbol g 1 1;";
        faulty("term a;", 3, 5);
        faulty(g + "term h;", 3, 18);
        faulty(g + "term f(?0);", 3, 18);
        faulty(g + "term g(h);", 3, 20);
        faulty(g + "entry h;", 3, 19);
        faulty(g + "rule h to g;", 3, 18);
        faulty(g + "rule g(?0) to h;", 3, 27);
        faulty("term a;symbol a 0 1;", 3, 5);
        faulty("symbol a 0 1;term b;symbol b 0 1;", 3, 18);
    }

    /** "4 a NAME that is told already (of 'symbol'), a second 'room'" */
    private static void toldAlready() {
        faulty("symbol a 0 1;symbol a 0 1;", 4, 20);
        faulty("symbol a 0 1;symbol b 0 1;symbol b 1 2;", 4, 33);
        faulty("symbol a 0 1;symbol b 0 1;symbol a", 4, 33);
        faulty("symbol a 0 1;symbol a 4 0;", 4, 20);
        fine("symbol a 0 1;symbol b 0 1;", "symbols a01 b01; terms; rules; entries; room 4");
        faulty("room 3;room 3;", 4, 7);
        faulty("room 0;room 1;", 4, 7);
        faulty("room 4;term ?0;room", 4, 15);
        faulty("room 4;room 10;", 4, 7);
        faulty("room 4;roam", 1, 7);
    }

    /** "5 at the ';' of a 'rule': it is none": a LEFT that is a VARIABLE, that isn't GREATER. */
    private static void rulesThatAreNone() {
        String s = "symbol a 0 1;symbol b 0 1;symbol c 0 2;symbol g 1 1;symbol f 2 1;";
        int n = s.length();
        faulty(s + "rule ?0 to a;", 5, n + 12);
        faulty(s + "rule ?0 to ?0;", 5, n + 13);
        faulty(s + "rule a to a;", 5, n + 11);
        faulty(s + "rule a to b;", 5, n + 11);
        faulty(s + "rule b to c;", 5, n + 11);
        faulty(s + "rule c to g(a) ;", 5, n + 15);
        faulty(s + "rule c to ?0;", 5, n + 12);
        faulty(s + "rule f(?0,g(g(a))) to f(?0,?0);", 5, n + 30);
        faulty(s + "rule f(?0,?1) to f(?1,?0);", 5, n + 25);
        fine(s + "rule b to a;rule g(a) to c;rule f(?0,?0) to g(?0);rule f(b,a) to f(a,b);", "symbols a01 b01 c02 g11 f21; terms "
            + "b a g(1) c ?0 f(4,4) g(4) f(0,1) f(1,0); rules 0>1 2>3 5>6 7>8; entries; room 4");
        // Where its ';' doesn't stand it is another fault.
        faulty(s + "rule ?0 to ?0", 1, n + 13);
        faulty(s + "rule ?0 to ?0,", 1, n + 13);
        faulty(s + "rule a to b term", 1, n + 12);
    }

    /** "both of a SIZE of 12 at most" */
    private static void rulesOfSizeTwelve() {
        String s = "symbol f 3 1;symbol g 1 1;symbol h 1 9;";
        String ten = "f(f(?0,?0,?0),f(?0,?0,?0),?0)";
        int n = s.length();
        fine(s + "rule g(g(" + ten + ")) to ?0;",
            "symbols f31 g11 h19; terms ?0 f(0,0,0) f(1,1,0) g(2) g(3); rules 4>0; entries; room 4");
        faulty(s + "rule g(g(g(" + ten + "))) to ?0;", 5, n + 5 + 9 + 29 + 6);
        fine(s + "rule h(h(" + ten + ")) to g(g(" + ten + "));",
            "symbols f31 g11 h19; terms ?0 f(0,0,0) f(1,1,0) h(2) h(3) g(2) g(5); rules 4>6; entries; room 4");
        faulty(s + "rule h(h(" + ten + ")) to g(g(g(" + ten + ")));", 5, n + 5 + 4 + 29 + 2 + 4 + 6 + 29 + 3);
    }

    /** "of an 'entry': it is one already" */
    private static void entriesTwice() {
        faulty("entry ?0;entry ?0;", 5, 17);
        faulty("symbol f 2 1;entry f(?0,?1);entry ?0;entry f(?0,?1) ;", 5, 52);
        fine("symbol f 2 1;entry f(?0,?1);entry f(?1,?0);entry ?1;term ?1;",
            "symbols f21; terms ?0 ?1 f(0,1) f(1,0); rules; entries 2 3 1; room 4");
        faulty("entry ?0;entry ?0", 1, 17);
        faulty("entry ?0;entry ?0)", 1, 17);
        faulty("entry ?0;entry ?0 entry", 1, 18);
    }

    /** "FAULTS, the first along the text" */
    private static void firstAlongTheText() {
        String[] faults = {"foo;", "term b;", "room 10;", "room 3;room 3;", "entry ?0;entry ?0;"};
        int[] codes = {1, 3, 2, 4, 5};
        int[] places = {0, 5, 5, 7, 17};
        for (int i = 0; i < faults.length; i++) {
            for (String other : faults) {
                faulty(faults[i] + other, codes[i], places[i]);
                faulty("term ?1;" + faults[i] + other, codes[i], places[i] + 8);
            }
        }
        faulty("symbol a 4 0;", 2, 9);
        faulty("symbol aa 4 0;", 2, 7);
        faulty("symbol f 2 1;term f(b,c);", 3, 20);
        faulty("symbol f 2 1;term f(?8,b);", 2, 21);
        faulty("symbol f 2 1;term f(?7,b);", 3, 23);
    }

    /** "of one TOKEN the least" */
    private static void leastOfOneToken() {
        String g = "symbol g 1 1;";
        // Too long, and not told; the 7th deep, and not told; the 7th deep, and too long.
        faulty("term zz;", 2, 5);
        faulty(g + "term g(g(g(g(g(g(z))))));", 2, 30);
        faulty(g + "term g(g(g(g(g(g(zz))))));", 2, 30);
        faulty(g + "term g(g(g(g(g(z)))));", 3, 28);
        // No token at all where the 7th deep would be.
        faulty(g + "term g(g(g(g(g(g(!))))));", 1, 30);
    }

    /** "The place of the latest bank()'s FAULT; NONE without." */
    private static void faultIsTheLatest() {
        TermBank bank = new TermBank();
        Checks.due("before any", bank.fault(), -1);
        Checks.told(bank, "term ?0;x");
        Checks.due("at 8", bank.fault(), 8);
        Checks.told(bank, "!");
        Checks.due("at 0", bank.fault(), 0);
        Checks.illegal("bank(1)", () -> bank.bank(1));
        Checks.due("an exception leaves it", bank.fault(), 0);
        bank.variable(9);
        bank.image();
        bank.restore();
        Checks.due("other calls leave it", bank.fault(), 0);
        Checks.due("a third one", Checks.told(bank, "?"), 1);
        Checks.due("a fourth one", Checks.told(bank, "room"), 1);
        Checks.due("at 4", bank.fault(), 4);
        Checks.due("STATUS 0", bank.count(13), 4);
        Checks.due("a text without", bank.bank(0), 0);
        Checks.due("NONE", bank.fault(), -1);
    }
}
