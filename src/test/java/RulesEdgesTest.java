/** Boundary sentences of part 2 of DOC.md, and of promises 12 and 13. */
public final class RulesEdgesTest extends Cellars {
    private static final Sentences S = new Sentences("RulesEdgesTest");
    private static final String EIGHT = "vat leave;".repeat(7) + "keg bung; ";

    public static void main(String[] args) {
        tape();
        bytesOfTape();
        readTape();
        faultsThatChangeNothing();
        numbersOfRules();
        textsOfRules();
        numbers();
        facts();
        signs();
        namesAndNumbers();
        blanks();
        parentheses();
        notsAndAnds();
        bytesThatCannotStand();
        bytesBesideLetters();
        ends();
        S.end();
    }

    private static void says(String words) {
        S.says(words);
    }

    private static void due(String call, int got, int want) {
        S.due(call, got, want);
    }

    private static void tape() {
        says("n bytes (1 to 8) come to THE TAPE, the lowest of eight first: how many it has.");
        FloodCellar x = new FloodCellar();
        for (int n : new int[] {0, 9, -1, MIN, MAX}) due("n " + n, x.feed(32, n), BAD);
        due("none came", x.many(5), 0);
        due("one", x.feed(0x6969696969696920L, 1), 1);
        due("eight", x.feed(0x2020202020202020L, 8), 9);
        due("just one of eight came", x.rules(), 0);
        due("how many there are then", x.feed('v' | 'a' << 8 | 't' << 16 | ' ' << 24 | (long) 'l' << 32, 5), 5);
        due("more", x.feed('e' | 'a' << 8 | 'v' << 16 | (long) 'e' << 24 | (long) ';' << 32 | (long) '!' << 40, 5), 10);
        due("the lowest first", x.rules(), 1);

        says("BAD; FULL: more than 200.");
        FloodCellar y = new FloodCellar();
        feed(y, " ".repeat(192));
        due("199", y.feed(0x20202020202020L, 7), 199);
        due("two to 199", y.feed(0x2020, 2), FULL);
        due("no part of them came", y.many(5), 199);
        due("one to 199", y.feed(' ', 1), 200);
        due("one to 200", y.feed(' ', 1), FULL);
        due("eight to 200", y.feed(-1, 8), FULL);
        due("BAD ahead of FULL", y.feed(' ', 0), BAD);
        due("BAD ahead of FULL", y.feed(' ', 9), BAD);
        due("200 stay", y.many(5), 200);
        due("all of them blank", y.rules(), 0);
    }

    private static void bytesOfTape() {
        says("THE TAPE takes bytes, 200 at most; rules() uses it up.");
        FloodCellar x = new FloodCellar();
        feed(x, " ".repeat(200));
        due("200", x.rules(), 0);
        due("used up", x.many(5), 0);
        due("from none on", x.feed(' ', 1), 1);
        for (int i = 0; i < 24; i++) x.feed(0x2020202020202020L, 8);
        due("193 and 8 more are too many", x.feed(0x2020202020202020L, 8), FULL);
        due("a byte of each value may come", x.feed(0xFF80007F00FFL, 6), 199);
        due("the first that can't stand", x.rules(), -293);
        due("used up by a FAULT", x.many(5), 0);
        due("used up though it was empty", x.rules() + x.many(5), 0);
        due("nothing of it stays", tell(x, "vat leave;"), 1);
    }

    private static void readTape() {
        says("THE TAPE tells THE RULES (in place of all): how many");
        FloodCellar x = new FloodCellar();
        x.barrel(1, 5, 0, 0);
        x.barrel(4, 5, 0, 0);
        due("eight", tell(x, EIGHT), 8);
        due("one in place of eight", tell(x, "keg leave;"), 1);
        due("the vat is told by none", x.barrelOf(0, 9), 0);
        due("the keg is told otherwise", x.barrelOf(1, 9), 1);
        due("an empty TAPE", x.rules(), 0);
        due("how many then", x.many(1), 0);
        due("the keg is told by none", x.barrelOf(1, 9), 0);
        // No text leaves anything behind that the next one lacks room for.
        String longest = "keg if " + "1=2 or ".repeat(25) + "fill=";
        for (int i = 0; i < 9; i++) {
            due("a long text, " + i, tell(x, longest + (i % 2 == 0 ? "5" : "6") + " bung;"), 1);
            due("WILL by it, " + i, x.barrelOf(1, 9), i % 2 == 0 ? 2 : 0);
        }
        tell(x, EIGHT);
        due("blanks alone", tell(x, "   "), 0);
        due("how many then", x.many(1), 0);
        due("the keg is told by none", x.barrelOf(1, 9), 0);
    }

    private static void faultsThatChangeNothing() {
        says("such a call changes nothing (but that THE TAPE is used up by rules())");
        FloodCellar x = new FloodCellar();
        x.barrel(1, 5, 0, 0);
        x.barrel(4, 5, 0, 0);
        tell(x, EIGHT);
        String[] texts = {"x", "vat bung;keg stake;x", "vat if fill > 3 bung;keg stake; vat if", EIGHT + "vat bung;"};
        int[] places = {0, 19, 38, 80};
        for (int i = 0; i < texts.length; i++) {
            due(texts[i], tell(x, texts[i]), -100 - places[i]);
            due("RULES behind " + texts[i], x.many(1), 8);
            due("THE TAPE behind " + texts[i], x.many(5), 0);
            due("WILL of the vat behind " + texts[i], x.barrelOf(0, 9), 1);
            due("WILL of the keg behind " + texts[i], x.barrelOf(1, 9), 2);
        }
    }

    /** What a text answers in a cellar of its own. */
    private static int read(String text) {
        return tell(new FloodCellar(), text);
    }

    private static void fault(String text, int place) {
        due(text, read(text), -100 - place);
    }

    private static void numbersOfRules() {
        says("8 RULES at most");
        due("eight", read(EIGHT), 8);
        due("eight and blanks", read(EIGHT + "     "), 8);
        FloodCellar x = new FloodCellar();
        x.barrel(4, 5, 0, 0);
        tell(x, "vat leave;".repeat(7) + "keg if fill=5 bung;");
        due("the eighth holds", x.barrelOf(0, 9), 2);
        x.change(0, 1, 6);
        due("the eighth doesn't hold", x.barrelOf(0, 9), 0);
        due("eight that fill THE TAPE", read("vat if fill < 3 leave   ;".repeat(8)), 8);
        says("the first NAME of the ninth RULE, too");
        fault(EIGHT + "vat leave;", 80);
        fault(EIGHT + "   vat leave;", 83);
        fault(EIGHT + "barrel", 80);
        fault(EIGHT + "if", 80);
        fault(EIGHT + "x;", 80);
        fault(EIGHT + ";", 80);
        fault(EIGHT + " 7", 81);
    }

    private static void textsOfRules() {
        says("KIND: barrel | vat | tun | butt | keg | cask.");
        FloodCellar x = new FloodCellar();
        for (int kind = 1; kind <= 5; kind++) x.barrel(kind, 5, 0, 0);
        String[] kinds = {"barrel", "vat", "tun", "butt", "keg", "cask"};
        int[] told = {31, 1, 6, 4, 24, 16};
        for (int i = 0; i < 6; i++) {
            due(kinds[i], tell(x, kinds[i] + " leave;"), 1);
            int left = 0;
            for (int k = 0; k < 5; k++) left += x.barrelOf(k, 9) << k;
            due("who is told by " + kinds[i], left, told[i]);
        }
        for (String no : new String[] {"stake", "if", "not", "or", "and", "tide", "fill", "barrels", "barre", "va", "v", "kegs"}) {
            fault(no + " leave;", 0);
        }
        says("DO: stake | leave | bung.");
        String[] deeds = {"stake", "leave", "bung"};
        for (int i = 0; i < 3; i++) {
            due(deeds[i], tell(x, "vat " + deeds[i] + ";"), 1);
            due("WILL by " + deeds[i], x.barrelOf(0, 9), i);
            due(deeds[i] + " on a condition", tell(x, "vat if fill=5 " + deeds[i] + ";"), 1);
            due("WILL on a condition by " + deeds[i], x.barrelOf(0, 9), i);
        }
        for (String no : new String[] {"vat", "stakes", "leav", "bun", "or", "tide", "7", "(", ";"}) fault("vat " + no + ";", 4);
    }

    /** 1 if this condition holds of a butt of FILL 99, CHALK 9, number 2 in TIDE 3 of RISE 1, else 0. */
    private static int holds(String condition) {
        FloodCellar x = atTide(3);
        x.water(3, 6);
        x.barrel(1, 0, 0, 0);
        x.barrel(1, 0, 0, 0);
        x.barrel(3, 99, 9, 0);
        due("RULES by " + condition, tell(x, "butt if " + condition + " leave;"), 1);
        return x.barrelOf(2, 9);
    }

    private static void numbers() {
        says("N are NUMBERS 0 to 9999.");
        due("the least", holds("0 = 0"), 1);
        due("the most", holds("9999 = 9999"), 1);
        due("the most and one less", holds("9998 = 9999"), 0);
        due("the most is more", holds("9999 > 9998"), 1);
        due("FILL is less", holds("fill < 9999"), 1);
        due("four digits of a small one", holds("0099 = fill"), 1);
        due("four digits of none", holds("0000 = 0"), 1);
        due("100", holds("100 > fill"), 1);
        due("none is less than none", holds("1 = 2 or 0 < 0"), 0);
        due("none is less than none, turned", holds("1 = 1 and not 0 < 0"), 1);
        due("1000", holds("1000 = 100"), 0);
    }

    private static void facts() {
        says("FACTS: the TIDE that goes by; its FILL, its CHALK, the RISE of that TIDE; its number.");
        String[] facts = {"tide", "fill", "chalk", "rise", "number"};
        int[] values = {3, 99, 9, 1, 2};
        for (int i = 0; i < 5; i++) {
            due(facts[i], holds(facts[i] + " = " + values[i]), 1);
            due(facts[i] + " is no more", holds(facts[i] + " > " + values[i]), 0);
            due(facts[i] + " is no less", holds(values[i] + " > " + facts[i]), 0);
            due(facts[i] + " stands right, too", holds(values[i] + " = " + facts[i]), 1);
        }
        FloodCellar x = atTide(0);
        x.barrel(1, 90, 0, 0);
        x.water(1, 12);
        tell(x, "vat if tide = 0 and rise = 2 bung;vat if tide = 1 and rise = 3 and fill = 92 and chalk = 2 leave;");
        due("as the first TIDE goes by", x.barrelOf(0, 9), 2);
        go(x, 1);
        due("as the next goes by", x.barrelOf(0, 9), 1);
        go(x, 1);
        due("behind both", x.barrelOf(0, 9), 0);
        FloodCellar last = new FloodCellar();
        for (int k = 0; k < 6; k++) last.barrel(1, 5, 0, 0);
        tell(last, "barrel if number = 5 leave;barrel if number = 0 bung;");
        due("the last number", last.barrelOf(5, 9), 1);
        due("the first number", last.barrelOf(0, 9), 2);
        due("another number", last.barrelOf(4, 9), 0);
    }

    private static void signs() {
        says("SIGN: < | = | >");
        String[] signs = {"<", "=", ">"};
        for (int i = 0; i < 3; i++) {
            due("8" + signs[i] + "9", holds("8 " + signs[i] + " 9"), i == 0 ? 1 : 0);
            due("9" + signs[i] + "9", holds("9 " + signs[i] + " 9"), i == 1 ? 1 : 0);
            due("9" + signs[i] + "8", holds("9 " + signs[i] + " 8"), i == 2 ? 1 : 0);
        }
        fault("vat if fill <= 3 leave;", 13);
        fault("vat if fill == 3 leave;", 13);
        fault("vat if fill ! 3 leave;", 12);
        fault("vat if fill 3 leave;", 12);
        fault("vat if fill and 3 = 3 leave;", 12);
        fault("vat if fill < 3 < 4 leave;", 16);
    }

    private static void namesAndNumbers() {
        says("NAMES are rows of letters a to z, NUMBERS rows of digits (1 to 4), both as long as they go");
        fault("vatleave;", 0);
        fault("vat leavevat leave;", 4);
        fault("vat iffill=3 leave;", 4);
        fault("vat if notfill=3 leave;", 7);
        fault("vat if fill=3 andfill=3 leave;", 14);
        due("a NUMBER ends where letters begin", read("vat if fill<3leave;"), 1);
        due("a NAME ends where digits begin", read("vat if 3<fill and7<8or9=9 leave;"), 1);
        due("one digit", read("vat if 0<1 leave;"), 1);
        due("four digits", read("vat if 1234<5678 leave;"), 1);
        says("(a NUMBER of more digits, the fourth \"(\", the first NAME of the ninth RULE, too)");
        fault("vat if 12345<3 leave;", 7);
        fault("vat if 3<12345 leave;", 9);
        fault("vat if 3<00001 leave;", 9);
        fault("vat if 3<12345", 9);
        fault("vat if 12345678901234567890<3 leave;", 7);
        fault("12345", 0);
        fault("vat 12345", 4);
        fault("vat if fill 12345", 12);
    }

    private static void blanks() {
        says("blanks (32) part them, and stand elsewhere as one likes");
        due("none but between NAMES", read("vat if(fill<3)and not(3=4)or(5>6)leave;keg leave;"), 2);
        due("many everywhere", read("   vat   if   (   fill   <   3   )   and   not   3   =   4   leave   ;   "), 1);
        due("ahead of the first NAME", read("    vat leave;"), 1);
        due("behind the last", read("vat leave;    "), 1);
        fault("v at leave;", 0);
        fault("vat le ave;", 4);
        fault("vat if fill < 1 2 leave;", 16);
        for (int other : new int[] {9, 10, 13, 0, 31, 33, 160, 255}) {
            fault("vat" + (char) other + "leave;", 3);
            fault("vat leave;" + (char) other, 10);
        }
    }

    private static void parentheses() {
        says("At most 3 \"(\" are open within one another.");
        due("three", holds("(((fill = 99)))"), 1);
        due("three by three", holds("(((fill = 9))) or (((fill = 99))) and (((fill = 99)))"), 1);
        due("more than three beside one another", holds("((fill=9) or (fill=8) or (fill=7) or (fill=6) or (fill=99))"), 1);
        due("two that end, then two within one", holds("((1=1) and ((2=2) and (3=3)))"), 1);
        fault("vat if ((((fill = 99)))) leave;", 10);
        fault("vat if (1=1 and (2=2 and (3=3 and (4=4)))) leave;", 34);
        fault("vat if (not (not ( not( 4=4)))) leave;", 22);
        fault("vat if ((1=1)) and ((((2=2)))) leave;", 22);
        fault("vat if ((((", 10);
        fault("vat if ()", 8);
        fault("vat if (fill = 3)) leave;", 17);
        fault("vat if (fill) = 3 leave;", 12);
        fault("vat if (fill = (3)) leave;", 15);
        fault("vat (leave);", 4);
    }

    private static void notsAndAnds() {
        says("{ not } ( VALUE SIGN VALUE | \"(\" COND \")\" )");
        due("one", holds("not 1=1"), 0);
        due("two", holds("not not 1=1"), 1);
        due("many, an odd number", holds("not ".repeat(41) + "1=2"), 1);
        due("many, an even number", holds("not ".repeat(40) + "1=2"), 0);
        due("ahead of \"(\"", holds("not (1=1 or 1=2)"), 0);
        due("of ONE alone, by and", holds("not 1=2 and 1=1"), 1);
        due("of ONE alone, by or", holds("not 1=1 or 1=1"), 1);
        due("within", holds("(not (not 1=1))"), 1);
        fault("vat if not not leave;", 15);
        fault("vat if 1 not = 1 leave;", 9);
        fault("vat not if 1=1 leave;", 4);
        says("ALL { or ALL }");
        due("none of three", holds("1=2 or 2=3 or 3=4"), 0);
        due("the last of three", holds("1=2 or 2=3 or 4=4"), 1);
        due("the first of three", holds("1=1 or 2=3 or 3=4"), 1);
        due("many", holds("1=2 or ".repeat(24) + "3=3"), 1);
        due("many, none of them", holds("1=2 or ".repeat(24) + "3=4"), 0);
        says("ONE { and ONE }");
        due("all of three", holds("1=1 and 2=2 and 3=3"), 1);
        due("all but the last", holds("1=1 and 2=2 and 3=4"), 0);
        due("all but the first", holds("1=2 and 2=2 and 3=3"), 0);
        due("many", holds("1=1 and ".repeat(21) + "3=3"), 1);
        due("many, all but one", holds("1=1 and ".repeat(21) + "3=4"), 0);
        due("and ahead of or", holds("1=1 or 1=1 and 1=2"), 1);
        due("and ahead of or, the other way", holds("1=2 and 1=1 or 1=1"), 1);
        due("\"(\" ahead of and", holds("(1=1 or 1=1) and 1=2"), 0);
    }

    private static void bytesThatCannotStand() {
        says("the place (from 0) of the first byte of the first NAME, NUMBER or other byte that can't stand there");
        fault("nothing", 0);
        fault("vatz leave;", 0);
        fault("vata leave;", 0);
        fault(";".repeat(200), 0);
        fault("vat if " + "(".repeat(193), 10);
        fault("   nothing", 3);
        fault(";", 0);
        fault("vat;", 3);
        fault("vat leave;;", 10);
        fault("vat leave leave;", 10);
        fault("vat leave if 1=1;", 10);
        fault("vat if if 1=1 leave;", 7);
        fault("vat if 1=1 if 2=2 leave;", 11);
        fault("vat if leave;", 7);
        fault("vat if and 1=1 leave;", 7);
        fault("vat if 1=1 and or 2=2 leave;", 15);
        fault("vat if 1=1 or leave;", 14);
        fault("vat if 1=1 vat leave;", 11);
        fault("vat if salt=1 leave;", 7);
        fault("vat if 1=fills leave;", 9);
        fault("vat if tide=-1 leave;", 12);
        fault("vat if fill=3.5 leave;", 13);
        fault("vat if stake=3 leave;", 7);
        fault("vat if vat=3 leave;", 7);
        fault("x".repeat(200), 0);
        fault(" ".repeat(199) + "x", 199);
        fault(" ".repeat(199) + ";", 199);
        // The first FAULT counts, though a worse one follows.
        fault("vat leave vat; 12345 ((((", 10);
    }

    private static void bytesBesideLetters() {
        says("NAMES are rows of letters a to z");
        for (char other : new char[] {'`', '{', 'A', 'Z', '_', 128, 225, 255, 0}) {
            fault(other + "vat leave;", 0);
            fault("vat" + other + " leave;", 3);
        }
        says("NUMBERS rows of digits (1 to 4)");
        for (char other : new char[] {'/', ':', '.', '-', 178}) {
            fault("vat if fill=" + other + "3 leave;", 12);
            fault("vat if fill=3" + other + " leave;", 13);
        }
        due("the first and the last digit", holds("0009 = chalk"), 1);
        due("the first and the last letter", read("zat leave;"), -100);
        due("a letter of the middle", read("vat leavf;"), -104);
    }

    private static void ends() {
        says("or the end (how many bytes there are), if more must come");
        String whole = "vat if not ( fill < 3 and tide = 4 ) or rise > 1 leave ;";
        due("whole", read(whole), 1);
        for (int i = 1; i < whole.length(); i++) {
            if (whole.charAt(i) == ' ') {
                fault(whole.substring(0, i), i);
                fault(whole.substring(0, i) + "   ", i + 3);
            }
        }
        fault("vat leave; vat", 14);
        fault("vat leave" + " ".repeat(191), 200);
        fault("vat if " + "not ".repeat(48) + " ", 200);
        fault("vat if (1=1", 11);
        fault("vat leav", 4);
        fault("va", 0);
        fault("vat if 1=1 an", 11);
    }
}
