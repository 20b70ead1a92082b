/** The edges of the document's Terms II and of promises 8 to 13. */
public final class EdgeTextsTest {
    private static final int[] FAR = {Kit.LOW, Kit.LOW + 1, -401, Kit.HIGH - 1, Kit.HIGH};

    private static void feeds() {
        Kit.sentence("Twenty bytes come behind the TAPE, four of each number, the highest first: how many it has.");
        ScratchLadder x = Kit.stones(2);
        Kit.due("twenty", x.feed(0x00010203, 0x0301FF01, 0x00000000, 0x00020001, 0x00000000), 20);
        Kit.due("count", x.count(4), 20);
        Kit.due("forty", x.feed(0x80000000, 0, 0, 0, 0), 40);
        x.end(21);
        Kit.due("three trials", x.row(), 3);
        int[] first = {0, 1, 2, 3, 3, 1, 255};
        int[] second = {1, 0, 0, 0, 0, 0, 2};
        int[] third = {0, 1, 0, 0, 0, 0, 128};
        for (int what = 0; what < 7; what++) {
            Kit.due("the first's " + what, x.of(0, what), first[what]);
            Kit.due("the second's " + what, x.of(1, what), second[what]);
            Kit.due("the third's " + what, x.of(2, what), third[what]);
        }
        x.feed(Kit.LOW, Kit.HIGH, -1, -2, 1);
        x.end(0);
        Kit.due("status", x.status(), 0);
    }

    private static void fullTape() {
        Kit.sentence("NONE, if there would be more than 400.");
        ScratchLadder x = new ScratchLadder();
        for (int i = 1; i <= 20; i++) {
            Kit.due("feed " + i, x.feed(0x63757473, 0x3b637574, 0x733b6375, 0x74733b63, 0x7574733b),
                    20 * i);
        }
        Kit.due("one more", x.feed(1, 2, 3, 4, 5), -1);
        Kit.due("it has as many", x.count(4), 400);
        Kit.due("381", x.end(381), 381);
        Kit.due("401 would be", x.feed(1, 2, 3, 4, 5), -1);
        Kit.due("it has as many", x.count(4), 381);
        Kit.due("380", x.end(380), 380);
        Kit.due("400 can be", x.feed(0, 0, 0, 0, 0), 400);
        Kit.due("not known to status", x.status(), 0);
        Kit.due("its bytes are as they were", x.text(), -6);
        Kit.due("the 13th", x.fault(), 60);
    }

    private static void ends() {
        Kit.sentence("The TAPE has its first n bytes alone: n. NONE, if it has not so many, or n is below 0.");
        ScratchLadder x = new ScratchLadder();
        Kit.due("none of none", x.end(0), 0);
        Kit.due("one of none", x.end(1), -1);
        Kit.tape(x, "cuts;both if 1=1 or");
        Kit.due("all", x.end(19), 19);
        Kit.due("one more", x.end(20), -1);
        Kit.due("below 0", x.end(-1), -1);
        for (int far : FAR) {
            Kit.due("far off", x.end(far), -1);
        }
        Kit.due("it has as many", x.count(4), 19);
        Kit.due("one fewer", x.end(18), 18);
        Kit.due("it is gone", x.end(19), -1);
        Kit.due("some", x.end(16), 16);
        Kit.due("these alone", x.text(), 0);
        Kit.due("the tape is empty", x.end(1), -1);
        Kit.tape(x, "cuts");
        Kit.due("none", x.end(0), 0);
        Kit.due("count", x.count(4), 0);
        Kit.due("twenty of them", x.feed(0, 0, 0, 0, 0), 20);
        Kit.due("status", x.status(), 0);
    }

    private static void tenTexts() {
        Kit.sentence("TEXTS, 10 at most, on a TAPE of at most 400 bytes.");
        ScratchLadder x = new ScratchLadder();
        for (int i = 0; i < 10; i++) {
            Kit.due("a fault takes no number", Kit.write(x, "cuts cuts"), -6);
            Kit.due("text", Kit.write(x, "cuts if " + i + "=corner"), i);
            Kit.due("texts", x.count(1), i + 1);
        }
        Kit.due("an 11th", Kit.write(x, "cuts"), -5);
        Kit.due("status", x.status(), -5);
        Kit.due("texts", x.count(1), 10);
        Kit.due("the last is a law", x.law(9), -1);
        Kit.due("there is no 11th", x.law(10), -2);
        Kit.sentence("`int text()`: The TAPE, which is empty then, becomes a TEXT: its number.");
        ScratchLadder y = new ScratchLadder();
        Kit.due("400 bytes", Kit.write(y, " ".repeat(392) + "cuts" + " ".repeat(4)), 0);
        Kit.due("the tape", y.count(4), 0);
        Kit.due("400 signs", Kit.write(y, "cuts if not" + " not".repeat(96) + "10=1 "), 1);
        Kit.due("a fault at the last", Kit.write(y, " ".repeat(395) + "cuts;"), -6);
        Kit.due("its place", y.fault(), 400);
        Kit.due("a fault at the last sign", Kit.write(y, " ".repeat(395) + "cutsx"), -6);
        Kit.due("its place", y.fault(), 395);
        Kit.due("the tape", y.count(4), 0);
        Kit.sentence("-5 (ahead of reading it)");
        ScratchLadder z = new ScratchLadder();
        for (int i = 0; i < 10; i++) {
            Kit.write(z, "cuts");
        }
        Kit.due("one that could not be read", Kit.write(z, "cuts if"), -5);
        Kit.due("it was not read", z.fault(), -1);
        Kit.due("it stays on the tape", z.count(4), 7);
        z.end(0);
        Kit.due("an empty one", z.text(), -5);
        Kit.due("status", z.status(), -5);
    }

    private static void blanksAlone() {
        Kit.sentence("-6 (blanks alone: FAULT at the end)");
        for (int blanks : new int[] {0, 1, 2, 20, 399, 400}) {
            ScratchLadder x = new ScratchLadder();
            Kit.due(blanks + " blanks", Kit.write(x, " ".repeat(blanks)), -6);
            Kit.due("status", x.status(), -6);
            Kit.due("fault", x.fault(), blanks);
            Kit.due("the tape", x.count(4), 0);
            Kit.due("texts", x.count(1), 0);
        }
    }

    private static void faultIsKept() {
        Kit.sentence("FAULT of the latest text() that read one: its place; NONE without.");
        ScratchLadder x = new ScratchLadder();
        Kit.due("ahead of any", x.fault(), -1);
        Kit.write(x, "deep 5 5");
        Kit.due("its place", x.fault(), 7);
        Kit.due("still", x.fault(), 7);
        x.feed(0, 0, 0, 0, 0);
        x.row();
        x.image(0);
        x.back(0);
        Kit.due("other calls leave it", x.fault(), 7);
        Kit.write(x, "deep");
        Kit.due("the latest", x.fault(), 4);
        for (int i = 0; i < 9; i++) {
            Kit.write(x, "cuts");
            Kit.due("without", x.fault(), -1);
        }
        Kit.write(x, ";");
        Kit.due("at the first byte", x.fault(), 0);
        Kit.write(x, "cuts");
        x.image(1);
        Kit.due("without", x.fault(), -1);
        x.back(0);
        Kit.write(x, "dent x");
        x.back(1);
        Kit.due("an image does not keep it", x.fault(), 5);
        Kit.due("no room", Kit.write(x, "cuts"), -5);
        Kit.due("none was read", x.fault(), 5);
    }

    private static void fault(String text, int place) {
        ScratchLadder x = new ScratchLadder();
        Kit.due(text, Kit.write(x, text), -6);
        Kit.due("the fault of " + text, x.fault(), place);
        Kit.due("the tape", x.count(4), 0);
        Kit.due("status", x.status(), -6);
        Kit.due("no text", x.law(0), -2);
    }

    private static void reads(String text) {
        ScratchLadder x = new ScratchLadder();
        Kit.due(text, Kit.write(x, text), 0);
        Kit.due("no fault of " + text, x.fault(), -1);
        Kit.due("the tape", x.count(4), 0);
        Kit.due("it can be the law", x.law(0), -1);
    }

    private static void tokens() {
        Kit.sentence("TOKENS: longest rows of letters a .. z, of digits, single other bytes, any blanks (32) between.");
        reads("cuts if1=1");
        reads("   cuts   if   1   =   1   ");
        reads("deep5if load=1;cuts");
        reads("deep[5]if(1=1)or(1=1)");
        reads("rung5is5");
        fault("cu ts", 0);
        fault("cutsif", 0);
        fault("cuts ifload=1", 5);
        fault("deep 1 0", 7);
        fault("deep 1 if 1=1 0", 14);
        fault("deep loadload", 5);
        fault("deep load5", 9);
        fault("deep 5load", 6);
        fault("rung 5is 5x", 10);
        for (int sign = 0; sign < 256; sign++) {
            boolean goesOn = sign == ' ' || sign == ';';
            ScratchLadder x = new ScratchLadder();
            Kit.due("byte " + sign, Kit.write(x, "both " + (char) sign + (sign == ';' ? "cuts" : "")),
                    goesOn ? 0 : -6);
            Kit.due("byte " + sign, x.fault(), goesOn ? -1 : 5);
        }
        fault("cuts\n", 4);
        fault("cuts\tif 1=1", 4);
        fault("CUTS", 0);
        fault("cutS", 0);
        fault("cuts if 1==1", 10);
        fault("cuts if 1<>1", 10);
        fault("cuts;;cuts", 5);
        fault("`uts", 0);
        fault("{", 0);
    }

    private static void clauses() {
        Kit.sentence("CLAUSE {\";\" CLAUSE}, 12 at most (FAULT at the 13th's first TOKEN).");
        reads("cuts" + ";both".repeat(11));
        reads("rung 1 is 1" + ";rung 1 is 1".repeat(11));
        reads("deep 1 if 1=1" + " ; dent 2".repeat(11));
        fault("cuts" + ";both".repeat(12), 60);
        fault("rung 1 is 1" + ";rung 1 is 1".repeat(12), 144);
        fault("cuts" + ";cuts".repeat(11) + "  ;  cuts", 64);
        fault("cuts" + ";cuts".repeat(11) + ";", 60);
        fault("cuts" + ";cuts".repeat(11) + ";  ", 62);
        fault("cuts" + ";cuts".repeat(11) + ";x", 60);
        fault("cuts" + ";cuts".repeat(10) + ";", 55);
        fault("cuts" + ";cuts".repeat(11) + " x", 60);
        fault("cuts" + ";cuts".repeat(10) + ";cut", 55);
    }

    private static void rungs() {
        Kit.sentence("CLAUSE: \"rung\" NUMBER \"is\" NUMBER | HEAD [\"if\" TEST].");
        reads("rung 0 is 0");
        fault("rung", 4);
        fault("rung;", 4);
        fault("rung is 0", 5);
        fault("rung x is 0", 5);
        fault("rung [1] is 0", 5);
        fault("rung load is 0", 5);
        fault("rung 5", 6);
        fault("rung 5 5", 7);
        fault("rung 5 = 5", 7);
        fault("rung 5 is", 9);
        fault("rung 5 is is", 10);
        fault("rung 5 is stone", 10);
        fault("rung 5 is 5 5", 12);
        fault("rung 5 is 5 + 1", 12);
        fault("rung 5 + 1 is 5", 7);
        fault("rung 5 is 5 if 1=1", 12);
        fault("if 1=1", 0);
        fault("is", 0);
        fault("5", 0);
        fault("(", 0);
        fault("load", 0);
        Kit.sentence("HEAD: \"cuts\" | \"both\" | \"deep\" SUM | \"dent\" SUM.");
        fault("cuts 1", 5);
        fault("both load", 5);
        fault("deep", 4);
        fault("dent", 4);
        fault("deep if 1=1", 5);
        fault("dent;cuts", 4);
        fault("deep 1=1", 6);
        fault("dent not 1=1", 5);
        fault("cuts both", 5);
        fault("cuts if", 7);
        fault("cuts if;", 7);
        fault("cuts if if", 8);
        fault("cuts if 1=1 if 1=1", 12);
    }

    private static void tests() {
        Kit.sentence("TEST: BOTH {\"or\" BOTH}. BOTH: PLAIN {\"and\" PLAIN}.");
        fault("cuts if or 1=1", 8);
        fault("cuts if and 1=1", 8);
        fault("cuts if 1=1 or", 14);
        fault("cuts if 1=1 and", 15);
        fault("cuts if 1=1 or or 1=1", 15);
        fault("cuts if 1=1 and or 1=1", 16);
        fault("cuts if 1=1 or and 1=1", 15);
        fault("cuts if 1=1 not 1=1", 12);
        fault("cuts if 1=1 1=1", 12);
        fault("cuts if 1 and 1=1", 10);
        Kit.sentence("PLAIN: \"not\" PLAIN | \"(\" TEST \")\" | SUM (\"&lt;\" | \"&gt;\" | \"=\") SUM.");
        reads("cuts if not(not(not 1<1))");
        fault("cuts if not", 11);
        fault("cuts if not;", 11);
        fault("cuts if not if", 12);
        fault("cuts if not 1", 13);
        fault("cuts if ()", 9);
        fault("cuts if (1=1", 12);
        fault("cuts if (1=1;cuts", 12);
        fault("cuts if 1=1)", 11);
        fault("cuts if (1=1))", 13);
        fault("cuts if (1)=1", 10);
        fault("cuts if (1=1)=1", 13);
        fault("cuts if (1=1]", 12);
        fault("cuts if 1", 9);
        fault("cuts if 1=", 10);
        fault("cuts if =1", 8);
        fault("cuts if 1=1=1", 11);
        fault("cuts if 1<1>1", 11);
        fault("cuts if 1=(1=1)", 10);
        fault("cuts if 1=not 1=1", 10);
        fault("cuts if 1&1", 9);
        fault("cuts if 1!1", 9);
    }

    private static void sums() {
        Kit.sentence("SUM: TERM {(\"+\" | \"-\") TERM}. TERM: PART {(\"*\" | \"/\") PART}.");
        fault("deep +1", 5);
        fault("deep -1", 5);
        fault("deep *1", 5);
        fault("deep 1+", 7);
        fault("deep 1-", 7);
        fault("deep 1*", 7);
        fault("deep 1/", 7);
        fault("deep 1+-1", 7);
        fault("deep 1*-1", 7);
        fault("deep 1**1", 7);
        fault("deep 1%1", 6);
        fault("deep 1+;cuts", 7);
        Kit.sentence("PART: NUMBER | \"[\" SUM \"]\" | \"point\" | \"plane\" | \"load\" | \"hand\" | \"face\" | \"way\" | \"corner\" | \"stone\".");
        reads("deep point;deep plane;deep load;deep hand;deep face;deep way;deep corner;deep stone");
        fault("deep []", 6);
        fault("deep [1", 7);
        fault("deep [1)", 7);
        fault("deep [1;", 7);
        fault("deep 1]", 6);
        fault("deep [1]]", 8);
        fault("deep [1][1]", 8);
        fault("deep [1=1]", 7);
        fault("deep [not 1]", 6);
        fault("deep (1)", 5);
        fault("deep name", 5);
        fault("deep points", 5);
        fault("deep poin", 5);
        fault("deep ways", 5);
        fault("deep rung", 5);
        fault("deep cuts", 5);
    }

    private static void numbers() {
        Kit.sentence("NUMBERS to 100,000 (of \"rung\" to 1000, of \"is\" to 11).");
        reads("deep 100000");
        reads("deep 0");
        reads("deep 000000100000");
        reads("deep " + "0".repeat(394) + "1");
        fault("deep 100001", 5);
        fault("deep 000000100001", 5);
        fault("deep 1000000", 5);
        fault("deep 4294967296", 5);
        fault("deep 4294967297", 5);
        fault("deep 2147483648", 5);
        fault("deep 18446744073709551617", 5);
        fault("deep " + "9".repeat(395), 5);
        fault("deep 1" + "0".repeat(394), 5);
        fault("cuts if 1 = 100001", 12);
        reads("rung 1000 is 11");
        reads("rung 0001000 is 0000011");
        fault("rung 1001 is 11", 5);
        fault("rung 4294967296 is 11", 5);
        fault("rung 100000 is 11", 5);
        fault("rung 1000 is 12", 13);
        fault("rung 1000 is 4294967296", 13);
        fault("rung 1000 is 1000", 13);
        ScratchLadder x = Kit.stones(1);
        Kit.rule(x, "cuts if 000100000 - 99999 = 01");
        Kit.due("it is worth what it says", x.cuts(0, 0, 0, 0), 1);
    }

    private static void parts() {
        Kit.sentence("50 NUMBERS and words that are PARTS by themselves (of a \"rung\" none; FAULT at the 51st)");
        reads("deep 1" + "+1".repeat(49));
        fault("deep 1" + "+1".repeat(50), 105);
        reads("deep way" + "+way".repeat(49));
        fault("deep way" + "+way".repeat(50), 205);
        fault("deep 1" + "+1".repeat(49) + "+way", 105);
        fault("deep 1" + "+1".repeat(49) + " + [ 1 ]", 109);
        fault("deep 1" + "+1".repeat(49) + "+[]", 106);
        fault("deep 1" + "+1".repeat(49) + "+", 105);
        fault("deep 1" + "+1".repeat(49) + ";cuts if 1=1", 113);
        fault("deep 1" + "+1".repeat(48) + ";cuts if 1=1", 113);
        reads("deep 1" + "+1".repeat(47) + ";cuts if 1=1");
        reads("rung 1 is 1;deep 1" + "+1".repeat(49) + ";rung 2 is 2;cuts;both");
        reads("deep [1]" + "+[1]".repeat(49));
        fault("deep [1]" + "+[1]".repeat(50), 206);
        reads("cuts if 1=1" + " or 1=1".repeat(24));
        fault("cuts if 1=1" + " or 1=1".repeat(25), 183);
        ScratchLadder x = Kit.stones(1);
        for (int i = 0; i < 3; i++) {
            Kit.due("each text has its own fifty", Kit.write(x, "deep 1" + "+1".repeat(49)), i);
        }
        Kit.rule(x, "cuts if [1" + "+1".repeat(47) + "]*load = 48");
        Kit.due("fifty are asked", x.cuts(0, 0, 0, 0), 1);
    }

    private static void brackets() {
        Kit.sentence("8 brackets of both kinds within one another (FAULT at the 9th) at most.");
        for (int round = 0; round <= 8; round++) {
            String open = "cuts if " + "(".repeat(round) + "[".repeat(8 - round);
            String close = "]".repeat(8 - round) + "=1" + ")".repeat(round);
            reads(open + "1" + close);
            fault("cuts if " + "(".repeat(round) + "[".repeat(9 - round) + "1", 16);
        }
        fault("cuts if (((((((((1=1)))))))))", 16);
        fault("cuts if ((((((((1=[1]))))))))", 18);
        fault("deep [[[[[[[[[1]]]]]]]]]", 13);
        reads("deep [[[[[[[[1]]]]]]]]+[[[[[[[[1]]]]]]]]*[[[[[[[[1]]]]]]]]");
        reads("cuts if ((((((((1=1))))))))or not((((((((1=1))))))))and[[[[[[[[1]]]]]]]]=1");
        reads("cuts if (1=1)" + " or (1=1)".repeat(20));
        reads("deep [[[[[[[[1]]]]]]]];dent [[[[[[[[1]]]]]]]]");
        fault("cuts if ((((((((1=1))))))))or(((((((([1]=1", 37);
        ScratchLadder x = new ScratchLadder();
        Kit.write(x, "cuts if ((((((((");
        Kit.due("a fault within", x.fault(), 16);
        Kit.due("the next begins anew", Kit.write(x, "deep [[[[[[[[1]]]]]]]]"), 0);
    }

    private static void faults() {
        Kit.sentence("FAULT: the first TOKEN that can't go on there (the end's: the TEXT's length).");
        fault("cuts if 1 = ", 12);
        fault("cuts if 1 =", 11);
        fault("deep   ", 7);
        fault("  deep", 6);
        fault("cuts ;   ", 9);
        fault("x y z", 0);
        fault("   x", 3);
        fault("cuts x y", 5);
    }

    /** A TEST asked of STONE 3's corner on STONE 2, FACE 1, WAY 3. */
    private static void asks(String test, int so) {
        ScratchLadder x = Kit.stones(4);
        x.point(3, 300);
        x.plane(2, 1, 3, 123);
        Kit.rule(x, "cuts if " + test);
        Kit.due(test, x.cuts(3, 2, 1, 3), so);
    }

    private static void broken() {
        Kit.sentence("Beyond 1,000,000,000 either way, or divided by 0, it is BROKEN; / is cut towards 0.");
        asks("100000*10000>0", 1);
        asks("100000*10000+1>0", 0);
        asks("not 100000*10000+1>0", 0);
        asks("9999+99999*10000+1=100000*10000", 1);
        asks("0-100000*10000<0", 1);
        asks("0-100000*10000-1<0", 0);
        asks("not 0-100000*10000-1<0", 0);
        asks("100000*[0-10000]=0-100000*10000", 1);
        asks("100000*[0-10000]-1<0", 0);
        asks("100000*10001>0", 0);
        asks("100000*100000>0", 0);
        asks("100000*10000*[100000*10000]>0", 0);
        asks("100000*10000*[0-100000*10000]<0", 0);
        asks("100000*10000+100000*10000>0", 0);
        asks("100000*10000+1-1=100000*10000", 0);
        asks("100000*10000-1+1=100000*10000", 1);
        asks("[100000*10000+1]*0=0", 0);
        asks("100000*100000*100000*100000*100000=0", 0);
        asks("5/0=0", 0);
        asks("not 5/0=0", 0);
        asks("0/0=0", 0);
        asks("5/[load-1]=0", 0);
        asks("0/5=0", 1);
        asks("[0-100000*10000]/[0-1]=100000*10000", 1);
        asks("100000*10000/[0-1]<0", 1);
        asks("7/2=3 and [0-7]/2=0-3 and 7/[0-2]=0-3 and [0-7]/[0-2]=3", 1);
        asks("1/2=0 and [0-1]/2=0 and 1/[0-2]=0", 1);
        asks("99999/100000=0 and [0-99999]/100000=0", 1);
        asks("5=5/0", 0);
        asks("5/0=5/0", 0);
    }

    private static void holds() {
        Kit.sentence("A CLAUSE HOLDS, if its \"if\" (if it has one) is so, and neither that nor its SUM is BROKEN (\"or\", \"and\" ask what stands behind only if it can still matter).");
        asks("1=1 or 1/0=1", 1);
        asks("1/0=1 or 1=1", 0);
        asks("1=2 or 1/0=1", 0);
        asks("1=2 or 1=1 or 1/0=1", 1);
        asks("1=2 or 1/0=1 or 1=1", 0);
        asks("1=2 and 1/0=1 or 1=1", 1);
        asks("1=1 and 1/0=1 or 1=1", 0);
        asks("1=2 and 1/0=1 and 1/0=1 or 1=1", 1);
        asks("not(1=2 and 1/0=1)", 1);
        asks("not(1=1 or 1/0=1) or 1=1", 1);
        asks("(1=1 or 1/0=1) and (1=2 or 1=1)", 1);
        asks("1=1 or 1=1 and 1/0=1", 1);
        asks("1=2 and (1/0=1 or 1/0=1) or not 1=2", 1);
        ScratchLadder x = Kit.stones(2);
        Kit.rule(x, "cuts;deep 7;deep 8/0;deep 9 if 1/0=0;deep 10 if 1=2;deep 1/0 if 1=1;deep 1/0 if 1/0=0");
        x.trial(0, 1, 0, 0, 0, 1);
        Kit.due("the last that holds", x.of(0, 6), 7);
        Kit.rule(x, "cuts if 1/0=1;cuts;both if 1/0=1");
        Kit.due("one is enough", x.trial(0, 1, 0, 0, 0, 1), 1);
        Kit.rule(x, "cuts if 1/0=1;both");
        Kit.due("both does not cut", x.trial(0, 1, 0, 0, 0, 1), 0);
    }

    private static void lawAtFirst() {
        Kit.sentence("The LAW is a TEXT (none at first: nothing HOLDS, no rungs).");
        ScratchLadder x = Kit.stones(3);
        Kit.above(x, 0, 1, 1, 2);
        Kit.due("cuts", x.cuts(0, 1, 0, 0), 0);
        Kit.due("a trial", x.trial(0, 1, 0, 0, 0, 1), 0);
        Kit.due("the first number", x.span(1, 0), 0);
        Kit.due("the second", x.span(1, 1), 1001);
        Kit.due("settle", x.settle(1), -1);
        Kit.due("dents", x.dents(1, 0), 0);
        Kit.due("shapes", x.shapes(0, 0), 6);
        Kit.due("glass", x.glass(0, 1, 0), -1);
        Kit.write(x, "cuts;rung 5 is 2;dent 9-corner");
        Kit.due("a text is no law yet", x.cuts(0, 1, 0, 0), 0);
        Kit.due("nor has it rungs", x.span(1, 0), 0);
        Kit.due("nor dents", x.dents(1, 0), 0);
        Kit.sentence("A TEXT is the LAW: which was (NONE: none). -2.");
        Kit.due("none was", x.law(0), -1);
        Kit.due("now it cuts", x.cuts(0, 1, 0, 0), 1);
        Kit.due("now it has rungs", x.span(1, 0), 5);
        Kit.due("and dents", x.dents(1, 0), 2);
        Kit.due("one beyond", x.law(1), -2);
        Kit.due("status", x.status(), -2);
        Kit.due("below", x.law(-1), -2);
        for (int far : FAR) {
            Kit.due("far off", x.law(far), -2);
        }
        Kit.due("it stays", x.cuts(0, 1, 0, 0), 1);
        Kit.due("itself was", x.law(0), 0);
        Kit.due("status", x.status(), 0);
    }

    /** The DEPTH of a trial under a "deep", and the place that a DENT gives among 254, 255, 0. */
    private static void tells(String sum, int depth) {
        ScratchLadder x = Kit.stones(2);
        Kit.rule(x, "cuts;deep " + sum);
        x.trial(0, 1, 0, 0, 0, 1);
        Kit.due("deep " + sum, x.of(0, 6), depth);
        ScratchLadder y = Kit.stones(3);
        Kit.rule(y, "dent " + depth + ";dent " + sum + " if corner=0;dent " + depth + "+1 if corner=1");
        Kit.due("dent " + sum, y.dents(1, 0), 0);
        Kit.rule(y, "dent " + depth + ";dent " + sum + " if corner=2;dent " + depth + "-1 if corner=1");
        Kit.due("dent " + sum, y.dents(1, 2), 2);
    }

    private static void depths() {
        Kit.sentence("DEPTH, DENT: what the last \"deep\", \"dent\" that HOLDS tells, 0 .. 255 (else the nearest; 0 without).");
        tells("0", 0);
        tells("1", 1);
        tells("254", 254);
        tells("255", 255);
        tells("256", 255);
        tells("100000*10000", 255);
        tells("0-1", 0);
        tells("0-100000*10000", 0);
        tells("100000*10000+1", 0);
        ScratchLadder x = Kit.stones(2);
        Kit.rule(x, "cuts;deep 9;deep 3;dent 200");
        x.trial(0, 1, 0, 0, 0, 1);
        Kit.due("the last, not the greatest", x.of(0, 6), 3);
        Kit.rule(x, "cuts;dent 200");
        x.trial(0, 1, 0, 0, 0, 1);
        Kit.due("0 without", x.of(1, 6), 0);
        Kit.rule(x, "cuts;deep 5 if 1=2");
        x.trial(0, 1, 0, 0, 0, 1);
        Kit.due("0 if none holds", x.of(2, 6), 0);
    }

    /** Each word at the least and the greatest that it can stand for, as the DEPTH of a trial. */
    private static void words() {
        Kit.sentence("A SUM, a TEST is asked of a corner's STONE (corner, point), another or the same one (stone, plane: of its FACE and WAY; face, way), a load, a hand.");
        String[] words = {"point", "plane", "load", "hand", "face", "way", "corner", "stone"};
        int[] greatest = {999, 999, 100, 3, 2, 3, 11, 0};
        int[] least = {0, 0, 1, 0, 0, 0, 0, 11};
        for (int i = 0; i < words.length; i++) {
            ScratchLadder x = Kit.stones(12);
            x.point(11, 999);
            x.plane(0, 2, 3, 999);
            Kit.rule(x, "cuts if " + words[i] + "=" + greatest[i]);
            Kit.due(words[i] + " is greatest", x.trial(11, 0, 2, 3, 3, 100), 1);
            Kit.rule(x, "cuts if " + words[i] + "=" + least[i]);
            Kit.due(words[i] + " is least", x.trial(0, 11, 0, 0, 0, 1), 1);
        }
        ScratchLadder y = Kit.stones(2);
        y.point(1, 30);
        y.plane(1, 1, 2, 20);
        Kit.rule(y, "cuts if corner=1 and stone=1 and point=30 and plane=20");
        Kit.due("the same one", y.cuts(1, 1, 1, 2), 1);
        Kit.sentence("It CUTS, if a \"cuts\" HOLDS.");
        Kit.rule(y, "cuts if 1=2" + ";cuts if 1/0=0".repeat(10) + ";cuts");
        Kit.due("the twelfth alone", y.cuts(0, 1, 0, 0), 1);
        Kit.rule(y, "cuts" + ";cuts if 1=2".repeat(11));
        Kit.due("the first alone", y.cuts(0, 1, 0, 0), 1);
        Kit.rule(y, "cuts if 1=2" + ";cuts if 1=2".repeat(11));
        Kit.due("none", y.cuts(0, 1, 0, 0), 0);
    }

    private static void cuts() {
        Kit.sentence("Whether a corner CUTS a STONE's FACE along a WAY by the LAW (load 1, hand 0): 1, 0; NONE.");
        ScratchLadder x = Kit.stones(12);
        Kit.rule(x, "cuts if load=1 and hand=0 and corner=11 and stone=11 and face=2 and way=3");
        Kit.due("the last of all", x.cuts(11, 11, 2, 3), 1);
        Kit.due("another corner", x.cuts(10, 11, 2, 3), 0);
        Kit.due("another stone", x.cuts(11, 10, 2, 3), 0);
        Kit.due("another face", x.cuts(11, 11, 1, 3), 0);
        Kit.due("another way", x.cuts(11, 11, 2, 2), 0);
        int[][] bad = {{-1, 11, 2, 3}, {12, 11, 2, 3}, {11, -1, 2, 3}, {11, 12, 2, 3},
            {11, 11, -1, 3}, {11, 11, 3, 3}, {11, 11, 2, -1}, {11, 11, 2, 4}};
        for (int[] b : bad) {
            Kit.due("can't be", x.cuts(b[0], b[1], b[2], b[3]), -1);
        }
        for (int far : FAR) {
            Kit.due("far off", x.cuts(far, 11, 2, 3), -1);
            Kit.due("far off", x.cuts(11, far, 2, 3), -1);
            Kit.due("far off", x.cuts(11, 11, far, 3), -1);
            Kit.due("far off", x.cuts(11, 11, 2, far), -1);
        }
        ScratchLadder y = Kit.stones(1);
        Kit.due("not there yet", y.cuts(0, 1, 0, 0), -1);
        Kit.due("not there yet", y.cuts(1, 0, 0, 0), -1);
        Kit.due("status", x.status(), 0);
    }

    public static void main(String[] args) {
        feeds();
        fullTape();
        ends();
        tenTexts();
        blanksAlone();
        faultIsKept();
        tokens();
        clauses();
        rungs();
        tests();
        sums();
        numbers();
        parts();
        brackets();
        faults();
        broken();
        holds();
        lawAtFirst();
        depths();
        words();
        cuts();
        Kit.end();
    }
}
