/** The promises together: runs of many calls on one object, all of it looked at behind each of them (see Script). */
public final class TogetherTest {
    public static void main(String[] args) {
        Due.says(0, "Calls that ask change nothing but the ROW, and, if they say so, THE ANSWER.");
        answers();
        madeAgain();
        greatTypes();
        oneEnd();
        schemes();
        values();
        texts();
        Due.end();
    }

    /** THE ANSWER is made by each call that makes it, and asked for by each call that takes w. */
    private static void answers() {
        Script.run("answers",
                "size -2 = -1",
                "defines \\r.#Ar = 0 : ({A:a|b}>a)",
                "side 0 0 = 3 -> {A:a|b}",
                "size -2 = 3 / 2 1",
                "type -2 -1 = 7",
                "type -2 0 = 123",
                "type -2 7 = -1",
                "lacks -2 0 = -2",
                "lacks -2 1 = 1",
                "lacks -2 2 = -1",
                "sort -2 = 2 / 1 1 1",
                "needs -2 = -2",
                "field -2 1 = -2",
                "field -2 8 = -1",
                "side -2 0 = -2",
                "side -2 2 = -1",
                "fits -2 {B:I,A:{}} = 1",
                "fits -2 {B:I} = 0",
                "fits -2 {B:I = -5",
                "fits -2 {A:a} = -4",
                "above -2 -2 = 1 / 1",
                "above -2 0 = 0 / 0",
                "meets -2 0 = -2000 / -1",
                "meets -2 -2 = 3 -> {A:a|b}",
                "applies -2 0 = -2000 / -1",
                "part -2 0 = -1",
                "steps -2 = -1",
                "value -2 -1 = -1",
                "value -2 0 = -1",
                "taken -2 0 = -1",
                "parts -2 = -1",
                "often -2 0 = -1",
                "free -2 = -1",
                "closes -2 = 2 -> {A:a}",
                "sort -2 = 2 / 1 0 0",
                "lacks -2 0 = -2",
                "lacks -2 1 = -1",
                "above 0 -2 = 0 / 0",
                "applies 0 -2 = 1 -> a",
                "sort -2 = 4 /",
                "size -2 = 1 / 1 0",
                "field -2 0 = -2",
                "side -2 1 = -2",
                "closes -2 = 1 -> a",
                "fits -2 <> = 1",
                "above -2 0 = 1 / 0",
                "above 0 -2 = 0 / 1",
                "meets -2 0 = 5 -> ({A:a|b}>a)",
                "above -2 0 = 1 / 1",
                "needs -2 = 0 / 1 1 1",
                "side -2 1 = 1 -> a",
                "applies -2 -2 = 1 -> a",
                "infers {A=\\x.x|{B=<C2>|{}}} = 7 : {A:(a>a),B:<C:I|b>}",
                "meets -1 -2 = 7 -> {A:(a>a),B:<C:I|b>}",
                "field -2 1 = 3 -> <C:I|a>",
                "sort -2 = 3 / 4 1 4",
                "fits -2 <D:{},C:I> = 1",
                "fits -2 <D:{}> = 0",
                "meets -2 -1 = -2000 / -1",
                "field -2 2 = 1 -> I",
                "sort -2 = 0 /",
                "needs -2 = -2",
                "fits -2 I = 1",
                "fits -2 {} = 0",
                "part -1 3 = 3 -> (a>a)",
                "applies -2 -1 = 7 -> {A:(a>a),B:<C:I|b>}",
                "applies 0 -2 = 3 -> (a>a)",
                "infers 1 = 1 : I",
                "above -2 -1 = 0 / 0",
                "forgets 0 = 1",
                "size -2 = 3 / 1 0",
                "applies -2 -2 = 3 -> (a>a)",
                "side -2 0 = 1 -> a",
                "meets -2 -1 = 1 -> I",
                "count 2 = 1");
    }

    /** Definitions are made, forgotten and made again; IT is another one, goes, and comes again. */
    private static void madeAgain() {
        Script.run("made again",
                "defines 1 = 0 : I",
                "defines {A=p|{}} = 1 : {A:I}",
                "defines \\x.{A=x|{B=q|{}}} = 2 : (a>{A:a,B:{A:I}})",
                "infers (rp) = 4 : {A:I,B:{A:I}}",
                "steps -1 = 14 / 2 3",
                "taken -1 1 = 2 / 1",
                "forgets 3 = 0",
                "forgets 4 = -1",
                "forgets -1 = -1",
                "free -1 = 163840 / 2",
                "defines s = -1000 / -1",
                "defines (r = -3",
                "forgets 2 = 1 IT goes",
                "infers r = -1000 / -1",
                "infers q = 2 : {A:I}",
                "steps -1 = 5 / 2 1",
                "defines {B=q|{}} = 2 : {B:{A:I}}",
                "value -1 -1 = 5",
                "value -1 3 = 49",
                "infers &qr = 4 : {A:I,B:{A:I}}",
                "steps -1 = 14 / 2 3",
                "closes -1 = 4 -> {A:I,B:{A:I}}",
                "forgets 1 = 2 IT goes",
                "steps -1 = -1",
                "size -2 = 4 / 0 0",
                "defines \\q.q = 1 : (a>a)",
                "infers \\q.(qp) = 5 : ((I>a)>a)",
                "forgets 1 = 1",
                "free -1 = 32768 / 3",
                "forgets 0 = 1 IT goes",
                "infers \\p.$q=p;q = 3 : (a>a)",
                "defines {} = 0 : {}",
                "defines <Bp> = 1 : <B:{}|a>",
                "forgets 0 = 2",
                "infers p = -1000 / -1",
                "size -1 = 3 / 1 0",
                "defines 2 = 0 : I",
                "defines 3 = 1 : I",
                "defines 4 = 2 : I",
                "defines 5 = 3 : I",
                "defines 6 = 4 : I",
                "defines 7 = 5 : I",
                "defines 8 = 6 : I",
                "defines {A=p|{B=q|{C=r|{D=s|{E=t|{F=u|{G=v|{}}}}}}}} = 7 : {A:I,B:I,C:I,D:I,E:I,F:I,G:I}",
                "defines 1 = -300",
                "defines (11) = -300",
                "defines (1 = -3",
                "steps 7 = 22 / 2 127",
                "value 7 -1 = 29",
                "value 7 27 = 56",
                "infers w = 8 : {A:I,B:I,C:I,D:I,E:I,F:I,G:I}",
                "steps -1 = 23 / 2 127",
                "forgets 7 = 1 IT goes",
                "defines \\x.x = 7 : (a>a)",
                "infers {A=(wp)|{B=(w{})|{}}} = 3 : {A:I,B:{}}",
                "steps -1 = 14 / 2 3",
                "taken -1 0 = 0 / 2",
                "above 7 -1 = 0 / 0",
                "applies 7 7 = 3 -> (a>a)",
                "above -2 7 = 1 / 1",
                "forgets 8 = 0",
                "forgets 0 = 8 IT goes",
                "above -2 -2 = 1 / 1",
                "count 0 = 0");
    }

    private static String variable(int k) {
        return (char) ('a' + k % 26) + (k < 26 ? "" : String.valueOf(k / 26));
    }

    /** A record of the first fields, each of a variable of its own, and an END. */
    private static String record(int fields, int from) {
        StringBuilder s = new StringBuilder("{");
        for (int i = 0; i < fields; i++) {
            s.append(i == 0 ? "" : ",").append((char) ('A' + i)).append(':').append(variable(from + i));
        }
        return s.append('|').append(variable(from + fields)).append('}').toString();
    }

    /** A record of records of all eight fields, and an END. */
    private static String records(int fields) {
        StringBuilder s = new StringBuilder("{");
        for (int i = 0; i < fields; i++) {
            s.append(i == 0 ? "" : ",").append((char) ('A' + i)).append(':').append(record(8, 9 * i));
        }
        return s.append('|').append(variable(9 * fields)).append('}').toString();
    }

    /** Functions of functions, each of a variable of its own, to a number. */
    private static String functions(int n) {
        StringBuilder s = new StringBuilder();
        for (int i = 0; i < n; i++) {
            s.append('(').append(variable(i)).append('>');
        }
        return s + "I" + ")".repeat(n);
    }

    /** SIZE up to 60, all eight labels, more than 26 variables. */
    private static void greatTypes() {
        String takesAll = "\\r.$x=#Ar;$x=#Br;$x=#Cr;$x=#Dr;$x=#Er;$x=#Fr;$x=#Gr;$x=#Hr;1";
        String ofEach = "\\s.$x=(p#As);$x=(p#Bs);$x=(p#Cs);$x=(p#Ds);$x=(p#Es);1";
        String all = "{A=1|{B=1|{C=1|{D=1|{E=1|{F=1|{G=1|{H=1|{}}}}}}}}}";
        String allI = "{A:I,B:I,C:I,D:I,E:I,F:I,G:I,H:I}";
        String five = "{A:" + allI + ",B:" + allI + ",C:" + allI + ",D:" + allI + ",E:" + allI + "}";
        String closed = records(5).replaceAll("\\|\\w+", "");
        Script.run("great types",
                "defines " + takesAll + " = 0 : (" + record(8, 0) + ">I)",
                "size 0 = 12 / 9 1",
                "needs 0 = 0 / 255 1 255",
                "lacks 0 8 = 255",
                "lacks 0 9 = -1",
                "defines " + ofEach + " = 1 : (" + records(5) + ">I)",
                "size 1 = 54 / 46 6",
                "needs 1 = 0 / 31 1 31",
                "type 1 -1 = " + (records(5).length() + 4),
                "lacks 1 25 = -2",
                "lacks 1 26 = 255",
                "lacks 1 44 = 255",
                "lacks 1 45 = 31",
                "lacks 1 46 = -1",
                "side 1 0 = 52 -> " + records(5),
                "sort -2 = 2 / 31 1 31",
                "field -2 4 = 10 -> " + record(8, 0),
                "size -2 = 10 / 9 1",
                "sort -2 = 2 / 255 1 255",
                "meets -2 0 = -2000 / -1",
                "applies 0 -2 = 1 -> I",
                "applies 1 -2 = -2000 / -1",
                "closes 1 = 48 -> (" + renamed(closed) + ">I)",
                "above 1 -2 = 1 / 0",
                "above -2 1 = 0 / 1",
                "infers " + all + " = 9 : " + allI,
                "sort -1 = 2 / 255 0 0",
                "applies 0 -1 = 1 -> I",
                "applies 1 -1 = -2000 / -1",
                "fits -1 {H:I,G:I,F:I,E:I,D:I,C:I,B:I,A:I} = 1",
                "fits -1 {H:I,G:I,F:I,E:I,D:I,C:I,B:I} = 0",
                "defines " + all + " = 2 : " + allI,
                "defines {A=r|{B=r|{C=r|{D=r|{E=r|{}}}}}} = 3 : " + five,
                "size 3 = 46 / 0 0",
                "applies 1 3 = 1 -> I",
                "side 1 0 = 52 -> " + records(5),
                "above -2 3 = 1 / 0",
                "meets -2 3 = 46 -> " + five,
                "infers {F=r|s} = 55 : " + five.substring(0, five.length() - 1) + ",F:" + allI + "}",
                "applies 1 -1 = 1 -> I",
                "infers {H=1|{G=2|{F=r|s}}} = 57 : " + five.substring(0, five.length() - 1) + ",F:" + allI + ",G:I,H:I}",
                "part -1 10 = 55 -> " + five.substring(0, five.length() - 1) + ",F:" + allI + "}",
                "infers {H=r|{G=2|{F=r|s}}} = -7000 / -1",
                "infers {H={}|{G=r|{F=r|s}}} = -7006 / -1",
                "infers {H=\\x.1|{G={A=1|{}}|{F=r|s}}} = 60 : " + five.substring(0, five.length() - 1) + ",F:" + allI
                        + ",G:{A:I},H:(a>I)}",
                "meets -1 -1 = 60 -> " + five.substring(0, five.length() - 1) + ",F:" + allI + ",G:{A:I},H:(a>I)}",
                "closes -2 = 60 -> " + five.substring(0, five.length() - 1) + ",F:" + allI + ",G:{A:I},H:(a>I)}",
                "applies 1 -2 = 1 -> I",
                "parts -1 = 10 / 2 2 1 0 0 1 4 0 0 0 0",
                "defines " + "\\a.".repeat(29) + "1 = 4 : " + functions(29),
                "size 4 = 59 / 29 0",
                "type 4 -1 = 120",
                "side 4 1 = 57 -> " + functions(28),
                "infers {C=t|{}} = 60 : {C:" + functions(29) + "}",
                "field -1 2 = 59 -> " + functions(29),
                "infers <Ct> = -7000 / -1",
                "infers \\x.t = -7000 / -1",
                "infers $x=t;x = 59 : " + functions(29),
                "meets 4 -2 = 59 -> " + functions(29),
                "above 4 -2 = 1 / 1",
                "applies 4 0 = 57 -> " + functions(28));
    }

    /** Names of variables by the order in which they come. */
    private static String renamed(String type) {
        java.util.List<String> seen = new java.util.ArrayList<>();
        StringBuilder s = new StringBuilder();
        for (String part : type.split("(?=[a-z])|(?<=[a-z0-9])(?=[^a-z0-9])")) {
            if (!part.isEmpty() && Character.isLowerCase(part.charAt(0))) {
                if (!seen.contains(part)) {
                    seen.add(part);
                }
                s.append(variable(seen.indexOf(part)));
            } else {
                s.append(part);
            }
        }
        return s.toString();
    }

    /** One END comes more than once: in fields of its own row, in several rows, beside what is left of them. */
    private static void oneEnd() {
        Script.run("one END",
                "defines \\r.$y={C=1|r};{A=r|{B=r|r}} = 0 : ({|a}>{A:{|a},B:{|a}|a})",
                "size 0 = 9 / 1 1",
                "lacks 0 0 = 7",
                "needs 0 = 0 / 0 1 7",
                "side 0 1 = 6 -> {A:{|a},B:{|a}|a}",
                "sort -2 = 2 / 3 1 7",
                "fits -2 {A:{},B:{}} = 1",
                "fits -2 {D:I,A:{D:I},B:{D:I}} = 1",
                "fits -2 {A:{D:I},B:{D:I}} = 0",
                "fits -2 {A:{},B:{D:I},D:I} = 0",
                "fits -2 {A:{A:I},B:{A:I}} = 0",
                "fits -2 {A:{C:I},B:{C:I},C:I} = 0",
                "field -2 1 = 2 -> {|a}",
                "lacks -2 0 = 7",
                "infers {A={D=1|{}}|{B={D=1|{}}|{D=1|{}}}} = 6 : {A:{D:I},B:{D:I},D:I}",
                "side 0 1 = 6 -> {A:{|a},B:{|a}|a}",
                "above -2 -1 = 1 / 0",
                "meets -2 -1 = 6 -> {A:{D:I},B:{D:I},D:I}",
                "above -2 -1 = 1 / 1",
                "applies 0 -1 = -4000 / 0",
                "infers {D=\\x.x|{}} = 4 : {D:(a>a)}",
                "applies 0 -1 = 12 -> {A:{D:(a>a)},B:{D:(a>a)},D:(a>a)}",
                "size -2 = 12 / 1 0",
                "closes 0 = 5 -> ({}>{A:{},B:{}})",
                "above 0 -2 = 1 / 0",
                "defines \\v.?v[Ax.<Cx>;*o.?o[Bx.<Cx>;*q.q]] = 1 : (<A:a,B:a,C:a|b>><C:a|b>)",
                "lacks 1 1 = 7",
                "needs 1 = 1 / 7 1 7",
                "side 1 1 = 3 -> <C:a|b>",
                "applies 1 -2 = -4000 / 0",
                "lacks -2 1 = 7",
                "fits 1 (<A:I,B:I,C:I,D:{}>><D:{},C:I>) = 1",
                "fits 1 (<A:I,B:I,C:I,D:{}>><C:I>) = 0",
                "defines \\r.\\s.{A=-Br|{B=-Bs|{C=?<Ar>[Ax.x;Bx.s]|{}}}} = 2 : ({B:a|b}>({B:a|b}>{A:{|b},B:{|b},C:{B:a|b}}))",
                "lacks 2 1 = 2",
                "size 2 = 16 / 2 1",
                "part 2 9 = 2 -> {|a}",
                "part 2 11 = 3 -> {B:a|b}",
                "meets 2 2 = 16 -> ({B:a|b}>({B:a|b}>{A:{|b},B:{|b},C:{B:a|b}}))",
                "side 2 1 = 12 -> ({B:a|b}>{A:{|b},B:{|b},C:{B:a|b}})",
                "infers {B=1|{H=2|{}}} = 3 : {B:I,H:I}",
                "applies -2 -1 = 8 -> {A:{H:I},B:{H:I},C:{B:I,H:I}}",
                "applies 2 -1 = 12 -> ({B:I,H:I}>{A:{H:I},B:{H:I},C:{B:I,H:I}})",
                "applies 2 0 = -2000 / -1",
                "infers \\r.?<A-Br>[Ax.x;Bx.r] = -5016 / -1");
    }

    /** $ within functions and branches: what is theirs stays, the rest is new each time. */
    private static void schemes() {
        Script.run("$ within",
                "infers \\x.$f=\\y.{A=x|{B=y|{}}};{A=(f1)|{B=(f{})|{}}} = 9 : (a>{A:{A:a,B:I},B:{A:a,B:{}}})",
                "part -1 6 = 5 -> (a>{A:b,B:a})",
                "part -1 28 = 5 -> (I>{A:a,B:I})",
                "part -1 36 = 5 -> ({}>{A:a,B:{}})",
                "size -1 = 9 / 1 0",
                "defines \\v.?v[Ax.$g=\\y.<Bx>;?(g1)[*z.(g{})];*o.o] = 0 : (<A:a,B:a|b>><B:a|b>)",
                "lacks 0 1 = 3",
                "part 0 12 = 5 -> (a><B:b|c>)",
                "part 0 21 = 3 -> <B:a|b>",
                "lacks -2 1 = 2",
                "part 0 29 = 3 -> <B:a|b>",
                "lacks -2 1 = 3",
                "infers \\f.$g=f;{A=(g1)|{B=(g2)|{}}} = 7 : ((I>a)>{A:a,B:a})",
                "infers \\f.$g=f;{A=(g1)|{B=(g{})|{}}} = -2019 / -1",
                "infers \\r.$g=\\s.{A=#Br|-Cs};{A=(g{C=1|{}})|{B=(g{C={}|{D=1|{}}})|{}}} = 10 : ({B:a|b}>{A:{A:a},B:{A:a,D:I}})",
                "lacks -1 1 = 2",
                "part -1 6 = 7 -> ({C:a|b}>{A:c|b})",
                "lacks -2 1 = 5",
                "part -1 25 = 5 -> ({C:I}>{A:a})",
                "infers $i=\\x.x;?<A1>[Ax.$j=(ii);{A=(jx)|{B=(j{})|{}}};*o.{A=2|{B={}|{}}}] = 3 : {A:I,B:{}}",
                "steps -1 = 21 / 2 3",
                "value -1 3 = 49",
                "infers $x=1;$x={A=x|{}};$x={A=x|{}};x = 3 : {A:{A:I}}",
                "part -1 29 = 3 -> {A:{A:I}}",
                "part -1 9 = -2",
                "part -1 8 = 2 -> {A:I}",
                "free -1 = 0 / 5",
                "infers \\p.$q=\\x.p;{A=(q1)|{B=(q{})|{C=p|{}}}} = 6 : (a>{A:a,B:a,C:a})",
                "free -1 = 0 / 6");
    }

    /** Values of all sorts, of 500 steps and more, long ones, of IT and of definitions by turns. */
    private static void values() {
        String[] doubling = ValuesTest.DOUBLING;
        String often = "(s".repeat(22) + "0" + ")".repeat(22);
        String oftener = "(s".repeat(23) + "0" + ")".repeat(23);
        Script.run("values",
                "defines " + doubling[0] + " = 0 : (a>(a>a))",
                "defines " + doubling[1] + " = 1 : ({B:{A:a}}>{B:{A:a}})",
                "defines " + doubling[2] + " = 2 : ({A:a,B:{A:a}}>{B:{A:a}})",
                "defines " + doubling[3] + " = 3 : (a>{B:{A:a}})",
                "steps 3 = 1 / 1 -1",
                "value 3 -1 = 1",
                "value 3 0 = 92",
                "taken 3 0 = -3",
                "infers (s0) = 3 : {B:{A:I}}",
                "steps -1 = 23 / 2 3",
                "value -1 -1 = 13",
                "taken -1 0 = 0 / 0",
                "taken -1 1 = 2 / 1",
                "taken -1 2 = -3",
                "taken -1 8 = -1",
                "infers " + often + " = 45 : " + "{B:{A:".repeat(22) + "I" + "}}".repeat(22),
                "value -1 -1 = 50331637",
                "value -1 50331636 = 125",
                "value -1 50331637 = -1",
                "value -1 2147483647 = -1",
                "steps -1 = 485 / 2 3",
                "steps 0 = 1 / 1 -1",
                "value -1 0 = 123",
                "taken -1 0 = 2 / 3",
                "infers " + oftener + " = 47 : " + "{B:{A:".repeat(23) + "I" + "}}".repeat(23),
                "steps -1 = -2",
                "value -1 -1 = -2",
                "value -1 0 = -2",
                "value -1 -2 = -1",
                "taken -1 0 = -2",
                "taken -1 -1 = -1",
                "steps 3 = 1 / 1 -1",
                "defines {A=s|{B=<H4>|{C={}|{D=7|{}}}}} = 4 : {A:(a>{B:{A:a}}),B:<H:I|b>,C:{},D:I}",
                "steps 4 = 11 / 2 15",
                "taken 4 0 = 1 / -1",
                "taken 4 1 = 3 / 7",
                "taken 4 2 = 2 / 0",
                "taken 4 3 = 0 / 7",
                "value 4 -1 = 21",
                "value 4 3 = 92",
                "value 4 7 = 60",
                "value 4 8 = 72",
                "infers #Bt = 3 : <H:I|a>",
                "steps -1 = 13 / 3 7",
                "taken -1 7 = 0 / 4",
                "taken -1 6 = -3",
                "value -1 -1 = 4",
                "infers (#At#Dt) = 3 : {B:{A:I}}",
                "steps -1 = 46 / 2 3",
                "value -1 3 = 55",
                "infers ?#Bt[Hx.{A=x|{}};*y.{A=1|{}}] = 2 : {A:I}",
                "steps -1 = 17 / 2 1",
                "value -1 3 = 52",
                "forgets 4 = 1 IT goes",
                "value -1 -1 = -1",
                "steps -1 = -1",
                "steps 4 = -1",
                "infers (s1) = 3 : {B:{A:I}}",
                "value -1 3 = 49",
                "defines ~AH-B(s2) = -3000 / 0",
                "defines ~BH(s2) = 4 : {H:{A:I}}",
                "steps 4 = 24 / 2 129",
                "value 4 -1 = 13",
                "value 4 5 = 72");
    }

    /** THE TEXT grows sign by sign, is cut, is read by each call that reads it. */
    private static void texts() {
        Script.run("texts",
                "tell {A=1|{}} = 8",
                "cut 9 = -1",
                "cut -1 = -1",
                "size -1 = -1",
                "tell ;;;; = 12",
                "cut 8 = 8",
                "infers = 2 : {A:I}",
                "infers = -1",
                "defines = -1",
                "fits -1 = -1",
                "tell {A:I} = 5",
                "fits 0 = -1",
                "tell {A:I} = 5",
                "fits -1 = 1",
                "tell {A:{}} = 6",
                "fits -1 = 0",
                "tell {A:I,} = 6",
                "fits -1 = -6",
                "tell (( = 2",
                "sort -1 = 2 / 1 0 0",
                "tell \\x.x11)2 = 10",
                "cut 9 = 9",
                "infers = -8",
                "tell (( = 2",
                "tell \\x.x\\y.y)2) = 13",
                "infers = 1 : I",
                "steps -1 = 7 / 0 2",
                "sign 825307441 = 4",
                "cut 1 = 1",
                "defines = 0 : I",
                "tell <A = 2",
                "tell p> = 4",
                "infers = 3 : <A:I|a>",
                "tell " + "&{}".repeat(24) + "{}{} = 76",
                "tell " + "-".repeat(24) + " = 100",
                "sign 0 = -1",
                "cut 97 = 97",
                "sign 0 = -1",
                "cut 96 = 96",
                "sign 0 = 100",
                "cut 74 = 74",
                "infers = 1 : {}",
                "parts -1 = 49 / 0 0 0 0 0 25 0 0 24 0 0",
                "free -1 = 0 / 25");
    }
}
