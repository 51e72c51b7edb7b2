/** The sentences of the document's terms that name an edge, one test for each; the sentence stands above it. */
public final class TermEdgeTest {
    private static final int REFUSED = ApiCompare.REFUSED;
    private static final int NO_TYPE = ApiCompare.NO_TYPE;
    private static final int NO_MEMBER = ApiCompare.NO_MEMBER;
    private static final int FIXED = ApiCompare.FIXED;
    private static final int FITS = ApiCompare.FITS;
    private static final int INTERFACE = ApiCompare.INTERFACE;
    private static final int STATIC = ApiCompare.STATIC;
    private static final int ABSTRACT = ApiCompare.ABSTRACT;
    private static final int FINAL = ApiCompare.FINAL;
    private static final int HIDDEN = ApiCompare.HIDDEN;
    private static final int NO_SUPER = Check.NO_SUPER;
    private static final int INT_FIELD = Check.INT_FIELD;
    private static final int DOUBLE_FIELD = Check.DOUBLE_FIELD;
    private static final Check check = new Check();

    public static void main(String[] args) {
        noTypeIsThereAtFirst();
        interfaceAlwaysCountsAsAbstract();
        onlyClassesAreFinal();
        superIsALesserClassOrNone();
        interfacesAreLesserInterfaces();
        whatIsNamedMustBeThereThen();
        typeGoesOnlyUnnamed();
        oneFieldOfEachName();
        constantNeedsStaticAndFinal();
        constantIsVOrHalfOfIt();
        oneMethodOfEachNameAndParameter();
        abstractMethodIsNothingElse();
        methodsOfInterfacesMayHaveCode();
        subtypeOfItselfAndAllAbove();
        fieldInItsOwnTypeFirst();
        fieldInInterfacesByRisingNumberEachWhole();
        fieldInTheSuperLast();
        fieldOfTheKindAlone();
        methodInSupersBeforeInterfaces();
        methodInTheGreatestInterface();
        methodInTheGreatestInterfaceWhoeverNamesIt();
        methodOfTheAnswerAlone();
        hiddenTypesAboveDoNotMatter();
        check.end();
    }

    private static void supers(ApiCompare x, int version) {
        for (int type = 0; type < 6; type++) {
            x.type(version, type, 0, type == 0 ? NO_SUPER : type - 1, 0);
        }
    }

    private static void interfaces(ApiCompare x, int version) {
        for (int type = 0; type < 6; type++) {
            x.type(version, type, INTERFACE, NO_SUPER, type == 0 ? 0 : 1 << type - 1);
        }
    }

    /** "in a version a type is there or not (none at first)". */
    private static void noTypeIsThereAtFirst() {
        for (int version = 0; version < 2; version++) {
            for (int type = 0; type < 6; type++) {
                ApiCompare x = new ApiCompare();
                check.due("no field without its type", x.field(Check.fieldSpot(version, type, 0), 0, 0, 0), REFUSED);
                check.due("no method without its type", x.method(Check.methodSpot(version, type), 0, 0, 0), REFUSED);
                check.due("nothing to drop", x.drop(version, type), REFUSED);
                check.due("not under itself", x.under(version, type, type), false);
                x.use(Check.NEW, type, 0, 0);
                check.due("nothing to make", x.compile(0, version), NO_TYPE);
                x.type(version, type, 0, NO_SUPER, 0);
                check.due("there once it is told", x.compile(0, version), 0);
                check.due("but not in the other version", x.compile(0, 1 - version), NO_TYPE);
            }
        }
    }

    /** "perhaps abstract (an interface always counts as abstract)". */
    private static void interfaceAlwaysCountsAsAbstract() {
        int[] told = {INTERFACE, INTERFACE | ABSTRACT};
        for (int flags : told) {
            ApiCompare x = Check.withClass();
            x.use(Check.NEW, 0, 0, 0);
            x.copy();
            x.type(1, 0, flags, NO_SUPER, 0);
            check.due("linking NEW of an interface " + flags, x.link(0), ApiCompare.CHANGED);
            check.due("compiling it anew", x.recompile(0), FIXED);
            check.due("compiling it", x.compile(0, 1), FIXED);
            x.use(Check.EXTEND, 0, 0, 0);
            check.due("but it can be extended", x.compile(1, 1), 0);
        }
    }

    /** "final (classes alone)". */
    private static void onlyClassesAreFinal() {
        for (int more = 0; more < 16; more++) {
            ApiCompare x = new ApiCompare();
            int flags = more & ~INTERFACE | FINAL;
            check.due("a final class " + flags, x.type(0, 0, flags, NO_SUPER, 0), 0);
            check.due("a final interface " + flags, x.type(0, 0, flags | INTERFACE, NO_SUPER, 0), REFUSED);
        }
    }

    /** "it has a SUPER, a class with a lesser number, or none (an interface none)". */
    private static void superIsALesserClassOrNone() {
        for (int type = 0; type < 6; type++) {
            for (int above = 0; above < 6; above++) {
                ApiCompare x = new ApiCompare();
                for (int other = 0; other < 6; other++) {
                    x.type(0, other, 0, NO_SUPER, 0);
                }
                check.due(above + " above " + type, x.type(0, type, 0, above, 0), above < type ? 0 : REFUSED);
                check.due(type + " is under it", x.under(0, type, above), above <= type);
                check.due("an interface under a class", x.type(0, type, INTERFACE, above, 0), REFUSED);
                ApiCompare y = new ApiCompare();
                y.type(0, above, INTERFACE, NO_SUPER, 0);
                check.due("the super is an interface", y.type(0, type, 0, above, 0), REFUSED);
            }
            ApiCompare z = new ApiCompare();
            check.due("a class without a super", z.type(0, type, 0, NO_SUPER, 0), 0);
            check.due("an interface without a super", z.type(1, type, INTERFACE, NO_SUPER, 0), 0);
        }
    }

    /** "and INTERFACES with lesser numbers". */
    private static void interfacesAreLesserInterfaces() {
        for (int type = 0; type < 6; type++) {
            for (int above = 0; above < 6; above++) {
                for (int flags = 0; flags <= INTERFACE; flags++) {
                    ApiCompare x = new ApiCompare();
                    for (int other = 0; other < 6; other++) {
                        x.type(0, other, INTERFACE, NO_SUPER, 0);
                    }
                    int due = above < type ? 0 : REFUSED;
                    check.due(above + " an interface of " + type, x.type(0, type, flags, NO_SUPER, 1 << above), due);
                    ApiCompare y = new ApiCompare();
                    y.type(0, above, 0, NO_SUPER, 0);
                    check.due("that is a class", y.type(0, type, flags, NO_SUPER, 1 << above), REFUSED);
                }
            }
        }
    }

    /** "What a type names must be there in the version when it is told". */
    private static void whatIsNamedMustBeThereThen() {
        ApiCompare x = new ApiCompare();
        x.type(0, 0, 0, NO_SUPER, 0);
        x.type(0, 1, INTERFACE, NO_SUPER, 0);
        check.due("a super in the other version alone", x.type(1, 2, 0, 0, 0), REFUSED);
        check.due("an interface in the other version alone", x.type(1, 2, 0, NO_SUPER, 1 << 1), REFUSED);
        x.drop(0, 0);
        check.due("a super that is gone", x.type(0, 2, 0, 0, 0), REFUSED);
        x.type(0, 3, INTERFACE, NO_SUPER, 0);
        x.drop(0, 1);
        check.due("an interface that is gone", x.type(0, 4, 0, NO_SUPER, 1 << 1), REFUSED);
        check.due("one there, one gone", x.type(0, 4, 0, NO_SUPER, 1 << 1 | 1 << 3), REFUSED);
        x.type(0, 1, INTERFACE, NO_SUPER, 0);
        check.due("both there", x.type(0, 4, 0, NO_SUPER, 1 << 1 | 1 << 3), 0);
    }

    /** "a type may go only if no other one there names it". */
    private static void typeGoesOnlyUnnamed() {
        for (int flags = 0; flags <= INTERFACE; flags++) {
            ApiCompare x = new ApiCompare();
            x.type(0, 0, flags, NO_SUPER, 0);
            x.copy();
            int above = flags == INTERFACE ? NO_SUPER : 0;
            int set = flags == INTERFACE ? 1 << 0 : 0;
            x.type(0, 5, 0, above, set);
            x.type(0, 4, 0, above, set);
            check.due("two name it", x.drop(0, 0), REFUSED);
            x.drop(0, 4);
            check.due("one names it still", x.drop(0, 0), REFUSED);
            check.due("none in the other version", x.drop(1, 0), 0);
            x.type(0, 5, 0, NO_SUPER, 0);
            check.due("the last one was told anew", x.drop(0, 0), 0);
            check.due("the one that named it stays", x.count(0, 0), 1);
        }
        ApiCompare y = new ApiCompare();
        supers(y, 1);
        for (int type = 5; type >= 0; type--) {
            check.due("from below, " + type, y.drop(1, type), 0);
            check.due("and so each of a chain", y.count(1, 0), type);
        }
    }

    /** "at most one of each name 0 .. 3, of a kind INT or DOUBLE". */
    private static void oneFieldOfEachName() {
        for (int name = 0; name < 4; name++) {
            ApiCompare x = Check.withClass();
            x.use(Check.READ, 0, name, 0);
            x.field(Check.fieldSpot(0, 0, INT_FIELD), name, Check.FIXED_VALUE, 4);
            check.due("INT", x.value(0, 0), 4.0);
            x.field(Check.fieldSpot(0, 0, DOUBLE_FIELD), name, Check.FIXED_VALUE, 3);
            check.due("DOUBLE in its place", x.value(0, 0), 1.5);
            check.due("one of them alone", x.count(0, 1), 1);
            check.due("cut", x.cut(0, 0, name, Check.FIELD), 0);
            check.due("the other one does not come back", x.compile(0, 0), NO_MEMBER);
        }
    }

    /** "if static and final, perhaps CONSTANT". */
    private static void constantNeedsStaticAndFinal() {
        ApiCompare x = Check.withClass();
        int constant = ApiCompare.CONSTANT;
        int[] refused = {constant, constant | STATIC, constant | FINAL, constant | HIDDEN, constant | STATIC | HIDDEN,
            constant | FINAL | HIDDEN};
        for (int flags : refused) {
            check.due("CONSTANT with " + flags, x.field(0, 0, flags, 1), REFUSED);
        }
        check.due("static and final", x.field(0, 0, constant | STATIC | FINAL, 1), 0);
        check.due("hidden as well", x.field(0, 0, constant | STATIC | FINAL | HIDDEN, 1), 0);
    }

    /** "with a value: v for INT, v * 0.5 for DOUBLE". */
    private static void constantIsVOrHalfOfIt() {
        int[] numbers = {0, 1, -1, 3, Integer.MAX_VALUE, Integer.MIN_VALUE, Integer.MIN_VALUE + 1};
        double[] values = {0.0, 1.0, -1.0, 3.0, 2147483647.0, -2147483648.0, -2147483647.0};
        double[] halves = {0.0, 0.5, -0.5, 1.5, 1073741823.5, -1073741824.0, -1073741823.5};
        ApiCompare x = Check.withClass();
        x.use(Check.READ, 0, 0, 0);
        for (int i = 0; i < numbers.length; i++) {
            x.field(Check.fieldSpot(0, 0, INT_FIELD), 0, Check.FIXED_VALUE, numbers[i]);
            check.due("INT " + numbers[i], x.value(0, 0), values[i]);
            x.field(Check.fieldSpot(0, 0, DOUBLE_FIELD), 0, Check.FIXED_VALUE, numbers[i]);
            check.due("DOUBLE " + numbers[i], x.value(0, 0), halves[i]);
        }
    }

    /** "at most one of each name 0 .. 2 and parameter, with an answer". */
    private static void oneMethodOfEachNameAndParameter() {
        ApiCompare x = Check.withClass();
        x.method(0, 0, Check.sign(Check.INT, Check.INT), 0);
        x.use(Check.CALL, 0, 0, Check.INT);
        x.copy();
        x.method(0, 0, Check.sign(Check.INT, Check.LONG), 0);
        check.due("another answer stands in its place", x.count(0, 2), 1);
        check.due("and is another method", x.link(0), ApiCompare.LOST_MEMBER);
        x.method(0, 0, Check.sign(Check.LONG, Check.LONG), 0);
        check.due("another parameter stands beside it", x.count(0, 2), 2);
        x.method(0, 2, Check.sign(Check.INT, Check.LONG), 0);
        check.due("another name stands beside it", x.count(0, 2), 3);
        x.cut(0, 0, 0, Check.INT);
        check.due("the one with another parameter stays", x.compile(0, 0), 0);
        x.cut(0, 0, 0, Check.LONG);
        check.due("the one with another name is another one", x.compile(0, 0), NO_MEMBER);
    }

    /** "an abstract one is neither static nor final nor HIDDEN". */
    private static void abstractMethodIsNothingElse() {
        for (int flags = 0; flags < 16; flags++) {
            ApiCompare x = new ApiCompare();
            x.type(0, 0, ABSTRACT, NO_SUPER, 0);
            boolean allowed = (flags & ABSTRACT) == 0 || flags == ABSTRACT;
            check.due("flags of a method " + flags, x.method(0, 0, 0, flags), allowed ? 0 : REFUSED);
            check.due("there with " + flags, x.count(0, 2), allowed ? 1 : 0);
        }
        check.due("abstract in a class that is not", Check.withClass().method(0, 0, 0, ABSTRACT), 0);
    }

    /** "All methods of INTERFACES may have code": none has to be abstract, and such a one is found and called. */
    private static void methodsOfInterfacesMayHaveCode() {
        int[] allowed = {0, STATIC, FINAL, STATIC | FINAL, ABSTRACT};
        for (int flags : allowed) {
            ApiCompare x = new ApiCompare();
            x.type(0, 0, INTERFACE, NO_SUPER, 0);
            x.type(0, 1, 0, NO_SUPER, 1 << 0);
            check.due("a method of an interface " + flags, x.method(0, 0, 0, flags), 0);
            x.use(Check.CALL, 0, 0, Check.NONE);
            x.use(Check.CALL, 1, 0, Check.NONE);
            check.due("is called there", x.compile(0, 0), 0);
            check.due("and in a class with it", x.compile(1, 0), 0);
        }
    }

    /** "A class is a SUBTYPE of itself, its SUPER, its INTERFACES, and of what they are; an interface likewise." */
    private static void subtypeOfItselfAndAllAbove() {
        ApiCompare x = new ApiCompare();
        supers(x, 0);
        interfaces(x, 1);
        for (int type = 0; type < 6; type++) {
            for (int other = 0; other < 6; other++) {
                check.due("supers: " + type + " under " + other, x.under(0, type, other), other <= type);
                check.due("interfaces: " + type + " under " + other, x.under(1, type, other), other <= type);
            }
        }
        ApiCompare y = new ApiCompare();
        y.type(0, 0, INTERFACE, NO_SUPER, 0);
        y.type(0, 1, INTERFACE, NO_SUPER, 1 << 0);
        y.type(0, 2, 0, NO_SUPER, 1 << 1);
        y.type(0, 3, 0, 2, 0);
        y.type(0, 4, 0, NO_SUPER, 1 << 0);
        check.due("the super's interface's interface", y.under(0, 3, 0), true);
        check.due("not what has the same interface", y.under(0, 3, 4), false);
        check.due("not what is below", y.under(0, 2, 3), false);
    }

    private static void constant(ApiCompare x, int type, int v) {
        x.field(Check.fieldSpot(0, type, INT_FIELD), 0, Check.FIXED_VALUE, v);
    }

    /** "TO FIND a field of a name in a type: its own". */
    private static void fieldInItsOwnTypeFirst() {
        ApiCompare x = new ApiCompare();
        x.type(0, 0, 0, NO_SUPER, 0);
        x.type(0, 1, INTERFACE, NO_SUPER, 0);
        x.type(0, 2, 0, 0, 1 << 1);
        x.use(Check.READ, 2, 0, 0);
        check.due("nothing", x.compile(0, 0), NO_MEMBER);
        constant(x, 0, 10);
        constant(x, 1, 11);
        constant(x, 2, 12);
        check.due("its own", x.value(0, 0), 12.0);
        x.field(Check.fieldSpot(0, 2, INT_FIELD), 0, HIDDEN, 0);
        check.due("its own, even if that is HIDDEN", x.compile(0, 0), NO_MEMBER);
    }

    /** "else in its INTERFACES, by rising number, each in this way": all above the first one come before the second. */
    private static void fieldInInterfacesByRisingNumberEachWhole() {
        ApiCompare x = new ApiCompare();
        x.type(0, 0, INTERFACE, NO_SUPER, 0);
        x.type(0, 1, INTERFACE, NO_SUPER, 0);
        x.type(0, 2, INTERFACE, NO_SUPER, 1 << 1);
        x.type(0, 3, INTERFACE, NO_SUPER, 1 << 0);
        x.type(0, 4, 0, NO_SUPER, 1 << 2 | 1 << 3);
        x.use(Check.READ, 4, 0, 0);
        constant(x, 0, 10);
        check.due("above the second one", x.value(0, 0), 10.0);
        constant(x, 3, 13);
        check.due("in the second one", x.value(0, 0), 13.0);
        constant(x, 1, 11);
        check.due("above the first one", x.value(0, 0), 11.0);
        constant(x, 2, 12);
        check.due("in the first one", x.value(0, 0), 12.0);
        ApiCompare y = new ApiCompare();
        interfaces(y, 0);
        y.use(Check.READ, 5, 0, 0);
        for (int type = 0; type < 6; type++) {
            constant(y, type, 20 + type);
            check.due("through five interfaces, " + type, y.value(0, 0), 20.0 + type);
        }
    }

    /** "else in its SUPER": after all interfaces, and as far up as there is one. */
    private static void fieldInTheSuperLast() {
        ApiCompare x = new ApiCompare();
        supers(x, 0);
        x.use(Check.READ, 5, 0, 0);
        for (int type = 0; type < 6; type++) {
            constant(x, type, 20 + type);
            check.due("through five supers, " + type, x.value(0, 0), 20.0 + type);
        }
        ApiCompare y = new ApiCompare();
        y.type(0, 0, INTERFACE, NO_SUPER, 0);
        y.type(0, 1, INTERFACE, NO_SUPER, 0);
        y.type(0, 2, 0, NO_SUPER, 1 << 0);
        y.type(0, 3, 0, 2, 1 << 1);
        y.use(Check.READ, 3, 0, 0);
        constant(y, 0, 10);
        check.due("in the super's interface", y.value(0, 0), 10.0);
        constant(y, 2, 12);
        check.due("in the super", y.value(0, 0), 12.0);
        constant(y, 1, 11);
        check.due("in the interface", y.value(0, 0), 11.0);
    }

    /** "(Looked for with a kind: only fields of that kind count.)" */
    private static void fieldOfTheKindAlone() {
        for (int kind = 0; kind < 2; kind++) {
            ApiCompare x = new ApiCompare();
            supers(x, 0);
            x.field(Check.fieldSpot(0, 5, kind), 0, 0, 0);
            x.use(Check.READ, 5, 0, 0);
            x.copy();
            for (int type = 5; type > 0; type--) {
                x.field(Check.fieldSpot(1, type, 1 - kind), 0, HIDDEN, 0);
                check.due("none of the kind", x.link(0), ApiCompare.LOST_MEMBER);
            }
            x.field(Check.fieldSpot(1, 0, kind), 0, 0, 0);
            check.due("the one of the kind, behind five others", x.link(0), FITS);
            check.due("by name alone another one is found", x.compile(0, 1), NO_MEMBER);
        }
    }

    /** "TO FIND a method ..: its own; else its SUPER's own, and so on up; else .. INTERFACES". */
    private static void methodInSupersBeforeInterfaces() {
        ApiCompare x = new ApiCompare();
        x.type(0, 0, 0, NO_SUPER, 0);
        x.type(0, 1, 0, 0, 0);
        x.type(0, 2, INTERFACE, NO_SUPER, 0);
        x.type(0, 3, 0, 1, 0);
        x.type(0, 4, INTERFACE, NO_SUPER, 1 << 2);
        x.type(0, 5, 0, 3, 1 << 4);
        x.use(Check.CALL, 5, 0, Check.NONE);
        check.due("nothing", x.compile(0, 0), NO_MEMBER);
        int[] fromLastToFirst = {2, 4, 0, 1, 3, 5};
        for (int type : fromLastToFirst) {
            x.method(Check.methodSpot(0, type), 0, 0, HIDDEN);
            check.due("the one in " + type + " is found, HIDDEN", x.compile(0, 0), NO_MEMBER);
            x.method(Check.methodSpot(0, type), 0, 0, 0);
            check.due("the one in " + type + " is found", x.compile(0, 0), 0);
        }
    }

    /** "of the supertypes that are INTERFACES the one with the greatest number that has one". */
    private static void methodInTheGreatestInterface() {
        ApiCompare x = new ApiCompare();
        for (int type = 0; type < 5; type++) {
            x.type(0, type, INTERFACE, NO_SUPER, 0);
        }
        x.type(0, 5, 0, NO_SUPER, 31);
        x.use(Check.CALL, 5, 0, Check.NONE);
        for (int type = 0; type < 5; type++) {
            x.method(Check.methodSpot(0, type), 0, 0, HIDDEN);
            check.due("the greatest one, " + type + ", HIDDEN", x.compile(0, 0), NO_MEMBER);
            x.method(Check.methodSpot(0, type), 0, 0, 0);
            check.due("the greatest one, " + type, x.compile(0, 0), 0);
        }
        x.type(0, 5, 0, NO_SUPER, 7);
        x.method(Check.methodSpot(0, 2), 0, 0, HIDDEN);
        check.due("those that are not above it do not count", x.compile(0, 0), NO_MEMBER);
    }

    /** The same: a super's interface counts as much as its own, and one far above as much as one near. */
    private static void methodInTheGreatestInterfaceWhoeverNamesIt() {
        ApiCompare x = new ApiCompare();
        x.type(0, 0, INTERFACE, NO_SUPER, 0);
        x.type(0, 1, INTERFACE, NO_SUPER, 0);
        x.type(0, 2, INTERFACE, NO_SUPER, 1 << 1);
        x.type(0, 3, 0, NO_SUPER, 1 << 2);
        x.type(0, 4, 0, 3, 1 << 0);
        x.use(Check.CALL_STATIC, 4, 0, Check.NONE);
        x.method(Check.methodSpot(0, 0), 0, 0, 0);
        check.due("its own interface", x.compile(0, 0), FIXED);
        x.method(Check.methodSpot(0, 1), 0, 0, STATIC);
        check.due("above the super's interface, but greater", x.compile(0, 0), 0);
        x.method(Check.methodSpot(0, 2), 0, 0, 0);
        check.due("the super's interface", x.compile(0, 0), FIXED);
        ApiCompare y = new ApiCompare();
        interfaces(y, 0);
        y.use(Check.CALL, 5, 0, Check.NONE);
        y.method(Check.methodSpot(0, 0), 0, 0, 0);
        check.due("an interface's, five above", y.compile(0, 0), 0);
    }

    /** "(and answer, if one is told: only those count)". */
    private static void methodOfTheAnswerAlone() {
        for (int answer = 0; answer < 4; answer++) {
            ApiCompare x = new ApiCompare();
            supers(x, 0);
            x.method(Check.methodSpot(0, 0), 0, Check.sign(Check.NONE, answer), 0);
            x.use(Check.CALL, 5, 0, Check.NONE);
            x.copy();
            for (int type = 1; type < 6; type++) {
                x.method(Check.methodSpot(1, type), 0, Check.sign(Check.NONE, (answer + 1) % 4), HIDDEN);
                check.due("others are passed over", x.link(0), FITS);
            }
            x.method(Check.methodSpot(1, 0), 0, Check.sign(Check.NONE, (answer + 2) % 4), 0);
            check.due("none of the answer", x.link(0), ApiCompare.LOST_MEMBER);
        }
    }

    /** "The type is not there, or HIDDEN: NO_TYPE": of the types above it nothing is said. */
    private static void hiddenTypesAboveDoNotMatter() {
        ApiCompare x = new ApiCompare();
        x.type(0, 0, INTERFACE | HIDDEN, NO_SUPER, 0);
        x.type(0, 1, HIDDEN, NO_SUPER, 0);
        x.type(0, 2, 0, 1, 1 << 0);
        x.field(Check.fieldSpot(0, 1, INT_FIELD), 0, 0, 0);
        x.method(Check.methodSpot(0, 0), 0, 0, 0);
        x.use(Check.READ, 2, 0, 0);
        x.use(Check.CALL, 2, 0, Check.NONE);
        x.copy();
        for (int use = 0; use < 2; use++) {
            check.due("compiled, use " + use, x.compile(use, 0), 0);
            check.due("linked, use " + use, x.link(use), FITS);
        }
        x.type(0, 2, HIDDEN, 1, 1 << 0);
        for (int use = 0; use < 2; use++) {
            check.due("HIDDEN itself, use " + use, x.compile(use, 0), NO_TYPE);
        }
    }
}
