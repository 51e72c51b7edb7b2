/**
 * Two versions of what a plugin offers, and the uses that others make of it: what breaks, what silently means
 * something else, and what changed at all.
 */
public final class ApiCompare {
    public static final int REFUSED = -1;
    public static final int FULL = -2;
    public static final int NO_TYPE = -3;
    public static final int NO_MEMBER = -4;
    public static final int FIXED = -5;
    public static final int FITS = 0;
    public static final int MOVED = 1;
    public static final int STALE = 2;
    public static final int UNTIED = 3;
    public static final int LOST_TYPE = -6;
    public static final int LOST_MEMBER = -7;
    public static final int ILLEGAL = -8;
    public static final int CHANGED = -9;
    public static final int INTERFACE = 1;
    public static final int STATIC = 1;
    public static final int ABSTRACT = 2;
    public static final int FINAL = 4;
    public static final int HIDDEN = 8;
    public static final int CONSTANT = 16;

    private static final int VERSIONS = 2;
    private static final int TYPES = 6;
    private static final int NO_SUPER = 6;
    private static final int INTERFACE_SETS = 64;
    private static final int TYPE_FLAGS = 16;

    private static final int FIELD_NAMES = 4;
    private static final int FIELD_KINDS = 2;
    private static final int FIELD_FLAGS = 32;
    private static final int FIELD_SPOTS = VERSIONS * TYPES * FIELD_KINDS;
    private static final int DOUBLE_FIELD = 1;

    private static final int METHOD_NAMES = 3;
    private static final int PARAMETERS = 4;
    private static final int NONE = 0;
    private static final int DOUBLE = 3;
    private static final int METHOD_FLAGS = 16;
    private static final int METHOD_SPOTS = VERSIONS * TYPES;
    private static final int SIGNS = 16;
    private static final int METHODS_OF_TYPE = METHOD_NAMES * PARAMETERS;
    private static final int FIELD_TO_CUT = 4;

    private static final int USES = 16;
    private static final int USE_KINDS = 7;
    private static final int READ = 0;
    private static final int WRITE = 1;
    private static final int CALL = 2;
    private static final int CALL_STATIC = 3;
    private static final int NEW = 4;
    private static final int EXTEND = 5;
    private static final int OVERRIDE = 6;

    private static final int DONE = 0;
    private static final int ABSENT = -1;
    private static final int NOTHING = -1;
    private static final int ANY = -1;
    private static final int SAME_BINDING = 0;
    private static final int OTHER_BINDING = 1;

    private static final int IN_NEITHER = -2;
    private static final int ONLY_OLD = -3;
    private static final int ONLY_NEW = -4;

    private static final int COUNT_TYPES = 0;
    private static final int COUNT_FIELDS = 1;
    private static final int COUNT_METHODS = 2;
    private static final int COUNT_USES = 3;

    private final Offer oldOffer;
    private final Offer newOffer;
    private final Use[] uses;
    private int useCount;
    // Made once and filled anew by each call, so that no call makes objects.
    private final Binding oldBinding;
    private final Binding newBinding;

    public ApiCompare() {
        oldOffer = new Offer();
        newOffer = new Offer();
        uses = new Use[USES];
        for (int i = 0; i < USES; i++) {
            uses[i] = new Use();
        }
        useCount = 0;
        oldBinding = new Binding();
        newBinding = new Binding();
    }

    public int type(int version, int type, int flags, int superType, int interfaces) {
        if (!isBelow(version, VERSIONS) || !isBelow(type, TYPES) || !isBelow(flags, TYPE_FLAGS)) {
            return REFUSED;
        }
        if (!isBelow(superType, NO_SUPER + 1) || !isBelow(interfaces, INTERFACE_SETS)) {
            return REFUSED;
        }
        Offer offer = offerOf(version);
        boolean isInterface = (flags & INTERFACE) != 0;
        if (isInterface && ((flags & FINAL) != 0 || superType != NO_SUPER)) {
            return REFUSED;
        }
        if (!offer.canName(type, superType, interfaces)) {
            return REFUSED;
        }
        if (offer.isThere(type) && offer.isInterface(type) != isInterface && offer.isNamed(type)) {
            return REFUSED;
        }
        offer.putType(type, flags, superType, interfaces);
        return DONE;
    }

    public int drop(int version, int type) {
        if (!isTypeThere(version, type) || offerOf(version).isNamed(type)) {
            return REFUSED;
        }
        offerOf(version).removeType(type);
        return DONE;
    }

    public int field(int spot, int name, int flags, int v) {
        if (!isBelow(spot, FIELD_SPOTS) || !isBelow(name, FIELD_NAMES) || !areFieldFlags(flags)) {
            return REFUSED;
        }
        Offer offer = offerOf(spot / (TYPES * FIELD_KINDS));
        int type = spot / FIELD_KINDS % TYPES;
        if (!offer.isThere(type)) {
            return REFUSED;
        }
        offer.putField(type * FIELD_NAMES + name, spot % FIELD_KINDS, flags, v);
        return DONE;
    }

    public int method(int spot, int name, int sign, int flags) {
        if (!isBelow(spot, METHOD_SPOTS) || !isBelow(name, METHOD_NAMES)) {
            return REFUSED;
        }
        if (!isBelow(sign, SIGNS) || !areMethodFlags(flags)) {
            return REFUSED;
        }
        Offer offer = offerOf(spot / TYPES);
        int type = spot % TYPES;
        if (!offer.isThere(type)) {
            return REFUSED;
        }
        offer.putMethod(methodPlace(type, name, sign / PARAMETERS), sign % PARAMETERS, flags);
        return DONE;
    }

    public int cut(int version, int type, int name, int parameter) {
        if (!isTypeThere(version, type)) {
            return REFUSED;
        }
        if (parameter == FIELD_TO_CUT) {
            if (!isBelow(name, FIELD_NAMES)) {
                return REFUSED;
            }
            return offerOf(version).removeField(type * FIELD_NAMES + name) ? DONE : REFUSED;
        }
        if (!isBelow(name, METHOD_NAMES) || !isBelow(parameter, PARAMETERS)) {
            return REFUSED;
        }
        return offerOf(version).removeMethod(methodPlace(type, name, parameter)) ? DONE : REFUSED;
    }

    public int copy() {
        newOffer.becomeAs(oldOffer);
        return DONE;
    }

    public int use(int kind, int type, int name, int argument) {
        if (!isBelow(kind, USE_KINDS) || !isBelow(type, TYPES)) {
            return REFUSED;
        }
        boolean ofMethod = kind == CALL || kind == CALL_STATIC || kind == OVERRIDE;
        if (!isBelow(name, ofMethod ? METHOD_NAMES : FIELD_NAMES)) {
            return REFUSED;
        }
        if (ofMethod && !isBelow(argument, PARAMETERS)) {
            return REFUSED;
        }
        if (useCount >= USES) {
            return FULL;
        }
        uses[useCount].tell(kind, type, name, argument);
        useCount++;
        return useCount - 1;
    }

    public int compile(int use, int version) {
        if (!isBelow(use, useCount) || !isBelow(version, VERSIONS)) {
            return REFUSED;
        }
        oldBinding.bind(uses[use], offerOf(version));
        return oldBinding.error;
    }

    public int link(int use) {
        if (!isBelow(use, useCount)) {
            return REFUSED;
        }
        return fateOf(use);
    }

    public int recompile(int use) {
        if (!isBelow(use, useCount)) {
            return REFUSED;
        }
        oldBinding.bind(uses[use], oldOffer);
        if (oldBinding.error != DONE) {
            return oldBinding.error;
        }
        newBinding.bind(uses[use], newOffer);
        if (newBinding.error != DONE) {
            return newBinding.error;
        }
        return oldBinding.isSameAs(newBinding, uses[use].kind) ? SAME_BINDING : OTHER_BINDING;
    }

    public double value(int use, int version) {
        if (!isBelow(use, useCount) || !isBelow(version, VERSIONS)) {
            return 0.0;
        }
        oldBinding.bind(uses[use], offerOf(version));
        if (!oldBinding.toValue) {
            return 0.0;
        }
        return oldBinding.fieldKind == DOUBLE_FIELD ? oldBinding.number * 0.5 : (double) oldBinding.number;
    }

    public double share() {
        int compiled = 0;
        int kept = 0;
        for (int i = 0; i < useCount; i++) {
            int fate = fateOf(i);
            if (!isError(fate)) {
                compiled++;
            }
            if (fate >= FITS) {
                kept++;
            }
        }
        return compiled == 0 ? 1.0 : (double) kept / (double) compiled;
    }

    public int breaking() {
        int broken = 0;
        for (int i = 0; i < useCount; i++) {
            if (breaks(fateOf(i))) {
                broken++;
            }
        }
        return broken;
    }

    public int broken(int k) {
        int seen = 0;
        for (int i = 0; i < useCount; i++) {
            if (breaks(fateOf(i))) {
                if (seen == k) {
                    return i;
                }
                seen++;
            }
        }
        return REFUSED;
    }

    public int differ(int type) {
        if (!isBelow(type, TYPES)) {
            return REFUSED;
        }
        boolean inOld = oldOffer.isThere(type);
        boolean inNew = newOffer.isThere(type);
        if (inOld && inNew) {
            return oldOffer.differencesFrom(newOffer, type);
        }
        if (inOld) {
            return ONLY_OLD;
        }
        return inNew ? ONLY_NEW : IN_NEITHER;
    }

    public boolean under(int version, int type, int other) {
        if (!isTypeThere(version, type) || !isTypeThere(version, other)) {
            return false;
        }
        return holds(offerOf(version).supertypesOf(type), other);
    }

    public int count(int version, int what) {
        if (!isBelow(version, VERSIONS)) {
            return REFUSED;
        }
        Offer offer = offerOf(version);
        switch (what) {
            case COUNT_TYPES:
                return howManyThere(offer.typeFlags);
            case COUNT_FIELDS:
                return howManyThere(offer.fieldFlags);
            case COUNT_METHODS:
                return howManyThere(offer.methodFlags);
            case COUNT_USES:
                return useCount;
            default:
                return REFUSED;
        }
    }

    private Offer offerOf(int version) {
        return version == 0 ? oldOffer : newOffer;
    }

    private boolean isTypeThere(int version, int type) {
        return isBelow(version, VERSIONS) && isBelow(type, TYPES) && offerOf(version).isThere(type);
    }

    /** What linking the use comes to, or the error of compiling it against the old version. */
    private int fateOf(int use) {
        oldBinding.bind(uses[use], oldOffer);
        return oldBinding.error != DONE ? oldBinding.error : oldBinding.fateWith(uses[use], newOffer);
    }

    private static boolean isError(int fate) {
        return fate == NO_TYPE || fate == NO_MEMBER || fate == FIXED;
    }

    private static boolean breaks(int fate) {
        return fate < FITS && !isError(fate);
    }

    private static boolean isBelow(int number, int bound) {
        return number >= 0 && number < bound;
    }

    private static boolean areFieldFlags(int flags) {
        if (!isBelow(flags, FIELD_FLAGS) || (flags & ABSTRACT) != 0) {
            return false;
        }
        int needed = STATIC | FINAL;
        return (flags & CONSTANT) == 0 || (flags & needed) == needed;
    }

    private static boolean areMethodFlags(int flags) {
        if (!isBelow(flags, METHOD_FLAGS)) {
            return false;
        }
        return (flags & ABSTRACT) == 0 || flags == ABSTRACT;
    }

    private static int methodPlace(int type, int name, int parameter) {
        return type * METHODS_OF_TYPE + name * PARAMETERS + parameter;
    }

    private static boolean holds(int set, int number) {
        return (set >> number & 1) != 0;
    }

    private static int howManyThere(int[] flags) {
        int there = 0;
        for (int i = 0; i < flags.length; i++) {
            if (flags[i] != ABSENT) {
                there++;
            }
        }
        return there;
    }

    /** A use that others make of a type. */
    private static final class Use {
        private int kind;
        private int type;
        private int name;
        private int argument;

        void tell(int newKind, int newType, int newName, int newArgument) {
            kind = newKind;
            type = newType;
            name = newName;
            argument = newArgument;
        }
    }

    /**
     * What one version offers. Types stand in rows by their number, fields and methods at places that begin with
     * the number of their type; flags that are ABSENT say that nothing stands there.
     */
    private static final class Offer {
        private final int[] typeFlags = new int[TYPES];
        private final int[] superOf = new int[TYPES];
        private final int[] interfacesOf = new int[TYPES];
        private final int[] fieldFlags = new int[TYPES * FIELD_NAMES];
        private final int[] fieldKind = new int[TYPES * FIELD_NAMES];
        private final int[] fieldNumber = new int[TYPES * FIELD_NAMES];
        private final int[] methodFlags = new int[TYPES * METHODS_OF_TYPE];
        private final int[] methodAnswer = new int[TYPES * METHODS_OF_TYPE];

        Offer() {
            for (int t = 0; t < TYPES; t++) {
                typeFlags[t] = ABSENT;
                superOf[t] = NO_SUPER;
            }
            for (int f = 0; f < fieldFlags.length; f++) {
                fieldFlags[f] = ABSENT;
            }
            for (int m = 0; m < methodFlags.length; m++) {
                methodFlags[m] = ABSENT;
            }
        }

        boolean isThere(int type) {
            return typeFlags[type] != ABSENT;
        }

        boolean isInterface(int type) {
            return hasFlag(type, INTERFACE);
        }

        boolean isHidden(int type) {
            return hasFlag(type, HIDDEN);
        }

        boolean isFinal(int type) {
            return hasFlag(type, FINAL);
        }

        boolean isAbstract(int type) {
            return hasFlag(type, ABSTRACT | INTERFACE);
        }

        private boolean hasFlag(int type, int flags) {
            return typeFlags[type] != ABSENT && (typeFlags[type] & flags) != 0;
        }

        /** Whether the super is none or a class there, and the interfaces are there, all with lesser numbers. */
        boolean canName(int type, int superType, int interfaces) {
            if (superType != NO_SUPER && (superType >= type || !isThere(superType) || isInterface(superType))) {
                return false;
            }
            for (int i = 0; i < TYPES; i++) {
                if (holds(interfaces, i) && (i >= type || !isInterface(i))) {
                    return false;
                }
            }
            return true;
        }

        boolean isNamed(int type) {
            for (int t = 0; t < TYPES; t++) {
                if (isThere(t) && (superOf[t] == type || holds(interfacesOf[t], type))) {
                    return true;
                }
            }
            return false;
        }

        void putType(int type, int flags, int superType, int interfaces) {
            typeFlags[type] = flags;
            superOf[type] = superType;
            interfacesOf[type] = interfaces;
        }

        void removeType(int type) {
            putType(type, ABSENT, NO_SUPER, 0);
            for (int name = 0; name < FIELD_NAMES; name++) {
                fieldFlags[type * FIELD_NAMES + name] = ABSENT;
            }
            for (int m = 0; m < METHODS_OF_TYPE; m++) {
                methodFlags[type * METHODS_OF_TYPE + m] = ABSENT;
            }
        }

        /** The number is kept for constants alone, so that it tells no others apart. */
        void putField(int place, int kind, int flags, int number) {
            fieldFlags[place] = flags;
            fieldKind[place] = kind;
            fieldNumber[place] = (flags & CONSTANT) != 0 ? number : 0;
        }

        boolean removeField(int place) {
            boolean wasThere = fieldFlags[place] != ABSENT;
            fieldFlags[place] = ABSENT;
            return wasThere;
        }

        void putMethod(int place, int answer, int flags) {
            methodFlags[place] = flags;
            methodAnswer[place] = answer;
        }

        boolean removeMethod(int place) {
            boolean wasThere = methodFlags[place] != ABSENT;
            methodFlags[place] = ABSENT;
            return wasThere;
        }

        void becomeAs(Offer other) {
            System.arraycopy(other.typeFlags, 0, typeFlags, 0, TYPES);
            System.arraycopy(other.superOf, 0, superOf, 0, TYPES);
            System.arraycopy(other.interfacesOf, 0, interfacesOf, 0, TYPES);
            System.arraycopy(other.fieldFlags, 0, fieldFlags, 0, TYPES * FIELD_NAMES);
            System.arraycopy(other.fieldKind, 0, fieldKind, 0, TYPES * FIELD_NAMES);
            System.arraycopy(other.fieldNumber, 0, fieldNumber, 0, TYPES * FIELD_NAMES);
            System.arraycopy(other.methodFlags, 0, methodFlags, 0, TYPES * METHODS_OF_TYPE);
            System.arraycopy(other.methodAnswer, 0, methodAnswer, 0, TYPES * METHODS_OF_TYPE);
        }

        /** The set of all that the type is; one pass downwards is enough, as types name lesser numbers alone. */
        int supertypesOf(int type) {
            int set = 1 << type;
            for (int t = type; t >= 0; t--) {
                if (holds(set, t)) {
                    set |= interfacesOf[t];
                    if (superOf[t] != NO_SUPER) {
                        set |= 1 << superOf[t];
                    }
                }
            }
            return set;
        }

        /** The place of the field of that name, and of that kind unless it is ANY; else NOTHING. */
        int findField(int type, int name, int kind) {
            return findFieldFrom(type, name, kind, 0);
        }

        private int findFieldFrom(int type, int name, int kind, int depth) {
            if (depth >= TYPES) {
                return NOTHING;
            }
            int own = type * FIELD_NAMES + name;
            if (fieldFlags[own] != ABSENT && (kind == ANY || fieldKind[own] == kind)) {
                return own;
            }
            for (int i = 0; i < type; i++) {
                if (holds(interfacesOf[type], i)) {
                    int found = findFieldFrom(i, name, kind, depth + 1);
                    if (found != NOTHING) {
                        return found;
                    }
                }
            }
            if (superOf[type] == NO_SUPER) {
                return NOTHING;
            }
            return findFieldFrom(superOf[type], name, kind, depth + 1);
        }

        /** The place of the method of that name and parameter, and answer unless it is ANY; else NOTHING. */
        int findMethod(int type, int name, int parameter, int answer) {
            int holder = type;
            for (int step = 0; step < TYPES && holder != NO_SUPER; step++) {
                int place = methodPlace(holder, name, parameter);
                if (isMethodAt(place, answer)) {
                    return place;
                }
                holder = superOf[holder];
            }
            int supertypes = supertypesOf(type);
            for (int t = TYPES - 1; t >= 0; t--) {
                int place = methodPlace(t, name, parameter);
                if (holds(supertypes, t) && isInterface(t) && isMethodAt(place, answer)) {
                    return place;
                }
            }
            return NOTHING;
        }

        private boolean isMethodAt(int place, int answer) {
            return methodFlags[place] != ABSENT && (answer == ANY || methodAnswer[place] == answer);
        }

        int differencesFrom(Offer other, int type) {
            int differences = 0;
            if (typeFlags[type] != other.typeFlags[type]) {
                differences++;
            }
            if (superOf[type] != other.superOf[type]) {
                differences++;
            }
            if (interfacesOf[type] != other.interfacesOf[type]) {
                differences++;
            }
            for (int name = 0; name < FIELD_NAMES; name++) {
                if (!isSameField(other, type * FIELD_NAMES + name)) {
                    differences++;
                }
            }
            for (int m = 0; m < METHODS_OF_TYPE; m++) {
                if (!isSameMethod(other, type * METHODS_OF_TYPE + m)) {
                    differences++;
                }
            }
            return differences;
        }

        private boolean isSameField(Offer other, int place) {
            if (fieldFlags[place] != other.fieldFlags[place]) {
                return false;
            }
            if (fieldFlags[place] == ABSENT) {
                return true;
            }
            return fieldKind[place] == other.fieldKind[place] && fieldNumber[place] == other.fieldNumber[place];
        }

        private boolean isSameMethod(Offer other, int place) {
            if (methodFlags[place] != other.methodFlags[place]) {
                return false;
            }
            return methodFlags[place] == ABSENT || methodAnswer[place] == other.methodAnswer[place];
        }
    }

    /** What a use comes to when it is compiled: an error, or what it is bound to. */
    private static final class Binding {
        private int error;
        private boolean ofInterface;
        private boolean toValue;
        private int fieldKind;
        private int number;
        private boolean isStatic;
        private int parameter;
        private int answer;
        // Where the method was found: no part of what is bound, but linking asks whether it has moved.
        private int home;

        void bind(Use use, Offer offer) {
            toValue = false;
            ofInterface = offer.isInterface(use.type);
            if (!offer.isThere(use.type) || offer.isHidden(use.type)) {
                error = NO_TYPE;
                return;
            }
            switch (use.kind) {
                case READ:
                case WRITE:
                    error = bindField(use, offer);
                    break;
                case CALL:
                case CALL_STATIC:
                    error = bindCall(use, offer);
                    break;
                case NEW:
                    error = offer.isAbstract(use.type) ? FIXED : DONE;
                    break;
                case EXTEND:
                    error = offer.isFinal(use.type) ? FIXED : DONE;
                    break;
                default:
                    error = bindOverride(use, offer);
                    break;
            }
        }

        private int bindField(Use use, Offer offer) {
            int place = offer.findField(use.type, use.name, ANY);
            if (place == NOTHING || (offer.fieldFlags[place] & HIDDEN) != 0) {
                return NO_MEMBER;
            }
            int flags = offer.fieldFlags[place];
            if (use.kind == WRITE && (flags & FINAL) != 0) {
                return FIXED;
            }
            toValue = (flags & CONSTANT) != 0;
            fieldKind = offer.fieldKind[place];
            number = offer.fieldNumber[place];
            isStatic = (flags & STATIC) != 0;
            return DONE;
        }

        /** NONE is taken by NONE alone; each other argument by its own kind first, then by the wider ones. */
        private int bindCall(Use use, Offer offer) {
            int last = use.argument == NONE ? NONE : DOUBLE;
            for (int p = use.argument; p <= last; p++) {
                int place = offer.findMethod(use.type, use.name, p, ANY);
                if (place != NOTHING && (offer.methodFlags[place] & HIDDEN) == 0) {
                    return bindMethod(use, offer, place);
                }
            }
            return NO_MEMBER;
        }

        private int bindMethod(Use use, Offer offer, int place) {
            isStatic = (offer.methodFlags[place] & STATIC) != 0;
            if (use.kind == CALL_STATIC && !isStatic) {
                return FIXED;
            }
            parameter = place % PARAMETERS;
            answer = offer.methodAnswer[place];
            home = place / METHODS_OF_TYPE;
            return DONE;
        }

        private int bindOverride(Use use, Offer offer) {
            if (offer.isFinal(use.type)) {
                return FIXED;
            }
            int place = offer.findMethod(use.type, use.name, use.argument, ANY);
            if (place == NOTHING || (offer.methodFlags[place] & HIDDEN) != 0) {
                return NO_MEMBER;
            }
            if ((offer.methodFlags[place] & (STATIC | FINAL)) != 0) {
                return FIXED;
            }
            answer = offer.methodAnswer[place];
            return DONE;
        }

        /** Both are without error and of the same use: only what may differ then is looked at. */
        boolean isSameAs(Binding other, int useKind) {
            switch (useKind) {
                case READ:
                case WRITE:
                    return isSameField(other);
                case CALL:
                case CALL_STATIC:
                    return parameter == other.parameter && answer == other.answer && isStatic == other.isStatic
                            && ofInterface == other.ofInterface;
                case EXTEND:
                    return ofInterface == other.ofInterface;
                case OVERRIDE:
                    return answer == other.answer;
                default:
                    return true;
            }
        }

        private boolean isSameField(Binding other) {
            if (toValue != other.toValue || fieldKind != other.fieldKind) {
                return false;
            }
            return toValue ? number == other.number : isStatic == other.isStatic;
        }

        /** What linking this, which is without error, with the offer comes to. */
        int fateWith(Use use, Offer offer) {
            if (toValue) {
                return isStillValue(use, offer) ? FITS : STALE;
            }
            if (!offer.isThere(use.type)) {
                return LOST_TYPE;
            }
            if (offer.isHidden(use.type)) {
                return ILLEGAL;
            }
            switch (use.kind) {
                case READ:
                case WRITE:
                    return fateOfField(use, offer);
                case CALL:
                case CALL_STATIC:
                    return fateOfCall(use, offer);
                case NEW:
                    return offer.isAbstract(use.type) ? CHANGED : FITS;
                case EXTEND:
                    return isSubtypeBarred(use, offer) ? CHANGED : FITS;
                default:
                    return fateOfOverride(use, offer);
            }
        }

        private boolean isStillValue(Use use, Offer offer) {
            if (!offer.isThere(use.type)) {
                return false;
            }
            int place = offer.findField(use.type, use.name, ANY);
            if (place == NOTHING || (offer.fieldFlags[place] & CONSTANT) == 0) {
                return false;
            }
            return offer.fieldKind[place] == fieldKind && offer.fieldNumber[place] == number;
        }

        private int fateOfField(Use use, Offer offer) {
            int place = offer.findField(use.type, use.name, fieldKind);
            if (place == NOTHING) {
                return LOST_MEMBER;
            }
            int flags = offer.fieldFlags[place];
            if ((flags & HIDDEN) != 0 || use.kind == WRITE && (flags & FINAL) != 0) {
                return ILLEGAL;
            }
            return (flags & STATIC) != 0 == isStatic ? FITS : CHANGED;
        }

        private int fateOfCall(Use use, Offer offer) {
            if (offer.isInterface(use.type) != ofInterface) {
                return CHANGED;
            }
            int place = offer.findMethod(use.type, use.name, parameter, answer);
            if (place == NOTHING) {
                return LOST_MEMBER;
            }
            int flags = offer.methodFlags[place];
            if ((flags & HIDDEN) != 0) {
                return ILLEGAL;
            }
            if ((flags & STATIC) != 0 != isStatic) {
                return CHANGED;
            }
            return place / METHODS_OF_TYPE == home ? FITS : MOVED;
        }

        private boolean isSubtypeBarred(Use use, Offer offer) {
            return offer.isFinal(use.type) || offer.isInterface(use.type) != ofInterface;
        }

        private int fateOfOverride(Use use, Offer offer) {
            if (isSubtypeBarred(use, offer)) {
                return CHANGED;
            }
            int place = offer.findMethod(use.type, use.name, use.argument, ANY);
            if (place == NOTHING || (offer.methodFlags[place] & HIDDEN) != 0) {
                return UNTIED;
            }
            if ((offer.methodFlags[place] & (STATIC | FINAL)) != 0) {
                return CHANGED;
            }
            return offer.methodAnswer[place] == answer ? FITS : UNTIED;
        }
    }
}
