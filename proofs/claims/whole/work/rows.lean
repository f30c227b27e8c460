section
-- ===== PART A: goes FIRST, ahead of the names: the tables' words, and 'selects' of the private methods out of them =====
/-- a private method of a class that the tables say can be made, by its rows of tables_1 -/
def lw_okq (q : MethodName × Nat) : Prop := (q.1.cls ≠ "java/lang/invoke/MethodHandle" ∧ q.1.cls ≠ "java/lang/invoke/VarHandle") ∧ Cond.instantiable q.1.cls q.2 ∈ tables_1 ∧ Cond.privateMethod q.1 ∈ tables_1 ∧ Cond.instanceMethod q.1 ∈ tables_1
theorem lw_p0 : lw_okq (⟨"FixedKinds", "find", "(I)LFixedKinds$Kind;"⟩, 8) := ⟨⟨by decide +kernel, by decide +kernel⟩, List.mem_of_getElem? (i := 13) (by decide +kernel), List.mem_of_getElem? (i := 130) (by decide +kernel), List.mem_of_getElem? (i := 131) (by decide +kernel)⟩
theorem lw_p1 : lw_okq (⟨"FixedKinds$Fraction", "take", "(LFixedKinds$Kind;J)V"⟩, 2) := ⟨⟨by decide +kernel, by decide +kernel⟩, List.mem_of_getElem? (i := 23) (by decide +kernel), List.mem_of_getElem? (i := 138) (by decide +kernel), List.mem_of_getElem? (i := 139) (by decide +kernel)⟩
theorem lw_p2 : lw_okq (⟨"FixedKinds$Kind", "broughtIn", "(J)J"⟩, 7) := ⟨⟨by decide +kernel, by decide +kernel⟩, List.mem_of_getElem? (i := 92) (by decide +kernel), List.mem_of_getElem? (i := 142) (by decide +kernel), List.mem_of_getElem? (i := 143) (by decide +kernel)⟩
theorem lw_p3 : lw_okq (⟨"FixedKinds$Whole", "setTo", "(J)V"⟩, 1) := ⟨⟨by decide +kernel, by decide +kernel⟩, List.mem_of_getElem? (i := 29) (by decide +kernel), List.mem_of_getElem? (i := 146) (by decide +kernel), List.mem_of_getElem? (i := 147) (by decide +kernel)⟩
theorem lw_p4 : lw_okq (⟨"FixedKinds$Whole", "scale", "(J)V"⟩, 1) := ⟨⟨by decide +kernel, by decide +kernel⟩, List.mem_of_getElem? (i := 29) (by decide +kernel), List.mem_of_getElem? (i := 151) (by decide +kernel), List.mem_of_getElem? (i := 152) (by decide +kernel)⟩
theorem lw_p5 : lw_okq (⟨"FixedKinds$Whole", "grow", "(J)V"⟩, 1) := ⟨⟨by decide +kernel, by decide +kernel⟩, List.mem_of_getElem? (i := 29) (by decide +kernel), List.mem_of_getElem? (i := 155) (by decide +kernel), List.mem_of_getElem? (i := 156) (by decide +kernel)⟩
theorem lw_p6 : lw_okq (⟨"FixedKinds", "put", "(LFixedKinds$Kind;)J"⟩, 8) := ⟨⟨by decide +kernel, by decide +kernel⟩, List.mem_of_getElem? (i := 13) (by decide +kernel), List.mem_of_getElem? (i := 159) (by decide +kernel), List.mem_of_getElem? (i := 160) (by decide +kernel)⟩
theorem lw_p7 : lw_okq (⟨"FixedKinds$Fraction", "toRawScale", "(LFixedKinds$Kind;)V"⟩, 2) := ⟨⟨by decide +kernel, by decide +kernel⟩, List.mem_of_getElem? (i := 23) (by decide +kernel), List.mem_of_getElem? (i := 163) (by decide +kernel), List.mem_of_getElem? (i := 164) (by decide +kernel)⟩
theorem lw_p8 : lw_okq (⟨"FixedKinds$Whole", "addTimes", "(LFixedKinds$Whole;J)V"⟩, 1) := ⟨⟨by decide +kernel, by decide +kernel⟩, List.mem_of_getElem? (i := 29) (by decide +kernel), List.mem_of_getElem? (i := 167) (by decide +kernel), List.mem_of_getElem? (i := 168) (by decide +kernel)⟩
theorem lw_p9 : lw_okq (⟨"FixedKinds$Whole", "addShifted", "(LFixedKinds$Whole;IIJ)J"⟩, 1) := ⟨⟨by decide +kernel, by decide +kernel⟩, List.mem_of_getElem? (i := 29) (by decide +kernel), List.mem_of_getElem? (i := 171) (by decide +kernel), List.mem_of_getElem? (i := 172) (by decide +kernel)⟩
theorem lw_p10 : lw_okq (⟨"FixedKinds$Whole", "limb", "(I)J"⟩, 1) := ⟨⟨by decide +kernel, by decide +kernel⟩, List.mem_of_getElem? (i := 29) (by decide +kernel), List.mem_of_getElem? (i := 175) (by decide +kernel), List.mem_of_getElem? (i := 176) (by decide +kernel)⟩
theorem lw_p11 : lw_okq (⟨"FixedKinds$Fraction", "round", "(ILFixedKinds$Whole;)Z"⟩, 2) := ⟨⟨by decide +kernel, by decide +kernel⟩, List.mem_of_getElem? (i := 23) (by decide +kernel), List.mem_of_getElem? (i := 179) (by decide +kernel), List.mem_of_getElem? (i := 180) (by decide +kernel)⟩
theorem lw_p12 : lw_okq (⟨"FixedKinds$Whole", "isNegative", "()Z"⟩, 1) := ⟨⟨by decide +kernel, by decide +kernel⟩, List.mem_of_getElem? (i := 29) (by decide +kernel), List.mem_of_getElem? (i := 183) (by decide +kernel), List.mem_of_getElem? (i := 184) (by decide +kernel)⟩
theorem lw_p13 : lw_okq (⟨"FixedKinds$Whole", "divide", "(LFixedKinds$Whole;LFixedKinds$Whole;)V"⟩, 1) := ⟨⟨by decide +kernel, by decide +kernel⟩, List.mem_of_getElem? (i := 29) (by decide +kernel), List.mem_of_getElem? (i := 188) (by decide +kernel), List.mem_of_getElem? (i := 189) (by decide +kernel)⟩
theorem lw_p14 : lw_okq (⟨"FixedKinds$Whole", "size", "()I"⟩, 1) := ⟨⟨by decide +kernel, by decide +kernel⟩, List.mem_of_getElem? (i := 29) (by decide +kernel), List.mem_of_getElem? (i := 193) (by decide +kernel), List.mem_of_getElem? (i := 194) (by decide +kernel)⟩
theorem lw_p15 : lw_okq (⟨"FixedKinds$Whole", "guessDigit", "(LFixedKinds$Whole;II)J"⟩, 1) := ⟨⟨by decide +kernel, by decide +kernel⟩, List.mem_of_getElem? (i := 29) (by decide +kernel), List.mem_of_getElem? (i := 197) (by decide +kernel), List.mem_of_getElem? (i := 198) (by decide +kernel)⟩
def lw_privs_1 : List (MethodName × Nat) := [(⟨"FixedKinds", "find", "(I)LFixedKinds$Kind;"⟩, 8), (⟨"FixedKinds$Fraction", "take", "(LFixedKinds$Kind;J)V"⟩, 2), (⟨"FixedKinds$Kind", "broughtIn", "(J)J"⟩, 7), (⟨"FixedKinds$Whole", "setTo", "(J)V"⟩, 1), (⟨"FixedKinds$Whole", "scale", "(J)V"⟩, 1), (⟨"FixedKinds$Whole", "grow", "(J)V"⟩, 1), (⟨"FixedKinds", "put", "(LFixedKinds$Kind;)J"⟩, 8), (⟨"FixedKinds$Fraction", "toRawScale", "(LFixedKinds$Kind;)V"⟩, 2), (⟨"FixedKinds$Whole", "addTimes", "(LFixedKinds$Whole;J)V"⟩, 1), (⟨"FixedKinds$Whole", "addShifted", "(LFixedKinds$Whole;IIJ)J"⟩, 1), (⟨"FixedKinds$Whole", "limb", "(I)J"⟩, 1), (⟨"FixedKinds$Fraction", "round", "(ILFixedKinds$Whole;)Z"⟩, 2), (⟨"FixedKinds$Whole", "isNegative", "()Z"⟩, 1), (⟨"FixedKinds$Whole", "divide", "(LFixedKinds$Whole;LFixedKinds$Whole;)V"⟩, 1), (⟨"FixedKinds$Whole", "size", "()I"⟩, 1), (⟨"FixedKinds$Whole", "guessDigit", "(LFixedKinds$Whole;II)J"⟩, 1)]
theorem lw_r1 : ∀ q ∈ lw_privs_1, lw_okq q := List.forall_mem_cons.mpr ⟨lw_p0, List.forall_mem_cons.mpr ⟨lw_p1, List.forall_mem_cons.mpr ⟨lw_p2, List.forall_mem_cons.mpr ⟨lw_p3, List.forall_mem_cons.mpr ⟨lw_p4, List.forall_mem_cons.mpr ⟨lw_p5, List.forall_mem_cons.mpr ⟨lw_p6, List.forall_mem_cons.mpr ⟨lw_p7, List.forall_mem_cons.mpr ⟨lw_p8, List.forall_mem_cons.mpr ⟨lw_p9, List.forall_mem_cons.mpr ⟨lw_p10, List.forall_mem_cons.mpr ⟨lw_p11, List.forall_mem_cons.mpr ⟨lw_p12, List.forall_mem_cons.mpr ⟨lw_p13, List.forall_mem_cons.mpr ⟨lw_p14, List.forall_mem_cons.mpr ⟨lw_p15, fun _ h => absurd h List.not_mem_nil⟩⟩⟩⟩⟩⟩⟩⟩⟩⟩⟩⟩⟩⟩⟩⟩
theorem lw_p16 : lw_okq (⟨"FixedKinds$Whole", "isZero", "()Z"⟩, 1) := ⟨⟨by decide +kernel, by decide +kernel⟩, List.mem_of_getElem? (i := 29) (by decide +kernel), List.mem_of_getElem? (i := 201) (by decide +kernel), List.mem_of_getElem? (i := 202) (by decide +kernel)⟩
theorem lw_p17 : lw_okq (⟨"FixedKinds$Whole", "isOdd", "()Z"⟩, 1) := ⟨⟨by decide +kernel, by decide +kernel⟩, List.mem_of_getElem? (i := 29) (by decide +kernel), List.mem_of_getElem? (i := 205) (by decide +kernel), List.mem_of_getElem? (i := 206) (by decide +kernel)⟩
theorem lw_p18 : lw_okq (⟨"FixedKinds$Fraction", "isRoundedAway", "(IZZ)Z"⟩, 2) := ⟨⟨by decide +kernel, by decide +kernel⟩, List.mem_of_getElem? (i := 23) (by decide +kernel), List.mem_of_getElem? (i := 209) (by decide +kernel), List.mem_of_getElem? (i := 210) (by decide +kernel)⟩
theorem lw_p19 : lw_okq (⟨"FixedKinds$Whole", "fitsLong", "()Z"⟩, 1) := ⟨⟨by decide +kernel, by decide +kernel⟩, List.mem_of_getElem? (i := 29) (by decide +kernel), List.mem_of_getElem? (i := 214) (by decide +kernel), List.mem_of_getElem? (i := 215) (by decide +kernel)⟩
theorem lw_p20 : lw_okq (⟨"FixedKinds$Whole", "bitsFrom", "(I)J"⟩, 1) := ⟨⟨by decide +kernel, by decide +kernel⟩, List.mem_of_getElem? (i := 29) (by decide +kernel), List.mem_of_getElem? (i := 218) (by decide +kernel), List.mem_of_getElem? (i := 219) (by decide +kernel)⟩
theorem lw_p21 : lw_okq (⟨"FixedKinds$Kind", "isRaw", "(J)Z"⟩, 7) := ⟨⟨by decide +kernel, by decide +kernel⟩, List.mem_of_getElem? (i := 92) (by decide +kernel), List.mem_of_getElem? (i := 223) (by decide +kernel), List.mem_of_getElem? (i := 224) (by decide +kernel)⟩
theorem lw_p22 : lw_okq (⟨"FixedKinds$Kind", "least", "()J"⟩, 7) := ⟨⟨by decide +kernel, by decide +kernel⟩, List.mem_of_getElem? (i := 92) (by decide +kernel), List.mem_of_getElem? (i := 227) (by decide +kernel), List.mem_of_getElem? (i := 228) (by decide +kernel)⟩
theorem lw_p23 : lw_okq (⟨"FixedKinds$Kind", "greatest", "()J"⟩, 7) := ⟨⟨by decide +kernel, by decide +kernel⟩, List.mem_of_getElem? (i := 92) (by decide +kernel), List.mem_of_getElem? (i := 232) (by decide +kernel), List.mem_of_getElem? (i := 233) (by decide +kernel)⟩
theorem lw_p24 : lw_okq (⟨"FixedKinds", "beyond", "(LFixedKinds$Kind;)J"⟩, 8) := ⟨⟨by decide +kernel, by decide +kernel⟩, List.mem_of_getElem? (i := 13) (by decide +kernel), List.mem_of_getElem? (i := 236) (by decide +kernel), List.mem_of_getElem? (i := 237) (by decide +kernel)⟩
theorem lw_p25 : lw_okq (⟨"FixedKinds$Fraction", "reduce", "(LFixedKinds$Whole;)V"⟩, 2) := ⟨⟨by decide +kernel, by decide +kernel⟩, List.mem_of_getElem? (i := 23) (by decide +kernel), List.mem_of_getElem? (i := 252) (by decide +kernel), List.mem_of_getElem? (i := 253) (by decide +kernel)⟩
theorem lw_p26 : lw_okq (⟨"FixedKinds$Whole", "copy", "(LFixedKinds$Whole;)V"⟩, 1) := ⟨⟨by decide +kernel, by decide +kernel⟩, List.mem_of_getElem? (i := 29) (by decide +kernel), List.mem_of_getElem? (i := 257) (by decide +kernel), List.mem_of_getElem? (i := 258) (by decide +kernel)⟩
theorem lw_p27 : lw_okq (⟨"FixedKinds$Whole", "shorten", "(J)J"⟩, 1) := ⟨⟨by decide +kernel, by decide +kernel⟩, List.mem_of_getElem? (i := 29) (by decide +kernel), List.mem_of_getElem? (i := 261) (by decide +kernel), List.mem_of_getElem? (i := 262) (by decide +kernel)⟩
theorem lw_p28 : lw_okq (⟨"FixedKinds$Fraction", "toMillionths", "()LFixedKinds$Whole;"⟩, 2) := ⟨⟨by decide +kernel, by decide +kernel⟩, List.mem_of_getElem? (i := 23) (by decide +kernel), List.mem_of_getElem? (i := 273) (by decide +kernel), List.mem_of_getElem? (i := 274) (by decide +kernel)⟩
theorem lw_p29 : lw_okq (⟨"FixedKinds", "writePlaces", "(LFixedKinds$Whole;)V"⟩, 8) := ⟨⟨by decide +kernel, by decide +kernel⟩, List.mem_of_getElem? (i := 13) (by decide +kernel), List.mem_of_getElem? (i := 279) (by decide +kernel), List.mem_of_getElem? (i := 280) (by decide +kernel)⟩
theorem lw_p30 : lw_okq (⟨"FixedKinds", "writeDigit", "(J)V"⟩, 8) := ⟨⟨by decide +kernel, by decide +kernel⟩, List.mem_of_getElem? (i := 13) (by decide +kernel), List.mem_of_getElem? (i := 285) (by decide +kernel), List.mem_of_getElem? (i := 286) (by decide +kernel)⟩
theorem lw_p31 : lw_okq (⟨"FixedKinds", "writeBefore", "(C)V"⟩, 8) := ⟨⟨by decide +kernel, by decide +kernel⟩, List.mem_of_getElem? (i := 13) (by decide +kernel), List.mem_of_getElem? (i := 290) (by decide +kernel), List.mem_of_getElem? (i := 291) (by decide +kernel)⟩
def lw_privs_2 : List (MethodName × Nat) := [(⟨"FixedKinds$Whole", "isZero", "()Z"⟩, 1), (⟨"FixedKinds$Whole", "isOdd", "()Z"⟩, 1), (⟨"FixedKinds$Fraction", "isRoundedAway", "(IZZ)Z"⟩, 2), (⟨"FixedKinds$Whole", "fitsLong", "()Z"⟩, 1), (⟨"FixedKinds$Whole", "bitsFrom", "(I)J"⟩, 1), (⟨"FixedKinds$Kind", "isRaw", "(J)Z"⟩, 7), (⟨"FixedKinds$Kind", "least", "()J"⟩, 7), (⟨"FixedKinds$Kind", "greatest", "()J"⟩, 7), (⟨"FixedKinds", "beyond", "(LFixedKinds$Kind;)J"⟩, 8), (⟨"FixedKinds$Fraction", "reduce", "(LFixedKinds$Whole;)V"⟩, 2), (⟨"FixedKinds$Whole", "copy", "(LFixedKinds$Whole;)V"⟩, 1), (⟨"FixedKinds$Whole", "shorten", "(J)J"⟩, 1), (⟨"FixedKinds$Fraction", "toMillionths", "()LFixedKinds$Whole;"⟩, 2), (⟨"FixedKinds", "writePlaces", "(LFixedKinds$Whole;)V"⟩, 8), (⟨"FixedKinds", "writeDigit", "(J)V"⟩, 8), (⟨"FixedKinds", "writeBefore", "(C)V"⟩, 8)]
theorem lw_r2 : ∀ q ∈ lw_privs_2, lw_okq q := List.forall_mem_cons.mpr ⟨lw_p16, List.forall_mem_cons.mpr ⟨lw_p17, List.forall_mem_cons.mpr ⟨lw_p18, List.forall_mem_cons.mpr ⟨lw_p19, List.forall_mem_cons.mpr ⟨lw_p20, List.forall_mem_cons.mpr ⟨lw_p21, List.forall_mem_cons.mpr ⟨lw_p22, List.forall_mem_cons.mpr ⟨lw_p23, List.forall_mem_cons.mpr ⟨lw_p24, List.forall_mem_cons.mpr ⟨lw_p25, List.forall_mem_cons.mpr ⟨lw_p26, List.forall_mem_cons.mpr ⟨lw_p27, List.forall_mem_cons.mpr ⟨lw_p28, List.forall_mem_cons.mpr ⟨lw_p29, List.forall_mem_cons.mpr ⟨lw_p30, List.forall_mem_cons.mpr ⟨lw_p31, fun _ h => absurd h List.not_mem_nil⟩⟩⟩⟩⟩⟩⟩⟩⟩⟩⟩⟩⟩⟩⟩⟩
theorem lw_p32 : lw_okq (⟨"FixedKinds", "writeWholePart", "(LFixedKinds$Whole;)V"⟩, 8) := ⟨⟨by decide +kernel, by decide +kernel⟩, List.mem_of_getElem? (i := 13) (by decide +kernel), List.mem_of_getElem? (i := 294) (by decide +kernel), List.mem_of_getElem? (i := 295) (by decide +kernel)⟩
theorem lw_p33 : lw_okq (⟨"FixedKinds$Fraction", "add", "(LFixedKinds$Fraction;J)V"⟩, 2) := ⟨⟨by decide +kernel, by decide +kernel⟩, List.mem_of_getElem? (i := 23) (by decide +kernel), List.mem_of_getElem? (i := 307) (by decide +kernel), List.mem_of_getElem? (i := 308) (by decide +kernel)⟩
theorem lw_p34 : lw_okq (⟨"FixedKinds$Whole", "multiply", "(LFixedKinds$Whole;)V"⟩, 1) := ⟨⟨by decide +kernel, by decide +kernel⟩, List.mem_of_getElem? (i := 29) (by decide +kernel), List.mem_of_getElem? (i := 311) (by decide +kernel), List.mem_of_getElem? (i := 312) (by decide +kernel)⟩
theorem lw_p35 : lw_okq (⟨"FixedKinds$Fraction", "sign", "()I"⟩, 2) := ⟨⟨by decide +kernel, by decide +kernel⟩, List.mem_of_getElem? (i := 23) (by decide +kernel), List.mem_of_getElem? (i := 316) (by decide +kernel), List.mem_of_getElem? (i := 317) (by decide +kernel)⟩
theorem lw_p36 : lw_okq (⟨"FixedKinds$Kind", "octets", "()I"⟩, 7) := ⟨⟨by decide +kernel, by decide +kernel⟩, List.mem_of_getElem? (i := 92) (by decide +kernel), List.mem_of_getElem? (i := 324) (by decide +kernel), List.mem_of_getElem? (i := 325) (by decide +kernel)⟩
theorem lw_p37 : lw_okq (⟨"FixedKinds$Kind", "bits", "(J)J"⟩, 7) := ⟨⟨by decide +kernel, by decide +kernel⟩, List.mem_of_getElem? (i := 92) (by decide +kernel), List.mem_of_getElem? (i := 328) (by decide +kernel), List.mem_of_getElem? (i := 329) (by decide +kernel)⟩
theorem lw_p38 : lw_okq (⟨"java/lang/Throwable", "fillInStackTrace", "(I)Ljava/lang/Throwable;"⟩, 6) := ⟨⟨by decide +kernel, by decide +kernel⟩, List.mem_of_getElem? (i := 381) (by decide +kernel), List.mem_of_getElem? (i := 379) (by decide +kernel), List.mem_of_getElem? (i := 380) (by decide +kernel)⟩
theorem lw_p39 : lw_okq (⟨"FixedKinds", "putQuotientByZero", "(LFixedKinds$Kind;)J"⟩, 8) := ⟨⟨by decide +kernel, by decide +kernel⟩, List.mem_of_getElem? (i := 13) (by decide +kernel), List.mem_of_getElem? (i := 411) (by decide +kernel), List.mem_of_getElem? (i := 412) (by decide +kernel)⟩
theorem lw_p40 : lw_okq (⟨"FixedKinds", "combine", "(I)V"⟩, 8) := ⟨⟨by decide +kernel, by decide +kernel⟩, List.mem_of_getElem? (i := 13) (by decide +kernel), List.mem_of_getElem? (i := 415) (by decide +kernel), List.mem_of_getElem? (i := 416) (by decide +kernel)⟩
theorem lw_p41 : lw_okq (⟨"FixedKinds$Fraction", "multiply", "(LFixedKinds$Fraction;)V"⟩, 2) := ⟨⟨by decide +kernel, by decide +kernel⟩, List.mem_of_getElem? (i := 23) (by decide +kernel), List.mem_of_getElem? (i := 419) (by decide +kernel), List.mem_of_getElem? (i := 420) (by decide +kernel)⟩
theorem lw_p42 : lw_okq (⟨"FixedKinds$Fraction", "divide", "(LFixedKinds$Fraction;)V"⟩, 2) := ⟨⟨by decide +kernel, by decide +kernel⟩, List.mem_of_getElem? (i := 23) (by decide +kernel), List.mem_of_getElem? (i := 423) (by decide +kernel), List.mem_of_getElem? (i := 424) (by decide +kernel)⟩
theorem lw_p43 : lw_okq (⟨"FixedKindsModel", "none", "(I)Z"⟩, 14) := ⟨⟨by decide +kernel, by decide +kernel⟩, List.mem_of_getElem? (i := 456) (by decide +kernel), List.mem_of_getElem? (i := 522) (by decide +kernel), List.mem_of_getElem? (i := 523) (by decide +kernel)⟩
theorem lw_p44 : lw_okq (⟨"FixedKindsModel", "value", "(IIJ)V"⟩, 14) := ⟨⟨by decide +kernel, by decide +kernel⟩, List.mem_of_getElem? (i := 456) (by decide +kernel), List.mem_of_getElem? (i := 530) (by decide +kernel), List.mem_of_getElem? (i := 531) (by decide +kernel)⟩
theorem lw_p45 : lw_okq (⟨"FixedKindsModel", "bring", "(IJ)J"⟩, 14) := ⟨⟨by decide +kernel, by decide +kernel⟩, List.mem_of_getElem? (i := 456) (by decide +kernel), List.mem_of_getElem? (i := 534) (by decide +kernel), List.mem_of_getElem? (i := 535) (by decide +kernel)⟩
theorem lw_p46 : lw_okq (⟨"FixedKindsModel", "unsigned", "(IJ)J"⟩, 14) := ⟨⟨by decide +kernel, by decide +kernel⟩, List.mem_of_getElem? (i := 456) (by decide +kernel), List.mem_of_getElem? (i := 538) (by decide +kernel), List.mem_of_getElem? (i := 539) (by decide +kernel)⟩
theorem lw_p47 : lw_okq (⟨"FixedKindsModel", "set", "(IJ)V"⟩, 14) := ⟨⟨by decide +kernel, by decide +kernel⟩, List.mem_of_getElem? (i := 456) (by decide +kernel), List.mem_of_getElem? (i := 542) (by decide +kernel), List.mem_of_getElem? (i := 543) (by decide +kernel)⟩
def lw_privs_3 : List (MethodName × Nat) := [(⟨"FixedKinds", "writeWholePart", "(LFixedKinds$Whole;)V"⟩, 8), (⟨"FixedKinds$Fraction", "add", "(LFixedKinds$Fraction;J)V"⟩, 2), (⟨"FixedKinds$Whole", "multiply", "(LFixedKinds$Whole;)V"⟩, 1), (⟨"FixedKinds$Fraction", "sign", "()I"⟩, 2), (⟨"FixedKinds$Kind", "octets", "()I"⟩, 7), (⟨"FixedKinds$Kind", "bits", "(J)J"⟩, 7), (⟨"java/lang/Throwable", "fillInStackTrace", "(I)Ljava/lang/Throwable;"⟩, 6), (⟨"FixedKinds", "putQuotientByZero", "(LFixedKinds$Kind;)J"⟩, 8), (⟨"FixedKinds", "combine", "(I)V"⟩, 8), (⟨"FixedKinds$Fraction", "multiply", "(LFixedKinds$Fraction;)V"⟩, 2), (⟨"FixedKinds$Fraction", "divide", "(LFixedKinds$Fraction;)V"⟩, 2), (⟨"FixedKindsModel", "none", "(I)Z"⟩, 14), (⟨"FixedKindsModel", "value", "(IIJ)V"⟩, 14), (⟨"FixedKindsModel", "bring", "(IJ)J"⟩, 14), (⟨"FixedKindsModel", "unsigned", "(IJ)J"⟩, 14), (⟨"FixedKindsModel", "set", "(IJ)V"⟩, 14)]
theorem lw_r3 : ∀ q ∈ lw_privs_3, lw_okq q := List.forall_mem_cons.mpr ⟨lw_p32, List.forall_mem_cons.mpr ⟨lw_p33, List.forall_mem_cons.mpr ⟨lw_p34, List.forall_mem_cons.mpr ⟨lw_p35, List.forall_mem_cons.mpr ⟨lw_p36, List.forall_mem_cons.mpr ⟨lw_p37, List.forall_mem_cons.mpr ⟨lw_p38, List.forall_mem_cons.mpr ⟨lw_p39, List.forall_mem_cons.mpr ⟨lw_p40, List.forall_mem_cons.mpr ⟨lw_p41, List.forall_mem_cons.mpr ⟨lw_p42, List.forall_mem_cons.mpr ⟨lw_p43, List.forall_mem_cons.mpr ⟨lw_p44, List.forall_mem_cons.mpr ⟨lw_p45, List.forall_mem_cons.mpr ⟨lw_p46, List.forall_mem_cons.mpr ⟨lw_p47, fun _ h => absurd h List.not_mem_nil⟩⟩⟩⟩⟩⟩⟩⟩⟩⟩⟩⟩⟩⟩⟩⟩
theorem lw_p48 : lw_okq (⟨"FixedKindsModel", "multiplyBy", "(IIJ)V"⟩, 14) := ⟨⟨by decide +kernel, by decide +kernel⟩, List.mem_of_getElem? (i := 456) (by decide +kernel), List.mem_of_getElem? (i := 547) (by decide +kernel), List.mem_of_getElem? (i := 548) (by decide +kernel)⟩
theorem lw_p49 : lw_okq (⟨"FixedKindsModel", "multiply", "(III)V"⟩, 14) := ⟨⟨by decide +kernel, by decide +kernel⟩, List.mem_of_getElem? (i := 456) (by decide +kernel), List.mem_of_getElem? (i := 551) (by decide +kernel), List.mem_of_getElem? (i := 552) (by decide +kernel)⟩
theorem lw_p50 : lw_okq (⟨"FixedKindsModel", "add", "(IIII)V"⟩, 14) := ⟨⟨by decide +kernel, by decide +kernel⟩, List.mem_of_getElem? (i := 456) (by decide +kernel), List.mem_of_getElem? (i := 555) (by decide +kernel), List.mem_of_getElem? (i := 556) (by decide +kernel)⟩
theorem lw_p51 : lw_okq (⟨"FixedKindsModel", "addSizes", "(III)V"⟩, 14) := ⟨⟨by decide +kernel, by decide +kernel⟩, List.mem_of_getElem? (i := 456) (by decide +kernel), List.mem_of_getElem? (i := 559) (by decide +kernel), List.mem_of_getElem? (i := 560) (by decide +kernel)⟩
theorem lw_p52 : lw_okq (⟨"FixedKindsModel", "sizes", "(II)I"⟩, 14) := ⟨⟨by decide +kernel, by decide +kernel⟩, List.mem_of_getElem? (i := 456) (by decide +kernel), List.mem_of_getElem? (i := 564) (by decide +kernel), List.mem_of_getElem? (i := 565) (by decide +kernel)⟩
theorem lw_p53 : lw_okq (⟨"FixedKindsModel", "lessSizes", "(III)V"⟩, 14) := ⟨⟨by decide +kernel, by decide +kernel⟩, List.mem_of_getElem? (i := 456) (by decide +kernel), List.mem_of_getElem? (i := 568) (by decide +kernel), List.mem_of_getElem? (i := 569) (by decide +kernel)⟩
theorem lw_p54 : lw_okq (⟨"FixedKindsModel", "nothing", "(I)Z"⟩, 14) := ⟨⟨by decide +kernel, by decide +kernel⟩, List.mem_of_getElem? (i := 456) (by decide +kernel), List.mem_of_getElem? (i := 572) (by decide +kernel), List.mem_of_getElem? (i := 573) (by decide +kernel)⟩
theorem lw_p55 : lw_okq (⟨"FixedKindsModel", "most", "(I)J"⟩, 14) := ⟨⟨by decide +kernel, by decide +kernel⟩, List.mem_of_getElem? (i := 456) (by decide +kernel), List.mem_of_getElem? (i := 576) (by decide +kernel), List.mem_of_getElem? (i := 577) (by decide +kernel)⟩
theorem lw_p56 : lw_okq (⟨"FixedKindsModel", "least", "(I)J"⟩, 14) := ⟨⟨by decide +kernel, by decide +kernel⟩, List.mem_of_getElem? (i := 456) (by decide +kernel), List.mem_of_getElem? (i := 581) (by decide +kernel), List.mem_of_getElem? (i := 582) (by decide +kernel)⟩
theorem lw_p57 : lw_okq (⟨"FixedKindsModel", "put", "(I)J"⟩, 14) := ⟨⟨by decide +kernel, by decide +kernel⟩, List.mem_of_getElem? (i := 456) (by decide +kernel), List.mem_of_getElem? (i := 586) (by decide +kernel), List.mem_of_getElem? (i := 587) (by decide +kernel)⟩
theorem lw_p58 : lw_okq (⟨"FixedKindsModel", "round", "(II)V"⟩, 14) := ⟨⟨by decide +kernel, by decide +kernel⟩, List.mem_of_getElem? (i := 456) (by decide +kernel), List.mem_of_getElem? (i := 590) (by decide +kernel), List.mem_of_getElem? (i := 591) (by decide +kernel)⟩
theorem lw_p59 : lw_okq (⟨"FixedKindsModel", "divide", "(IIII)V"⟩, 14) := ⟨⟨by decide +kernel, by decide +kernel⟩, List.mem_of_getElem? (i := 456) (by decide +kernel), List.mem_of_getElem? (i := 594) (by decide +kernel), List.mem_of_getElem? (i := 595) (by decide +kernel)⟩
theorem lw_p60 : lw_okq (⟨"FixedKindsModel", "copy", "(II)V"⟩, 14) := ⟨⟨by decide +kernel, by decide +kernel⟩, List.mem_of_getElem? (i := 456) (by decide +kernel), List.mem_of_getElem? (i := 598) (by decide +kernel), List.mem_of_getElem? (i := 599) (by decide +kernel)⟩
theorem lw_p61 : lw_okq (⟨"FixedKindsModel", "halve", "(I)V"⟩, 14) := ⟨⟨by decide +kernel, by decide +kernel⟩, List.mem_of_getElem? (i := 456) (by decide +kernel), List.mem_of_getElem? (i := 602) (by decide +kernel), List.mem_of_getElem? (i := 603) (by decide +kernel)⟩
theorem lw_p62 : lw_okq (⟨"FixedKindsModel", "low", "(I)J"⟩, 14) := ⟨⟨by decide +kernel, by decide +kernel⟩, List.mem_of_getElem? (i := 456) (by decide +kernel), List.mem_of_getElem? (i := 606) (by decide +kernel), List.mem_of_getElem? (i := 607) (by decide +kernel)⟩
theorem lw_p63 : lw_okq (⟨"FixedKindsModel", "common", "()V"⟩, 14) := ⟨⟨by decide +kernel, by decide +kernel⟩, List.mem_of_getElem? (i := 456) (by decide +kernel), List.mem_of_getElem? (i := 622) (by decide +kernel), List.mem_of_getElem? (i := 623) (by decide +kernel)⟩
def lw_privs_4 : List (MethodName × Nat) := [(⟨"FixedKindsModel", "multiplyBy", "(IIJ)V"⟩, 14), (⟨"FixedKindsModel", "multiply", "(III)V"⟩, 14), (⟨"FixedKindsModel", "add", "(IIII)V"⟩, 14), (⟨"FixedKindsModel", "addSizes", "(III)V"⟩, 14), (⟨"FixedKindsModel", "sizes", "(II)I"⟩, 14), (⟨"FixedKindsModel", "lessSizes", "(III)V"⟩, 14), (⟨"FixedKindsModel", "nothing", "(I)Z"⟩, 14), (⟨"FixedKindsModel", "most", "(I)J"⟩, 14), (⟨"FixedKindsModel", "least", "(I)J"⟩, 14), (⟨"FixedKindsModel", "put", "(I)J"⟩, 14), (⟨"FixedKindsModel", "round", "(II)V"⟩, 14), (⟨"FixedKindsModel", "divide", "(IIII)V"⟩, 14), (⟨"FixedKindsModel", "copy", "(II)V"⟩, 14), (⟨"FixedKindsModel", "halve", "(I)V"⟩, 14), (⟨"FixedKindsModel", "low", "(I)J"⟩, 14), (⟨"FixedKindsModel", "common", "()V"⟩, 14)]
theorem lw_r4 : ∀ q ∈ lw_privs_4, lw_okq q := List.forall_mem_cons.mpr ⟨lw_p48, List.forall_mem_cons.mpr ⟨lw_p49, List.forall_mem_cons.mpr ⟨lw_p50, List.forall_mem_cons.mpr ⟨lw_p51, List.forall_mem_cons.mpr ⟨lw_p52, List.forall_mem_cons.mpr ⟨lw_p53, List.forall_mem_cons.mpr ⟨lw_p54, List.forall_mem_cons.mpr ⟨lw_p55, List.forall_mem_cons.mpr ⟨lw_p56, List.forall_mem_cons.mpr ⟨lw_p57, List.forall_mem_cons.mpr ⟨lw_p58, List.forall_mem_cons.mpr ⟨lw_p59, List.forall_mem_cons.mpr ⟨lw_p60, List.forall_mem_cons.mpr ⟨lw_p61, List.forall_mem_cons.mpr ⟨lw_p62, List.forall_mem_cons.mpr ⟨lw_p63, fun _ h => absurd h List.not_mem_nil⟩⟩⟩⟩⟩⟩⟩⟩⟩⟩⟩⟩⟩⟩⟩⟩
theorem lw_p64 : lw_okq (⟨"FixedKindsModel", "letter", "(I)V"⟩, 14) := ⟨⟨by decide +kernel, by decide +kernel⟩, List.mem_of_getElem? (i := 456) (by decide +kernel), List.mem_of_getElem? (i := 633) (by decide +kernel), List.mem_of_getElem? (i := 634) (by decide +kernel)⟩
def lw_privs_5 : List (MethodName × Nat) := [(⟨"FixedKindsModel", "letter", "(I)V"⟩, 14)]
theorem lw_r5 : ∀ q ∈ lw_privs_5, lw_okq q := List.forall_mem_cons.mpr ⟨lw_p64, fun _ h => absurd h List.not_mem_nil⟩
def lw_privs : List (MethodName × Nat) := lw_privs_1 ++ (lw_privs_2 ++ (lw_privs_3 ++ (lw_privs_4 ++ (lw_privs_5))))
def lw_tbl : List Cond := k2_sels lw_privs ++ tables_1
theorem lw_privs_ok : ∀ q ∈ lw_privs, lw_okq q := by
  show ∀ q ∈ lw_privs_1 ++ (lw_privs_2 ++ (lw_privs_3 ++ (lw_privs_4 ++ (lw_privs_5)))), lw_okq q
  exact List.forall_mem_append.mpr ⟨lw_r1, List.forall_mem_append.mpr ⟨lw_r2, List.forall_mem_append.mpr ⟨lw_r3, List.forall_mem_append.mpr ⟨lw_r4, lw_r5⟩⟩⟩⟩
-- ===== end of PART A; then your names; then what follows =====
end
section
/-! ===== BEGIN words of one list among another's, by their places ===== -/
theorem goodIn_r {big : List Cond} (ws : List Cond) (ps : List Nat) (hp : ws = ps.filterMap (fun i => big[i]?)) (h : ws.all goodWord = true) : GoodIn big ws := by
  intro w hw
  have h1 := List.all_eq_true.mp h w hw
  rw [hp] at hw
  obtain ⟨i, -, hi⟩ := List.mem_filterMap.mp hw
  have hm : w ∈ big := by first | exact List.mem_of_getElem? hi | exact List.getElem?_mem hi
  exact ⟨hm, good_of_word h1⟩
theorem goodIn_app {big a b : List Cond} (ha : GoodIn big a) (hb : GoodIn big b) : GoodIn big (a ++ b) := fun w h => (List.mem_append.mp h).elim (ha w) (hb w)
theorem goodIn_ca {big a b : List Cond} {c : Cond} (ha : GoodIn big (c :: a)) (hb : GoodIn big b) : GoodIn big (c :: (a ++ b)) := fun w h => (List.mem_cons.mp h).elim (fun e => ha w (List.mem_cons.mpr (Or.inl e))) (fun h => (List.mem_append.mp h).elim (fun h => ha w (List.mem_cons.mpr (Or.inr h))) (hb w))
theorem goodIn_sub {big ws : List Cond} (hm : ∀ w ∈ ws, w ∈ big) (h : ws.all goodWord = true) : GoodIn big ws := fun w hw => ⟨hm w hw, good_of_word (List.all_eq_true.mp h w hw)⟩
/-! ===== END ===== -/
def vx_no (w : Cond) : Bool := decide (w ≠ .isRef (.static Bundle.tN "UNASSIGNED_STACK" Bundle.steD)) && decide (w ≠ .isRef (.static Bundle.tN "SUPPRESSED_SENTINEL" Bundle.listD)) && decide (w ≠ .laysStatic Bundle.tN "UNASSIGNED_STACK" Bundle.steD) && decide (w ≠ .laysStatic Bundle.tN "SUPPRESSED_SENTINEL" Bundle.listD)
def vx_at0 (own : String) (ic : Nat) (X : String) (names : List String) : List Cond := (Bundle.ownAtoms0 own ic X names).filter vx_no
def vx_atS (own : String) (ic : Nat) (X : String) (names : List String) : List Cond := (Bundle.ownAtoms own ic X names).filter vx_no
end
section
/-! ===== BEGIN printed: names, fields, word lists, decode rows ===== -/
def RX0 : String := "FixedKinds$Fraction"
def TX0 : u_T := fun k => match k with
  | 0 => ("FixedKinds$Fraction", "above", "LFixedKinds$Whole;", true)
  | _ => ("FixedKinds$Fraction", "below", "LFixedKinds$Whole;", true)
def tyX0 : Nat → FieldType := fun k => match k with
  | 0 => .object "FixedKinds$Whole"
  | _ => .object "FixedKinds$Whole"
abbrev wsX00 : List Cond := u_ws RX0 TX0 2
theorem nmX0 : ∀ a, a < 2 → ∀ b, b < 2 → a ≠ b → (TX0 a).2.1 ≠ (TX0 b).2.1 := by decide +kernel
theorem tyX0_ok : ∀ k, k < 2 → parseFieldDescriptor (TX0 k).2.2.1 = some (tyX0 k) := by decide +kernel
abbrev cX0_init : ByteArray := prog_2_method_1_code
def yX0_init : MethodName := ⟨RX0, "<init>", "()V"⟩
abbrev cX0_take : ByteArray := prog_2_method_2_code
def yX0_take : MethodName := ⟨RX0, "take", "(LFixedKinds$Kind;J)V"⟩
abbrev cX0_sign : ByteArray := prog_2_method_3_code
def yX0_sign : MethodName := ⟨RX0, "sign", "()I"⟩
abbrev cX0_add : ByteArray := prog_2_method_4_code
def yX0_add : MethodName := ⟨RX0, "add", "(LFixedKinds$Fraction;J)V"⟩
abbrev cX0_multiply : ByteArray := prog_2_method_5_code
def yX0_multiply : MethodName := ⟨RX0, "multiply", "(LFixedKinds$Fraction;)V"⟩
abbrev cX0_divide : ByteArray := prog_2_method_6_code
def yX0_divide : MethodName := ⟨RX0, "divide", "(LFixedKinds$Fraction;)V"⟩
abbrev cX0_toRawScale : ByteArray := prog_2_method_7_code
def yX0_toRawScale : MethodName := ⟨RX0, "toRawScale", "(LFixedKinds$Kind;)V"⟩
abbrev cX0_round : ByteArray := prog_2_method_8_code
def yX0_round : MethodName := ⟨RX0, "round", "(ILFixedKinds$Whole;)Z"⟩
abbrev cX0_isRoundedAway : ByteArray := prog_2_method_9_code
def yX0_isRoundedAway : MethodName := ⟨RX0, "isRoundedAway", "(IZZ)Z"⟩
abbrev cX0_reduce : ByteArray := prog_2_method_10_code
def yX0_reduce : MethodName := ⟨RX0, "reduce", "(LFixedKinds$Whole;)V"⟩
abbrev cX0_commonDivisor : ByteArray := prog_2_method_11_code
def yX0_commonDivisor : MethodName := ⟨RX0, "commonDivisor", "(JJ)J"⟩
abbrev cX0_toMillionths : ByteArray := prog_2_method_12_code
def yX0_toMillionths : MethodName := ⟨RX0, "toMillionths", "()LFixedKinds$Whole;"⟩
def RX1 : String := "FixedKinds$Kind"
def TX1 : u_T := fun k => match k with
  | 0 => ("FixedKinds$Kind", "width", "I", true)
  | 1 => ("FixedKinds$Kind", "signed", "Z", true)
  | 2 => ("FixedKinds$Kind", "up", "J", true)
  | 3 => ("FixedKinds$Kind", "down", "J", true)
  | 4 => ("FixedKinds$Kind", "offset", "J", true)
  | 5 => ("FixedKinds$Kind", "overflow", "I", false)
  | _ => ("FixedKinds$Kind", "rounding", "I", false)
def tyX1 : Nat → FieldType := fun k => match k with
  | 0 => .int
  | 1 => .boolean
  | 2 => .long
  | 3 => .long
  | 4 => .long
  | 5 => .int
  | _ => .int
abbrev wsX10 : List Cond := u_ws RX1 TX1 7
theorem nmX1 : ∀ a, a < 7 → ∀ b, b < 7 → a ≠ b → (TX1 a).2.1 ≠ (TX1 b).2.1 := by decide +kernel
theorem tyX1_ok : ∀ k, k < 7 → parseFieldDescriptor (TX1 k).2.2.1 = some (tyX1 k) := by decide +kernel
abbrev cX1_init : ByteArray := prog_3_method_1_code
def yX1_init : MethodName := ⟨RX1, "<init>", "(IZJJJ)V"⟩
abbrev cX1_least : ByteArray := prog_3_method_2_code
def yX1_least : MethodName := ⟨RX1, "least", "()J"⟩
abbrev cX1_greatest : ByteArray := prog_3_method_3_code
def yX1_greatest : MethodName := ⟨RX1, "greatest", "()J"⟩
abbrev cX1_isRaw : ByteArray := prog_3_method_4_code
def yX1_isRaw : MethodName := ⟨RX1, "isRaw", "(J)Z"⟩
abbrev cX1_broughtIn : ByteArray := prog_3_method_5_code
def yX1_broughtIn : MethodName := ⟨RX1, "broughtIn", "(J)J"⟩
abbrev cX1_bits : ByteArray := prog_3_method_6_code
def yX1_bits : MethodName := ⟨RX1, "bits", "(J)J"⟩
abbrev cX1_octets : ByteArray := prog_3_method_7_code
def yX1_octets : MethodName := ⟨RX1, "octets", "()I"⟩
def RX2 : String := "FixedKinds$Whole"
def TX2 : u_T := fun k => match k with
  | _ => ("FixedKinds$Whole", "limbs", "[J", true)
def tyX2 : Nat → FieldType := fun k => match k with
  | _ => .array .long
abbrev wsX20 : List Cond := u_ws RX2 TX2 1
theorem nmX2 : ∀ a, a < 1 → ∀ b, b < 1 → a ≠ b → (TX2 a).2.1 ≠ (TX2 b).2.1 := by decide +kernel
theorem tyX2_ok : ∀ k, k < 1 → parseFieldDescriptor (TX2 k).2.2.1 = some (tyX2 k) := by decide +kernel
abbrev cX2_init : ByteArray := prog_4_method_1_code
def yX2_init : MethodName := ⟨RX2, "<init>", "()V"⟩
abbrev cX2_setTo : ByteArray := prog_4_method_2_code
def yX2_setTo : MethodName := ⟨RX2, "setTo", "(J)V"⟩
abbrev cX2_copy : ByteArray := prog_4_method_3_code
def yX2_copy : MethodName := ⟨RX2, "copy", "(LFixedKinds$Whole;)V"⟩
abbrev cX2_isNegative : ByteArray := prog_4_method_4_code
def yX2_isNegative : MethodName := ⟨RX2, "isNegative", "()Z"⟩
abbrev cX2_isZero : ByteArray := prog_4_method_5_code
def yX2_isZero : MethodName := ⟨RX2, "isZero", "()Z"⟩
abbrev cX2_isOdd : ByteArray := prog_4_method_6_code
def yX2_isOdd : MethodName := ⟨RX2, "isOdd", "()Z"⟩
abbrev cX2_size : ByteArray := prog_4_method_7_code
def yX2_size : MethodName := ⟨RX2, "size", "()I"⟩
abbrev cX2_limb : ByteArray := prog_4_method_8_code
def yX2_limb : MethodName := ⟨RX2, "limb", "(I)J"⟩
abbrev cX2_bitsFrom : ByteArray := prog_4_method_9_code
def yX2_bitsFrom : MethodName := ⟨RX2, "bitsFrom", "(I)J"⟩
abbrev cX2_fitsLong : ByteArray := prog_4_method_10_code
def yX2_fitsLong : MethodName := ⟨RX2, "fitsLong", "()Z"⟩
abbrev cX2_grow : ByteArray := prog_4_method_11_code
def yX2_grow : MethodName := ⟨RX2, "grow", "(J)V"⟩
abbrev cX2_scale : ByteArray := prog_4_method_12_code
def yX2_scale : MethodName := ⟨RX2, "scale", "(J)V"⟩
abbrev cX2_addTimes : ByteArray := prog_4_method_13_code
def yX2_addTimes : MethodName := ⟨RX2, "addTimes", "(LFixedKinds$Whole;J)V"⟩
abbrev cX2_addShifted : ByteArray := prog_4_method_14_code
def yX2_addShifted : MethodName := ⟨RX2, "addShifted", "(LFixedKinds$Whole;IIJ)J"⟩
abbrev cX2_multiply : ByteArray := prog_4_method_15_code
def yX2_multiply : MethodName := ⟨RX2, "multiply", "(LFixedKinds$Whole;)V"⟩
abbrev cX2_shorten : ByteArray := prog_4_method_16_code
def yX2_shorten : MethodName := ⟨RX2, "shorten", "(J)J"⟩
abbrev cX2_divide : ByteArray := prog_4_method_17_code
def yX2_divide : MethodName := ⟨RX2, "divide", "(LFixedKinds$Whole;LFixedKinds$Whole;)V"⟩
abbrev cX2_guessDigit : ByteArray := prog_4_method_18_code
def yX2_guessDigit : MethodName := ⟨RX2, "guessDigit", "(LFixedKinds$Whole;II)J"⟩
def RX3 : String := "FixedKinds"
def TX3 : u_T := fun k => match k with
  | 0 => ("FixedKinds", "kinds", "[LFixedKinds$Kind;", true)
  | 1 => ("FixedKinds", "kindCount", "I", false)
  | 2 => ("FixedKinds", "somethingLost", "Z", false)
  | 3 => ("FixedKinds", "characters", "[C", true)
  | 4 => ("FixedKinds", "textStart", "I", false)
  | 5 => ("FixedKinds", "first", "LFixedKinds$Fraction;", true)
  | 6 => ("FixedKinds", "second", "LFixedKinds$Fraction;", true)
  | _ => ("FixedKinds", "result", "LFixedKinds$Whole;", true)
def tyX3 : Nat → FieldType := fun k => match k with
  | 0 => .array (.object "FixedKinds$Kind")
  | 1 => .int
  | 2 => .boolean
  | 3 => .array .char
  | 4 => .int
  | 5 => .object "FixedKinds$Fraction"
  | 6 => .object "FixedKinds$Fraction"
  | _ => .object "FixedKinds$Whole"
abbrev wsX30 : List Cond := u_ws RX3 TX3 8
theorem nmX3 : ∀ a, a < 8 → ∀ b, b < 8 → a ≠ b → (TX3 a).2.1 ≠ (TX3 b).2.1 := by decide +kernel
theorem tyX3_ok : ∀ k, k < 8 → parseFieldDescriptor (TX3 k).2.2.1 = some (tyX3 k) := by decide +kernel
abbrev cX3_init : ByteArray := prog_1_method_1_code
def yX3_init : MethodName := ⟨RX3, "<init>", "()V"⟩
abbrev cX3_kind : ByteArray := prog_1_method_2_code
def yX3_kind : MethodName := ⟨RX3, "kind", "(IZJJJ)I"⟩
abbrev cX3_rule : ByteArray := prog_1_method_3_code
def yX3_rule : MethodName := ⟨RX3, "rule", "(III)I"⟩
abbrev cX3_apply : ByteArray := prog_1_method_4_code
def yX3_apply : MethodName := ⟨RX3, "apply", "(IIJIJ)J"⟩
abbrev cX3_convert : ByteArray := prog_1_method_5_code
def yX3_convert : MethodName := ⟨RX3, "convert", "(IJI)J"⟩
abbrev cX3_lost : ByteArray := prog_1_method_6_code
def yX3_lost : MethodName := ⟨RX3, "lost", "()Z"⟩
abbrev cX3_physical : ByteArray := prog_1_method_7_code
def yX3_physical : MethodName := ⟨RX3, "physical", "(IJI)J"⟩
abbrev cX3_text : ByteArray := prog_1_method_8_code
def yX3_text : MethodName := ⟨RX3, "text", "(IJ)I"⟩
abbrev cX3_at : ByteArray := prog_1_method_9_code
def yX3_at : MethodName := ⟨RX3, "at", "(I)I"⟩
abbrev cX3_bound : ByteArray := prog_1_method_10_code
def yX3_bound : MethodName := ⟨RX3, "bound", "(II)J"⟩
abbrev cX3_compare : ByteArray := prog_1_method_11_code
def yX3_compare : MethodName := ⟨RX3, "compare", "(IJIJ)I"⟩
abbrev cX3_octet : ByteArray := prog_1_method_12_code
def yX3_octet : MethodName := ⟨RX3, "octet", "(IJI)B"⟩
abbrev cX3_half : ByteArray := prog_1_method_13_code
def yX3_half : MethodName := ⟨RX3, "half", "(IJ)S"⟩
abbrev cX3_isWidth : ByteArray := prog_1_method_14_code
def yX3_isWidth : MethodName := ⟨RX3, "isWidth", "(IZ)Z"⟩
abbrev cX3_isSlope : ByteArray := prog_1_method_15_code
def yX3_isSlope : MethodName := ⟨RX3, "isSlope", "(JJ)Z"⟩
abbrev cX3_isOffset : ByteArray := prog_1_method_16_code
def yX3_isOffset : MethodName := ⟨RX3, "isOffset", "(J)Z"⟩
abbrev cX3_find : ByteArray := prog_1_method_17_code
def yX3_find : MethodName := ⟨RX3, "find", "(I)LFixedKinds$Kind;"⟩
abbrev cX3_combine : ByteArray := prog_1_method_18_code
def yX3_combine : MethodName := ⟨RX3, "combine", "(I)V"⟩
abbrev cX3_putQuotientByZero : ByteArray := prog_1_method_19_code
def yX3_putQuotientByZero : MethodName := ⟨RX3, "putQuotientByZero", "(LFixedKinds$Kind;)J"⟩
abbrev cX3_put : ByteArray := prog_1_method_20_code
def yX3_put : MethodName := ⟨RX3, "put", "(LFixedKinds$Kind;)J"⟩
abbrev cX3_beyond : ByteArray := prog_1_method_21_code
def yX3_beyond : MethodName := ⟨RX3, "beyond", "(LFixedKinds$Kind;)J"⟩
abbrev cX3_writeBefore : ByteArray := prog_1_method_22_code
def yX3_writeBefore : MethodName := ⟨RX3, "writeBefore", "(C)V"⟩
abbrev cX3_writeDigit : ByteArray := prog_1_method_23_code
def yX3_writeDigit : MethodName := ⟨RX3, "writeDigit", "(J)V"⟩
abbrev cX3_writePlaces : ByteArray := prog_1_method_24_code
def yX3_writePlaces : MethodName := ⟨RX3, "writePlaces", "(LFixedKinds$Whole;)V"⟩
abbrev cX3_writeWholePart : ByteArray := prog_1_method_25_code
def yX3_writeWholePart : MethodName := ⟨RX3, "writeWholePart", "(LFixedKinds$Whole;)V"⟩
def RX4 : String := "FixedKindsModel"
def TX4 : u_T := fun k => match k with
  | 0 => ("FixedKindsModel", "code", "I", false)
  | 1 => ("FixedKindsModel", "kinds", "I", false)
  | 2 => ("FixedKindsModel", "width", "[I", true)
  | 3 => ("FixedKindsModel", "signed", "[Z", true)
  | 4 => ("FixedKindsModel", "up", "[J", true)
  | 5 => ("FixedKindsModel", "down", "[J", true)
  | 6 => ("FixedKindsModel", "offset", "[J", true)
  | 7 => ("FixedKindsModel", "beyond", "[I", true)
  | 8 => ("FixedKindsModel", "rounding", "[I", true)
  | 9 => ("FixedKindsModel", "lost", "Z", false)
  | 10 => ("FixedKindsModel", "textLength", "I", false)
  | 11 => ("FixedKindsModel", "text", "[I", true)
  | 12 => ("FixedKindsModel", "part", "[I", true)
  | _ => ("FixedKindsModel", "sign", "[I", true)
def tyX4 : Nat → FieldType := fun k => match k with
  | 0 => .int
  | 1 => .int
  | 2 => .array .int
  | 3 => .array .boolean
  | 4 => .array .long
  | 5 => .array .long
  | 6 => .array .long
  | 7 => .array .int
  | 8 => .array .int
  | 9 => .boolean
  | 10 => .int
  | 11 => .array .int
  | 12 => .array .int
  | _ => .array .int
abbrev wsX40 : List Cond := u_ws RX4 TX4 14
theorem nmX4 : ∀ a, a < 14 → ∀ b, b < 14 → a ≠ b → (TX4 a).2.1 ≠ (TX4 b).2.1 := by decide +kernel
theorem tyX4_ok : ∀ k, k < 14 → parseFieldDescriptor (TX4 k).2.2.1 = some (tyX4 k) := by decide +kernel
abbrev cX4_init : ByteArray := prog_6_method_1_code
def yX4_init : MethodName := ⟨RX4, "<init>", "()V"⟩
abbrev cX4_thrown : ByteArray := prog_6_method_2_code
def yX4_thrown : MethodName := ⟨RX4, "thrown", "()I"⟩
abbrev cX4_set : ByteArray := prog_6_method_3_code
def yX4_set : MethodName := ⟨RX4, "set", "(IJ)V"⟩
abbrev cX4_copy : ByteArray := prog_6_method_4_code
def yX4_copy : MethodName := ⟨RX4, "copy", "(II)V"⟩
abbrev cX4_nothing : ByteArray := prog_6_method_5_code
def yX4_nothing : MethodName := ⟨RX4, "nothing", "(I)Z"⟩
abbrev cX4_sizes : ByteArray := prog_6_method_6_code
def yX4_sizes : MethodName := ⟨RX4, "sizes", "(II)I"⟩
abbrev cX4_addSizes : ByteArray := prog_6_method_7_code
def yX4_addSizes : MethodName := ⟨RX4, "addSizes", "(III)V"⟩
abbrev cX4_lessSizes : ByteArray := prog_6_method_8_code
def yX4_lessSizes : MethodName := ⟨RX4, "lessSizes", "(III)V"⟩
abbrev cX4_add : ByteArray := prog_6_method_9_code
def yX4_add : MethodName := ⟨RX4, "add", "(IIII)V"⟩
abbrev cX4_multiply : ByteArray := prog_6_method_10_code
def yX4_multiply : MethodName := ⟨RX4, "multiply", "(III)V"⟩
abbrev cX4_multiplyBy : ByteArray := prog_6_method_11_code
def yX4_multiplyBy : MethodName := ⟨RX4, "multiplyBy", "(IIJ)V"⟩
abbrev cX4_halve : ByteArray := prog_6_method_12_code
def yX4_halve : MethodName := ⟨RX4, "halve", "(I)V"⟩
abbrev cX4_divide : ByteArray := prog_6_method_13_code
def yX4_divide : MethodName := ⟨RX4, "divide", "(IIII)V"⟩
abbrev cX4_low : ByteArray := prog_6_method_14_code
def yX4_low : MethodName := ⟨RX4, "low", "(I)J"⟩
abbrev cX4_none : ByteArray := prog_6_method_15_code
def yX4_none : MethodName := ⟨RX4, "none", "(I)Z"⟩
abbrev cX4_kind : ByteArray := prog_6_method_16_code
def yX4_kind : MethodName := ⟨RX4, "kind", "(IZJJJ)I"⟩
abbrev cX4_rule : ByteArray := prog_6_method_17_code
def yX4_rule : MethodName := ⟨RX4, "rule", "(III)I"⟩
abbrev cX4_unsigned : ByteArray := prog_6_method_18_code
def yX4_unsigned : MethodName := ⟨RX4, "unsigned", "(IJ)J"⟩
abbrev cX4_bring : ByteArray := prog_6_method_19_code
def yX4_bring : MethodName := ⟨RX4, "bring", "(IJ)J"⟩
abbrev cX4_least : ByteArray := prog_6_method_20_code
def yX4_least : MethodName := ⟨RX4, "least", "(I)J"⟩
abbrev cX4_most : ByteArray := prog_6_method_21_code
def yX4_most : MethodName := ⟨RX4, "most", "(I)J"⟩
abbrev cX4_value : ByteArray := prog_6_method_22_code
def yX4_value : MethodName := ⟨RX4, "value", "(IIJ)V"⟩
abbrev cX4_round : ByteArray := prog_6_method_23_code
def yX4_round : MethodName := ⟨RX4, "round", "(II)V"⟩
abbrev cX4_put : ByteArray := prog_6_method_24_code
def yX4_put : MethodName := ⟨RX4, "put", "(I)J"⟩
abbrev cX4_apply : ByteArray := prog_6_method_25_code
def yX4_apply : MethodName := ⟨RX4, "apply", "(IIJIJ)J"⟩
abbrev cX4_convert : ByteArray := prog_6_method_26_code
def yX4_convert : MethodName := ⟨RX4, "convert", "(IJI)J"⟩
abbrev cX4_lost : ByteArray := prog_6_method_27_code
def yX4_lost : MethodName := ⟨RX4, "lost", "()Z"⟩
abbrev cX4_common : ByteArray := prog_6_method_28_code
def yX4_common : MethodName := ⟨RX4, "common", "()V"⟩
abbrev cX4_physical : ByteArray := prog_6_method_29_code
def yX4_physical : MethodName := ⟨RX4, "physical", "(IJI)J"⟩
abbrev cX4_text : ByteArray := prog_6_method_30_code
def yX4_text : MethodName := ⟨RX4, "text", "(IJ)I"⟩
abbrev cX4_letter : ByteArray := prog_6_method_31_code
def yX4_letter : MethodName := ⟨RX4, "letter", "(I)V"⟩
abbrev cX4_at : ByteArray := prog_6_method_32_code
def yX4_at : MethodName := ⟨RX4, "at", "(I)I"⟩
abbrev cX4_bound : ByteArray := prog_6_method_33_code
def yX4_bound : MethodName := ⟨RX4, "bound", "(II)J"⟩
abbrev cX4_compare : ByteArray := prog_6_method_34_code
def yX4_compare : MethodName := ⟨RX4, "compare", "(IJIJ)I"⟩
abbrev cX4_octet : ByteArray := prog_6_method_35_code
def yX4_octet : MethodName := ⟨RX4, "octet", "(IJI)B"⟩
abbrev cX4_half : ByteArray := prog_6_method_36_code
def yX4_half : MethodName := ⟨RX4, "half", "(IJ)S"⟩
def RJx00060 : String := "java/lang/ArrayIndexOutOfBoundsException"
def TJx00060 : u_T := fun k => match k with
  | 0 => ("java/lang/Throwable", "cause", "Ljava/lang/Throwable;", false)
  | 1 => ("java/lang/Throwable", "stackTrace", "[Ljava/lang/StackTraceElement;", false)
  | 2 => ("java/lang/Throwable", "suppressedExceptions", "Ljava/util/List;", false)
  | 3 => ("java/lang/Throwable", "detailMessage", "Ljava/lang/String;", false)
  | 4 => ("java/lang/Throwable", "backtrace", "Ljava/lang/Object;", false)
  | _ => ("java/lang/Throwable", "depth", "I", false)
def tyJx00060 : Nat → FieldType := fun k => match k with
  | 0 => .object "java/lang/Throwable"
  | 1 => .array (.object "java/lang/StackTraceElement")
  | 2 => .object "java/util/List"
  | 3 => .object "java/lang/String"
  | 4 => .object "java/lang/Object"
  | _ => .int
abbrev wsJx000600 : List Cond := u_ws RJx00060 TJx00060 6
theorem nmJx00060 : ∀ a, a < 6 → ∀ b, b < 6 → a ≠ b → (TJx00060 a).2.1 ≠ (TJx00060 b).2.1 := by decide +kernel
theorem tyJx00060_ok : ∀ k, k < 6 → parseFieldDescriptor (TJx00060 k).2.2.1 = some (tyJx00060 k) := by decide +kernel
abbrev cJx00060_init_a7421 : ByteArray := prog_8_method_2_code
def yJx00060_init_a7421 : MethodName := ⟨RJx00060, "<init>", "(Ljava/lang/String;)V"⟩
def RJ0 : String := "java/lang/String"
def TJ0 : u_T := fun k => match k with
  | _ => ("", "", "", false)
def tyJ0 : Nat → FieldType := fun k => match k with
  | _ => .int
abbrev wsJ00 : List Cond := u_ws RJ0 TJ0 0
theorem nmJ0 : ∀ a, a < 0 → ∀ b, b < 0 → a ≠ b → (TJ0 a).2.1 ≠ (TJ0 b).2.1 := by decide +kernel
theorem tyJ0_ok : ∀ k, k < 0 → parseFieldDescriptor (TJ0 k).2.2.1 = some (tyJ0 k) := by decide +kernel
def wsX2_init : List Cond := .code yX2_init cX2_init 1 none :: ([.methodLink RX2 3 objectInit, .instanceMethod objectInit, .code objectInit ⟨#[0xb1]⟩ 1 none, .arrayClass .long, .fieldLink RX2 9 "FixedKinds$Whole" "limbs" "[J"] ++ wsX20)
def wsX0_init : List Cond := .code yX0_init cX0_init 1 none :: ([.methodLink RX0 3 objectInit, .instanceMethod objectInit, .code objectInit ⟨#[0xb1]⟩ 1 none, .classLink RX0 9 RX2, .instantiable RX2 1, .initialized RX2, .fieldLink RX0 12 "FixedKinds$Fraction" "above" "LFixedKinds$Whole;", .fieldLink RX0 18 "FixedKinds$Fraction" "below" "LFixedKinds$Whole;", .instanceMethod yX2_init, .code yX2_init cX2_init 1 none, .methodLink RX2 3 objectInit, .arrayClass .long, .fieldLink RX2 9 "FixedKinds$Whole" "limbs" "[J"] ++ wsX20 ++ wsX00)
def wsX1_broughtIn : List Cond := .code yX1_broughtIn cX1_broughtIn 4 (some .long) :: ([.fieldLink RX1 9 "FixedKinds$Kind" "width" "I", .fieldLink RX1 15 "FixedKinds$Kind" "signed" "Z"] ++ wsX10)
def wsX2_setTo : List Cond := .code yX2_setTo cX2_setTo 6 none :: ([.fieldLink RX2 9 "FixedKinds$Whole" "limbs" "[J", .constantLong RX2 15 (65535)] ++ wsX20)
def wsX2_scale : List Cond := .code yX2_scale cX2_scale 6 none :: ([.fieldLink RX2 9 "FixedKinds$Whole" "limbs" "[J", .constantLong RX2 15 (65535)] ++ wsX20)
def wsX2_grow : List Cond := .code yX2_grow cX2_grow 6 none :: ([.fieldLink RX2 9 "FixedKinds$Whole" "limbs" "[J", .constantLong RX2 15 (65535)] ++ wsX20)
def wsX0_take : List Cond := .code yX0_take cX0_take 4 none :: ([.fieldLink RX0 12 "FixedKinds$Fraction" "above" "LFixedKinds$Whole;", .fieldLink RX0 18 "FixedKinds$Fraction" "below" "LFixedKinds$Whole;", .instanceMethod yX1_broughtIn, .initialized RX1, .selects RX1 yX1_broughtIn yX1_broughtIn, .code yX1_broughtIn cX1_broughtIn 4 (some .long), .fieldLink RX1 9 "FixedKinds$Kind" "width" "I", .fieldLink RX1 15 "FixedKinds$Kind" "signed" "Z", .instanceMethod yX2_setTo, .initialized RX2, .selects RX2 yX2_setTo yX2_setTo, .code yX2_setTo cX2_setTo 6 none, .fieldLink RX2 9 "FixedKinds$Whole" "limbs" "[J", .constantLong RX2 15 (65535), .instanceMethod yX2_scale, .selects RX2 yX2_scale yX2_scale, .code yX2_scale cX2_scale 6 none, .instanceMethod yX2_grow, .selects RX2 yX2_grow yX2_grow, .code yX2_grow cX2_grow 6 none] ++ wsX00 ++ wsX10 ++ wsX20)
def wsX2_size : List Cond := .code yX2_size cX2_size 2 (some .int) :: ([.fieldLink RX2 9 "FixedKinds$Whole" "limbs" "[J"] ++ wsX20)
def wsX2_isZero : List Cond := .code yX2_isZero cX2_isZero 1 (some .boolean) :: ([.methodLink RX2 17 yX2_size, .instanceMethod yX2_size, .selects RX2 yX2_size yX2_size, .initialized RX2, .code yX2_size cX2_size 2 (some .int), .fieldLink RX2 9 "FixedKinds$Whole" "limbs" "[J"] ++ wsX20)
def wsX2_isNegative : List Cond := .code yX2_isNegative cX2_isNegative 1 (some .boolean) :: ([.fieldLink RX2 9 "FixedKinds$Whole" "limbs" "[J"] ++ wsX20)
def wsX0_sign : List Cond := .code yX0_sign cX0_sign 1 (some .int) :: ([.fieldLink RX0 12 "FixedKinds$Fraction" "above" "LFixedKinds$Whole;", .instanceMethod yX2_isZero, .initialized RX2, .selects RX2 yX2_isZero yX2_isZero, .code yX2_isZero cX2_isZero 1 (some .boolean), .methodLink RX2 17 yX2_size, .instanceMethod yX2_size, .selects RX2 yX2_size yX2_size, .code yX2_size cX2_size 2 (some .int), .fieldLink RX2 9 "FixedKinds$Whole" "limbs" "[J", .instanceMethod yX2_isNegative, .selects RX2 yX2_isNegative yX2_isNegative, .code yX2_isNegative cX2_isNegative 1 (some .boolean)] ++ wsX00 ++ wsX20)
def wsX2_multiply : List Cond := .code yX2_multiply cX2_multiply 6 none :: ([.fieldLink RX2 9 "FixedKinds$Whole" "limbs" "[J", .methodLink RX2 32 yX2_grow, .instanceMethod yX2_grow, .selects RX2 yX2_grow yX2_grow, .initialized RX2, .code yX2_grow cX2_grow 6 none, .constantLong RX2 15 (65535)] ++ wsX20)
def wsX2_limb : List Cond := .code yX2_limb cX2_limb 2 (some .long) :: ([.fieldLink RX2 9 "FixedKinds$Whole" "limbs" "[J"] ++ wsX20)
def wsX2_addShifted : List Cond := .code yX2_addShifted cX2_addShifted 9 (some .long) :: ([.fieldLink RX2 9 "FixedKinds$Whole" "limbs" "[J", .constantLong RX2 15 (65535), .methodLink RX2 21 yX2_limb, .instanceMethod yX2_limb, .selects RX2 yX2_limb yX2_limb, .initialized RX2, .code yX2_limb cX2_limb 2 (some .long)] ++ wsX20)
def wsX2_addTimes : List Cond := .code yX2_addTimes cX2_addTimes 4 none :: ([.methodLink RX2 28 yX2_addShifted, .instanceMethod yX2_addShifted, .selects RX2 yX2_addShifted yX2_addShifted, .initialized RX2, .code yX2_addShifted cX2_addShifted 9 (some .long), .fieldLink RX2 9 "FixedKinds$Whole" "limbs" "[J", .constantLong RX2 15 (65535), .methodLink RX2 21 yX2_limb, .instanceMethod yX2_limb, .selects RX2 yX2_limb yX2_limb, .code yX2_limb cX2_limb 2 (some .long)] ++ wsX20)
def wsX0_add : List Cond := .code yX0_add cX0_add 4 none :: ([.fieldLink RX0 12 "FixedKinds$Fraction" "above" "LFixedKinds$Whole;", .fieldLink RX0 18 "FixedKinds$Fraction" "below" "LFixedKinds$Whole;", .instanceMethod yX2_multiply, .initialized RX2, .selects RX2 yX2_multiply yX2_multiply, .code yX2_multiply cX2_multiply 6 none, .fieldLink RX2 9 "FixedKinds$Whole" "limbs" "[J", .methodLink RX2 32 yX2_grow, .instanceMethod yX2_grow, .selects RX2 yX2_grow yX2_grow, .code yX2_grow cX2_grow 6 none, .constantLong RX2 15 (65535), .instanceMethod yX2_addTimes, .selects RX2 yX2_addTimes yX2_addTimes, .code yX2_addTimes cX2_addTimes 4 none, .methodLink RX2 28 yX2_addShifted, .instanceMethod yX2_addShifted, .selects RX2 yX2_addShifted yX2_addShifted, .code yX2_addShifted cX2_addShifted 9 (some .long), .methodLink RX2 21 yX2_limb, .instanceMethod yX2_limb, .selects RX2 yX2_limb yX2_limb, .code yX2_limb cX2_limb 2 (some .long)] ++ wsX00 ++ wsX20)
def wsX0_multiply : List Cond := .code yX0_multiply cX0_multiply 2 none :: ([.fieldLink RX0 12 "FixedKinds$Fraction" "above" "LFixedKinds$Whole;", .fieldLink RX0 18 "FixedKinds$Fraction" "below" "LFixedKinds$Whole;", .instanceMethod yX2_multiply, .initialized RX2, .selects RX2 yX2_multiply yX2_multiply, .code yX2_multiply cX2_multiply 6 none, .fieldLink RX2 9 "FixedKinds$Whole" "limbs" "[J", .methodLink RX2 32 yX2_grow, .instanceMethod yX2_grow, .selects RX2 yX2_grow yX2_grow, .code yX2_grow cX2_grow 6 none, .constantLong RX2 15 (65535)] ++ wsX00 ++ wsX20)
def wsX0_divide : List Cond := .code yX0_divide cX0_divide 2 none :: ([.fieldLink RX0 12 "FixedKinds$Fraction" "above" "LFixedKinds$Whole;", .fieldLink RX0 18 "FixedKinds$Fraction" "below" "LFixedKinds$Whole;", .constantLong RX0 62 (-1), .instanceMethod yX2_multiply, .initialized RX2, .selects RX2 yX2_multiply yX2_multiply, .code yX2_multiply cX2_multiply 6 none, .fieldLink RX2 9 "FixedKinds$Whole" "limbs" "[J", .methodLink RX2 32 yX2_grow, .instanceMethod yX2_grow, .selects RX2 yX2_grow yX2_grow, .code yX2_grow cX2_grow 6 none, .constantLong RX2 15 (65535), .instanceMethod yX2_isNegative, .selects RX2 yX2_isNegative yX2_isNegative, .code yX2_isNegative cX2_isNegative 1 (some .boolean), .instanceMethod yX2_scale, .selects RX2 yX2_scale yX2_scale, .code yX2_scale cX2_scale 6 none] ++ wsX00 ++ wsX20)
def wsX0_toRawScale : List Cond := .code yX0_toRawScale cX0_toRawScale 2 none :: ([.fieldLink RX0 12 "FixedKinds$Fraction" "above" "LFixedKinds$Whole;", .fieldLink RX0 18 "FixedKinds$Fraction" "below" "LFixedKinds$Whole;", .instanceMethod yX2_addTimes, .initialized RX2, .selects RX2 yX2_addTimes yX2_addTimes, .code yX2_addTimes cX2_addTimes 4 none, .methodLink RX2 28 yX2_addShifted, .instanceMethod yX2_addShifted, .selects RX2 yX2_addShifted yX2_addShifted, .code yX2_addShifted cX2_addShifted 9 (some .long), .fieldLink RX2 9 "FixedKinds$Whole" "limbs" "[J", .constantLong RX2 15 (65535), .methodLink RX2 21 yX2_limb, .instanceMethod yX2_limb, .selects RX2 yX2_limb yX2_limb, .code yX2_limb cX2_limb 2 (some .long), .instanceMethod yX2_scale, .selects RX2 yX2_scale yX2_scale, .code yX2_scale cX2_scale 6 none] ++ wsX00 ++ wsX10 ++ wsX20)
def wsX2_guessDigit : List Cond := .code yX2_guessDigit cX2_guessDigit 7 (some .long) :: ([.methodLink RX2 21 yX2_limb, .instanceMethod yX2_limb, .selects RX2 yX2_limb yX2_limb, .initialized RX2, .code yX2_limb cX2_limb 2 (some .long), .fieldLink RX2 9 "FixedKinds$Whole" "limbs" "[J"] ++ wsX20)
def wsX2_divide : List Cond := .code yX2_divide cX2_divide 7 none :: ([.fieldLink RX2 9 "FixedKinds$Whole" "limbs" "[J", .methodLink RX2 36 yX2_setTo, .instanceMethod yX2_setTo, .selects RX2 yX2_setTo yX2_setTo, .initialized RX2, .code yX2_setTo cX2_setTo 6 none, .constantLong RX2 15 (65535), .methodLink RX2 17 yX2_size, .instanceMethod yX2_size, .selects RX2 yX2_size yX2_size, .code yX2_size cX2_size 2 (some .int), .methodLink RX2 39 yX2_guessDigit, .instanceMethod yX2_guessDigit, .selects RX2 yX2_guessDigit yX2_guessDigit, .code yX2_guessDigit cX2_guessDigit 7 (some .long), .methodLink RX2 21 yX2_limb, .instanceMethod yX2_limb, .selects RX2 yX2_limb yX2_limb, .code yX2_limb cX2_limb 2 (some .long), .methodLink RX2 28 yX2_addShifted, .instanceMethod yX2_addShifted, .selects RX2 yX2_addShifted yX2_addShifted, .code yX2_addShifted cX2_addShifted 9 (some .long)] ++ wsX20)
def wsX2_isOdd : List Cond := .code yX2_isOdd cX2_isOdd 1 (some .boolean) :: ([.fieldLink RX2 9 "FixedKinds$Whole" "limbs" "[J"] ++ wsX20)
def wsX0_isRoundedAway_r1 : List Cond := [Cond.fieldLink RX0 12 "FixedKinds$Fraction" "above" "LFixedKinds$Whole;", Cond.constantLong RX0 75 (2), Cond.fieldLink RX0 18 "FixedKinds$Fraction" "below" "LFixedKinds$Whole;", Cond.constantLong RX0 62 (-1), Cond.instanceMethod yX2_scale, Cond.initialized RX2, Cond.selects RX2 yX2_scale yX2_scale, Cond.code yX2_scale cX2_scale 6 none, Cond.fieldLink RX2 9 "FixedKinds$Whole" "limbs" "[J", Cond.constantLong RX2 15 (65535), Cond.instanceMethod yX2_addTimes, Cond.selects RX2 yX2_addTimes yX2_addTimes, Cond.code yX2_addTimes cX2_addTimes 4 none, Cond.methodLink RX2 28 yX2_addShifted, Cond.instanceMethod yX2_addShifted, Cond.selects RX2 yX2_addShifted yX2_addShifted, Cond.code yX2_addShifted cX2_addShifted 9 (some .long), Cond.methodLink RX2 21 yX2_limb, Cond.instanceMethod yX2_limb, Cond.selects RX2 yX2_limb yX2_limb, Cond.code yX2_limb cX2_limb 2 (some .long), Cond.instanceMethod yX2_isZero, Cond.selects RX2 yX2_isZero yX2_isZero, Cond.code yX2_isZero cX2_isZero 1 (some .boolean)]
def wsX0_isRoundedAway_r2 : List Cond := [Cond.methodLink RX2 17 yX2_size, Cond.instanceMethod yX2_size, Cond.selects RX2 yX2_size yX2_size, Cond.code yX2_size cX2_size 2 (some .int), Cond.instanceMethod yX2_isNegative, Cond.selects RX2 yX2_isNegative yX2_isNegative, Cond.code yX2_isNegative cX2_isNegative 1 (some .boolean)]
def wsX0_isRoundedAway : List Cond := .code yX0_isRoundedAway cX0_isRoundedAway 4 (some .boolean) :: ((wsX0_isRoundedAway_r1 ++ wsX0_isRoundedAway_r2) ++ wsX00 ++ wsX20)
def wsX0_round_r1 : List Cond := [Cond.fieldLink RX0 12 "FixedKinds$Fraction" "above" "LFixedKinds$Whole;", Cond.constantLong RX0 62 (-1), Cond.fieldLink RX0 18 "FixedKinds$Fraction" "below" "LFixedKinds$Whole;", Cond.instanceMethod yX2_isNegative, Cond.initialized RX2, Cond.selects RX2 yX2_isNegative yX2_isNegative, Cond.code yX2_isNegative cX2_isNegative 1 (some .boolean), Cond.fieldLink RX2 9 "FixedKinds$Whole" "limbs" "[J", Cond.instanceMethod yX2_scale, Cond.selects RX2 yX2_scale yX2_scale, Cond.code yX2_scale cX2_scale 6 none, Cond.constantLong RX2 15 (65535), Cond.instanceMethod yX2_divide, Cond.selects RX2 yX2_divide yX2_divide, Cond.code yX2_divide cX2_divide 7 none, Cond.methodLink RX2 36 yX2_setTo, Cond.instanceMethod yX2_setTo, Cond.selects RX2 yX2_setTo yX2_setTo, Cond.code yX2_setTo cX2_setTo 6 none, Cond.methodLink RX2 17 yX2_size, Cond.instanceMethod yX2_size, Cond.selects RX2 yX2_size yX2_size, Cond.code yX2_size cX2_size 2 (some .int), Cond.methodLink RX2 39 yX2_guessDigit]
def wsX0_round_r2 : List Cond := [Cond.instanceMethod yX2_guessDigit, Cond.selects RX2 yX2_guessDigit yX2_guessDigit, Cond.code yX2_guessDigit cX2_guessDigit 7 (some .long), Cond.methodLink RX2 21 yX2_limb, Cond.instanceMethod yX2_limb, Cond.selects RX2 yX2_limb yX2_limb, Cond.code yX2_limb cX2_limb 2 (some .long), Cond.methodLink RX2 28 yX2_addShifted, Cond.instanceMethod yX2_addShifted, Cond.selects RX2 yX2_addShifted yX2_addShifted, Cond.code yX2_addShifted cX2_addShifted 9 (some .long), Cond.instanceMethod yX2_isZero, Cond.selects RX2 yX2_isZero yX2_isZero, Cond.code yX2_isZero cX2_isZero 1 (some .boolean), Cond.instanceMethod yX2_isOdd, Cond.selects RX2 yX2_isOdd yX2_isOdd, Cond.code yX2_isOdd cX2_isOdd 1 (some .boolean), Cond.methodLink RX0 71 yX0_isRoundedAway, Cond.instanceMethod yX0_isRoundedAway, Cond.selects RX0 yX0_isRoundedAway yX0_isRoundedAway, Cond.initialized RX0, Cond.code yX0_isRoundedAway cX0_isRoundedAway 4 (some .boolean), Cond.constantLong RX0 75 (2), Cond.instanceMethod yX2_addTimes]
def wsX0_round_r3 : List Cond := [Cond.selects RX2 yX2_addTimes yX2_addTimes, Cond.code yX2_addTimes cX2_addTimes 4 none, Cond.instanceMethod yX2_grow, Cond.selects RX2 yX2_grow yX2_grow, Cond.code yX2_grow cX2_grow 6 none]
def wsX0_round : List Cond := .code yX0_round cX0_round 5 (some .boolean) :: ((wsX0_round_r1 ++ (wsX0_round_r2 ++ wsX0_round_r3)) ++ wsX00 ++ wsX20)
def wsX2_bitsFrom : List Cond := .code yX2_bitsFrom cX2_bitsFrom 5 (some .long) :: ([.methodLink RX2 21 yX2_limb, .instanceMethod yX2_limb, .selects RX2 yX2_limb yX2_limb, .initialized RX2, .code yX2_limb cX2_limb 2 (some .long), .fieldLink RX2 9 "FixedKinds$Whole" "limbs" "[J"] ++ wsX20)
def wsX2_copy : List Cond := .code yX2_copy cX2_copy 3 none :: ([.fieldLink RX2 9 "FixedKinds$Whole" "limbs" "[J"] ++ wsX20)
def wsX2_shorten : List Cond := .code yX2_shorten cX2_shorten 6 (some .long) :: ([.fieldLink RX2 9 "FixedKinds$Whole" "limbs" "[J"] ++ wsX20)
def wsX0_commonDivisor : List Cond := .code yX0_commonDivisor cX0_commonDivisor 11 (some .long) :: ([])
def wsX0_reduce_r1 : List Cond := [Cond.fieldLink RX0 12 "FixedKinds$Fraction" "above" "LFixedKinds$Whole;", Cond.constantLong RX0 62 (-1), Cond.fieldLink RX0 18 "FixedKinds$Fraction" "below" "LFixedKinds$Whole;", Cond.instanceMethod yX2_isNegative, Cond.initialized RX2, Cond.selects RX2 yX2_isNegative yX2_isNegative, Cond.code yX2_isNegative cX2_isNegative 1 (some .boolean), Cond.fieldLink RX2 9 "FixedKinds$Whole" "limbs" "[J", Cond.instanceMethod yX2_scale, Cond.selects RX2 yX2_scale yX2_scale, Cond.code yX2_scale cX2_scale 6 none, Cond.constantLong RX2 15 (65535), Cond.instanceMethod yX2_bitsFrom, Cond.selects RX2 yX2_bitsFrom yX2_bitsFrom, Cond.code yX2_bitsFrom cX2_bitsFrom 5 (some .long), Cond.methodLink RX2 21 yX2_limb, Cond.instanceMethod yX2_limb, Cond.selects RX2 yX2_limb yX2_limb, Cond.code yX2_limb cX2_limb 2 (some .long), Cond.instanceMethod yX2_copy, Cond.selects RX2 yX2_copy yX2_copy, Cond.code yX2_copy cX2_copy 3 none, Cond.instanceMethod yX2_shorten, Cond.selects RX2 yX2_shorten yX2_shorten]
def wsX0_reduce_r2 : List Cond := [Cond.code yX2_shorten cX2_shorten 6 (some .long), Cond.methodLink RX0 87 yX0_commonDivisor, Cond.static yX0_commonDivisor, Cond.initialized RX0, Cond.code yX0_commonDivisor cX0_commonDivisor 11 (some .long)]
def wsX0_reduce : List Cond := .code yX0_reduce cX0_reduce 7 none :: ((wsX0_reduce_r1 ++ wsX0_reduce_r2) ++ wsX00 ++ wsX20)
def wsX0_toMillionths_r1 : List Cond := [Cond.fieldLink RX0 12 "FixedKinds$Fraction" "above" "LFixedKinds$Whole;", Cond.constantLong RX0 62 (-1), Cond.fieldLink RX0 18 "FixedKinds$Fraction" "below" "LFixedKinds$Whole;", Cond.constantLong RX0 91 (2000000), Cond.constantLong RX0 75 (2), Cond.instanceMethod yX2_isNegative, Cond.initialized RX2, Cond.selects RX2 yX2_isNegative yX2_isNegative, Cond.code yX2_isNegative cX2_isNegative 1 (some .boolean), Cond.fieldLink RX2 9 "FixedKinds$Whole" "limbs" "[J", Cond.instanceMethod yX2_scale, Cond.selects RX2 yX2_scale yX2_scale, Cond.code yX2_scale cX2_scale 6 none, Cond.constantLong RX2 15 (65535), Cond.instanceMethod yX2_bitsFrom, Cond.selects RX2 yX2_bitsFrom yX2_bitsFrom, Cond.code yX2_bitsFrom cX2_bitsFrom 5 (some .long), Cond.methodLink RX2 21 yX2_limb, Cond.instanceMethod yX2_limb, Cond.selects RX2 yX2_limb yX2_limb, Cond.code yX2_limb cX2_limb 2 (some .long), Cond.instanceMethod yX2_grow, Cond.selects RX2 yX2_grow yX2_grow, Cond.code yX2_grow cX2_grow 6 none]
def wsX0_toMillionths_r2 : List Cond := [Cond.instanceMethod yX2_shorten, Cond.selects RX2 yX2_shorten yX2_shorten, Cond.code yX2_shorten cX2_shorten 6 (some .long)]
def wsX0_toMillionths : List Cond := .code yX0_toMillionths cX0_toMillionths 3 (some (.object "FixedKinds$Whole")) :: ((wsX0_toMillionths_r1 ++ wsX0_toMillionths_r2) ++ wsX00 ++ wsX20)
def wsX1_init : List Cond := .code yX1_init cX1_init 9 none :: ([.methodLink RX1 3 objectInit, .instanceMethod objectInit, .code objectInit ⟨#[0xb1]⟩ 1 none, .fieldLink RX1 9 "FixedKinds$Kind" "width" "I", .fieldLink RX1 15 "FixedKinds$Kind" "signed" "Z", .fieldLink RX1 19 "FixedKinds$Kind" "up" "J", .fieldLink RX1 23 "FixedKinds$Kind" "down" "J", .fieldLink RX1 26 "FixedKinds$Kind" "offset" "J", .fieldLink RX1 29 "FixedKinds$Kind" "overflow" "I", .fieldLink RX1 32 "FixedKinds$Kind" "rounding" "I"] ++ wsX10)
def wsX1_least : List Cond := .code yX1_least cX1_least 1 (some .long) :: ([.fieldLink RX1 15 "FixedKinds$Kind" "signed" "Z", .constantLong RX1 35 (-1), .fieldLink RX1 9 "FixedKinds$Kind" "width" "I"] ++ wsX10)
def wsX1_greatest : List Cond := .code yX1_greatest cX1_greatest 1 (some .long) :: ([.fieldLink RX1 15 "FixedKinds$Kind" "signed" "Z", .constantLong RX1 35 (-1), .fieldLink RX1 9 "FixedKinds$Kind" "width" "I", .methodLink RX1 37 yX1_least, .instanceMethod yX1_least, .selects RX1 yX1_least yX1_least, .initialized RX1, .code yX1_least cX1_least 1 (some .long)] ++ wsX10)
def wsX1_isRaw : List Cond := .code yX1_isRaw cX1_isRaw 3 (some .boolean) :: ([.methodLink RX1 37 yX1_least, .instanceMethod yX1_least, .selects RX1 yX1_least yX1_least, .initialized RX1, .code yX1_least cX1_least 1 (some .long), .fieldLink RX1 15 "FixedKinds$Kind" "signed" "Z", .constantLong RX1 35 (-1), .fieldLink RX1 9 "FixedKinds$Kind" "width" "I", .methodLink RX1 41 yX1_greatest, .instanceMethod yX1_greatest, .selects RX1 yX1_greatest yX1_greatest, .code yX1_greatest cX1_greatest 1 (some .long)] ++ wsX10)
def wsX1_bits : List Cond := .code yX1_bits cX1_bits 4 (some .long) :: ([.fieldLink RX1 9 "FixedKinds$Kind" "width" "I"] ++ wsX10)
def wsX1_octets : List Cond := .code yX1_octets cX1_octets 1 (some .int) :: ([.fieldLink RX1 9 "FixedKinds$Kind" "width" "I"] ++ wsX10)
def wsX2_fitsLong : List Cond := .code yX2_fitsLong cX2_fitsLong 4 (some .boolean) :: ([.fieldLink RX2 9 "FixedKinds$Whole" "limbs" "[J", .constantLong RX2 15 (65535), .methodLink RX2 25 yX2_bitsFrom, .instanceMethod yX2_bitsFrom, .selects RX2 yX2_bitsFrom yX2_bitsFrom, .initialized RX2, .code yX2_bitsFrom cX2_bitsFrom 5 (some .long), .methodLink RX2 21 yX2_limb, .instanceMethod yX2_limb, .selects RX2 yX2_limb yX2_limb, .code yX2_limb cX2_limb 2 (some .long)] ++ wsX20)
def wsX3_init_r1 : List Cond := [Cond.methodLink RX3 1 objectInit, Cond.instanceMethod objectInit, Cond.code objectInit ⟨#[0xb1]⟩ 1 none, Cond.classLink RX3 9 RX1, Cond.fieldLink RX3 11 "FixedKinds" "kinds" "[LFixedKinds$Kind;", Cond.fieldLink RX3 15 "FixedKinds" "kindCount" "I", Cond.fieldLink RX3 19 "FixedKinds" "somethingLost" "Z", Cond.arrayClass .char, Cond.fieldLink RX3 23 "FixedKinds" "characters" "[C", Cond.fieldLink RX3 27 "FixedKinds" "textStart" "I", Cond.classLink RX3 30 RX0, Cond.instantiable RX0 2, Cond.initialized RX0, Cond.fieldLink RX3 33 "FixedKinds" "first" "LFixedKinds$Fraction;", Cond.fieldLink RX3 37 "FixedKinds" "second" "LFixedKinds$Fraction;", Cond.classLink RX3 40 RX2, Cond.instantiable RX2 1, Cond.initialized RX2, Cond.fieldLink RX3 43 "FixedKinds" "result" "LFixedKinds$Whole;", Cond.instanceMethod yX0_init, Cond.code yX0_init cX0_init 1 none, Cond.methodLink RX0 3 objectInit, Cond.classLink RX0 9 RX2, Cond.fieldLink RX0 12 "FixedKinds$Fraction" "above" "LFixedKinds$Whole;"]
def wsX3_init_r2 : List Cond := [Cond.fieldLink RX0 18 "FixedKinds$Fraction" "below" "LFixedKinds$Whole;", Cond.instanceMethod yX2_init, Cond.code yX2_init cX2_init 1 none, Cond.methodLink RX2 3 objectInit, Cond.arrayClass .long, Cond.fieldLink RX2 9 "FixedKinds$Whole" "limbs" "[J"]
def wsX3_init : List Cond := .code yX3_init cX3_init 1 none :: ((wsX3_init_r1 ++ wsX3_init_r2) ++ wsX30 ++ wsX00 ++ wsX20)
def wsX3_isWidth : List Cond := .code yX3_isWidth cX3_isWidth 2 (some .boolean) :: ([])
def wsX3_isSlope : List Cond := .code yX3_isSlope cX3_isSlope 4 (some .boolean) :: ([.constantLong RX3 163 (1000)])
def wsX3_isOffset : List Cond := .code yX3_isOffset cX3_isOffset 2 (some .boolean) :: ([.constantLong RX3 165 (-1000000), .constantLong RX3 167 (1000000)])
def wsX3_kind_r1 : List Cond := [Cond.fieldLink RX3 15 "FixedKinds" "kindCount" "I", Cond.fieldLink RX3 11 "FixedKinds" "kinds" "[LFixedKinds$Kind;", Cond.classLink RX3 9 RX1, Cond.instantiable RX1 7, Cond.initialized RX1, Cond.methodLink RX3 47 yX3_isWidth, Cond.static yX3_isWidth, Cond.initialized RX3, Cond.code yX3_isWidth cX3_isWidth 2 (some .boolean), Cond.methodLink RX3 51 yX3_isSlope, Cond.static yX3_isSlope, Cond.code yX3_isSlope cX3_isSlope 4 (some .boolean), Cond.constantLong RX3 163 (1000), Cond.methodLink RX3 55 yX3_isOffset, Cond.static yX3_isOffset, Cond.code yX3_isOffset cX3_isOffset 2 (some .boolean), Cond.constantLong RX3 165 (-1000000), Cond.constantLong RX3 167 (1000000), Cond.instanceMethod yX1_init, Cond.code yX1_init cX1_init 9 none, Cond.methodLink RX1 3 objectInit, Cond.instanceMethod objectInit, Cond.code objectInit ⟨#[0xb1]⟩ 1 none, Cond.fieldLink RX1 9 "FixedKinds$Kind" "width" "I"]
def wsX3_kind_r2 : List Cond := [Cond.fieldLink RX1 15 "FixedKinds$Kind" "signed" "Z", Cond.fieldLink RX1 19 "FixedKinds$Kind" "up" "J", Cond.fieldLink RX1 23 "FixedKinds$Kind" "down" "J", Cond.fieldLink RX1 26 "FixedKinds$Kind" "offset" "J", Cond.fieldLink RX1 29 "FixedKinds$Kind" "overflow" "I", Cond.fieldLink RX1 32 "FixedKinds$Kind" "rounding" "I"]
def wsX3_kind : List Cond := .code yX3_kind cX3_kind 9 (some .int) :: ((wsX3_kind_r1 ++ wsX3_kind_r2) ++ wsX30 ++ wsX10)
def wsX3_find : List Cond := .code yX3_find cX3_find 2 (some (.object "FixedKinds$Kind")) :: ([.fieldLink RX3 15 "FixedKinds" "kindCount" "I", .fieldLink RX3 11 "FixedKinds" "kinds" "[LFixedKinds$Kind;"] ++ wsX30)
def wsX3_rule : List Cond := .code yX3_rule cX3_rule 5 (some .int) :: ([.methodLink RX3 62 yX3_find, .instanceMethod yX3_find, .selects RX3 yX3_find yX3_find, .initialized RX3, .code yX3_find cX3_find 2 (some (.object "FixedKinds$Kind")), .fieldLink RX3 15 "FixedKinds" "kindCount" "I", .fieldLink RX3 11 "FixedKinds" "kinds" "[LFixedKinds$Kind;"] ++ wsX10 ++ wsX30)
def wsX3_beyond_r1 : List Cond := [Cond.fieldLink RX3 43 "FixedKinds" "result" "LFixedKinds$Whole;", Cond.instanceMethod yX2_isNegative, Cond.initialized RX2, Cond.selects RX2 yX2_isNegative yX2_isNegative, Cond.code yX2_isNegative cX2_isNegative 1 (some .boolean), Cond.fieldLink RX2 9 "FixedKinds$Whole" "limbs" "[J", Cond.instanceMethod yX1_least, Cond.initialized RX1, Cond.selects RX1 yX1_least yX1_least, Cond.code yX1_least cX1_least 1 (some .long), Cond.fieldLink RX1 15 "FixedKinds$Kind" "signed" "Z", Cond.constantLong RX1 35 (-1), Cond.fieldLink RX1 9 "FixedKinds$Kind" "width" "I", Cond.instanceMethod yX1_greatest, Cond.selects RX1 yX1_greatest yX1_greatest, Cond.code yX1_greatest cX1_greatest 1 (some .long), Cond.methodLink RX1 37 yX1_least, Cond.instanceMethod yX2_bitsFrom, Cond.selects RX2 yX2_bitsFrom yX2_bitsFrom, Cond.code yX2_bitsFrom cX2_bitsFrom 5 (some .long), Cond.methodLink RX2 21 yX2_limb, Cond.instanceMethod yX2_limb, Cond.selects RX2 yX2_limb yX2_limb, Cond.code yX2_limb cX2_limb 2 (some .long)]
def wsX3_beyond_r2 : List Cond := [Cond.instanceMethod yX1_broughtIn, Cond.selects RX1 yX1_broughtIn yX1_broughtIn, Cond.code yX1_broughtIn cX1_broughtIn 4 (some .long)]
def wsX3_beyond : List Cond := .code yX3_beyond cX3_beyond 2 (some .long) :: ((wsX3_beyond_r1 ++ wsX3_beyond_r2) ++ wsX10 ++ wsX30 ++ wsX20)
def wsX3_put_r1 : List Cond := [Cond.fieldLink RX3 33 "FixedKinds" "first" "LFixedKinds$Fraction;", Cond.fieldLink RX3 43 "FixedKinds" "result" "LFixedKinds$Whole;", Cond.fieldLink RX3 19 "FixedKinds" "somethingLost" "Z", Cond.instanceMethod yX0_toRawScale, Cond.initialized RX0, Cond.selects RX0 yX0_toRawScale yX0_toRawScale, Cond.code yX0_toRawScale cX0_toRawScale 2 none, Cond.fieldLink RX0 12 "FixedKinds$Fraction" "above" "LFixedKinds$Whole;", Cond.fieldLink RX0 18 "FixedKinds$Fraction" "below" "LFixedKinds$Whole;", Cond.instanceMethod yX2_addTimes, Cond.initialized RX2, Cond.selects RX2 yX2_addTimes yX2_addTimes, Cond.code yX2_addTimes cX2_addTimes 4 none, Cond.methodLink RX2 28 yX2_addShifted, Cond.instanceMethod yX2_addShifted, Cond.selects RX2 yX2_addShifted yX2_addShifted, Cond.code yX2_addShifted cX2_addShifted 9 (some .long), Cond.fieldLink RX2 9 "FixedKinds$Whole" "limbs" "[J", Cond.constantLong RX2 15 (65535), Cond.methodLink RX2 21 yX2_limb, Cond.instanceMethod yX2_limb, Cond.selects RX2 yX2_limb yX2_limb, Cond.code yX2_limb cX2_limb 2 (some .long), Cond.instanceMethod yX2_scale]
def wsX3_put_r2 : List Cond := [Cond.selects RX2 yX2_scale yX2_scale, Cond.code yX2_scale cX2_scale 6 none, Cond.instanceMethod yX0_round, Cond.selects RX0 yX0_round yX0_round, Cond.code yX0_round cX0_round 5 (some .boolean), Cond.constantLong RX0 62 (-1), Cond.instanceMethod yX2_isNegative, Cond.selects RX2 yX2_isNegative yX2_isNegative, Cond.code yX2_isNegative cX2_isNegative 1 (some .boolean), Cond.instanceMethod yX2_divide, Cond.selects RX2 yX2_divide yX2_divide, Cond.code yX2_divide cX2_divide 7 none, Cond.methodLink RX2 36 yX2_setTo, Cond.instanceMethod yX2_setTo, Cond.selects RX2 yX2_setTo yX2_setTo, Cond.code yX2_setTo cX2_setTo 6 none, Cond.methodLink RX2 17 yX2_size, Cond.instanceMethod yX2_size, Cond.selects RX2 yX2_size yX2_size, Cond.code yX2_size cX2_size 2 (some .int), Cond.methodLink RX2 39 yX2_guessDigit, Cond.instanceMethod yX2_guessDigit, Cond.selects RX2 yX2_guessDigit yX2_guessDigit, Cond.code yX2_guessDigit cX2_guessDigit 7 (some .long)]
def wsX3_put_r3 : List Cond := [Cond.instanceMethod yX2_isZero, Cond.selects RX2 yX2_isZero yX2_isZero, Cond.code yX2_isZero cX2_isZero 1 (some .boolean), Cond.instanceMethod yX2_isOdd, Cond.selects RX2 yX2_isOdd yX2_isOdd, Cond.code yX2_isOdd cX2_isOdd 1 (some .boolean), Cond.methodLink RX0 71 yX0_isRoundedAway, Cond.instanceMethod yX0_isRoundedAway, Cond.selects RX0 yX0_isRoundedAway yX0_isRoundedAway, Cond.code yX0_isRoundedAway cX0_isRoundedAway 4 (some .boolean), Cond.constantLong RX0 75 (2), Cond.instanceMethod yX2_grow, Cond.selects RX2 yX2_grow yX2_grow, Cond.code yX2_grow cX2_grow 6 none, Cond.instanceMethod yX2_fitsLong, Cond.selects RX2 yX2_fitsLong yX2_fitsLong, Cond.code yX2_fitsLong cX2_fitsLong 4 (some .boolean), Cond.methodLink RX2 25 yX2_bitsFrom, Cond.instanceMethod yX2_bitsFrom, Cond.selects RX2 yX2_bitsFrom yX2_bitsFrom, Cond.code yX2_bitsFrom cX2_bitsFrom 5 (some .long), Cond.instanceMethod yX1_isRaw, Cond.initialized RX1, Cond.selects RX1 yX1_isRaw yX1_isRaw]
def wsX3_put_r4 : List Cond := [Cond.code yX1_isRaw cX1_isRaw 3 (some .boolean), Cond.methodLink RX1 37 yX1_least, Cond.instanceMethod yX1_least, Cond.selects RX1 yX1_least yX1_least, Cond.code yX1_least cX1_least 1 (some .long), Cond.fieldLink RX1 15 "FixedKinds$Kind" "signed" "Z", Cond.constantLong RX1 35 (-1), Cond.fieldLink RX1 9 "FixedKinds$Kind" "width" "I", Cond.methodLink RX1 41 yX1_greatest, Cond.instanceMethod yX1_greatest, Cond.selects RX1 yX1_greatest yX1_greatest, Cond.code yX1_greatest cX1_greatest 1 (some .long), Cond.methodLink RX3 190 yX3_beyond, Cond.instanceMethod yX3_beyond, Cond.selects RX3 yX3_beyond yX3_beyond, Cond.initialized RX3, Cond.code yX3_beyond cX3_beyond 2 (some .long), Cond.instanceMethod yX1_broughtIn, Cond.selects RX1 yX1_broughtIn yX1_broughtIn, Cond.code yX1_broughtIn cX1_broughtIn 4 (some .long)]
def wsX3_put : List Cond := .code yX3_put cX3_put 4 (some .long) :: ((wsX3_put_r1 ++ (wsX3_put_r2 ++ (wsX3_put_r3 ++ wsX3_put_r4))) ++ wsX30 ++ wsX10 ++ wsX00 ++ wsX20)
def wsX3_putQuotientByZero_r1 : List Cond := [Cond.fieldLink RX3 33 "FixedKinds" "first" "LFixedKinds$Fraction;", Cond.fieldLink RX3 19 "FixedKinds" "somethingLost" "Z", Cond.instanceMethod yX0_sign, Cond.initialized RX0, Cond.selects RX0 yX0_sign yX0_sign, Cond.code yX0_sign cX0_sign 1 (some .int), Cond.fieldLink RX0 12 "FixedKinds$Fraction" "above" "LFixedKinds$Whole;", Cond.instanceMethod yX2_isZero, Cond.initialized RX2, Cond.selects RX2 yX2_isZero yX2_isZero, Cond.code yX2_isZero cX2_isZero 1 (some .boolean), Cond.methodLink RX2 17 yX2_size, Cond.instanceMethod yX2_size, Cond.selects RX2 yX2_size yX2_size, Cond.code yX2_size cX2_size 2 (some .int), Cond.fieldLink RX2 9 "FixedKinds$Whole" "limbs" "[J", Cond.instanceMethod yX2_isNegative, Cond.selects RX2 yX2_isNegative yX2_isNegative, Cond.code yX2_isNegative cX2_isNegative 1 (some .boolean), Cond.instanceMethod yX1_greatest, Cond.initialized RX1, Cond.selects RX1 yX1_greatest yX1_greatest, Cond.code yX1_greatest cX1_greatest 1 (some .long), Cond.fieldLink RX1 15 "FixedKinds$Kind" "signed" "Z"]
def wsX3_putQuotientByZero_r2 : List Cond := [Cond.constantLong RX1 35 (-1), Cond.fieldLink RX1 9 "FixedKinds$Kind" "width" "I", Cond.methodLink RX1 37 yX1_least, Cond.instanceMethod yX1_least, Cond.selects RX1 yX1_least yX1_least, Cond.code yX1_least cX1_least 1 (some .long), Cond.methodLink RX3 95 yX3_put, Cond.instanceMethod yX3_put, Cond.selects RX3 yX3_put yX3_put, Cond.initialized RX3, Cond.code yX3_put cX3_put 4 (some .long), Cond.fieldLink RX3 43 "FixedKinds" "result" "LFixedKinds$Whole;", Cond.instanceMethod yX0_toRawScale, Cond.selects RX0 yX0_toRawScale yX0_toRawScale, Cond.code yX0_toRawScale cX0_toRawScale 2 none, Cond.fieldLink RX0 18 "FixedKinds$Fraction" "below" "LFixedKinds$Whole;", Cond.instanceMethod yX2_addTimes, Cond.selects RX2 yX2_addTimes yX2_addTimes, Cond.code yX2_addTimes cX2_addTimes 4 none, Cond.methodLink RX2 28 yX2_addShifted, Cond.instanceMethod yX2_addShifted, Cond.selects RX2 yX2_addShifted yX2_addShifted, Cond.code yX2_addShifted cX2_addShifted 9 (some .long), Cond.constantLong RX2 15 (65535)]
def wsX3_putQuotientByZero_r3 : List Cond := [Cond.methodLink RX2 21 yX2_limb, Cond.instanceMethod yX2_limb, Cond.selects RX2 yX2_limb yX2_limb, Cond.code yX2_limb cX2_limb 2 (some .long), Cond.instanceMethod yX2_scale, Cond.selects RX2 yX2_scale yX2_scale, Cond.code yX2_scale cX2_scale 6 none, Cond.instanceMethod yX0_round, Cond.selects RX0 yX0_round yX0_round, Cond.code yX0_round cX0_round 5 (some .boolean), Cond.constantLong RX0 62 (-1), Cond.instanceMethod yX2_divide, Cond.selects RX2 yX2_divide yX2_divide, Cond.code yX2_divide cX2_divide 7 none, Cond.methodLink RX2 36 yX2_setTo, Cond.instanceMethod yX2_setTo, Cond.selects RX2 yX2_setTo yX2_setTo, Cond.code yX2_setTo cX2_setTo 6 none, Cond.methodLink RX2 39 yX2_guessDigit, Cond.instanceMethod yX2_guessDigit, Cond.selects RX2 yX2_guessDigit yX2_guessDigit, Cond.code yX2_guessDigit cX2_guessDigit 7 (some .long), Cond.instanceMethod yX2_isOdd, Cond.selects RX2 yX2_isOdd yX2_isOdd]
def wsX3_putQuotientByZero_r4 : List Cond := [Cond.code yX2_isOdd cX2_isOdd 1 (some .boolean), Cond.methodLink RX0 71 yX0_isRoundedAway, Cond.instanceMethod yX0_isRoundedAway, Cond.selects RX0 yX0_isRoundedAway yX0_isRoundedAway, Cond.code yX0_isRoundedAway cX0_isRoundedAway 4 (some .boolean), Cond.constantLong RX0 75 (2), Cond.instanceMethod yX2_grow, Cond.selects RX2 yX2_grow yX2_grow, Cond.code yX2_grow cX2_grow 6 none, Cond.instanceMethod yX2_fitsLong, Cond.selects RX2 yX2_fitsLong yX2_fitsLong, Cond.code yX2_fitsLong cX2_fitsLong 4 (some .boolean), Cond.methodLink RX2 25 yX2_bitsFrom, Cond.instanceMethod yX2_bitsFrom, Cond.selects RX2 yX2_bitsFrom yX2_bitsFrom, Cond.code yX2_bitsFrom cX2_bitsFrom 5 (some .long), Cond.instanceMethod yX1_isRaw, Cond.selects RX1 yX1_isRaw yX1_isRaw, Cond.code yX1_isRaw cX1_isRaw 3 (some .boolean), Cond.methodLink RX1 41 yX1_greatest, Cond.methodLink RX3 190 yX3_beyond, Cond.instanceMethod yX3_beyond, Cond.selects RX3 yX3_beyond yX3_beyond, Cond.code yX3_beyond cX3_beyond 2 (some .long)]
def wsX3_putQuotientByZero_r5 : List Cond := [Cond.instanceMethod yX1_broughtIn, Cond.selects RX1 yX1_broughtIn yX1_broughtIn, Cond.code yX1_broughtIn cX1_broughtIn 4 (some .long)]
def wsX3_putQuotientByZero : List Cond := .code yX3_putQuotientByZero cX3_putQuotientByZero 5 (some .long) :: ((wsX3_putQuotientByZero_r1 ++ (wsX3_putQuotientByZero_r2 ++ (wsX3_putQuotientByZero_r3 ++ (wsX3_putQuotientByZero_r4 ++ wsX3_putQuotientByZero_r5)))) ++ wsX30 ++ wsX00 ++ wsX20 ++ wsX10)
def wsX3_combine_r1 : List Cond := [Cond.fieldLink RX3 33 "FixedKinds" "first" "LFixedKinds$Fraction;", Cond.fieldLink RX3 37 "FixedKinds" "second" "LFixedKinds$Fraction;", Cond.constantLong RX3 147 (-1), Cond.instanceMethod yX0_add, Cond.initialized RX0, Cond.selects RX0 yX0_add yX0_add, Cond.code yX0_add cX0_add 4 none, Cond.fieldLink RX0 12 "FixedKinds$Fraction" "above" "LFixedKinds$Whole;", Cond.fieldLink RX0 18 "FixedKinds$Fraction" "below" "LFixedKinds$Whole;", Cond.instanceMethod yX2_multiply, Cond.initialized RX2, Cond.selects RX2 yX2_multiply yX2_multiply, Cond.code yX2_multiply cX2_multiply 6 none, Cond.fieldLink RX2 9 "FixedKinds$Whole" "limbs" "[J", Cond.methodLink RX2 32 yX2_grow, Cond.instanceMethod yX2_grow, Cond.selects RX2 yX2_grow yX2_grow, Cond.code yX2_grow cX2_grow 6 none, Cond.constantLong RX2 15 (65535), Cond.instanceMethod yX2_addTimes, Cond.selects RX2 yX2_addTimes yX2_addTimes, Cond.code yX2_addTimes cX2_addTimes 4 none, Cond.methodLink RX2 28 yX2_addShifted, Cond.instanceMethod yX2_addShifted]
def wsX3_combine_r2 : List Cond := [Cond.selects RX2 yX2_addShifted yX2_addShifted, Cond.code yX2_addShifted cX2_addShifted 9 (some .long), Cond.methodLink RX2 21 yX2_limb, Cond.instanceMethod yX2_limb, Cond.selects RX2 yX2_limb yX2_limb, Cond.code yX2_limb cX2_limb 2 (some .long), Cond.instanceMethod yX0_multiply, Cond.selects RX0 yX0_multiply yX0_multiply, Cond.code yX0_multiply cX0_multiply 2 none, Cond.instanceMethod yX0_divide, Cond.selects RX0 yX0_divide yX0_divide, Cond.code yX0_divide cX0_divide 2 none, Cond.constantLong RX0 62 (-1), Cond.instanceMethod yX2_isNegative, Cond.selects RX2 yX2_isNegative yX2_isNegative, Cond.code yX2_isNegative cX2_isNegative 1 (some .boolean), Cond.instanceMethod yX2_scale, Cond.selects RX2 yX2_scale yX2_scale, Cond.code yX2_scale cX2_scale 6 none]
def wsX3_combine : List Cond := .code yX3_combine cX3_combine 2 none :: ((wsX3_combine_r1 ++ wsX3_combine_r2) ++ wsX30 ++ wsX00 ++ wsX20)
def wsX3_apply_r1 : List Cond := [Cond.classLink RX3 80 "java/lang/ArithmeticException", Cond.initialized "java/lang/ArithmeticException", Cond.fieldLink RX3 33 "FixedKinds" "first" "LFixedKinds$Fraction;", Cond.fieldLink RX3 37 "FixedKinds" "second" "LFixedKinds$Fraction;", Cond.methodLink RX3 62 yX3_find, Cond.instanceMethod yX3_find, Cond.selects RX3 yX3_find yX3_find, Cond.initialized RX3, Cond.code yX3_find cX3_find 2 (some (.object "FixedKinds$Kind")), Cond.fieldLink RX3 15 "FixedKinds" "kindCount" "I", Cond.fieldLink RX3 11 "FixedKinds" "kinds" "[LFixedKinds$Kind;", Cond.instanceMethod yX0_take, Cond.initialized RX0, Cond.selects RX0 yX0_take yX0_take, Cond.code yX0_take cX0_take 4 none, Cond.fieldLink RX0 12 "FixedKinds$Fraction" "above" "LFixedKinds$Whole;", Cond.fieldLink RX0 18 "FixedKinds$Fraction" "below" "LFixedKinds$Whole;", Cond.instanceMethod yX1_broughtIn, Cond.initialized RX1, Cond.selects RX1 yX1_broughtIn yX1_broughtIn, Cond.code yX1_broughtIn cX1_broughtIn 4 (some .long), Cond.fieldLink RX1 9 "FixedKinds$Kind" "width" "I", Cond.fieldLink RX1 15 "FixedKinds$Kind" "signed" "Z", Cond.instanceMethod yX2_setTo]
def wsX3_apply_r2 : List Cond := [Cond.initialized RX2, Cond.selects RX2 yX2_setTo yX2_setTo, Cond.code yX2_setTo cX2_setTo 6 none, Cond.fieldLink RX2 9 "FixedKinds$Whole" "limbs" "[J", Cond.constantLong RX2 15 (65535), Cond.instanceMethod yX2_scale, Cond.selects RX2 yX2_scale yX2_scale, Cond.code yX2_scale cX2_scale 6 none, Cond.instanceMethod yX2_grow, Cond.selects RX2 yX2_grow yX2_grow, Cond.code yX2_grow cX2_grow 6 none, Cond.instanceMethod yX0_sign, Cond.selects RX0 yX0_sign yX0_sign, Cond.code yX0_sign cX0_sign 1 (some .int), Cond.instanceMethod yX2_isZero, Cond.selects RX2 yX2_isZero yX2_isZero, Cond.code yX2_isZero cX2_isZero 1 (some .boolean), Cond.methodLink RX2 17 yX2_size, Cond.instanceMethod yX2_size, Cond.selects RX2 yX2_size yX2_size, Cond.code yX2_size cX2_size 2 (some .int), Cond.instanceMethod yX2_isNegative, Cond.selects RX2 yX2_isNegative yX2_isNegative, Cond.code yX2_isNegative cX2_isNegative 1 (some .boolean)]
def wsX3_apply_r3 : List Cond := [Cond.methodLink RX3 87 yX3_putQuotientByZero, Cond.instanceMethod yX3_putQuotientByZero, Cond.selects RX3 yX3_putQuotientByZero yX3_putQuotientByZero, Cond.code yX3_putQuotientByZero cX3_putQuotientByZero 5 (some .long), Cond.fieldLink RX3 19 "FixedKinds" "somethingLost" "Z", Cond.instanceMethod yX1_greatest, Cond.selects RX1 yX1_greatest yX1_greatest, Cond.code yX1_greatest cX1_greatest 1 (some .long), Cond.constantLong RX1 35 (-1), Cond.methodLink RX1 37 yX1_least, Cond.instanceMethod yX1_least, Cond.selects RX1 yX1_least yX1_least, Cond.code yX1_least cX1_least 1 (some .long), Cond.methodLink RX3 95 yX3_put, Cond.instanceMethod yX3_put, Cond.selects RX3 yX3_put yX3_put, Cond.code yX3_put cX3_put 4 (some .long), Cond.fieldLink RX3 43 "FixedKinds" "result" "LFixedKinds$Whole;", Cond.instanceMethod yX0_toRawScale, Cond.selects RX0 yX0_toRawScale yX0_toRawScale, Cond.code yX0_toRawScale cX0_toRawScale 2 none, Cond.instanceMethod yX2_addTimes, Cond.selects RX2 yX2_addTimes yX2_addTimes, Cond.code yX2_addTimes cX2_addTimes 4 none]
def wsX3_apply_r4 : List Cond := [Cond.methodLink RX2 28 yX2_addShifted, Cond.instanceMethod yX2_addShifted, Cond.selects RX2 yX2_addShifted yX2_addShifted, Cond.code yX2_addShifted cX2_addShifted 9 (some .long), Cond.methodLink RX2 21 yX2_limb, Cond.instanceMethod yX2_limb, Cond.selects RX2 yX2_limb yX2_limb, Cond.code yX2_limb cX2_limb 2 (some .long), Cond.instanceMethod yX0_round, Cond.selects RX0 yX0_round yX0_round, Cond.code yX0_round cX0_round 5 (some .boolean), Cond.constantLong RX0 62 (-1), Cond.instanceMethod yX2_divide, Cond.selects RX2 yX2_divide yX2_divide, Cond.code yX2_divide cX2_divide 7 none, Cond.methodLink RX2 36 yX2_setTo, Cond.methodLink RX2 39 yX2_guessDigit, Cond.instanceMethod yX2_guessDigit, Cond.selects RX2 yX2_guessDigit yX2_guessDigit, Cond.code yX2_guessDigit cX2_guessDigit 7 (some .long), Cond.instanceMethod yX2_isOdd, Cond.selects RX2 yX2_isOdd yX2_isOdd, Cond.code yX2_isOdd cX2_isOdd 1 (some .boolean), Cond.methodLink RX0 71 yX0_isRoundedAway]
def wsX3_apply_r5 : List Cond := [Cond.instanceMethod yX0_isRoundedAway, Cond.selects RX0 yX0_isRoundedAway yX0_isRoundedAway, Cond.code yX0_isRoundedAway cX0_isRoundedAway 4 (some .boolean), Cond.constantLong RX0 75 (2), Cond.instanceMethod yX2_fitsLong, Cond.selects RX2 yX2_fitsLong yX2_fitsLong, Cond.code yX2_fitsLong cX2_fitsLong 4 (some .boolean), Cond.methodLink RX2 25 yX2_bitsFrom, Cond.instanceMethod yX2_bitsFrom, Cond.selects RX2 yX2_bitsFrom yX2_bitsFrom, Cond.code yX2_bitsFrom cX2_bitsFrom 5 (some .long), Cond.instanceMethod yX1_isRaw, Cond.selects RX1 yX1_isRaw yX1_isRaw, Cond.code yX1_isRaw cX1_isRaw 3 (some .boolean), Cond.methodLink RX1 41 yX1_greatest, Cond.methodLink RX3 190 yX3_beyond, Cond.instanceMethod yX3_beyond, Cond.selects RX3 yX3_beyond yX3_beyond, Cond.code yX3_beyond cX3_beyond 2 (some .long), Cond.methodLink RX3 91 yX3_combine, Cond.instanceMethod yX3_combine, Cond.selects RX3 yX3_combine yX3_combine, Cond.code yX3_combine cX3_combine 2 none, Cond.constantLong RX3 147 (-1)]
def wsX3_apply_r6 : List Cond := [Cond.instanceMethod yX0_add, Cond.selects RX0 yX0_add yX0_add, Cond.code yX0_add cX0_add 4 none, Cond.instanceMethod yX2_multiply, Cond.selects RX2 yX2_multiply yX2_multiply, Cond.code yX2_multiply cX2_multiply 6 none, Cond.methodLink RX2 32 yX2_grow, Cond.instanceMethod yX0_multiply, Cond.selects RX0 yX0_multiply yX0_multiply, Cond.code yX0_multiply cX0_multiply 2 none, Cond.instanceMethod yX0_divide, Cond.selects RX0 yX0_divide yX0_divide, Cond.code yX0_divide cX0_divide 2 none]
def wsX3_apply : List Cond := .code yX3_apply cX3_apply 10 (some .long) :: ((wsX3_apply_r1 ++ (wsX3_apply_r2 ++ (wsX3_apply_r3 ++ (wsX3_apply_r4 ++ (wsX3_apply_r5 ++ wsX3_apply_r6))))) ++ wsX30 ++ wsX10 ++ wsX00 ++ wsX20 ++ (vx_atS RX3 84 "java/lang/ArithmeticException" ["java/lang/RuntimeException", "java/lang/Exception"]).filter goodWord)
def wsX3_convert_r1 : List Cond := [Cond.fieldLink RX3 33 "FixedKinds" "first" "LFixedKinds$Fraction;", Cond.methodLink RX3 62 yX3_find, Cond.instanceMethod yX3_find, Cond.selects RX3 yX3_find yX3_find, Cond.initialized RX3, Cond.code yX3_find cX3_find 2 (some (.object "FixedKinds$Kind")), Cond.fieldLink RX3 15 "FixedKinds" "kindCount" "I", Cond.fieldLink RX3 11 "FixedKinds" "kinds" "[LFixedKinds$Kind;", Cond.instanceMethod yX0_take, Cond.initialized RX0, Cond.selects RX0 yX0_take yX0_take, Cond.code yX0_take cX0_take 4 none, Cond.fieldLink RX0 12 "FixedKinds$Fraction" "above" "LFixedKinds$Whole;", Cond.fieldLink RX0 18 "FixedKinds$Fraction" "below" "LFixedKinds$Whole;", Cond.instanceMethod yX1_broughtIn, Cond.initialized RX1, Cond.selects RX1 yX1_broughtIn yX1_broughtIn, Cond.code yX1_broughtIn cX1_broughtIn 4 (some .long), Cond.fieldLink RX1 9 "FixedKinds$Kind" "width" "I", Cond.fieldLink RX1 15 "FixedKinds$Kind" "signed" "Z", Cond.instanceMethod yX2_setTo, Cond.initialized RX2, Cond.selects RX2 yX2_setTo yX2_setTo, Cond.code yX2_setTo cX2_setTo 6 none]
def wsX3_convert_r2 : List Cond := [Cond.fieldLink RX2 9 "FixedKinds$Whole" "limbs" "[J", Cond.constantLong RX2 15 (65535), Cond.instanceMethod yX2_scale, Cond.selects RX2 yX2_scale yX2_scale, Cond.code yX2_scale cX2_scale 6 none, Cond.instanceMethod yX2_grow, Cond.selects RX2 yX2_grow yX2_grow, Cond.code yX2_grow cX2_grow 6 none, Cond.methodLink RX3 95 yX3_put, Cond.instanceMethod yX3_put, Cond.selects RX3 yX3_put yX3_put, Cond.code yX3_put cX3_put 4 (some .long), Cond.fieldLink RX3 43 "FixedKinds" "result" "LFixedKinds$Whole;", Cond.fieldLink RX3 19 "FixedKinds" "somethingLost" "Z", Cond.instanceMethod yX0_toRawScale, Cond.selects RX0 yX0_toRawScale yX0_toRawScale, Cond.code yX0_toRawScale cX0_toRawScale 2 none, Cond.instanceMethod yX2_addTimes, Cond.selects RX2 yX2_addTimes yX2_addTimes, Cond.code yX2_addTimes cX2_addTimes 4 none, Cond.methodLink RX2 28 yX2_addShifted, Cond.instanceMethod yX2_addShifted, Cond.selects RX2 yX2_addShifted yX2_addShifted, Cond.code yX2_addShifted cX2_addShifted 9 (some .long)]
def wsX3_convert_r3 : List Cond := [Cond.methodLink RX2 21 yX2_limb, Cond.instanceMethod yX2_limb, Cond.selects RX2 yX2_limb yX2_limb, Cond.code yX2_limb cX2_limb 2 (some .long), Cond.instanceMethod yX0_round, Cond.selects RX0 yX0_round yX0_round, Cond.code yX0_round cX0_round 5 (some .boolean), Cond.constantLong RX0 62 (-1), Cond.instanceMethod yX2_isNegative, Cond.selects RX2 yX2_isNegative yX2_isNegative, Cond.code yX2_isNegative cX2_isNegative 1 (some .boolean), Cond.instanceMethod yX2_divide, Cond.selects RX2 yX2_divide yX2_divide, Cond.code yX2_divide cX2_divide 7 none, Cond.methodLink RX2 36 yX2_setTo, Cond.methodLink RX2 17 yX2_size, Cond.instanceMethod yX2_size, Cond.selects RX2 yX2_size yX2_size, Cond.code yX2_size cX2_size 2 (some .int), Cond.methodLink RX2 39 yX2_guessDigit, Cond.instanceMethod yX2_guessDigit, Cond.selects RX2 yX2_guessDigit yX2_guessDigit, Cond.code yX2_guessDigit cX2_guessDigit 7 (some .long), Cond.instanceMethod yX2_isZero]
def wsX3_convert_r4 : List Cond := [Cond.selects RX2 yX2_isZero yX2_isZero, Cond.code yX2_isZero cX2_isZero 1 (some .boolean), Cond.instanceMethod yX2_isOdd, Cond.selects RX2 yX2_isOdd yX2_isOdd, Cond.code yX2_isOdd cX2_isOdd 1 (some .boolean), Cond.methodLink RX0 71 yX0_isRoundedAway, Cond.instanceMethod yX0_isRoundedAway, Cond.selects RX0 yX0_isRoundedAway yX0_isRoundedAway, Cond.code yX0_isRoundedAway cX0_isRoundedAway 4 (some .boolean), Cond.constantLong RX0 75 (2), Cond.instanceMethod yX2_fitsLong, Cond.selects RX2 yX2_fitsLong yX2_fitsLong, Cond.code yX2_fitsLong cX2_fitsLong 4 (some .boolean), Cond.methodLink RX2 25 yX2_bitsFrom, Cond.instanceMethod yX2_bitsFrom, Cond.selects RX2 yX2_bitsFrom yX2_bitsFrom, Cond.code yX2_bitsFrom cX2_bitsFrom 5 (some .long), Cond.instanceMethod yX1_isRaw, Cond.selects RX1 yX1_isRaw yX1_isRaw, Cond.code yX1_isRaw cX1_isRaw 3 (some .boolean), Cond.methodLink RX1 37 yX1_least, Cond.instanceMethod yX1_least, Cond.selects RX1 yX1_least yX1_least, Cond.code yX1_least cX1_least 1 (some .long)]
def wsX3_convert_r5 : List Cond := [Cond.constantLong RX1 35 (-1), Cond.methodLink RX1 41 yX1_greatest, Cond.instanceMethod yX1_greatest, Cond.selects RX1 yX1_greatest yX1_greatest, Cond.code yX1_greatest cX1_greatest 1 (some .long), Cond.methodLink RX3 190 yX3_beyond, Cond.instanceMethod yX3_beyond, Cond.selects RX3 yX3_beyond yX3_beyond, Cond.code yX3_beyond cX3_beyond 2 (some .long)]
def wsX3_convert : List Cond := .code yX3_convert cX3_convert 7 (some .long) :: ((wsX3_convert_r1 ++ (wsX3_convert_r2 ++ (wsX3_convert_r3 ++ (wsX3_convert_r4 ++ wsX3_convert_r5)))) ++ wsX30 ++ wsX00 ++ wsX10 ++ wsX20)
def wsX3_lost : List Cond := .code yX3_lost cX3_lost 1 (some .boolean) :: ([.fieldLink RX3 19 "FixedKinds" "somethingLost" "Z"] ++ wsX30)
def wsX3_physical_r1 : List Cond := [Cond.fieldLink RX3 33 "FixedKinds" "first" "LFixedKinds$Fraction;", Cond.fieldLink RX3 37 "FixedKinds" "second" "LFixedKinds$Fraction;", Cond.constantLong RX3 112 (4294967295), Cond.methodLink RX3 62 yX3_find, Cond.instanceMethod yX3_find, Cond.selects RX3 yX3_find yX3_find, Cond.initialized RX3, Cond.code yX3_find cX3_find 2 (some (.object "FixedKinds$Kind")), Cond.fieldLink RX3 15 "FixedKinds" "kindCount" "I", Cond.fieldLink RX3 11 "FixedKinds" "kinds" "[LFixedKinds$Kind;", Cond.instanceMethod yX0_take, Cond.initialized RX0, Cond.selects RX0 yX0_take yX0_take, Cond.code yX0_take cX0_take 4 none, Cond.fieldLink RX0 12 "FixedKinds$Fraction" "above" "LFixedKinds$Whole;", Cond.fieldLink RX0 18 "FixedKinds$Fraction" "below" "LFixedKinds$Whole;", Cond.instanceMethod yX1_broughtIn, Cond.initialized RX1, Cond.selects RX1 yX1_broughtIn yX1_broughtIn, Cond.code yX1_broughtIn cX1_broughtIn 4 (some .long), Cond.fieldLink RX1 9 "FixedKinds$Kind" "width" "I", Cond.fieldLink RX1 15 "FixedKinds$Kind" "signed" "Z", Cond.instanceMethod yX2_setTo, Cond.initialized RX2]
def wsX3_physical_r2 : List Cond := [Cond.selects RX2 yX2_setTo yX2_setTo, Cond.code yX2_setTo cX2_setTo 6 none, Cond.fieldLink RX2 9 "FixedKinds$Whole" "limbs" "[J", Cond.constantLong RX2 15 (65535), Cond.instanceMethod yX2_scale, Cond.selects RX2 yX2_scale yX2_scale, Cond.code yX2_scale cX2_scale 6 none, Cond.instanceMethod yX2_grow, Cond.selects RX2 yX2_grow yX2_grow, Cond.code yX2_grow cX2_grow 6 none, Cond.instanceMethod yX0_reduce, Cond.selects RX0 yX0_reduce yX0_reduce, Cond.code yX0_reduce cX0_reduce 7 none, Cond.constantLong RX0 62 (-1), Cond.instanceMethod yX2_isNegative, Cond.selects RX2 yX2_isNegative yX2_isNegative, Cond.code yX2_isNegative cX2_isNegative 1 (some .boolean), Cond.instanceMethod yX2_bitsFrom, Cond.selects RX2 yX2_bitsFrom yX2_bitsFrom, Cond.code yX2_bitsFrom cX2_bitsFrom 5 (some .long), Cond.methodLink RX2 21 yX2_limb, Cond.instanceMethod yX2_limb, Cond.selects RX2 yX2_limb yX2_limb, Cond.code yX2_limb cX2_limb 2 (some .long)]
def wsX3_physical_r3 : List Cond := [Cond.instanceMethod yX2_copy, Cond.selects RX2 yX2_copy yX2_copy, Cond.code yX2_copy cX2_copy 3 none, Cond.instanceMethod yX2_shorten, Cond.selects RX2 yX2_shorten yX2_shorten, Cond.code yX2_shorten cX2_shorten 6 (some .long), Cond.methodLink RX0 87 yX0_commonDivisor, Cond.static yX0_commonDivisor, Cond.code yX0_commonDivisor cX0_commonDivisor 11 (some .long)]
def wsX3_physical : List Cond := .code yX3_physical cX3_physical 6 (some .long) :: ((wsX3_physical_r1 ++ (wsX3_physical_r2 ++ wsX3_physical_r3)) ++ wsX30 ++ wsX00 ++ wsX10 ++ wsX20)
def wsX3_writeBefore : List Cond := .code yX3_writeBefore cX3_writeBefore 2 none :: ([.fieldLink RX3 27 "FixedKinds" "textStart" "I", .fieldLink RX3 23 "FixedKinds" "characters" "[C"] ++ wsX30)
def wsX3_writeDigit : List Cond := .code yX3_writeDigit cX3_writeDigit 3 none :: ([.constantLong RX3 196 (48), .methodLink RX3 131 yX3_writeBefore, .instanceMethod yX3_writeBefore, .selects RX3 yX3_writeBefore yX3_writeBefore, .initialized RX3, .code yX3_writeBefore cX3_writeBefore 2 none, .fieldLink RX3 27 "FixedKinds" "textStart" "I", .fieldLink RX3 23 "FixedKinds" "characters" "[C"] ++ wsX30)
def wsX3_writePlaces : List Cond := .code yX3_writePlaces cX3_writePlaces 5 none :: ([.constantLong RX3 198 (10), .fieldLink RX3 27 "FixedKinds" "textStart" "I", .instanceMethod yX2_shorten, .initialized RX2, .selects RX2 yX2_shorten yX2_shorten, .code yX2_shorten cX2_shorten 6 (some .long), .fieldLink RX2 9 "FixedKinds$Whole" "limbs" "[J", .methodLink RX3 203 yX3_writeDigit, .instanceMethod yX3_writeDigit, .selects RX3 yX3_writeDigit yX3_writeDigit, .initialized RX3, .code yX3_writeDigit cX3_writeDigit 3 none, .constantLong RX3 196 (48), .methodLink RX3 131 yX3_writeBefore, .instanceMethod yX3_writeBefore, .selects RX3 yX3_writeBefore yX3_writeBefore, .code yX3_writeBefore cX3_writeBefore 2 none, .fieldLink RX3 23 "FixedKinds" "characters" "[C"] ++ wsX30 ++ wsX20)
def wsX3_writeWholePart_r1 : List Cond := [Cond.constantLong RX3 198 (10), Cond.instanceMethod yX2_shorten, Cond.initialized RX2, Cond.selects RX2 yX2_shorten yX2_shorten, Cond.code yX2_shorten cX2_shorten 6 (some .long), Cond.fieldLink RX2 9 "FixedKinds$Whole" "limbs" "[J", Cond.methodLink RX3 203 yX3_writeDigit, Cond.instanceMethod yX3_writeDigit, Cond.selects RX3 yX3_writeDigit yX3_writeDigit, Cond.initialized RX3, Cond.code yX3_writeDigit cX3_writeDigit 3 none, Cond.constantLong RX3 196 (48), Cond.methodLink RX3 131 yX3_writeBefore, Cond.instanceMethod yX3_writeBefore, Cond.selects RX3 yX3_writeBefore yX3_writeBefore, Cond.code yX3_writeBefore cX3_writeBefore 2 none, Cond.fieldLink RX3 27 "FixedKinds" "textStart" "I", Cond.fieldLink RX3 23 "FixedKinds" "characters" "[C", Cond.instanceMethod yX2_isZero, Cond.selects RX2 yX2_isZero yX2_isZero, Cond.code yX2_isZero cX2_isZero 1 (some .boolean), Cond.methodLink RX2 17 yX2_size, Cond.instanceMethod yX2_size, Cond.selects RX2 yX2_size yX2_size]
def wsX3_writeWholePart_r2 : List Cond := [Cond.code yX2_size cX2_size 2 (some .int)]
def wsX3_writeWholePart : List Cond := .code yX3_writeWholePart cX3_writeWholePart 3 none :: ((wsX3_writeWholePart_r1 ++ wsX3_writeWholePart_r2) ++ wsX20 ++ wsX30)
def wsX3_text_r1 : List Cond := [Cond.fieldLink RX3 33 "FixedKinds" "first" "LFixedKinds$Fraction;", Cond.fieldLink RX3 27 "FixedKinds" "textStart" "I", Cond.methodLink RX3 62 yX3_find, Cond.instanceMethod yX3_find, Cond.selects RX3 yX3_find yX3_find, Cond.initialized RX3, Cond.code yX3_find cX3_find 2 (some (.object "FixedKinds$Kind")), Cond.fieldLink RX3 15 "FixedKinds" "kindCount" "I", Cond.fieldLink RX3 11 "FixedKinds" "kinds" "[LFixedKinds$Kind;", Cond.instanceMethod yX0_take, Cond.initialized RX0, Cond.selects RX0 yX0_take yX0_take, Cond.code yX0_take cX0_take 4 none, Cond.fieldLink RX0 12 "FixedKinds$Fraction" "above" "LFixedKinds$Whole;", Cond.fieldLink RX0 18 "FixedKinds$Fraction" "below" "LFixedKinds$Whole;", Cond.instanceMethod yX1_broughtIn, Cond.initialized RX1, Cond.selects RX1 yX1_broughtIn yX1_broughtIn, Cond.code yX1_broughtIn cX1_broughtIn 4 (some .long), Cond.fieldLink RX1 9 "FixedKinds$Kind" "width" "I", Cond.fieldLink RX1 15 "FixedKinds$Kind" "signed" "Z", Cond.instanceMethod yX2_setTo, Cond.initialized RX2, Cond.selects RX2 yX2_setTo yX2_setTo]
def wsX3_text_r2 : List Cond := [Cond.code yX2_setTo cX2_setTo 6 none, Cond.fieldLink RX2 9 "FixedKinds$Whole" "limbs" "[J", Cond.constantLong RX2 15 (65535), Cond.instanceMethod yX2_scale, Cond.selects RX2 yX2_scale yX2_scale, Cond.code yX2_scale cX2_scale 6 none, Cond.instanceMethod yX2_grow, Cond.selects RX2 yX2_grow yX2_grow, Cond.code yX2_grow cX2_grow 6 none, Cond.instanceMethod yX2_isNegative, Cond.selects RX2 yX2_isNegative yX2_isNegative, Cond.code yX2_isNegative cX2_isNegative 1 (some .boolean), Cond.instanceMethod yX0_toMillionths, Cond.selects RX0 yX0_toMillionths yX0_toMillionths, Cond.code yX0_toMillionths cX0_toMillionths 3 (some (.object "FixedKinds$Whole")), Cond.constantLong RX0 62 (-1), Cond.constantLong RX0 91 (2000000), Cond.constantLong RX0 75 (2), Cond.instanceMethod yX2_bitsFrom, Cond.selects RX2 yX2_bitsFrom yX2_bitsFrom, Cond.code yX2_bitsFrom cX2_bitsFrom 5 (some .long), Cond.methodLink RX2 21 yX2_limb, Cond.instanceMethod yX2_limb, Cond.selects RX2 yX2_limb yX2_limb]
def wsX3_text_r3 : List Cond := [Cond.code yX2_limb cX2_limb 2 (some .long), Cond.instanceMethod yX2_shorten, Cond.selects RX2 yX2_shorten yX2_shorten, Cond.code yX2_shorten cX2_shorten 6 (some .long), Cond.instanceMethod yX2_isZero, Cond.selects RX2 yX2_isZero yX2_isZero, Cond.code yX2_isZero cX2_isZero 1 (some .boolean), Cond.methodLink RX2 17 yX2_size, Cond.instanceMethod yX2_size, Cond.selects RX2 yX2_size yX2_size, Cond.code yX2_size cX2_size 2 (some .int), Cond.methodLink RX3 125 yX3_writePlaces, Cond.instanceMethod yX3_writePlaces, Cond.selects RX3 yX3_writePlaces yX3_writePlaces, Cond.code yX3_writePlaces cX3_writePlaces 5 none, Cond.constantLong RX3 198 (10), Cond.methodLink RX3 203 yX3_writeDigit, Cond.instanceMethod yX3_writeDigit, Cond.selects RX3 yX3_writeDigit yX3_writeDigit, Cond.code yX3_writeDigit cX3_writeDigit 3 none, Cond.constantLong RX3 196 (48), Cond.methodLink RX3 131 yX3_writeBefore, Cond.instanceMethod yX3_writeBefore, Cond.selects RX3 yX3_writeBefore yX3_writeBefore]
def wsX3_text_r4 : List Cond := [Cond.code yX3_writeBefore cX3_writeBefore 2 none, Cond.fieldLink RX3 23 "FixedKinds" "characters" "[C", Cond.methodLink RX3 128 yX3_writeWholePart, Cond.instanceMethod yX3_writeWholePart, Cond.selects RX3 yX3_writeWholePart yX3_writeWholePart, Cond.code yX3_writeWholePart cX3_writeWholePart 3 none]
def wsX3_text : List Cond := .code yX3_text cX3_text 8 (some .int) :: ((wsX3_text_r1 ++ (wsX3_text_r2 ++ (wsX3_text_r3 ++ wsX3_text_r4))) ++ wsX30 ++ wsX00 ++ wsX10 ++ wsX20)
def wsX3_at : List Cond := .code yX3_at cX3_at 2 (some .int) :: ([.fieldLink RX3 27 "FixedKinds" "textStart" "I", .classLink RX3 135 RJx00060, .instantiable RJx00060 6, .initialized RJx00060, .fieldLink RX3 23 "FixedKinds" "characters" "[C"] ++ wsX30 ++ wsJx000600)
def wsX3_bound : List Cond := .code yX3_bound cX3_bound 4 (some .long) :: ([.methodLink RX3 62 yX3_find, .instanceMethod yX3_find, .selects RX3 yX3_find yX3_find, .initialized RX3, .code yX3_find cX3_find 2 (some (.object "FixedKinds$Kind")), .fieldLink RX3 15 "FixedKinds" "kindCount" "I", .fieldLink RX3 11 "FixedKinds" "kinds" "[LFixedKinds$Kind;", .instanceMethod yX1_least, .initialized RX1, .selects RX1 yX1_least yX1_least, .code yX1_least cX1_least 1 (some .long), .fieldLink RX1 15 "FixedKinds$Kind" "signed" "Z", .constantLong RX1 35 (-1), .fieldLink RX1 9 "FixedKinds$Kind" "width" "I", .instanceMethod yX1_greatest, .selects RX1 yX1_greatest yX1_greatest, .code yX1_greatest cX1_greatest 1 (some .long), .methodLink RX1 37 yX1_least] ++ wsX30 ++ wsX10)
def wsX3_compare_r1 : List Cond := [Cond.fieldLink RX3 33 "FixedKinds" "first" "LFixedKinds$Fraction;", Cond.fieldLink RX3 37 "FixedKinds" "second" "LFixedKinds$Fraction;", Cond.constantLong RX3 147 (-1), Cond.methodLink RX3 62 yX3_find, Cond.instanceMethod yX3_find, Cond.selects RX3 yX3_find yX3_find, Cond.initialized RX3, Cond.code yX3_find cX3_find 2 (some (.object "FixedKinds$Kind")), Cond.fieldLink RX3 15 "FixedKinds" "kindCount" "I", Cond.fieldLink RX3 11 "FixedKinds" "kinds" "[LFixedKinds$Kind;", Cond.instanceMethod yX0_take, Cond.initialized RX0, Cond.selects RX0 yX0_take yX0_take, Cond.code yX0_take cX0_take 4 none, Cond.fieldLink RX0 12 "FixedKinds$Fraction" "above" "LFixedKinds$Whole;", Cond.fieldLink RX0 18 "FixedKinds$Fraction" "below" "LFixedKinds$Whole;", Cond.instanceMethod yX1_broughtIn, Cond.initialized RX1, Cond.selects RX1 yX1_broughtIn yX1_broughtIn, Cond.code yX1_broughtIn cX1_broughtIn 4 (some .long), Cond.fieldLink RX1 9 "FixedKinds$Kind" "width" "I", Cond.fieldLink RX1 15 "FixedKinds$Kind" "signed" "Z", Cond.instanceMethod yX2_setTo, Cond.initialized RX2]
def wsX3_compare_r2 : List Cond := [Cond.selects RX2 yX2_setTo yX2_setTo, Cond.code yX2_setTo cX2_setTo 6 none, Cond.fieldLink RX2 9 "FixedKinds$Whole" "limbs" "[J", Cond.constantLong RX2 15 (65535), Cond.instanceMethod yX2_scale, Cond.selects RX2 yX2_scale yX2_scale, Cond.code yX2_scale cX2_scale 6 none, Cond.instanceMethod yX2_grow, Cond.selects RX2 yX2_grow yX2_grow, Cond.code yX2_grow cX2_grow 6 none, Cond.instanceMethod yX0_add, Cond.selects RX0 yX0_add yX0_add, Cond.code yX0_add cX0_add 4 none, Cond.instanceMethod yX2_multiply, Cond.selects RX2 yX2_multiply yX2_multiply, Cond.code yX2_multiply cX2_multiply 6 none, Cond.methodLink RX2 32 yX2_grow, Cond.instanceMethod yX2_addTimes, Cond.selects RX2 yX2_addTimes yX2_addTimes, Cond.code yX2_addTimes cX2_addTimes 4 none, Cond.methodLink RX2 28 yX2_addShifted, Cond.instanceMethod yX2_addShifted, Cond.selects RX2 yX2_addShifted yX2_addShifted, Cond.code yX2_addShifted cX2_addShifted 9 (some .long)]
def wsX3_compare_r3 : List Cond := [Cond.methodLink RX2 21 yX2_limb, Cond.instanceMethod yX2_limb, Cond.selects RX2 yX2_limb yX2_limb, Cond.code yX2_limb cX2_limb 2 (some .long), Cond.instanceMethod yX0_sign, Cond.selects RX0 yX0_sign yX0_sign, Cond.code yX0_sign cX0_sign 1 (some .int), Cond.instanceMethod yX2_isZero, Cond.selects RX2 yX2_isZero yX2_isZero, Cond.code yX2_isZero cX2_isZero 1 (some .boolean), Cond.methodLink RX2 17 yX2_size, Cond.instanceMethod yX2_size, Cond.selects RX2 yX2_size yX2_size, Cond.code yX2_size cX2_size 2 (some .int), Cond.instanceMethod yX2_isNegative, Cond.selects RX2 yX2_isNegative yX2_isNegative, Cond.code yX2_isNegative cX2_isNegative 1 (some .boolean)]
def wsX3_compare : List Cond := .code yX3_compare cX3_compare 9 (some .int) :: ((wsX3_compare_r1 ++ (wsX3_compare_r2 ++ wsX3_compare_r3)) ++ wsX30 ++ wsX00 ++ wsX10 ++ wsX20)
def wsX3_octet : List Cond := .code yX3_octet cX3_octet 6 (some .byte) :: ([.methodLink RX3 62 yX3_find, .instanceMethod yX3_find, .selects RX3 yX3_find yX3_find, .initialized RX3, .code yX3_find cX3_find 2 (some (.object "FixedKinds$Kind")), .fieldLink RX3 15 "FixedKinds" "kindCount" "I", .fieldLink RX3 11 "FixedKinds" "kinds" "[LFixedKinds$Kind;", .instanceMethod yX1_octets, .initialized RX1, .selects RX1 yX1_octets yX1_octets, .code yX1_octets cX1_octets 1 (some .int), .fieldLink RX1 9 "FixedKinds$Kind" "width" "I", .instanceMethod yX1_bits, .selects RX1 yX1_bits yX1_bits, .code yX1_bits cX1_bits 4 (some .long)] ++ wsX30 ++ wsX10)
def wsX3_half : List Cond := .code yX3_half cX3_half 6 (some .short) :: ([.methodLink RX3 62 yX3_find, .instanceMethod yX3_find, .selects RX3 yX3_find yX3_find, .initialized RX3, .code yX3_find cX3_find 2 (some (.object "FixedKinds$Kind")), .fieldLink RX3 15 "FixedKinds" "kindCount" "I", .fieldLink RX3 11 "FixedKinds" "kinds" "[LFixedKinds$Kind;", .instanceMethod yX1_bits, .initialized RX1, .selects RX1 yX1_bits yX1_bits, .code yX1_bits cX1_bits 4 (some .long), .fieldLink RX1 9 "FixedKinds$Kind" "width" "I"] ++ wsX10 ++ wsX30)
def wsX4_init : List Cond := .code yX4_init cX4_init 1 none :: ([.methodLink RX4 1 objectInit, .instanceMethod objectInit, .code objectInit ⟨#[0xb1]⟩ 1 none, .arrayClass .int, .fieldLink RX4 7 "FixedKindsModel" "width" "[I", .arrayClass .boolean, .fieldLink RX4 13 "FixedKindsModel" "signed" "[Z", .arrayClass .long, .fieldLink RX4 17 "FixedKindsModel" "up" "[J", .fieldLink RX4 21 "FixedKindsModel" "down" "[J", .fieldLink RX4 24 "FixedKindsModel" "offset" "[J", .fieldLink RX4 27 "FixedKindsModel" "beyond" "[I", .fieldLink RX4 30 "FixedKindsModel" "rounding" "[I", .fieldLink RX4 33 "FixedKindsModel" "text" "[I", .fieldLink RX4 36 "FixedKindsModel" "part" "[I", .fieldLink RX4 39 "FixedKindsModel" "sign" "[I"] ++ wsX40)
def wsX4_thrown : List Cond := .code yX4_thrown cX4_thrown 1 (some .int) :: ([.fieldLink RX4 42 "FixedKindsModel" "code" "I"] ++ wsX40)
def wsX4_set : List Cond := .code yX4_set cX4_set 7 none :: ([.fieldLink RX4 36 "FixedKindsModel" "part" "[I", .constantLong RX4 46 (65535), .fieldLink RX4 39 "FixedKindsModel" "sign" "[I"] ++ wsX40)
def wsX4_copy : List Cond := .code yX4_copy cX4_copy 4 none :: ([.fieldLink RX4 36 "FixedKindsModel" "part" "[I", .fieldLink RX4 39 "FixedKindsModel" "sign" "[I"] ++ wsX40)
def wsX4_nothing : List Cond := .code yX4_nothing cX4_nothing 4 (some .boolean) :: ([.fieldLink RX4 36 "FixedKindsModel" "part" "[I"] ++ wsX40)
def wsX4_sizes : List Cond := .code yX4_sizes cX4_sizes 6 (some .int) :: ([.fieldLink RX4 36 "FixedKindsModel" "part" "[I"] ++ wsX40)
def wsX4_addSizes : List Cond := .code yX4_addSizes cX4_addSizes 6 none :: ([.fieldLink RX4 36 "FixedKindsModel" "part" "[I", .constant RX4 48 (65535)] ++ wsX40)
def wsX4_lessSizes : List Cond := .code yX4_lessSizes cX4_lessSizes 6 none :: ([.fieldLink RX4 36 "FixedKindsModel" "part" "[I", .constant RX4 48 (65535)] ++ wsX40)
def wsX4_add : List Cond := .code yX4_add cX4_add 8 none :: ([.fieldLink RX4 39 "FixedKindsModel" "sign" "[I", .methodLink RX4 49 yX4_addSizes, .instanceMethod yX4_addSizes, .selects RX4 yX4_addSizes yX4_addSizes, .initialized RX4, .code yX4_addSizes cX4_addSizes 6 none, .fieldLink RX4 36 "FixedKindsModel" "part" "[I", .constant RX4 48 (65535), .methodLink RX4 53 yX4_sizes, .instanceMethod yX4_sizes, .selects RX4 yX4_sizes yX4_sizes, .code yX4_sizes cX4_sizes 6 (some .int), .methodLink RX4 57 yX4_lessSizes, .instanceMethod yX4_lessSizes, .selects RX4 yX4_lessSizes yX4_lessSizes, .code yX4_lessSizes cX4_lessSizes 6 none, .methodLink RX4 60 yX4_nothing, .instanceMethod yX4_nothing, .selects RX4 yX4_nothing yX4_nothing, .code yX4_nothing cX4_nothing 4 (some .boolean)] ++ wsX40)
def wsX4_multiply : List Cond := .code yX4_multiply cX4_multiply 9 none :: ([.fieldLink RX4 36 "FixedKindsModel" "part" "[I", .constantLong RX4 46 (65535), .fieldLink RX4 39 "FixedKindsModel" "sign" "[I"] ++ wsX40)
def wsX4_multiplyBy : List Cond := .code yX4_multiplyBy cX4_multiplyBy 5 none :: ([.methodLink RX4 64 yX4_set, .instanceMethod yX4_set, .selects RX4 yX4_set yX4_set, .initialized RX4, .code yX4_set cX4_set 7 none, .fieldLink RX4 36 "FixedKindsModel" "part" "[I", .constantLong RX4 46 (65535), .fieldLink RX4 39 "FixedKindsModel" "sign" "[I", .methodLink RX4 68 yX4_multiply, .instanceMethod yX4_multiply, .selects RX4 yX4_multiply yX4_multiply, .code yX4_multiply cX4_multiply 9 none] ++ wsX40)
def wsX4_halve : List Cond := .code yX4_halve cX4_halve 4 none :: ([.fieldLink RX4 36 "FixedKindsModel" "part" "[I", .fieldLink RX4 39 "FixedKindsModel" "sign" "[I", .methodLink RX4 60 yX4_nothing, .instanceMethod yX4_nothing, .selects RX4 yX4_nothing yX4_nothing, .initialized RX4, .code yX4_nothing cX4_nothing 4 (some .boolean)] ++ wsX40)
def wsX4_divide_r1 : List Cond := [Cond.fieldLink RX4 39 "FixedKindsModel" "sign" "[I", Cond.fieldLink RX4 36 "FixedKindsModel" "part" "[I", Cond.methodLink RX4 71 yX4_copy, Cond.instanceMethod yX4_copy, Cond.selects RX4 yX4_copy yX4_copy, Cond.initialized RX4, Cond.code yX4_copy cX4_copy 4 none, Cond.methodLink RX4 53 yX4_sizes, Cond.instanceMethod yX4_sizes, Cond.selects RX4 yX4_sizes yX4_sizes, Cond.code yX4_sizes cX4_sizes 6 (some .int), Cond.methodLink RX4 49 yX4_addSizes, Cond.instanceMethod yX4_addSizes, Cond.selects RX4 yX4_addSizes yX4_addSizes, Cond.code yX4_addSizes cX4_addSizes 6 none, Cond.constant RX4 48 (65535), Cond.methodLink RX4 64 yX4_set, Cond.instanceMethod yX4_set, Cond.selects RX4 yX4_set yX4_set, Cond.code yX4_set cX4_set 7 none, Cond.constantLong RX4 46 (65535), Cond.methodLink RX4 75 yX4_halve, Cond.instanceMethod yX4_halve, Cond.selects RX4 yX4_halve yX4_halve]
def wsX4_divide_r2 : List Cond := [Cond.code yX4_halve cX4_halve 4 none, Cond.methodLink RX4 60 yX4_nothing, Cond.instanceMethod yX4_nothing, Cond.selects RX4 yX4_nothing yX4_nothing, Cond.code yX4_nothing cX4_nothing 4 (some .boolean), Cond.methodLink RX4 57 yX4_lessSizes, Cond.instanceMethod yX4_lessSizes, Cond.selects RX4 yX4_lessSizes yX4_lessSizes, Cond.code yX4_lessSizes cX4_lessSizes 6 none]
def wsX4_divide : List Cond := .code yX4_divide cX4_divide 8 none :: ((wsX4_divide_r1 ++ wsX4_divide_r2) ++ wsX40)
def wsX4_low : List Cond := .code yX4_low cX4_low 5 (some .long) :: ([.fieldLink RX4 36 "FixedKindsModel" "part" "[I", .fieldLink RX4 39 "FixedKindsModel" "sign" "[I"] ++ wsX40)
def wsX4_none : List Cond := .code yX4_none cX4_none 2 (some .boolean) :: ([.fieldLink RX4 42 "FixedKindsModel" "code" "I", .fieldLink RX4 79 "FixedKindsModel" "kinds" "I"] ++ wsX40)
def wsX4_kind : List Cond := .code yX4_kind cX4_kind 9 (some .int) :: ([.fieldLink RX4 42 "FixedKindsModel" "code" "I", .constantLong RX4 82 (1000), .constantLong RX4 84 (-1000000), .constantLong RX4 86 (1000000), .fieldLink RX4 79 "FixedKindsModel" "kinds" "I", .fieldLink RX4 7 "FixedKindsModel" "width" "[I", .fieldLink RX4 13 "FixedKindsModel" "signed" "[Z", .fieldLink RX4 17 "FixedKindsModel" "up" "[J", .fieldLink RX4 21 "FixedKindsModel" "down" "[J", .fieldLink RX4 24 "FixedKindsModel" "offset" "[J"] ++ wsX40)
def wsX4_rule : List Cond := .code yX4_rule cX4_rule 4 (some .int) :: ([.fieldLink RX4 27 "FixedKindsModel" "beyond" "[I", .fieldLink RX4 30 "FixedKindsModel" "rounding" "[I", .methodLink RX4 88 yX4_none, .instanceMethod yX4_none, .selects RX4 yX4_none yX4_none, .initialized RX4, .code yX4_none cX4_none 2 (some .boolean), .fieldLink RX4 42 "FixedKindsModel" "code" "I", .fieldLink RX4 79 "FixedKindsModel" "kinds" "I"] ++ wsX40)
def wsX4_unsigned : List Cond := .code yX4_unsigned cX4_unsigned 4 (some .long) :: ([.fieldLink RX4 7 "FixedKindsModel" "width" "[I"] ++ wsX40)
def wsX4_bring : List Cond := .code yX4_bring cX4_bring 7 (some .long) :: ([.fieldLink RX4 13 "FixedKindsModel" "signed" "[Z", .fieldLink RX4 7 "FixedKindsModel" "width" "[I", .methodLink RX4 91 yX4_unsigned, .instanceMethod yX4_unsigned, .selects RX4 yX4_unsigned yX4_unsigned, .initialized RX4, .code yX4_unsigned cX4_unsigned 4 (some .long)] ++ wsX40)
def wsX4_least : List Cond := .code yX4_least cX4_least 2 (some .long) :: ([.fieldLink RX4 13 "FixedKindsModel" "signed" "[Z", .fieldLink RX4 7 "FixedKindsModel" "width" "[I", .constantLong RX4 95 (-9223372036854775808)] ++ wsX40)
def wsX4_most : List Cond := .code yX4_most cX4_most 2 (some .long) :: ([.fieldLink RX4 13 "FixedKindsModel" "signed" "[Z", .fieldLink RX4 7 "FixedKindsModel" "width" "[I", .constantLong RX4 97 (9223372036854775807)] ++ wsX40)
def wsX4_value_r1 : List Cond := [Cond.fieldLink RX4 17 "FixedKindsModel" "up" "[J", Cond.fieldLink RX4 24 "FixedKindsModel" "offset" "[J", Cond.fieldLink RX4 21 "FixedKindsModel" "down" "[J", Cond.methodLink RX4 99 yX4_bring, Cond.instanceMethod yX4_bring, Cond.selects RX4 yX4_bring yX4_bring, Cond.initialized RX4, Cond.code yX4_bring cX4_bring 7 (some .long), Cond.fieldLink RX4 13 "FixedKindsModel" "signed" "[Z", Cond.fieldLink RX4 7 "FixedKindsModel" "width" "[I", Cond.methodLink RX4 91 yX4_unsigned, Cond.instanceMethod yX4_unsigned, Cond.selects RX4 yX4_unsigned yX4_unsigned, Cond.code yX4_unsigned cX4_unsigned 4 (some .long), Cond.methodLink RX4 64 yX4_set, Cond.instanceMethod yX4_set, Cond.selects RX4 yX4_set yX4_set, Cond.code yX4_set cX4_set 7 none, Cond.fieldLink RX4 36 "FixedKindsModel" "part" "[I", Cond.constantLong RX4 46 (65535), Cond.fieldLink RX4 39 "FixedKindsModel" "sign" "[I", Cond.methodLink RX4 102 yX4_multiplyBy, Cond.instanceMethod yX4_multiplyBy, Cond.selects RX4 yX4_multiplyBy yX4_multiplyBy]
def wsX4_value_r2 : List Cond := [Cond.code yX4_multiplyBy cX4_multiplyBy 5 none, Cond.methodLink RX4 68 yX4_multiply, Cond.instanceMethod yX4_multiply, Cond.selects RX4 yX4_multiply yX4_multiply, Cond.code yX4_multiply cX4_multiply 9 none, Cond.methodLink RX4 106 yX4_add, Cond.instanceMethod yX4_add, Cond.selects RX4 yX4_add yX4_add, Cond.code yX4_add cX4_add 8 none, Cond.methodLink RX4 49 yX4_addSizes, Cond.instanceMethod yX4_addSizes, Cond.selects RX4 yX4_addSizes yX4_addSizes, Cond.code yX4_addSizes cX4_addSizes 6 none, Cond.constant RX4 48 (65535), Cond.methodLink RX4 53 yX4_sizes, Cond.instanceMethod yX4_sizes, Cond.selects RX4 yX4_sizes yX4_sizes, Cond.code yX4_sizes cX4_sizes 6 (some .int), Cond.methodLink RX4 57 yX4_lessSizes, Cond.instanceMethod yX4_lessSizes, Cond.selects RX4 yX4_lessSizes yX4_lessSizes, Cond.code yX4_lessSizes cX4_lessSizes 6 none, Cond.methodLink RX4 60 yX4_nothing, Cond.instanceMethod yX4_nothing]
def wsX4_value_r3 : List Cond := [Cond.selects RX4 yX4_nothing yX4_nothing, Cond.code yX4_nothing cX4_nothing 4 (some .boolean)]
def wsX4_value : List Cond := .code yX4_value cX4_value 5 none :: ((wsX4_value_r1 ++ (wsX4_value_r2 ++ wsX4_value_r3)) ++ wsX40)
def wsX4_round_r1 : List Cond := [Cond.fieldLink RX4 39 "FixedKindsModel" "sign" "[I", Cond.fieldLink RX4 113 "FixedKindsModel" "lost" "Z", Cond.fieldLink RX4 36 "FixedKindsModel" "part" "[I", Cond.methodLink RX4 110 yX4_divide, Cond.instanceMethod yX4_divide, Cond.selects RX4 yX4_divide yX4_divide, Cond.initialized RX4, Cond.code yX4_divide cX4_divide 8 none, Cond.methodLink RX4 71 yX4_copy, Cond.instanceMethod yX4_copy, Cond.selects RX4 yX4_copy yX4_copy, Cond.code yX4_copy cX4_copy 4 none, Cond.methodLink RX4 53 yX4_sizes, Cond.instanceMethod yX4_sizes, Cond.selects RX4 yX4_sizes yX4_sizes, Cond.code yX4_sizes cX4_sizes 6 (some .int), Cond.methodLink RX4 49 yX4_addSizes, Cond.instanceMethod yX4_addSizes, Cond.selects RX4 yX4_addSizes yX4_addSizes, Cond.code yX4_addSizes cX4_addSizes 6 none, Cond.constant RX4 48 (65535), Cond.methodLink RX4 64 yX4_set, Cond.instanceMethod yX4_set, Cond.selects RX4 yX4_set yX4_set]
def wsX4_round_r2 : List Cond := [Cond.code yX4_set cX4_set 7 none, Cond.constantLong RX4 46 (65535), Cond.methodLink RX4 75 yX4_halve, Cond.instanceMethod yX4_halve, Cond.selects RX4 yX4_halve yX4_halve, Cond.code yX4_halve cX4_halve 4 none, Cond.methodLink RX4 60 yX4_nothing, Cond.instanceMethod yX4_nothing, Cond.selects RX4 yX4_nothing yX4_nothing, Cond.code yX4_nothing cX4_nothing 4 (some .boolean), Cond.methodLink RX4 57 yX4_lessSizes, Cond.instanceMethod yX4_lessSizes, Cond.selects RX4 yX4_lessSizes yX4_lessSizes, Cond.code yX4_lessSizes cX4_lessSizes 6 none, Cond.methodLink RX4 106 yX4_add, Cond.instanceMethod yX4_add, Cond.selects RX4 yX4_add yX4_add, Cond.code yX4_add cX4_add 8 none]
def wsX4_round : List Cond := .code yX4_round cX4_round 5 none :: ((wsX4_round_r1 ++ wsX4_round_r2) ++ wsX40)
def wsX4_put_r1 : List Cond := [Cond.fieldLink RX4 24 "FixedKindsModel" "offset" "[J", Cond.fieldLink RX4 21 "FixedKindsModel" "down" "[J", Cond.fieldLink RX4 17 "FixedKindsModel" "up" "[J", Cond.fieldLink RX4 30 "FixedKindsModel" "rounding" "[I", Cond.fieldLink RX4 39 "FixedKindsModel" "sign" "[I", Cond.fieldLink RX4 113 "FixedKindsModel" "lost" "Z", Cond.fieldLink RX4 27 "FixedKindsModel" "beyond" "[I", Cond.methodLink RX4 102 yX4_multiplyBy, Cond.instanceMethod yX4_multiplyBy, Cond.selects RX4 yX4_multiplyBy yX4_multiplyBy, Cond.initialized RX4, Cond.code yX4_multiplyBy cX4_multiplyBy 5 none, Cond.methodLink RX4 64 yX4_set, Cond.instanceMethod yX4_set, Cond.selects RX4 yX4_set yX4_set, Cond.code yX4_set cX4_set 7 none, Cond.fieldLink RX4 36 "FixedKindsModel" "part" "[I", Cond.constantLong RX4 46 (65535), Cond.methodLink RX4 68 yX4_multiply, Cond.instanceMethod yX4_multiply, Cond.selects RX4 yX4_multiply yX4_multiply, Cond.code yX4_multiply cX4_multiply 9 none, Cond.methodLink RX4 106 yX4_add, Cond.instanceMethod yX4_add]
def wsX4_put_r2 : List Cond := [Cond.selects RX4 yX4_add yX4_add, Cond.code yX4_add cX4_add 8 none, Cond.methodLink RX4 49 yX4_addSizes, Cond.instanceMethod yX4_addSizes, Cond.selects RX4 yX4_addSizes yX4_addSizes, Cond.code yX4_addSizes cX4_addSizes 6 none, Cond.constant RX4 48 (65535), Cond.methodLink RX4 53 yX4_sizes, Cond.instanceMethod yX4_sizes, Cond.selects RX4 yX4_sizes yX4_sizes, Cond.code yX4_sizes cX4_sizes 6 (some .int), Cond.methodLink RX4 57 yX4_lessSizes, Cond.instanceMethod yX4_lessSizes, Cond.selects RX4 yX4_lessSizes yX4_lessSizes, Cond.code yX4_lessSizes cX4_lessSizes 6 none, Cond.methodLink RX4 60 yX4_nothing, Cond.instanceMethod yX4_nothing, Cond.selects RX4 yX4_nothing yX4_nothing, Cond.code yX4_nothing cX4_nothing 4 (some .boolean), Cond.methodLink RX4 117 yX4_round, Cond.instanceMethod yX4_round, Cond.selects RX4 yX4_round yX4_round, Cond.code yX4_round cX4_round 5 none, Cond.methodLink RX4 110 yX4_divide]
def wsX4_put_r3 : List Cond := [Cond.instanceMethod yX4_divide, Cond.selects RX4 yX4_divide yX4_divide, Cond.code yX4_divide cX4_divide 8 none, Cond.methodLink RX4 71 yX4_copy, Cond.instanceMethod yX4_copy, Cond.selects RX4 yX4_copy yX4_copy, Cond.code yX4_copy cX4_copy 4 none, Cond.methodLink RX4 75 yX4_halve, Cond.instanceMethod yX4_halve, Cond.selects RX4 yX4_halve yX4_halve, Cond.code yX4_halve cX4_halve 4 none, Cond.methodLink RX4 120 yX4_least, Cond.instanceMethod yX4_least, Cond.selects RX4 yX4_least yX4_least, Cond.code yX4_least cX4_least 2 (some .long), Cond.fieldLink RX4 13 "FixedKindsModel" "signed" "[Z", Cond.fieldLink RX4 7 "FixedKindsModel" "width" "[I", Cond.constantLong RX4 95 (-9223372036854775808), Cond.methodLink RX4 124 yX4_most, Cond.instanceMethod yX4_most, Cond.selects RX4 yX4_most yX4_most, Cond.code yX4_most cX4_most 2 (some .long), Cond.constantLong RX4 97 (9223372036854775807), Cond.methodLink RX4 127 yX4_low]
def wsX4_put_r4 : List Cond := [Cond.instanceMethod yX4_low, Cond.selects RX4 yX4_low yX4_low, Cond.code yX4_low cX4_low 5 (some .long), Cond.methodLink RX4 99 yX4_bring, Cond.instanceMethod yX4_bring, Cond.selects RX4 yX4_bring yX4_bring, Cond.code yX4_bring cX4_bring 7 (some .long), Cond.methodLink RX4 91 yX4_unsigned, Cond.instanceMethod yX4_unsigned, Cond.selects RX4 yX4_unsigned yX4_unsigned, Cond.code yX4_unsigned cX4_unsigned 4 (some .long)]
def wsX4_put : List Cond := .code yX4_put cX4_put 3 (some .long) :: ((wsX4_put_r1 ++ (wsX4_put_r2 ++ (wsX4_put_r3 ++ wsX4_put_r4))) ++ wsX40)
def wsX4_apply_r1 : List Cond := [Cond.fieldLink RX4 39 "FixedKindsModel" "sign" "[I", Cond.fieldLink RX4 27 "FixedKindsModel" "beyond" "[I", Cond.fieldLink RX4 42 "FixedKindsModel" "code" "I", Cond.fieldLink RX4 113 "FixedKindsModel" "lost" "Z", Cond.methodLink RX4 88 yX4_none, Cond.instanceMethod yX4_none, Cond.selects RX4 yX4_none yX4_none, Cond.initialized RX4, Cond.code yX4_none cX4_none 2 (some .boolean), Cond.fieldLink RX4 79 "FixedKindsModel" "kinds" "I", Cond.methodLink RX4 130 yX4_value, Cond.instanceMethod yX4_value, Cond.selects RX4 yX4_value yX4_value, Cond.code yX4_value cX4_value 5 none, Cond.fieldLink RX4 17 "FixedKindsModel" "up" "[J", Cond.fieldLink RX4 24 "FixedKindsModel" "offset" "[J", Cond.fieldLink RX4 21 "FixedKindsModel" "down" "[J", Cond.methodLink RX4 99 yX4_bring, Cond.instanceMethod yX4_bring, Cond.selects RX4 yX4_bring yX4_bring, Cond.code yX4_bring cX4_bring 7 (some .long), Cond.fieldLink RX4 13 "FixedKindsModel" "signed" "[Z", Cond.fieldLink RX4 7 "FixedKindsModel" "width" "[I", Cond.methodLink RX4 91 yX4_unsigned]
def wsX4_apply_r2 : List Cond := [Cond.instanceMethod yX4_unsigned, Cond.selects RX4 yX4_unsigned yX4_unsigned, Cond.code yX4_unsigned cX4_unsigned 4 (some .long), Cond.methodLink RX4 64 yX4_set, Cond.instanceMethod yX4_set, Cond.selects RX4 yX4_set yX4_set, Cond.code yX4_set cX4_set 7 none, Cond.fieldLink RX4 36 "FixedKindsModel" "part" "[I", Cond.constantLong RX4 46 (65535), Cond.methodLink RX4 102 yX4_multiplyBy, Cond.instanceMethod yX4_multiplyBy, Cond.selects RX4 yX4_multiplyBy yX4_multiplyBy, Cond.code yX4_multiplyBy cX4_multiplyBy 5 none, Cond.methodLink RX4 68 yX4_multiply, Cond.instanceMethod yX4_multiply, Cond.selects RX4 yX4_multiply yX4_multiply, Cond.code yX4_multiply cX4_multiply 9 none, Cond.methodLink RX4 106 yX4_add, Cond.instanceMethod yX4_add, Cond.selects RX4 yX4_add yX4_add, Cond.code yX4_add cX4_add 8 none, Cond.methodLink RX4 49 yX4_addSizes, Cond.instanceMethod yX4_addSizes, Cond.selects RX4 yX4_addSizes yX4_addSizes]
def wsX4_apply_r3 : List Cond := [Cond.code yX4_addSizes cX4_addSizes 6 none, Cond.constant RX4 48 (65535), Cond.methodLink RX4 53 yX4_sizes, Cond.instanceMethod yX4_sizes, Cond.selects RX4 yX4_sizes yX4_sizes, Cond.code yX4_sizes cX4_sizes 6 (some .int), Cond.methodLink RX4 57 yX4_lessSizes, Cond.instanceMethod yX4_lessSizes, Cond.selects RX4 yX4_lessSizes yX4_lessSizes, Cond.code yX4_lessSizes cX4_lessSizes 6 none, Cond.methodLink RX4 60 yX4_nothing, Cond.instanceMethod yX4_nothing, Cond.selects RX4 yX4_nothing yX4_nothing, Cond.code yX4_nothing cX4_nothing 4 (some .boolean), Cond.methodLink RX4 124 yX4_most, Cond.instanceMethod yX4_most, Cond.selects RX4 yX4_most yX4_most, Cond.code yX4_most cX4_most 2 (some .long), Cond.constantLong RX4 97 (9223372036854775807), Cond.methodLink RX4 120 yX4_least, Cond.instanceMethod yX4_least, Cond.selects RX4 yX4_least yX4_least, Cond.code yX4_least cX4_least 2 (some .long), Cond.constantLong RX4 95 (-9223372036854775808)]
def wsX4_apply_r4 : List Cond := [Cond.methodLink RX4 133 yX4_put, Cond.instanceMethod yX4_put, Cond.selects RX4 yX4_put yX4_put, Cond.code yX4_put cX4_put 3 (some .long), Cond.fieldLink RX4 30 "FixedKindsModel" "rounding" "[I", Cond.methodLink RX4 117 yX4_round, Cond.instanceMethod yX4_round, Cond.selects RX4 yX4_round yX4_round, Cond.code yX4_round cX4_round 5 none, Cond.methodLink RX4 110 yX4_divide, Cond.instanceMethod yX4_divide, Cond.selects RX4 yX4_divide yX4_divide, Cond.code yX4_divide cX4_divide 8 none, Cond.methodLink RX4 71 yX4_copy, Cond.instanceMethod yX4_copy, Cond.selects RX4 yX4_copy yX4_copy, Cond.code yX4_copy cX4_copy 4 none, Cond.methodLink RX4 75 yX4_halve, Cond.instanceMethod yX4_halve, Cond.selects RX4 yX4_halve yX4_halve, Cond.code yX4_halve cX4_halve 4 none, Cond.methodLink RX4 127 yX4_low, Cond.instanceMethod yX4_low, Cond.selects RX4 yX4_low yX4_low]
def wsX4_apply_r5 : List Cond := [Cond.code yX4_low cX4_low 5 (some .long)]
def wsX4_apply : List Cond := .code yX4_apply cX4_apply 10 (some .long) :: ((wsX4_apply_r1 ++ (wsX4_apply_r2 ++ (wsX4_apply_r3 ++ (wsX4_apply_r4 ++ wsX4_apply_r5)))) ++ wsX40)
def wsX4_convert_r1 : List Cond := [Cond.methodLink RX4 88 yX4_none, Cond.instanceMethod yX4_none, Cond.selects RX4 yX4_none yX4_none, Cond.initialized RX4, Cond.code yX4_none cX4_none 2 (some .boolean), Cond.fieldLink RX4 42 "FixedKindsModel" "code" "I", Cond.fieldLink RX4 79 "FixedKindsModel" "kinds" "I", Cond.methodLink RX4 130 yX4_value, Cond.instanceMethod yX4_value, Cond.selects RX4 yX4_value yX4_value, Cond.code yX4_value cX4_value 5 none, Cond.fieldLink RX4 17 "FixedKindsModel" "up" "[J", Cond.fieldLink RX4 24 "FixedKindsModel" "offset" "[J", Cond.fieldLink RX4 21 "FixedKindsModel" "down" "[J", Cond.methodLink RX4 99 yX4_bring, Cond.instanceMethod yX4_bring, Cond.selects RX4 yX4_bring yX4_bring, Cond.code yX4_bring cX4_bring 7 (some .long), Cond.fieldLink RX4 13 "FixedKindsModel" "signed" "[Z", Cond.fieldLink RX4 7 "FixedKindsModel" "width" "[I", Cond.methodLink RX4 91 yX4_unsigned, Cond.instanceMethod yX4_unsigned, Cond.selects RX4 yX4_unsigned yX4_unsigned, Cond.code yX4_unsigned cX4_unsigned 4 (some .long)]
def wsX4_convert_r2 : List Cond := [Cond.methodLink RX4 64 yX4_set, Cond.instanceMethod yX4_set, Cond.selects RX4 yX4_set yX4_set, Cond.code yX4_set cX4_set 7 none, Cond.fieldLink RX4 36 "FixedKindsModel" "part" "[I", Cond.constantLong RX4 46 (65535), Cond.fieldLink RX4 39 "FixedKindsModel" "sign" "[I", Cond.methodLink RX4 102 yX4_multiplyBy, Cond.instanceMethod yX4_multiplyBy, Cond.selects RX4 yX4_multiplyBy yX4_multiplyBy, Cond.code yX4_multiplyBy cX4_multiplyBy 5 none, Cond.methodLink RX4 68 yX4_multiply, Cond.instanceMethod yX4_multiply, Cond.selects RX4 yX4_multiply yX4_multiply, Cond.code yX4_multiply cX4_multiply 9 none, Cond.methodLink RX4 106 yX4_add, Cond.instanceMethod yX4_add, Cond.selects RX4 yX4_add yX4_add, Cond.code yX4_add cX4_add 8 none, Cond.methodLink RX4 49 yX4_addSizes, Cond.instanceMethod yX4_addSizes, Cond.selects RX4 yX4_addSizes yX4_addSizes, Cond.code yX4_addSizes cX4_addSizes 6 none, Cond.constant RX4 48 (65535)]
def wsX4_convert_r3 : List Cond := [Cond.methodLink RX4 53 yX4_sizes, Cond.instanceMethod yX4_sizes, Cond.selects RX4 yX4_sizes yX4_sizes, Cond.code yX4_sizes cX4_sizes 6 (some .int), Cond.methodLink RX4 57 yX4_lessSizes, Cond.instanceMethod yX4_lessSizes, Cond.selects RX4 yX4_lessSizes yX4_lessSizes, Cond.code yX4_lessSizes cX4_lessSizes 6 none, Cond.methodLink RX4 60 yX4_nothing, Cond.instanceMethod yX4_nothing, Cond.selects RX4 yX4_nothing yX4_nothing, Cond.code yX4_nothing cX4_nothing 4 (some .boolean), Cond.methodLink RX4 133 yX4_put, Cond.instanceMethod yX4_put, Cond.selects RX4 yX4_put yX4_put, Cond.code yX4_put cX4_put 3 (some .long), Cond.fieldLink RX4 30 "FixedKindsModel" "rounding" "[I", Cond.fieldLink RX4 113 "FixedKindsModel" "lost" "Z", Cond.fieldLink RX4 27 "FixedKindsModel" "beyond" "[I", Cond.methodLink RX4 117 yX4_round, Cond.instanceMethod yX4_round, Cond.selects RX4 yX4_round yX4_round, Cond.code yX4_round cX4_round 5 none, Cond.methodLink RX4 110 yX4_divide]
def wsX4_convert_r4 : List Cond := [Cond.instanceMethod yX4_divide, Cond.selects RX4 yX4_divide yX4_divide, Cond.code yX4_divide cX4_divide 8 none, Cond.methodLink RX4 71 yX4_copy, Cond.instanceMethod yX4_copy, Cond.selects RX4 yX4_copy yX4_copy, Cond.code yX4_copy cX4_copy 4 none, Cond.methodLink RX4 75 yX4_halve, Cond.instanceMethod yX4_halve, Cond.selects RX4 yX4_halve yX4_halve, Cond.code yX4_halve cX4_halve 4 none, Cond.methodLink RX4 120 yX4_least, Cond.instanceMethod yX4_least, Cond.selects RX4 yX4_least yX4_least, Cond.code yX4_least cX4_least 2 (some .long), Cond.constantLong RX4 95 (-9223372036854775808), Cond.methodLink RX4 124 yX4_most, Cond.instanceMethod yX4_most, Cond.selects RX4 yX4_most yX4_most, Cond.code yX4_most cX4_most 2 (some .long), Cond.constantLong RX4 97 (9223372036854775807), Cond.methodLink RX4 127 yX4_low, Cond.instanceMethod yX4_low, Cond.selects RX4 yX4_low yX4_low]
def wsX4_convert_r5 : List Cond := [Cond.code yX4_low cX4_low 5 (some .long)]
def wsX4_convert : List Cond := .code yX4_convert cX4_convert 5 (some .long) :: ((wsX4_convert_r1 ++ (wsX4_convert_r2 ++ (wsX4_convert_r3 ++ (wsX4_convert_r4 ++ wsX4_convert_r5)))) ++ wsX40)
def wsX4_lost : List Cond := .code yX4_lost cX4_lost 1 (some .boolean) :: ([.fieldLink RX4 42 "FixedKindsModel" "code" "I", .fieldLink RX4 113 "FixedKindsModel" "lost" "Z"] ++ wsX40)
def wsX4_common_r1 : List Cond := [Cond.fieldLink RX4 36 "FixedKindsModel" "part" "[I", Cond.fieldLink RX4 39 "FixedKindsModel" "sign" "[I", Cond.methodLink RX4 60 yX4_nothing, Cond.instanceMethod yX4_nothing, Cond.selects RX4 yX4_nothing yX4_nothing, Cond.initialized RX4, Cond.code yX4_nothing cX4_nothing 4 (some .boolean), Cond.methodLink RX4 71 yX4_copy, Cond.instanceMethod yX4_copy, Cond.selects RX4 yX4_copy yX4_copy, Cond.code yX4_copy cX4_copy 4 none, Cond.methodLink RX4 75 yX4_halve, Cond.instanceMethod yX4_halve, Cond.selects RX4 yX4_halve yX4_halve, Cond.code yX4_halve cX4_halve 4 none, Cond.methodLink RX4 53 yX4_sizes, Cond.instanceMethod yX4_sizes, Cond.selects RX4 yX4_sizes yX4_sizes, Cond.code yX4_sizes cX4_sizes 6 (some .int), Cond.methodLink RX4 57 yX4_lessSizes, Cond.instanceMethod yX4_lessSizes, Cond.selects RX4 yX4_lessSizes yX4_lessSizes, Cond.code yX4_lessSizes cX4_lessSizes 6 none, Cond.constant RX4 48 (65535)]
def wsX4_common_r2 : List Cond := [Cond.methodLink RX4 49 yX4_addSizes, Cond.instanceMethod yX4_addSizes, Cond.selects RX4 yX4_addSizes yX4_addSizes, Cond.code yX4_addSizes cX4_addSizes 6 none]
def wsX4_common : List Cond := .code yX4_common cX4_common 3 none :: ((wsX4_common_r1 ++ wsX4_common_r2) ++ wsX40)
def wsX4_physical_r1 : List Cond := [Cond.fieldLink RX4 39 "FixedKindsModel" "sign" "[I", Cond.constant RX4 48 (65535), Cond.fieldLink RX4 36 "FixedKindsModel" "part" "[I", Cond.constantLong RX4 46 (65535), Cond.constantLong RX4 139 (2147483647), Cond.constantLong RX4 141 (4294967296), Cond.methodLink RX4 88 yX4_none, Cond.instanceMethod yX4_none, Cond.selects RX4 yX4_none yX4_none, Cond.initialized RX4, Cond.code yX4_none cX4_none 2 (some .boolean), Cond.fieldLink RX4 42 "FixedKindsModel" "code" "I", Cond.fieldLink RX4 79 "FixedKindsModel" "kinds" "I", Cond.methodLink RX4 130 yX4_value, Cond.instanceMethod yX4_value, Cond.selects RX4 yX4_value yX4_value, Cond.code yX4_value cX4_value 5 none, Cond.fieldLink RX4 17 "FixedKindsModel" "up" "[J", Cond.fieldLink RX4 24 "FixedKindsModel" "offset" "[J", Cond.fieldLink RX4 21 "FixedKindsModel" "down" "[J", Cond.methodLink RX4 99 yX4_bring, Cond.instanceMethod yX4_bring, Cond.selects RX4 yX4_bring yX4_bring, Cond.code yX4_bring cX4_bring 7 (some .long)]
def wsX4_physical_r2 : List Cond := [Cond.fieldLink RX4 13 "FixedKindsModel" "signed" "[Z", Cond.fieldLink RX4 7 "FixedKindsModel" "width" "[I", Cond.methodLink RX4 91 yX4_unsigned, Cond.instanceMethod yX4_unsigned, Cond.selects RX4 yX4_unsigned yX4_unsigned, Cond.code yX4_unsigned cX4_unsigned 4 (some .long), Cond.methodLink RX4 64 yX4_set, Cond.instanceMethod yX4_set, Cond.selects RX4 yX4_set yX4_set, Cond.code yX4_set cX4_set 7 none, Cond.methodLink RX4 102 yX4_multiplyBy, Cond.instanceMethod yX4_multiplyBy, Cond.selects RX4 yX4_multiplyBy yX4_multiplyBy, Cond.code yX4_multiplyBy cX4_multiplyBy 5 none, Cond.methodLink RX4 68 yX4_multiply, Cond.instanceMethod yX4_multiply, Cond.selects RX4 yX4_multiply yX4_multiply, Cond.code yX4_multiply cX4_multiply 9 none, Cond.methodLink RX4 106 yX4_add, Cond.instanceMethod yX4_add, Cond.selects RX4 yX4_add yX4_add, Cond.code yX4_add cX4_add 8 none, Cond.methodLink RX4 49 yX4_addSizes, Cond.instanceMethod yX4_addSizes]
def wsX4_physical_r3 : List Cond := [Cond.selects RX4 yX4_addSizes yX4_addSizes, Cond.code yX4_addSizes cX4_addSizes 6 none, Cond.methodLink RX4 53 yX4_sizes, Cond.instanceMethod yX4_sizes, Cond.selects RX4 yX4_sizes yX4_sizes, Cond.code yX4_sizes cX4_sizes 6 (some .int), Cond.methodLink RX4 57 yX4_lessSizes, Cond.instanceMethod yX4_lessSizes, Cond.selects RX4 yX4_lessSizes yX4_lessSizes, Cond.code yX4_lessSizes cX4_lessSizes 6 none, Cond.methodLink RX4 60 yX4_nothing, Cond.instanceMethod yX4_nothing, Cond.selects RX4 yX4_nothing yX4_nothing, Cond.code yX4_nothing cX4_nothing 4 (some .boolean), Cond.methodLink RX4 71 yX4_copy, Cond.instanceMethod yX4_copy, Cond.selects RX4 yX4_copy yX4_copy, Cond.code yX4_copy cX4_copy 4 none, Cond.methodLink RX4 136 yX4_common, Cond.instanceMethod yX4_common, Cond.selects RX4 yX4_common yX4_common, Cond.code yX4_common cX4_common 3 none, Cond.methodLink RX4 75 yX4_halve, Cond.instanceMethod yX4_halve]
def wsX4_physical_r4 : List Cond := [Cond.selects RX4 yX4_halve yX4_halve, Cond.code yX4_halve cX4_halve 4 none, Cond.methodLink RX4 110 yX4_divide, Cond.instanceMethod yX4_divide, Cond.selects RX4 yX4_divide yX4_divide, Cond.code yX4_divide cX4_divide 8 none, Cond.methodLink RX4 127 yX4_low, Cond.instanceMethod yX4_low, Cond.selects RX4 yX4_low yX4_low, Cond.code yX4_low cX4_low 5 (some .long)]
def wsX4_physical : List Cond := .code yX4_physical cX4_physical 10 (some .long) :: ((wsX4_physical_r1 ++ (wsX4_physical_r2 ++ (wsX4_physical_r3 ++ wsX4_physical_r4))) ++ wsX40)
def wsX4_letter : List Cond := .code yX4_letter cX4_letter 2 none :: ([.fieldLink RX4 33 "FixedKindsModel" "text" "[I", .fieldLink RX4 143 "FixedKindsModel" "textLength" "I"] ++ wsX40)
def wsX4_text_r1 : List Cond := [Cond.fieldLink RX4 113 "FixedKindsModel" "lost" "Z", Cond.constantLong RX4 86 (1000000), Cond.fieldLink RX4 143 "FixedKindsModel" "textLength" "I", Cond.fieldLink RX4 39 "FixedKindsModel" "sign" "[I", Cond.constantLong RX4 146 (10), Cond.fieldLink RX4 36 "FixedKindsModel" "part" "[I", Cond.fieldLink RX4 33 "FixedKindsModel" "text" "[I", Cond.methodLink RX4 88 yX4_none, Cond.instanceMethod yX4_none, Cond.selects RX4 yX4_none yX4_none, Cond.initialized RX4, Cond.code yX4_none cX4_none 2 (some .boolean), Cond.fieldLink RX4 42 "FixedKindsModel" "code" "I", Cond.fieldLink RX4 79 "FixedKindsModel" "kinds" "I", Cond.methodLink RX4 130 yX4_value, Cond.instanceMethod yX4_value, Cond.selects RX4 yX4_value yX4_value, Cond.code yX4_value cX4_value 5 none, Cond.fieldLink RX4 17 "FixedKindsModel" "up" "[J", Cond.fieldLink RX4 24 "FixedKindsModel" "offset" "[J", Cond.fieldLink RX4 21 "FixedKindsModel" "down" "[J", Cond.methodLink RX4 99 yX4_bring, Cond.instanceMethod yX4_bring, Cond.selects RX4 yX4_bring yX4_bring]
def wsX4_text_r2 : List Cond := [Cond.code yX4_bring cX4_bring 7 (some .long), Cond.fieldLink RX4 13 "FixedKindsModel" "signed" "[Z", Cond.fieldLink RX4 7 "FixedKindsModel" "width" "[I", Cond.methodLink RX4 91 yX4_unsigned, Cond.instanceMethod yX4_unsigned, Cond.selects RX4 yX4_unsigned yX4_unsigned, Cond.code yX4_unsigned cX4_unsigned 4 (some .long), Cond.methodLink RX4 64 yX4_set, Cond.instanceMethod yX4_set, Cond.selects RX4 yX4_set yX4_set, Cond.code yX4_set cX4_set 7 none, Cond.constantLong RX4 46 (65535), Cond.methodLink RX4 102 yX4_multiplyBy, Cond.instanceMethod yX4_multiplyBy, Cond.selects RX4 yX4_multiplyBy yX4_multiplyBy, Cond.code yX4_multiplyBy cX4_multiplyBy 5 none, Cond.methodLink RX4 68 yX4_multiply, Cond.instanceMethod yX4_multiply, Cond.selects RX4 yX4_multiply yX4_multiply, Cond.code yX4_multiply cX4_multiply 9 none, Cond.methodLink RX4 106 yX4_add, Cond.instanceMethod yX4_add, Cond.selects RX4 yX4_add yX4_add, Cond.code yX4_add cX4_add 8 none]
def wsX4_text_r3 : List Cond := [Cond.methodLink RX4 49 yX4_addSizes, Cond.instanceMethod yX4_addSizes, Cond.selects RX4 yX4_addSizes yX4_addSizes, Cond.code yX4_addSizes cX4_addSizes 6 none, Cond.constant RX4 48 (65535), Cond.methodLink RX4 53 yX4_sizes, Cond.instanceMethod yX4_sizes, Cond.selects RX4 yX4_sizes yX4_sizes, Cond.code yX4_sizes cX4_sizes 6 (some .int), Cond.methodLink RX4 57 yX4_lessSizes, Cond.instanceMethod yX4_lessSizes, Cond.selects RX4 yX4_lessSizes yX4_lessSizes, Cond.code yX4_lessSizes cX4_lessSizes 6 none, Cond.methodLink RX4 60 yX4_nothing, Cond.instanceMethod yX4_nothing, Cond.selects RX4 yX4_nothing yX4_nothing, Cond.code yX4_nothing cX4_nothing 4 (some .boolean), Cond.methodLink RX4 71 yX4_copy, Cond.instanceMethod yX4_copy, Cond.selects RX4 yX4_copy yX4_copy, Cond.code yX4_copy cX4_copy 4 none, Cond.methodLink RX4 117 yX4_round, Cond.instanceMethod yX4_round, Cond.selects RX4 yX4_round yX4_round]
def wsX4_text_r4 : List Cond := [Cond.code yX4_round cX4_round 5 none, Cond.methodLink RX4 110 yX4_divide, Cond.instanceMethod yX4_divide, Cond.selects RX4 yX4_divide yX4_divide, Cond.code yX4_divide cX4_divide 8 none, Cond.methodLink RX4 75 yX4_halve, Cond.instanceMethod yX4_halve, Cond.selects RX4 yX4_halve yX4_halve, Cond.code yX4_halve cX4_halve 4 none, Cond.methodLink RX4 148 yX4_letter, Cond.instanceMethod yX4_letter, Cond.selects RX4 yX4_letter yX4_letter, Cond.code yX4_letter cX4_letter 2 none]
def wsX4_text : List Cond := .code yX4_text cX4_text 10 (some .int) :: ((wsX4_text_r1 ++ (wsX4_text_r2 ++ (wsX4_text_r3 ++ wsX4_text_r4))) ++ wsX40)
def wsX4_at : List Cond := .code yX4_at cX4_at 2 (some .int) :: ([.fieldLink RX4 143 "FixedKindsModel" "textLength" "I", .fieldLink RX4 42 "FixedKindsModel" "code" "I", .fieldLink RX4 33 "FixedKindsModel" "text" "[I"] ++ wsX40)
def wsX4_bound : List Cond := .code yX4_bound cX4_bound 3 (some .long) :: ([.methodLink RX4 88 yX4_none, .instanceMethod yX4_none, .selects RX4 yX4_none yX4_none, .initialized RX4, .code yX4_none cX4_none 2 (some .boolean), .fieldLink RX4 42 "FixedKindsModel" "code" "I", .fieldLink RX4 79 "FixedKindsModel" "kinds" "I", .methodLink RX4 120 yX4_least, .instanceMethod yX4_least, .selects RX4 yX4_least yX4_least, .code yX4_least cX4_least 2 (some .long), .fieldLink RX4 13 "FixedKindsModel" "signed" "[Z", .fieldLink RX4 7 "FixedKindsModel" "width" "[I", .constantLong RX4 95 (-9223372036854775808), .methodLink RX4 124 yX4_most, .instanceMethod yX4_most, .selects RX4 yX4_most yX4_most, .code yX4_most cX4_most 2 (some .long), .constantLong RX4 97 (9223372036854775807)] ++ wsX40)
def wsX4_compare_r1 : List Cond := [Cond.fieldLink RX4 39 "FixedKindsModel" "sign" "[I", Cond.methodLink RX4 88 yX4_none, Cond.instanceMethod yX4_none, Cond.selects RX4 yX4_none yX4_none, Cond.initialized RX4, Cond.code yX4_none cX4_none 2 (some .boolean), Cond.fieldLink RX4 42 "FixedKindsModel" "code" "I", Cond.fieldLink RX4 79 "FixedKindsModel" "kinds" "I", Cond.methodLink RX4 130 yX4_value, Cond.instanceMethod yX4_value, Cond.selects RX4 yX4_value yX4_value, Cond.code yX4_value cX4_value 5 none, Cond.fieldLink RX4 17 "FixedKindsModel" "up" "[J", Cond.fieldLink RX4 24 "FixedKindsModel" "offset" "[J", Cond.fieldLink RX4 21 "FixedKindsModel" "down" "[J", Cond.methodLink RX4 99 yX4_bring, Cond.instanceMethod yX4_bring, Cond.selects RX4 yX4_bring yX4_bring, Cond.code yX4_bring cX4_bring 7 (some .long), Cond.fieldLink RX4 13 "FixedKindsModel" "signed" "[Z", Cond.fieldLink RX4 7 "FixedKindsModel" "width" "[I", Cond.methodLink RX4 91 yX4_unsigned, Cond.instanceMethod yX4_unsigned, Cond.selects RX4 yX4_unsigned yX4_unsigned]
def wsX4_compare_r2 : List Cond := [Cond.code yX4_unsigned cX4_unsigned 4 (some .long), Cond.methodLink RX4 64 yX4_set, Cond.instanceMethod yX4_set, Cond.selects RX4 yX4_set yX4_set, Cond.code yX4_set cX4_set 7 none, Cond.fieldLink RX4 36 "FixedKindsModel" "part" "[I", Cond.constantLong RX4 46 (65535), Cond.methodLink RX4 102 yX4_multiplyBy, Cond.instanceMethod yX4_multiplyBy, Cond.selects RX4 yX4_multiplyBy yX4_multiplyBy, Cond.code yX4_multiplyBy cX4_multiplyBy 5 none, Cond.methodLink RX4 68 yX4_multiply, Cond.instanceMethod yX4_multiply, Cond.selects RX4 yX4_multiply yX4_multiply, Cond.code yX4_multiply cX4_multiply 9 none, Cond.methodLink RX4 106 yX4_add, Cond.instanceMethod yX4_add, Cond.selects RX4 yX4_add yX4_add, Cond.code yX4_add cX4_add 8 none, Cond.methodLink RX4 49 yX4_addSizes, Cond.instanceMethod yX4_addSizes, Cond.selects RX4 yX4_addSizes yX4_addSizes, Cond.code yX4_addSizes cX4_addSizes 6 none, Cond.constant RX4 48 (65535)]
def wsX4_compare_r3 : List Cond := [Cond.methodLink RX4 53 yX4_sizes, Cond.instanceMethod yX4_sizes, Cond.selects RX4 yX4_sizes yX4_sizes, Cond.code yX4_sizes cX4_sizes 6 (some .int), Cond.methodLink RX4 57 yX4_lessSizes, Cond.instanceMethod yX4_lessSizes, Cond.selects RX4 yX4_lessSizes yX4_lessSizes, Cond.code yX4_lessSizes cX4_lessSizes 6 none, Cond.methodLink RX4 60 yX4_nothing, Cond.instanceMethod yX4_nothing, Cond.selects RX4 yX4_nothing yX4_nothing, Cond.code yX4_nothing cX4_nothing 4 (some .boolean)]
def wsX4_compare : List Cond := .code yX4_compare cX4_compare 7 (some .int) :: ((wsX4_compare_r1 ++ (wsX4_compare_r2 ++ wsX4_compare_r3)) ++ wsX40)
def wsX4_octet : List Cond := .code yX4_octet cX4_octet 5 (some .byte) :: ([.fieldLink RX4 7 "FixedKindsModel" "width" "[I", .constantLong RX4 151 (255), .methodLink RX4 88 yX4_none, .instanceMethod yX4_none, .selects RX4 yX4_none yX4_none, .initialized RX4, .code yX4_none cX4_none 2 (some .boolean), .fieldLink RX4 42 "FixedKindsModel" "code" "I", .fieldLink RX4 79 "FixedKindsModel" "kinds" "I", .methodLink RX4 91 yX4_unsigned, .instanceMethod yX4_unsigned, .selects RX4 yX4_unsigned yX4_unsigned, .code yX4_unsigned cX4_unsigned 4 (some .long)] ++ wsX40)
def wsX4_half : List Cond := .code yX4_half cX4_half 4 (some .short) :: ([.fieldLink RX4 7 "FixedKindsModel" "width" "[I", .constantLong RX4 46 (65535), .methodLink RX4 88 yX4_none, .instanceMethod yX4_none, .selects RX4 yX4_none yX4_none, .initialized RX4, .code yX4_none cX4_none 2 (some .boolean), .fieldLink RX4 42 "FixedKindsModel" "code" "I", .fieldLink RX4 79 "FixedKindsModel" "kinds" "I", .methodLink RX4 91 yX4_unsigned, .instanceMethod yX4_unsigned, .selects RX4 yX4_unsigned yX4_unsigned, .code yX4_unsigned cX4_unsigned 4 (some .long)] ++ wsX40)
def wsJx00060_init_a7421 : List Cond := .code yJx00060_init_a7421 cJx00060_init_a7421 2 none :: ([])
theorem dJx00060_init_a7421_0 : decode cJx00060_init_a7421 0 = .ok (.aload_n 0, 1) := by decide +kernel
theorem dJx00060_init_a7421_1 : decode cJx00060_init_a7421 1 = .ok (.aload_n 1, 1) := by decide +kernel
theorem dJx00060_init_a7421_2 : decode cJx00060_init_a7421 2 = .ok (.invokespecial 7, 3) := by decide +kernel
theorem dJx00060_init_a7421_5 : decode cJx00060_init_a7421 5 = .ok (.return_, 1) := by decide +kernel
abbrev vwCl : List vw_C := [(RJx00060, TJx00060, 6), (RX0, TX0, 2), (RX1, TX1, 7), (RX2, TX2, 1), (RX3, TX3, 8), (RX4, TX4, 14)]
end
section
theorem dX1_init_0 : decode cX1_init 0 = .ok (.aload_n 0, 1) := by decide +kernel
theorem dX1_init_1 : decode cX1_init 1 = .ok (.invokespecial 3, 3) := by decide +kernel
theorem dX1_init_4 : decode cX1_init 4 = .ok (.aload_n 0, 1) := by decide +kernel
theorem dX1_init_5 : decode cX1_init 5 = .ok (.iload_n 1, 1) := by decide +kernel
theorem dX1_init_6 : decode cX1_init 6 = .ok (.putfield 9, 3) := by decide +kernel
theorem dX1_init_9 : decode cX1_init 9 = .ok (.aload_n 0, 1) := by decide +kernel
theorem dX1_init_10 : decode cX1_init 10 = .ok (.iload_n 2, 1) := by decide +kernel
theorem dX1_init_11 : decode cX1_init 11 = .ok (.putfield 15, 3) := by decide +kernel
theorem dX1_init_14 : decode cX1_init 14 = .ok (.aload_n 0, 1) := by decide +kernel
theorem dX1_init_15 : decode cX1_init 15 = .ok (.lload_n 3, 1) := by decide +kernel
theorem dX1_init_16 : decode cX1_init 16 = .ok (.putfield 19, 3) := by decide +kernel
theorem dX1_init_19 : decode cX1_init 19 = .ok (.aload_n 0, 1) := by decide +kernel
theorem dX1_init_20 : decode cX1_init 20 = .ok (.lload 5, 2) := by decide +kernel
theorem dX1_init_22 : decode cX1_init 22 = .ok (.putfield 23, 3) := by decide +kernel
theorem dX1_init_25 : decode cX1_init 25 = .ok (.aload_n 0, 1) := by decide +kernel
theorem dX1_init_26 : decode cX1_init 26 = .ok (.lload 7, 2) := by decide +kernel
theorem dX1_init_28 : decode cX1_init 28 = .ok (.putfield 26, 3) := by decide +kernel
theorem dX1_init_31 : decode cX1_init 31 = .ok (.aload_n 0, 1) := by decide +kernel
theorem dX1_init_32 : decode cX1_init 32 = .ok (.iconst 0, 1) := by decide +kernel
theorem dX1_init_33 : decode cX1_init 33 = .ok (.putfield 29, 3) := by decide +kernel
theorem dX1_init_36 : decode cX1_init 36 = .ok (.aload_n 0, 1) := by decide +kernel
theorem dX1_init_37 : decode cX1_init 37 = .ok (.iconst 0, 1) := by decide +kernel
theorem dX1_init_38 : decode cX1_init 38 = .ok (.putfield 32, 3) := by decide +kernel
theorem dX1_init_41 : decode cX1_init 41 = .ok (.return_, 1) := by decide +kernel
theorem dX1_least_0 : decode cX1_least 0 = .ok (.aload_n 0, 1) := by decide +kernel
theorem dX1_least_1 : decode cX1_least 1 = .ok (.getfield 15, 3) := by decide +kernel
theorem dX1_least_4 : decode cX1_least 4 = .ok (.ifCond .eq 16, 3) := by decide +kernel
theorem dX1_least_7 : decode cX1_least 7 = .ok (.ldc2_w 35, 3) := by decide +kernel
theorem dX1_least_10 : decode cX1_least 10 = .ok (.aload_n 0, 1) := by decide +kernel
theorem dX1_least_11 : decode cX1_least 11 = .ok (.getfield 9, 3) := by decide +kernel
theorem dX1_least_14 : decode cX1_least 14 = .ok (.iconst 1, 1) := by decide +kernel
theorem dX1_least_15 : decode cX1_least 15 = .ok (.isub, 1) := by decide +kernel
theorem dX1_least_16 : decode cX1_least 16 = .ok (.lshl, 1) := by decide +kernel
theorem dX1_least_17 : decode cX1_least 17 = .ok (.goto 4, 3) := by decide +kernel
theorem dX1_least_20 : decode cX1_least 20 = .ok (.lconst 0, 1) := by decide +kernel
theorem dX1_least_21 : decode cX1_least 21 = .ok (.lreturn, 1) := by decide +kernel
theorem dX1_greatest_0 : decode cX1_greatest 0 = .ok (.aload_n 0, 1) := by decide +kernel
theorem dX1_greatest_1 : decode cX1_greatest 1 = .ok (.getfield 15, 3) := by decide +kernel
theorem dX1_greatest_4 : decode cX1_greatest 4 = .ok (.ifCond .eq 14, 3) := by decide +kernel
theorem dX1_greatest_7 : decode cX1_greatest 7 = .ok (.aload_n 0, 1) := by decide +kernel
theorem dX1_greatest_8 : decode cX1_greatest 8 = .ok (.invokevirtual 37, 3) := by decide +kernel
theorem dX1_greatest_11 : decode cX1_greatest 11 = .ok (.ldc2_w 35, 3) := by decide +kernel
theorem dX1_greatest_14 : decode cX1_greatest 14 = .ok (.lxor, 1) := by decide +kernel
theorem dX1_greatest_15 : decode cX1_greatest 15 = .ok (.goto 11, 3) := by decide +kernel
theorem dX1_greatest_18 : decode cX1_greatest 18 = .ok (.lconst 1, 1) := by decide +kernel
theorem dX1_greatest_19 : decode cX1_greatest 19 = .ok (.aload_n 0, 1) := by decide +kernel
theorem dX1_greatest_20 : decode cX1_greatest 20 = .ok (.getfield 9, 3) := by decide +kernel
theorem dX1_greatest_23 : decode cX1_greatest 23 = .ok (.lshl, 1) := by decide +kernel
theorem dX1_greatest_24 : decode cX1_greatest 24 = .ok (.lconst 1, 1) := by decide +kernel
theorem dX1_greatest_25 : decode cX1_greatest 25 = .ok (.lsub, 1) := by decide +kernel
theorem dX1_greatest_26 : decode cX1_greatest 26 = .ok (.lreturn, 1) := by decide +kernel
theorem dX1_isRaw_0 : decode cX1_isRaw 0 = .ok (.lload_n 1, 1) := by decide +kernel
theorem dX1_isRaw_1 : decode cX1_isRaw 1 = .ok (.aload_n 0, 1) := by decide +kernel
theorem dX1_isRaw_2 : decode cX1_isRaw 2 = .ok (.invokevirtual 37, 3) := by decide +kernel
theorem dX1_isRaw_5 : decode cX1_isRaw 5 = .ok (.lcmp, 1) := by decide +kernel
theorem dX1_isRaw_6 : decode cX1_isRaw 6 = .ok (.ifCond .lt 16, 3) := by decide +kernel
theorem dX1_isRaw_9 : decode cX1_isRaw 9 = .ok (.lload_n 1, 1) := by decide +kernel
theorem dX1_isRaw_10 : decode cX1_isRaw 10 = .ok (.aload_n 0, 1) := by decide +kernel
theorem dX1_isRaw_11 : decode cX1_isRaw 11 = .ok (.invokevirtual 41, 3) := by decide +kernel
theorem dX1_isRaw_14 : decode cX1_isRaw 14 = .ok (.lcmp, 1) := by decide +kernel
theorem dX1_isRaw_15 : decode cX1_isRaw 15 = .ok (.ifCond .gt 7, 3) := by decide +kernel
theorem dX1_isRaw_18 : decode cX1_isRaw 18 = .ok (.iconst 1, 1) := by decide +kernel
theorem dX1_isRaw_19 : decode cX1_isRaw 19 = .ok (.goto 4, 3) := by decide +kernel
theorem dX1_isRaw_22 : decode cX1_isRaw 22 = .ok (.iconst 0, 1) := by decide +kernel
theorem dX1_isRaw_23 : decode cX1_isRaw 23 = .ok (.ireturn, 1) := by decide +kernel
theorem dX1_broughtIn_0 : decode cX1_broughtIn 0 = .ok (.bipush 64, 2) := by decide +kernel
theorem dX1_broughtIn_2 : decode cX1_broughtIn 2 = .ok (.aload_n 0, 1) := by decide +kernel
theorem dX1_broughtIn_3 : decode cX1_broughtIn 3 = .ok (.getfield 9, 3) := by decide +kernel
theorem dX1_broughtIn_6 : decode cX1_broughtIn 6 = .ok (.isub, 1) := by decide +kernel
theorem dX1_broughtIn_7 : decode cX1_broughtIn 7 = .ok (.istore_n 3, 1) := by decide +kernel
theorem dX1_broughtIn_8 : decode cX1_broughtIn 8 = .ok (.aload_n 0, 1) := by decide +kernel
theorem dX1_broughtIn_9 : decode cX1_broughtIn 9 = .ok (.getfield 15, 3) := by decide +kernel
theorem dX1_broughtIn_12 : decode cX1_broughtIn 12 = .ok (.ifCond .eq 11, 3) := by decide +kernel
theorem dX1_broughtIn_15 : decode cX1_broughtIn 15 = .ok (.lload_n 1, 1) := by decide +kernel
theorem dX1_broughtIn_16 : decode cX1_broughtIn 16 = .ok (.iload_n 3, 1) := by decide +kernel
theorem dX1_broughtIn_17 : decode cX1_broughtIn 17 = .ok (.lshl, 1) := by decide +kernel
theorem dX1_broughtIn_18 : decode cX1_broughtIn 18 = .ok (.iload_n 3, 1) := by decide +kernel
theorem dX1_broughtIn_19 : decode cX1_broughtIn 19 = .ok (.lshr, 1) := by decide +kernel
theorem dX1_broughtIn_20 : decode cX1_broughtIn 20 = .ok (.goto 8, 3) := by decide +kernel
theorem dX1_broughtIn_23 : decode cX1_broughtIn 23 = .ok (.lload_n 1, 1) := by decide +kernel
theorem dX1_broughtIn_24 : decode cX1_broughtIn 24 = .ok (.iload_n 3, 1) := by decide +kernel
theorem dX1_broughtIn_25 : decode cX1_broughtIn 25 = .ok (.lshl, 1) := by decide +kernel
theorem dX1_broughtIn_26 : decode cX1_broughtIn 26 = .ok (.iload_n 3, 1) := by decide +kernel
theorem dX1_broughtIn_27 : decode cX1_broughtIn 27 = .ok (.lushr, 1) := by decide +kernel
theorem dX1_broughtIn_28 : decode cX1_broughtIn 28 = .ok (.lreturn, 1) := by decide +kernel
theorem dX1_bits_0 : decode cX1_bits 0 = .ok (.bipush 64, 2) := by decide +kernel
theorem dX1_bits_2 : decode cX1_bits 2 = .ok (.aload_n 0, 1) := by decide +kernel
theorem dX1_bits_3 : decode cX1_bits 3 = .ok (.getfield 9, 3) := by decide +kernel
theorem dX1_bits_6 : decode cX1_bits 6 = .ok (.isub, 1) := by decide +kernel
theorem dX1_bits_7 : decode cX1_bits 7 = .ok (.istore_n 3, 1) := by decide +kernel
theorem dX1_bits_8 : decode cX1_bits 8 = .ok (.lload_n 1, 1) := by decide +kernel
theorem dX1_bits_9 : decode cX1_bits 9 = .ok (.iload_n 3, 1) := by decide +kernel
theorem dX1_bits_10 : decode cX1_bits 10 = .ok (.lshl, 1) := by decide +kernel
theorem dX1_bits_11 : decode cX1_bits 11 = .ok (.iload_n 3, 1) := by decide +kernel
theorem dX1_bits_12 : decode cX1_bits 12 = .ok (.lushr, 1) := by decide +kernel
theorem dX1_bits_13 : decode cX1_bits 13 = .ok (.lreturn, 1) := by decide +kernel
theorem dX1_octets_0 : decode cX1_octets 0 = .ok (.aload_n 0, 1) := by decide +kernel
theorem dX1_octets_1 : decode cX1_octets 1 = .ok (.getfield 9, 3) := by decide +kernel
theorem dX1_octets_4 : decode cX1_octets 4 = .ok (.bipush 7, 2) := by decide +kernel
theorem dX1_octets_6 : decode cX1_octets 6 = .ok (.iadd, 1) := by decide +kernel
theorem dX1_octets_7 : decode cX1_octets 7 = .ok (.bipush 8, 2) := by decide +kernel
theorem dX1_octets_9 : decode cX1_octets 9 = .ok (.idiv, 1) := by decide +kernel
theorem dX1_octets_10 : decode cX1_octets 10 = .ok (.ireturn, 1) := by decide +kernel
end
section
theorem dX2_init_0 : decode cX2_init 0 = .ok (.aload_n 0, 1) := by decide +kernel
theorem dX2_init_1 : decode cX2_init 1 = .ok (.invokespecial 3, 3) := by decide +kernel
theorem dX2_init_4 : decode cX2_init 4 = .ok (.aload_n 0, 1) := by decide +kernel
theorem dX2_init_5 : decode cX2_init 5 = .ok (.bipush 12, 2) := by decide +kernel
theorem dX2_init_7 : decode cX2_init 7 = .ok (.newarray .long, 2) := by decide +kernel
theorem dX2_init_9 : decode cX2_init 9 = .ok (.putfield 9, 3) := by decide +kernel
theorem dX2_init_12 : decode cX2_init 12 = .ok (.return_, 1) := by decide +kernel
theorem dX2_setTo_0 : decode cX2_setTo 0 = .ok (.lload_n 1, 1) := by decide +kernel
theorem dX2_setTo_1 : decode cX2_setTo 1 = .ok (.lstore_n 3, 1) := by decide +kernel
theorem dX2_setTo_2 : decode cX2_setTo 2 = .ok (.iconst 0, 1) := by decide +kernel
theorem dX2_setTo_3 : decode cX2_setTo 3 = .ok (.istore 5, 2) := by decide +kernel
theorem dX2_setTo_5 : decode cX2_setTo 5 = .ok (.iload 5, 2) := by decide +kernel
theorem dX2_setTo_7 : decode cX2_setTo 7 = .ok (.bipush 12, 2) := by decide +kernel
theorem dX2_setTo_9 : decode cX2_setTo 9 = .ok (.if_icmp .ge 26, 3) := by decide +kernel
theorem dX2_setTo_12 : decode cX2_setTo 12 = .ok (.aload_n 0, 1) := by decide +kernel
theorem dX2_setTo_13 : decode cX2_setTo 13 = .ok (.getfield 9, 3) := by decide +kernel
theorem dX2_setTo_16 : decode cX2_setTo 16 = .ok (.iload 5, 2) := by decide +kernel
theorem dX2_setTo_18 : decode cX2_setTo 18 = .ok (.lload_n 3, 1) := by decide +kernel
theorem dX2_setTo_19 : decode cX2_setTo 19 = .ok (.ldc2_w 15, 3) := by decide +kernel
theorem dX2_setTo_22 : decode cX2_setTo 22 = .ok (.land, 1) := by decide +kernel
theorem dX2_setTo_23 : decode cX2_setTo 23 = .ok (.lastore, 1) := by decide +kernel
theorem dX2_setTo_24 : decode cX2_setTo 24 = .ok (.lload_n 3, 1) := by decide +kernel
theorem dX2_setTo_25 : decode cX2_setTo 25 = .ok (.bipush 16, 2) := by decide +kernel
theorem dX2_setTo_27 : decode cX2_setTo 27 = .ok (.lshr, 1) := by decide +kernel
theorem dX2_setTo_28 : decode cX2_setTo 28 = .ok (.lstore_n 3, 1) := by decide +kernel
theorem dX2_setTo_29 : decode cX2_setTo 29 = .ok (.iinc 5 1, 3) := by decide +kernel
theorem dX2_setTo_32 : decode cX2_setTo 32 = .ok (.goto (-27), 3) := by decide +kernel
theorem dX2_setTo_35 : decode cX2_setTo 35 = .ok (.return_, 1) := by decide +kernel
theorem dX2_copy_0 : decode cX2_copy 0 = .ok (.iconst 0, 1) := by decide +kernel
theorem dX2_copy_1 : decode cX2_copy 1 = .ok (.istore_n 2, 1) := by decide +kernel
theorem dX2_copy_2 : decode cX2_copy 2 = .ok (.iload_n 2, 1) := by decide +kernel
theorem dX2_copy_3 : decode cX2_copy 3 = .ok (.bipush 12, 2) := by decide +kernel
theorem dX2_copy_5 : decode cX2_copy 5 = .ok (.if_icmp .ge 21, 3) := by decide +kernel
theorem dX2_copy_8 : decode cX2_copy 8 = .ok (.aload_n 0, 1) := by decide +kernel
theorem dX2_copy_9 : decode cX2_copy 9 = .ok (.getfield 9, 3) := by decide +kernel
theorem dX2_copy_12 : decode cX2_copy 12 = .ok (.iload_n 2, 1) := by decide +kernel
theorem dX2_copy_13 : decode cX2_copy 13 = .ok (.aload_n 1, 1) := by decide +kernel
theorem dX2_copy_14 : decode cX2_copy 14 = .ok (.getfield 9, 3) := by decide +kernel
theorem dX2_copy_17 : decode cX2_copy 17 = .ok (.iload_n 2, 1) := by decide +kernel
theorem dX2_copy_18 : decode cX2_copy 18 = .ok (.laload, 1) := by decide +kernel
theorem dX2_copy_19 : decode cX2_copy 19 = .ok (.lastore, 1) := by decide +kernel
theorem dX2_copy_20 : decode cX2_copy 20 = .ok (.iinc 2 1, 3) := by decide +kernel
theorem dX2_copy_23 : decode cX2_copy 23 = .ok (.goto (-21), 3) := by decide +kernel
theorem dX2_copy_26 : decode cX2_copy 26 = .ok (.return_, 1) := by decide +kernel
theorem dX2_isNegative_0 : decode cX2_isNegative 0 = .ok (.aload_n 0, 1) := by decide +kernel
theorem dX2_isNegative_1 : decode cX2_isNegative 1 = .ok (.getfield 9, 3) := by decide +kernel
theorem dX2_isNegative_4 : decode cX2_isNegative 4 = .ok (.bipush 11, 2) := by decide +kernel
theorem dX2_isNegative_6 : decode cX2_isNegative 6 = .ok (.laload, 1) := by decide +kernel
theorem dX2_isNegative_7 : decode cX2_isNegative 7 = .ok (.bipush 15, 2) := by decide +kernel
theorem dX2_isNegative_9 : decode cX2_isNegative 9 = .ok (.lshr, 1) := by decide +kernel
theorem dX2_isNegative_10 : decode cX2_isNegative 10 = .ok (.lconst 0, 1) := by decide +kernel
theorem dX2_isNegative_11 : decode cX2_isNegative 11 = .ok (.lcmp, 1) := by decide +kernel
theorem dX2_isNegative_12 : decode cX2_isNegative 12 = .ok (.ifCond .eq 7, 3) := by decide +kernel
theorem dX2_isNegative_15 : decode cX2_isNegative 15 = .ok (.iconst 1, 1) := by decide +kernel
theorem dX2_isNegative_16 : decode cX2_isNegative 16 = .ok (.goto 4, 3) := by decide +kernel
theorem dX2_isNegative_19 : decode cX2_isNegative 19 = .ok (.iconst 0, 1) := by decide +kernel
theorem dX2_isNegative_20 : decode cX2_isNegative 20 = .ok (.ireturn, 1) := by decide +kernel
theorem dX2_isZero_0 : decode cX2_isZero 0 = .ok (.aload_n 0, 1) := by decide +kernel
theorem dX2_isZero_1 : decode cX2_isZero 1 = .ok (.invokevirtual 17, 3) := by decide +kernel
theorem dX2_isZero_4 : decode cX2_isZero 4 = .ok (.ifCond .ne 7, 3) := by decide +kernel
theorem dX2_isZero_7 : decode cX2_isZero 7 = .ok (.iconst 1, 1) := by decide +kernel
theorem dX2_isZero_8 : decode cX2_isZero 8 = .ok (.goto 4, 3) := by decide +kernel
theorem dX2_isZero_11 : decode cX2_isZero 11 = .ok (.iconst 0, 1) := by decide +kernel
theorem dX2_isZero_12 : decode cX2_isZero 12 = .ok (.ireturn, 1) := by decide +kernel
theorem dX2_isOdd_0 : decode cX2_isOdd 0 = .ok (.aload_n 0, 1) := by decide +kernel
theorem dX2_isOdd_1 : decode cX2_isOdd 1 = .ok (.getfield 9, 3) := by decide +kernel
theorem dX2_isOdd_4 : decode cX2_isOdd 4 = .ok (.iconst 0, 1) := by decide +kernel
theorem dX2_isOdd_5 : decode cX2_isOdd 5 = .ok (.laload, 1) := by decide +kernel
theorem dX2_isOdd_6 : decode cX2_isOdd 6 = .ok (.lconst 1, 1) := by decide +kernel
theorem dX2_isOdd_7 : decode cX2_isOdd 7 = .ok (.land, 1) := by decide +kernel
theorem dX2_isOdd_8 : decode cX2_isOdd 8 = .ok (.lconst 0, 1) := by decide +kernel
theorem dX2_isOdd_9 : decode cX2_isOdd 9 = .ok (.lcmp, 1) := by decide +kernel
theorem dX2_isOdd_10 : decode cX2_isOdd 10 = .ok (.ifCond .eq 7, 3) := by decide +kernel
theorem dX2_isOdd_13 : decode cX2_isOdd 13 = .ok (.iconst 1, 1) := by decide +kernel
theorem dX2_isOdd_14 : decode cX2_isOdd 14 = .ok (.goto 4, 3) := by decide +kernel
theorem dX2_isOdd_17 : decode cX2_isOdd 17 = .ok (.iconst 0, 1) := by decide +kernel
theorem dX2_isOdd_18 : decode cX2_isOdd 18 = .ok (.ireturn, 1) := by decide +kernel
theorem dX2_size_0 : decode cX2_size 0 = .ok (.bipush 12, 2) := by decide +kernel
theorem dX2_size_2 : decode cX2_size 2 = .ok (.istore_n 1, 1) := by decide +kernel
theorem dX2_size_3 : decode cX2_size 3 = .ok (.iload_n 1, 1) := by decide +kernel
theorem dX2_size_4 : decode cX2_size 4 = .ok (.ifCond .le 22, 3) := by decide +kernel
theorem dX2_size_7 : decode cX2_size 7 = .ok (.aload_n 0, 1) := by decide +kernel
theorem dX2_size_8 : decode cX2_size 8 = .ok (.getfield 9, 3) := by decide +kernel
theorem dX2_size_11 : decode cX2_size 11 = .ok (.iload_n 1, 1) := by decide +kernel
theorem dX2_size_12 : decode cX2_size 12 = .ok (.iconst 1, 1) := by decide +kernel
theorem dX2_size_13 : decode cX2_size 13 = .ok (.isub, 1) := by decide +kernel
theorem dX2_size_14 : decode cX2_size 14 = .ok (.laload, 1) := by decide +kernel
theorem dX2_size_15 : decode cX2_size 15 = .ok (.lconst 0, 1) := by decide +kernel
theorem dX2_size_16 : decode cX2_size 16 = .ok (.lcmp, 1) := by decide +kernel
theorem dX2_size_17 : decode cX2_size 17 = .ok (.ifCond .ne 9, 3) := by decide +kernel
theorem dX2_size_20 : decode cX2_size 20 = .ok (.iinc 1 (-1), 3) := by decide +kernel
theorem dX2_size_23 : decode cX2_size 23 = .ok (.goto (-20), 3) := by decide +kernel
theorem dX2_size_26 : decode cX2_size 26 = .ok (.iload_n 1, 1) := by decide +kernel
theorem dX2_size_27 : decode cX2_size 27 = .ok (.ireturn, 1) := by decide +kernel
theorem dX2_limb_0 : decode cX2_limb 0 = .ok (.iload_n 1, 1) := by decide +kernel
theorem dX2_limb_1 : decode cX2_limb 1 = .ok (.ifCond .lt 18, 3) := by decide +kernel
theorem dX2_limb_4 : decode cX2_limb 4 = .ok (.iload_n 1, 1) := by decide +kernel
theorem dX2_limb_5 : decode cX2_limb 5 = .ok (.bipush 12, 2) := by decide +kernel
theorem dX2_limb_7 : decode cX2_limb 7 = .ok (.if_icmp .ge 12, 3) := by decide +kernel
theorem dX2_limb_10 : decode cX2_limb 10 = .ok (.aload_n 0, 1) := by decide +kernel
theorem dX2_limb_11 : decode cX2_limb 11 = .ok (.getfield 9, 3) := by decide +kernel
theorem dX2_limb_14 : decode cX2_limb 14 = .ok (.iload_n 1, 1) := by decide +kernel
theorem dX2_limb_15 : decode cX2_limb 15 = .ok (.laload, 1) := by decide +kernel
theorem dX2_limb_16 : decode cX2_limb 16 = .ok (.goto 4, 3) := by decide +kernel
theorem dX2_limb_19 : decode cX2_limb 19 = .ok (.lconst 0, 1) := by decide +kernel
theorem dX2_limb_20 : decode cX2_limb 20 = .ok (.lreturn, 1) := by decide +kernel
theorem dX2_bitsFrom_0 : decode cX2_bitsFrom 0 = .ok (.lconst 0, 1) := by decide +kernel
theorem dX2_bitsFrom_1 : decode cX2_bitsFrom 1 = .ok (.lstore_n 2, 1) := by decide +kernel
theorem dX2_bitsFrom_2 : decode cX2_bitsFrom 2 = .ok (.iconst 3, 1) := by decide +kernel
theorem dX2_bitsFrom_3 : decode cX2_bitsFrom 3 = .ok (.istore 4, 2) := by decide +kernel
theorem dX2_bitsFrom_5 : decode cX2_bitsFrom 5 = .ok (.iload 4, 2) := by decide +kernel
theorem dX2_bitsFrom_7 : decode cX2_bitsFrom 7 = .ok (.ifCond .lt 23, 3) := by decide +kernel
theorem dX2_bitsFrom_10 : decode cX2_bitsFrom 10 = .ok (.lload_n 2, 1) := by decide +kernel
theorem dX2_bitsFrom_11 : decode cX2_bitsFrom 11 = .ok (.bipush 16, 2) := by decide +kernel
theorem dX2_bitsFrom_13 : decode cX2_bitsFrom 13 = .ok (.lshl, 1) := by decide +kernel
theorem dX2_bitsFrom_14 : decode cX2_bitsFrom 14 = .ok (.aload_n 0, 1) := by decide +kernel
theorem dX2_bitsFrom_15 : decode cX2_bitsFrom 15 = .ok (.iload_n 1, 1) := by decide +kernel
theorem dX2_bitsFrom_16 : decode cX2_bitsFrom 16 = .ok (.iload 4, 2) := by decide +kernel
theorem dX2_bitsFrom_18 : decode cX2_bitsFrom 18 = .ok (.iadd, 1) := by decide +kernel
theorem dX2_bitsFrom_19 : decode cX2_bitsFrom 19 = .ok (.invokevirtual 21, 3) := by decide +kernel
theorem dX2_bitsFrom_22 : decode cX2_bitsFrom 22 = .ok (.lor, 1) := by decide +kernel
theorem dX2_bitsFrom_23 : decode cX2_bitsFrom 23 = .ok (.lstore_n 2, 1) := by decide +kernel
theorem dX2_bitsFrom_24 : decode cX2_bitsFrom 24 = .ok (.iinc 4 (-1), 3) := by decide +kernel
theorem dX2_bitsFrom_27 : decode cX2_bitsFrom 27 = .ok (.goto (-22), 3) := by decide +kernel
theorem dX2_bitsFrom_30 : decode cX2_bitsFrom 30 = .ok (.lload_n 2, 1) := by decide +kernel
theorem dX2_bitsFrom_31 : decode cX2_bitsFrom 31 = .ok (.lreturn, 1) := by decide +kernel
theorem dX2_fitsLong_0 : decode cX2_fitsLong 0 = .ok (.aload_n 0, 1) := by decide +kernel
theorem dX2_fitsLong_1 : decode cX2_fitsLong 1 = .ok (.iconst 0, 1) := by decide +kernel
theorem dX2_fitsLong_2 : decode cX2_fitsLong 2 = .ok (.invokevirtual 25, 3) := by decide +kernel
theorem dX2_fitsLong_5 : decode cX2_fitsLong 5 = .ok (.lstore_n 1, 1) := by decide +kernel
theorem dX2_fitsLong_6 : decode cX2_fitsLong 6 = .ok (.iconst 0, 1) := by decide +kernel
theorem dX2_fitsLong_7 : decode cX2_fitsLong 7 = .ok (.istore_n 3, 1) := by decide +kernel
theorem dX2_fitsLong_8 : decode cX2_fitsLong 8 = .ok (.iload_n 3, 1) := by decide +kernel
theorem dX2_fitsLong_9 : decode cX2_fitsLong 9 = .ok (.bipush 12, 2) := by decide +kernel
theorem dX2_fitsLong_11 : decode cX2_fitsLong 11 = .ok (.if_icmp .ge 31, 3) := by decide +kernel
theorem dX2_fitsLong_14 : decode cX2_fitsLong 14 = .ok (.aload_n 0, 1) := by decide +kernel
theorem dX2_fitsLong_15 : decode cX2_fitsLong 15 = .ok (.getfield 9, 3) := by decide +kernel
theorem dX2_fitsLong_18 : decode cX2_fitsLong 18 = .ok (.iload_n 3, 1) := by decide +kernel
theorem dX2_fitsLong_19 : decode cX2_fitsLong 19 = .ok (.laload, 1) := by decide +kernel
theorem dX2_fitsLong_20 : decode cX2_fitsLong 20 = .ok (.lload_n 1, 1) := by decide +kernel
theorem dX2_fitsLong_21 : decode cX2_fitsLong 21 = .ok (.ldc2_w 15, 3) := by decide +kernel
theorem dX2_fitsLong_24 : decode cX2_fitsLong 24 = .ok (.land, 1) := by decide +kernel
theorem dX2_fitsLong_25 : decode cX2_fitsLong 25 = .ok (.lcmp, 1) := by decide +kernel
theorem dX2_fitsLong_26 : decode cX2_fitsLong 26 = .ok (.ifCond .eq 5, 3) := by decide +kernel
theorem dX2_fitsLong_29 : decode cX2_fitsLong 29 = .ok (.iconst 0, 1) := by decide +kernel
theorem dX2_fitsLong_30 : decode cX2_fitsLong 30 = .ok (.ireturn, 1) := by decide +kernel
theorem dX2_fitsLong_31 : decode cX2_fitsLong 31 = .ok (.lload_n 1, 1) := by decide +kernel
theorem dX2_fitsLong_32 : decode cX2_fitsLong 32 = .ok (.bipush 16, 2) := by decide +kernel
theorem dX2_fitsLong_34 : decode cX2_fitsLong 34 = .ok (.lshr, 1) := by decide +kernel
theorem dX2_fitsLong_35 : decode cX2_fitsLong 35 = .ok (.lstore_n 1, 1) := by decide +kernel
theorem dX2_fitsLong_36 : decode cX2_fitsLong 36 = .ok (.iinc 3 1, 3) := by decide +kernel
theorem dX2_fitsLong_39 : decode cX2_fitsLong 39 = .ok (.goto (-31), 3) := by decide +kernel
theorem dX2_fitsLong_42 : decode cX2_fitsLong 42 = .ok (.iconst 1, 1) := by decide +kernel
theorem dX2_fitsLong_43 : decode cX2_fitsLong 43 = .ok (.ireturn, 1) := by decide +kernel
theorem dX2_grow_0 : decode cX2_grow 0 = .ok (.lload_n 1, 1) := by decide +kernel
theorem dX2_grow_1 : decode cX2_grow 1 = .ok (.lstore_n 3, 1) := by decide +kernel
theorem dX2_grow_2 : decode cX2_grow 2 = .ok (.iconst 0, 1) := by decide +kernel
theorem dX2_grow_3 : decode cX2_grow 3 = .ok (.istore 5, 2) := by decide +kernel
theorem dX2_grow_5 : decode cX2_grow 5 = .ok (.iload 5, 2) := by decide +kernel
theorem dX2_grow_7 : decode cX2_grow 7 = .ok (.bipush 12, 2) := by decide +kernel
theorem dX2_grow_9 : decode cX2_grow 9 = .ok (.if_icmp .ge 36, 3) := by decide +kernel
theorem dX2_grow_12 : decode cX2_grow 12 = .ok (.lload_n 3, 1) := by decide +kernel
theorem dX2_grow_13 : decode cX2_grow 13 = .ok (.aload_n 0, 1) := by decide +kernel
theorem dX2_grow_14 : decode cX2_grow 14 = .ok (.getfield 9, 3) := by decide +kernel
theorem dX2_grow_17 : decode cX2_grow 17 = .ok (.iload 5, 2) := by decide +kernel
theorem dX2_grow_19 : decode cX2_grow 19 = .ok (.laload, 1) := by decide +kernel
theorem dX2_grow_20 : decode cX2_grow 20 = .ok (.ladd, 1) := by decide +kernel
theorem dX2_grow_21 : decode cX2_grow 21 = .ok (.lstore_n 3, 1) := by decide +kernel
theorem dX2_grow_22 : decode cX2_grow 22 = .ok (.aload_n 0, 1) := by decide +kernel
theorem dX2_grow_23 : decode cX2_grow 23 = .ok (.getfield 9, 3) := by decide +kernel
theorem dX2_grow_26 : decode cX2_grow 26 = .ok (.iload 5, 2) := by decide +kernel
theorem dX2_grow_28 : decode cX2_grow 28 = .ok (.lload_n 3, 1) := by decide +kernel
theorem dX2_grow_29 : decode cX2_grow 29 = .ok (.ldc2_w 15, 3) := by decide +kernel
theorem dX2_grow_32 : decode cX2_grow 32 = .ok (.land, 1) := by decide +kernel
theorem dX2_grow_33 : decode cX2_grow 33 = .ok (.lastore, 1) := by decide +kernel
theorem dX2_grow_34 : decode cX2_grow 34 = .ok (.lload_n 3, 1) := by decide +kernel
theorem dX2_grow_35 : decode cX2_grow 35 = .ok (.bipush 16, 2) := by decide +kernel
theorem dX2_grow_37 : decode cX2_grow 37 = .ok (.lshr, 1) := by decide +kernel
theorem dX2_grow_38 : decode cX2_grow 38 = .ok (.lstore_n 3, 1) := by decide +kernel
theorem dX2_grow_39 : decode cX2_grow 39 = .ok (.iinc 5 1, 3) := by decide +kernel
theorem dX2_grow_42 : decode cX2_grow 42 = .ok (.goto (-37), 3) := by decide +kernel
theorem dX2_grow_45 : decode cX2_grow 45 = .ok (.return_, 1) := by decide +kernel
theorem dX2_scale_0 : decode cX2_scale 0 = .ok (.lconst 0, 1) := by decide +kernel
theorem dX2_scale_1 : decode cX2_scale 1 = .ok (.lstore_n 3, 1) := by decide +kernel
theorem dX2_scale_2 : decode cX2_scale 2 = .ok (.iconst 0, 1) := by decide +kernel
theorem dX2_scale_3 : decode cX2_scale 3 = .ok (.istore 5, 2) := by decide +kernel
theorem dX2_scale_5 : decode cX2_scale 5 = .ok (.iload 5, 2) := by decide +kernel
theorem dX2_scale_7 : decode cX2_scale 7 = .ok (.bipush 12, 2) := by decide +kernel
theorem dX2_scale_9 : decode cX2_scale 9 = .ok (.if_icmp .ge 38, 3) := by decide +kernel
theorem dX2_scale_12 : decode cX2_scale 12 = .ok (.lload_n 3, 1) := by decide +kernel
theorem dX2_scale_13 : decode cX2_scale 13 = .ok (.aload_n 0, 1) := by decide +kernel
theorem dX2_scale_14 : decode cX2_scale 14 = .ok (.getfield 9, 3) := by decide +kernel
theorem dX2_scale_17 : decode cX2_scale 17 = .ok (.iload 5, 2) := by decide +kernel
theorem dX2_scale_19 : decode cX2_scale 19 = .ok (.laload, 1) := by decide +kernel
theorem dX2_scale_20 : decode cX2_scale 20 = .ok (.lload_n 1, 1) := by decide +kernel
theorem dX2_scale_21 : decode cX2_scale 21 = .ok (.lmul, 1) := by decide +kernel
theorem dX2_scale_22 : decode cX2_scale 22 = .ok (.ladd, 1) := by decide +kernel
theorem dX2_scale_23 : decode cX2_scale 23 = .ok (.lstore_n 3, 1) := by decide +kernel
theorem dX2_scale_24 : decode cX2_scale 24 = .ok (.aload_n 0, 1) := by decide +kernel
theorem dX2_scale_25 : decode cX2_scale 25 = .ok (.getfield 9, 3) := by decide +kernel
theorem dX2_scale_28 : decode cX2_scale 28 = .ok (.iload 5, 2) := by decide +kernel
theorem dX2_scale_30 : decode cX2_scale 30 = .ok (.lload_n 3, 1) := by decide +kernel
theorem dX2_scale_31 : decode cX2_scale 31 = .ok (.ldc2_w 15, 3) := by decide +kernel
theorem dX2_scale_34 : decode cX2_scale 34 = .ok (.land, 1) := by decide +kernel
theorem dX2_scale_35 : decode cX2_scale 35 = .ok (.lastore, 1) := by decide +kernel
theorem dX2_scale_36 : decode cX2_scale 36 = .ok (.lload_n 3, 1) := by decide +kernel
theorem dX2_scale_37 : decode cX2_scale 37 = .ok (.bipush 16, 2) := by decide +kernel
theorem dX2_scale_39 : decode cX2_scale 39 = .ok (.lshr, 1) := by decide +kernel
theorem dX2_scale_40 : decode cX2_scale 40 = .ok (.lstore_n 3, 1) := by decide +kernel
theorem dX2_scale_41 : decode cX2_scale 41 = .ok (.iinc 5 1, 3) := by decide +kernel
theorem dX2_scale_44 : decode cX2_scale 44 = .ok (.goto (-39), 3) := by decide +kernel
theorem dX2_scale_47 : decode cX2_scale 47 = .ok (.return_, 1) := by decide +kernel
theorem dX2_addTimes_0 : decode cX2_addTimes 0 = .ok (.aload_n 0, 1) := by decide +kernel
theorem dX2_addTimes_1 : decode cX2_addTimes 1 = .ok (.aload_n 1, 1) := by decide +kernel
theorem dX2_addTimes_2 : decode cX2_addTimes 2 = .ok (.bipush 12, 2) := by decide +kernel
theorem dX2_addTimes_4 : decode cX2_addTimes 4 = .ok (.iconst 0, 1) := by decide +kernel
theorem dX2_addTimes_5 : decode cX2_addTimes 5 = .ok (.lload_n 2, 1) := by decide +kernel
theorem dX2_addTimes_6 : decode cX2_addTimes 6 = .ok (.invokevirtual 28, 3) := by decide +kernel
theorem dX2_addTimes_9 : decode cX2_addTimes 9 = .ok (.pop2, 1) := by decide +kernel
theorem dX2_addTimes_10 : decode cX2_addTimes 10 = .ok (.return_, 1) := by decide +kernel
theorem dX2_addShifted_0 : decode cX2_addShifted 0 = .ok (.lconst 0, 1) := by decide +kernel
theorem dX2_addShifted_1 : decode cX2_addShifted 1 = .ok (.lstore 6, 2) := by decide +kernel
theorem dX2_addShifted_3 : decode cX2_addShifted 3 = .ok (.iload_n 3, 1) := by decide +kernel
theorem dX2_addShifted_4 : decode cX2_addShifted 4 = .ok (.istore 8, 2) := by decide +kernel
theorem dX2_addShifted_6 : decode cX2_addShifted 6 = .ok (.iload 8, 2) := by decide +kernel
theorem dX2_addShifted_8 : decode cX2_addShifted 8 = .ok (.ifCond .lt 68, 3) := by decide +kernel
theorem dX2_addShifted_11 : decode cX2_addShifted 11 = .ok (.iload 8, 2) := by decide +kernel
theorem dX2_addShifted_13 : decode cX2_addShifted 13 = .ok (.bipush 12, 2) := by decide +kernel
theorem dX2_addShifted_15 : decode cX2_addShifted 15 = .ok (.if_icmp .ge 61, 3) := by decide +kernel
theorem dX2_addShifted_18 : decode cX2_addShifted 18 = .ok (.iload 8, 2) := by decide +kernel
theorem dX2_addShifted_20 : decode cX2_addShifted 20 = .ok (.iload_n 2, 1) := by decide +kernel
theorem dX2_addShifted_21 : decode cX2_addShifted 21 = .ok (.iload_n 3, 1) := by decide +kernel
theorem dX2_addShifted_22 : decode cX2_addShifted 22 = .ok (.iadd, 1) := by decide +kernel
theorem dX2_addShifted_23 : decode cX2_addShifted 23 = .ok (.if_icmp .gt 53, 3) := by decide +kernel
theorem dX2_addShifted_26 : decode cX2_addShifted 26 = .ok (.lload 6, 2) := by decide +kernel
theorem dX2_addShifted_28 : decode cX2_addShifted 28 = .ok (.aload_n 0, 1) := by decide +kernel
theorem dX2_addShifted_29 : decode cX2_addShifted 29 = .ok (.getfield 9, 3) := by decide +kernel
theorem dX2_addShifted_32 : decode cX2_addShifted 32 = .ok (.iload 8, 2) := by decide +kernel
theorem dX2_addShifted_34 : decode cX2_addShifted 34 = .ok (.laload, 1) := by decide +kernel
theorem dX2_addShifted_35 : decode cX2_addShifted 35 = .ok (.aload_n 1, 1) := by decide +kernel
theorem dX2_addShifted_36 : decode cX2_addShifted 36 = .ok (.iload 8, 2) := by decide +kernel
theorem dX2_addShifted_38 : decode cX2_addShifted 38 = .ok (.iload_n 3, 1) := by decide +kernel
theorem dX2_addShifted_39 : decode cX2_addShifted 39 = .ok (.isub, 1) := by decide +kernel
theorem dX2_addShifted_40 : decode cX2_addShifted 40 = .ok (.invokevirtual 21, 3) := by decide +kernel
theorem dX2_addShifted_43 : decode cX2_addShifted 43 = .ok (.lload 4, 2) := by decide +kernel
theorem dX2_addShifted_45 : decode cX2_addShifted 45 = .ok (.lmul, 1) := by decide +kernel
theorem dX2_addShifted_46 : decode cX2_addShifted 46 = .ok (.ladd, 1) := by decide +kernel
theorem dX2_addShifted_47 : decode cX2_addShifted 47 = .ok (.ladd, 1) := by decide +kernel
theorem dX2_addShifted_48 : decode cX2_addShifted 48 = .ok (.lstore 6, 2) := by decide +kernel
theorem dX2_addShifted_50 : decode cX2_addShifted 50 = .ok (.aload_n 0, 1) := by decide +kernel
theorem dX2_addShifted_51 : decode cX2_addShifted 51 = .ok (.getfield 9, 3) := by decide +kernel
theorem dX2_addShifted_54 : decode cX2_addShifted 54 = .ok (.iload 8, 2) := by decide +kernel
theorem dX2_addShifted_56 : decode cX2_addShifted 56 = .ok (.lload 6, 2) := by decide +kernel
theorem dX2_addShifted_58 : decode cX2_addShifted 58 = .ok (.ldc2_w 15, 3) := by decide +kernel
theorem dX2_addShifted_61 : decode cX2_addShifted 61 = .ok (.land, 1) := by decide +kernel
theorem dX2_addShifted_62 : decode cX2_addShifted 62 = .ok (.lastore, 1) := by decide +kernel
theorem dX2_addShifted_63 : decode cX2_addShifted 63 = .ok (.lload 6, 2) := by decide +kernel
theorem dX2_addShifted_65 : decode cX2_addShifted 65 = .ok (.bipush 16, 2) := by decide +kernel
theorem dX2_addShifted_67 : decode cX2_addShifted 67 = .ok (.lshr, 1) := by decide +kernel
theorem dX2_addShifted_68 : decode cX2_addShifted 68 = .ok (.lstore 6, 2) := by decide +kernel
theorem dX2_addShifted_70 : decode cX2_addShifted 70 = .ok (.iinc 8 1, 3) := by decide +kernel
theorem dX2_addShifted_73 : decode cX2_addShifted 73 = .ok (.goto (-67), 3) := by decide +kernel
theorem dX2_addShifted_76 : decode cX2_addShifted 76 = .ok (.lload 6, 2) := by decide +kernel
theorem dX2_addShifted_78 : decode cX2_addShifted 78 = .ok (.lreturn, 1) := by decide +kernel
theorem dX2_multiply_0 : decode cX2_multiply 0 = .ok (.bipush 11, 2) := by decide +kernel
theorem dX2_multiply_2 : decode cX2_multiply 2 = .ok (.istore_n 2, 1) := by decide +kernel
theorem dX2_multiply_3 : decode cX2_multiply 3 = .ok (.iload_n 2, 1) := by decide +kernel
theorem dX2_multiply_4 : decode cX2_multiply 4 = .ok (.ifCond .lt 53, 3) := by decide +kernel
theorem dX2_multiply_7 : decode cX2_multiply 7 = .ok (.lconst 0, 1) := by decide +kernel
theorem dX2_multiply_8 : decode cX2_multiply 8 = .ok (.lstore_n 3, 1) := by decide +kernel
theorem dX2_multiply_9 : decode cX2_multiply 9 = .ok (.iconst 0, 1) := by decide +kernel
theorem dX2_multiply_10 : decode cX2_multiply 10 = .ok (.istore 5, 2) := by decide +kernel
theorem dX2_multiply_12 : decode cX2_multiply 12 = .ok (.iload 5, 2) := by decide +kernel
theorem dX2_multiply_14 : decode cX2_multiply 14 = .ok (.iload_n 2, 1) := by decide +kernel
theorem dX2_multiply_15 : decode cX2_multiply 15 = .ok (.if_icmp .gt 29, 3) := by decide +kernel
theorem dX2_multiply_18 : decode cX2_multiply 18 = .ok (.lload_n 3, 1) := by decide +kernel
theorem dX2_multiply_19 : decode cX2_multiply 19 = .ok (.aload_n 0, 1) := by decide +kernel
theorem dX2_multiply_20 : decode cX2_multiply 20 = .ok (.getfield 9, 3) := by decide +kernel
theorem dX2_multiply_23 : decode cX2_multiply 23 = .ok (.iload 5, 2) := by decide +kernel
theorem dX2_multiply_25 : decode cX2_multiply 25 = .ok (.laload, 1) := by decide +kernel
theorem dX2_multiply_26 : decode cX2_multiply 26 = .ok (.aload_n 1, 1) := by decide +kernel
theorem dX2_multiply_27 : decode cX2_multiply 27 = .ok (.getfield 9, 3) := by decide +kernel
theorem dX2_multiply_30 : decode cX2_multiply 30 = .ok (.iload_n 2, 1) := by decide +kernel
theorem dX2_multiply_31 : decode cX2_multiply 31 = .ok (.iload 5, 2) := by decide +kernel
theorem dX2_multiply_33 : decode cX2_multiply 33 = .ok (.isub, 1) := by decide +kernel
theorem dX2_multiply_34 : decode cX2_multiply 34 = .ok (.laload, 1) := by decide +kernel
theorem dX2_multiply_35 : decode cX2_multiply 35 = .ok (.lmul, 1) := by decide +kernel
theorem dX2_multiply_36 : decode cX2_multiply 36 = .ok (.ladd, 1) := by decide +kernel
theorem dX2_multiply_37 : decode cX2_multiply 37 = .ok (.lstore_n 3, 1) := by decide +kernel
theorem dX2_multiply_38 : decode cX2_multiply 38 = .ok (.iinc 5 1, 3) := by decide +kernel
theorem dX2_multiply_41 : decode cX2_multiply 41 = .ok (.goto (-29), 3) := by decide +kernel
theorem dX2_multiply_44 : decode cX2_multiply 44 = .ok (.aload_n 0, 1) := by decide +kernel
theorem dX2_multiply_45 : decode cX2_multiply 45 = .ok (.getfield 9, 3) := by decide +kernel
theorem dX2_multiply_48 : decode cX2_multiply 48 = .ok (.iload_n 2, 1) := by decide +kernel
theorem dX2_multiply_49 : decode cX2_multiply 49 = .ok (.lload_n 3, 1) := by decide +kernel
theorem dX2_multiply_50 : decode cX2_multiply 50 = .ok (.lastore, 1) := by decide +kernel
theorem dX2_multiply_51 : decode cX2_multiply 51 = .ok (.iinc 2 (-1), 3) := by decide +kernel
theorem dX2_multiply_54 : decode cX2_multiply 54 = .ok (.goto (-51), 3) := by decide +kernel
theorem dX2_multiply_57 : decode cX2_multiply 57 = .ok (.aload_n 0, 1) := by decide +kernel
theorem dX2_multiply_58 : decode cX2_multiply 58 = .ok (.lconst 0, 1) := by decide +kernel
theorem dX2_multiply_59 : decode cX2_multiply 59 = .ok (.invokevirtual 32, 3) := by decide +kernel
theorem dX2_multiply_62 : decode cX2_multiply 62 = .ok (.return_, 1) := by decide +kernel
theorem dX2_shorten_0 : decode cX2_shorten 0 = .ok (.lload_n 1, 1) := by decide +kernel
theorem dX2_shorten_1 : decode cX2_shorten 1 = .ok (.lconst 0, 1) := by decide +kernel
theorem dX2_shorten_2 : decode cX2_shorten 2 = .ok (.lcmp, 1) := by decide +kernel
theorem dX2_shorten_3 : decode cX2_shorten 3 = .ok (.ifCond .gt 5, 3) := by decide +kernel
theorem dX2_shorten_6 : decode cX2_shorten 6 = .ok (.lconst 0, 1) := by decide +kernel
theorem dX2_shorten_7 : decode cX2_shorten 7 = .ok (.lreturn, 1) := by decide +kernel
theorem dX2_shorten_8 : decode cX2_shorten 8 = .ok (.lconst 0, 1) := by decide +kernel
theorem dX2_shorten_9 : decode cX2_shorten 9 = .ok (.lstore_n 3, 1) := by decide +kernel
theorem dX2_shorten_10 : decode cX2_shorten 10 = .ok (.bipush 11, 2) := by decide +kernel
theorem dX2_shorten_12 : decode cX2_shorten 12 = .ok (.istore 5, 2) := by decide +kernel
theorem dX2_shorten_14 : decode cX2_shorten 14 = .ok (.iload 5, 2) := by decide +kernel
theorem dX2_shorten_16 : decode cX2_shorten 16 = .ok (.ifCond .lt 36, 3) := by decide +kernel
theorem dX2_shorten_19 : decode cX2_shorten 19 = .ok (.lload_n 3, 1) := by decide +kernel
theorem dX2_shorten_20 : decode cX2_shorten 20 = .ok (.bipush 16, 2) := by decide +kernel
theorem dX2_shorten_22 : decode cX2_shorten 22 = .ok (.lshl, 1) := by decide +kernel
theorem dX2_shorten_23 : decode cX2_shorten 23 = .ok (.aload_n 0, 1) := by decide +kernel
theorem dX2_shorten_24 : decode cX2_shorten 24 = .ok (.getfield 9, 3) := by decide +kernel
theorem dX2_shorten_27 : decode cX2_shorten 27 = .ok (.iload 5, 2) := by decide +kernel
theorem dX2_shorten_29 : decode cX2_shorten 29 = .ok (.laload, 1) := by decide +kernel
theorem dX2_shorten_30 : decode cX2_shorten 30 = .ok (.lor, 1) := by decide +kernel
theorem dX2_shorten_31 : decode cX2_shorten 31 = .ok (.lstore_n 3, 1) := by decide +kernel
theorem dX2_shorten_32 : decode cX2_shorten 32 = .ok (.aload_n 0, 1) := by decide +kernel
theorem dX2_shorten_33 : decode cX2_shorten 33 = .ok (.getfield 9, 3) := by decide +kernel
theorem dX2_shorten_36 : decode cX2_shorten 36 = .ok (.iload 5, 2) := by decide +kernel
theorem dX2_shorten_38 : decode cX2_shorten 38 = .ok (.lload_n 3, 1) := by decide +kernel
theorem dX2_shorten_39 : decode cX2_shorten 39 = .ok (.lload_n 1, 1) := by decide +kernel
theorem dX2_shorten_40 : decode cX2_shorten 40 = .ok (.ldiv, 1) := by decide +kernel
theorem dX2_shorten_41 : decode cX2_shorten 41 = .ok (.lastore, 1) := by decide +kernel
theorem dX2_shorten_42 : decode cX2_shorten 42 = .ok (.lload_n 3, 1) := by decide +kernel
theorem dX2_shorten_43 : decode cX2_shorten 43 = .ok (.lload_n 1, 1) := by decide +kernel
theorem dX2_shorten_44 : decode cX2_shorten 44 = .ok (.lrem, 1) := by decide +kernel
theorem dX2_shorten_45 : decode cX2_shorten 45 = .ok (.lstore_n 3, 1) := by decide +kernel
theorem dX2_shorten_46 : decode cX2_shorten 46 = .ok (.iinc 5 (-1), 3) := by decide +kernel
theorem dX2_shorten_49 : decode cX2_shorten 49 = .ok (.goto (-35), 3) := by decide +kernel
theorem dX2_shorten_52 : decode cX2_shorten 52 = .ok (.lload_n 3, 1) := by decide +kernel
theorem dX2_shorten_53 : decode cX2_shorten 53 = .ok (.lreturn, 1) := by decide +kernel
theorem dX2_divide_0 : decode cX2_divide 0 = .ok (.aload_n 2, 1) := by decide +kernel
theorem dX2_divide_1 : decode cX2_divide 1 = .ok (.lconst 0, 1) := by decide +kernel
theorem dX2_divide_2 : decode cX2_divide 2 = .ok (.invokevirtual 36, 3) := by decide +kernel
theorem dX2_divide_5 : decode cX2_divide 5 = .ok (.aload_n 1, 1) := by decide +kernel
theorem dX2_divide_6 : decode cX2_divide 6 = .ok (.invokevirtual 17, 3) := by decide +kernel
theorem dX2_divide_9 : decode cX2_divide 9 = .ok (.istore_n 3, 1) := by decide +kernel
theorem dX2_divide_10 : decode cX2_divide 10 = .ok (.iload_n 3, 1) := by decide +kernel
theorem dX2_divide_11 : decode cX2_divide 11 = .ok (.ifCond .ne 4, 3) := by decide +kernel
theorem dX2_divide_14 : decode cX2_divide 14 = .ok (.return_, 1) := by decide +kernel
theorem dX2_divide_15 : decode cX2_divide 15 = .ok (.aload_n 0, 1) := by decide +kernel
theorem dX2_divide_16 : decode cX2_divide 16 = .ok (.invokevirtual 17, 3) := by decide +kernel
theorem dX2_divide_19 : decode cX2_divide 19 = .ok (.iload_n 3, 1) := by decide +kernel
theorem dX2_divide_20 : decode cX2_divide 20 = .ok (.isub, 1) := by decide +kernel
theorem dX2_divide_21 : decode cX2_divide 21 = .ok (.istore 4, 2) := by decide +kernel
theorem dX2_divide_23 : decode cX2_divide 23 = .ok (.iload 4, 2) := by decide +kernel
theorem dX2_divide_25 : decode cX2_divide 25 = .ok (.ifCond .lt 67, 3) := by decide +kernel
theorem dX2_divide_28 : decode cX2_divide 28 = .ok (.aload_n 0, 1) := by decide +kernel
theorem dX2_divide_29 : decode cX2_divide 29 = .ok (.aload_n 1, 1) := by decide +kernel
theorem dX2_divide_30 : decode cX2_divide 30 = .ok (.iload_n 3, 1) := by decide +kernel
theorem dX2_divide_31 : decode cX2_divide 31 = .ok (.iload 4, 2) := by decide +kernel
theorem dX2_divide_33 : decode cX2_divide 33 = .ok (.invokevirtual 39, 3) := by decide +kernel
theorem dX2_divide_36 : decode cX2_divide 36 = .ok (.lstore 5, 2) := by decide +kernel
theorem dX2_divide_38 : decode cX2_divide 38 = .ok (.lload 5, 2) := by decide +kernel
theorem dX2_divide_40 : decode cX2_divide 40 = .ok (.lconst 0, 1) := by decide +kernel
theorem dX2_divide_41 : decode cX2_divide 41 = .ok (.lcmp, 1) := by decide +kernel
theorem dX2_divide_42 : decode cX2_divide 42 = .ok (.ifCond .le 35, 3) := by decide +kernel
theorem dX2_divide_45 : decode cX2_divide 45 = .ok (.aload_n 0, 1) := by decide +kernel
theorem dX2_divide_46 : decode cX2_divide 46 = .ok (.aload_n 1, 1) := by decide +kernel
theorem dX2_divide_47 : decode cX2_divide 47 = .ok (.iload_n 3, 1) := by decide +kernel
theorem dX2_divide_48 : decode cX2_divide 48 = .ok (.iload 4, 2) := by decide +kernel
theorem dX2_divide_50 : decode cX2_divide 50 = .ok (.lload 5, 2) := by decide +kernel
theorem dX2_divide_52 : decode cX2_divide 52 = .ok (.lneg, 1) := by decide +kernel
theorem dX2_divide_53 : decode cX2_divide 53 = .ok (.invokevirtual 28, 3) := by decide +kernel
theorem dX2_divide_56 : decode cX2_divide 56 = .ok (.lconst 0, 1) := by decide +kernel
theorem dX2_divide_57 : decode cX2_divide 57 = .ok (.lcmp, 1) := by decide +kernel
theorem dX2_divide_58 : decode cX2_divide 58 = .ok (.ifCond .ge 19, 3) := by decide +kernel
theorem dX2_divide_61 : decode cX2_divide 61 = .ok (.aload_n 0, 1) := by decide +kernel
theorem dX2_divide_62 : decode cX2_divide 62 = .ok (.aload_n 1, 1) := by decide +kernel
theorem dX2_divide_63 : decode cX2_divide 63 = .ok (.iload_n 3, 1) := by decide +kernel
theorem dX2_divide_64 : decode cX2_divide 64 = .ok (.iload 4, 2) := by decide +kernel
theorem dX2_divide_66 : decode cX2_divide 66 = .ok (.lconst 1, 1) := by decide +kernel
theorem dX2_divide_67 : decode cX2_divide 67 = .ok (.invokevirtual 28, 3) := by decide +kernel
theorem dX2_divide_70 : decode cX2_divide 70 = .ok (.pop2, 1) := by decide +kernel
theorem dX2_divide_71 : decode cX2_divide 71 = .ok (.lload 5, 2) := by decide +kernel
theorem dX2_divide_73 : decode cX2_divide 73 = .ok (.lconst 1, 1) := by decide +kernel
theorem dX2_divide_74 : decode cX2_divide 74 = .ok (.lsub, 1) := by decide +kernel
theorem dX2_divide_75 : decode cX2_divide 75 = .ok (.lstore 5, 2) := by decide +kernel
theorem dX2_divide_77 : decode cX2_divide 77 = .ok (.aload_n 2, 1) := by decide +kernel
theorem dX2_divide_78 : decode cX2_divide 78 = .ok (.getfield 9, 3) := by decide +kernel
theorem dX2_divide_81 : decode cX2_divide 81 = .ok (.iload 4, 2) := by decide +kernel
theorem dX2_divide_83 : decode cX2_divide 83 = .ok (.lload 5, 2) := by decide +kernel
theorem dX2_divide_85 : decode cX2_divide 85 = .ok (.lastore, 1) := by decide +kernel
theorem dX2_divide_86 : decode cX2_divide 86 = .ok (.iinc 4 (-1), 3) := by decide +kernel
theorem dX2_divide_89 : decode cX2_divide 89 = .ok (.goto (-66), 3) := by decide +kernel
theorem dX2_divide_92 : decode cX2_divide 92 = .ok (.return_, 1) := by decide +kernel
theorem dX2_guessDigit_0 : decode cX2_guessDigit 0 = .ok (.aload_n 1, 1) := by decide +kernel
theorem dX2_guessDigit_1 : decode cX2_guessDigit 1 = .ok (.iload_n 2, 1) := by decide +kernel
theorem dX2_guessDigit_2 : decode cX2_guessDigit 2 = .ok (.iconst 1, 1) := by decide +kernel
theorem dX2_guessDigit_3 : decode cX2_guessDigit 3 = .ok (.isub, 1) := by decide +kernel
theorem dX2_guessDigit_4 : decode cX2_guessDigit 4 = .ok (.invokevirtual 21, 3) := by decide +kernel
theorem dX2_guessDigit_7 : decode cX2_guessDigit 7 = .ok (.bipush 16, 2) := by decide +kernel
theorem dX2_guessDigit_9 : decode cX2_guessDigit 9 = .ok (.lshl, 1) := by decide +kernel
theorem dX2_guessDigit_10 : decode cX2_guessDigit 10 = .ok (.aload_n 1, 1) := by decide +kernel
theorem dX2_guessDigit_11 : decode cX2_guessDigit 11 = .ok (.iload_n 2, 1) := by decide +kernel
theorem dX2_guessDigit_12 : decode cX2_guessDigit 12 = .ok (.iconst 2, 1) := by decide +kernel
theorem dX2_guessDigit_13 : decode cX2_guessDigit 13 = .ok (.isub, 1) := by decide +kernel
theorem dX2_guessDigit_14 : decode cX2_guessDigit 14 = .ok (.invokevirtual 21, 3) := by decide +kernel
theorem dX2_guessDigit_17 : decode cX2_guessDigit 17 = .ok (.lor, 1) := by decide +kernel
theorem dX2_guessDigit_18 : decode cX2_guessDigit 18 = .ok (.lstore 4, 2) := by decide +kernel
theorem dX2_guessDigit_20 : decode cX2_guessDigit 20 = .ok (.lload 4, 2) := by decide +kernel
theorem dX2_guessDigit_22 : decode cX2_guessDigit 22 = .ok (.lconst 0, 1) := by decide +kernel
theorem dX2_guessDigit_23 : decode cX2_guessDigit 23 = .ok (.lcmp, 1) := by decide +kernel
theorem dX2_guessDigit_24 : decode cX2_guessDigit 24 = .ok (.ifCond .ne 5, 3) := by decide +kernel
theorem dX2_guessDigit_27 : decode cX2_guessDigit 27 = .ok (.lconst 0, 1) := by decide +kernel
theorem dX2_guessDigit_28 : decode cX2_guessDigit 28 = .ok (.lreturn, 1) := by decide +kernel
theorem dX2_guessDigit_29 : decode cX2_guessDigit 29 = .ok (.iload_n 2, 1) := by decide +kernel
theorem dX2_guessDigit_30 : decode cX2_guessDigit 30 = .ok (.iload_n 3, 1) := by decide +kernel
theorem dX2_guessDigit_31 : decode cX2_guessDigit 31 = .ok (.iadd, 1) := by decide +kernel
theorem dX2_guessDigit_32 : decode cX2_guessDigit 32 = .ok (.istore 6, 2) := by decide +kernel
theorem dX2_guessDigit_34 : decode cX2_guessDigit 34 = .ok (.aload_n 0, 1) := by decide +kernel
theorem dX2_guessDigit_35 : decode cX2_guessDigit 35 = .ok (.iload 6, 2) := by decide +kernel
theorem dX2_guessDigit_37 : decode cX2_guessDigit 37 = .ok (.invokevirtual 21, 3) := by decide +kernel
theorem dX2_guessDigit_40 : decode cX2_guessDigit 40 = .ok (.bipush 16, 2) := by decide +kernel
theorem dX2_guessDigit_42 : decode cX2_guessDigit 42 = .ok (.lshl, 1) := by decide +kernel
theorem dX2_guessDigit_43 : decode cX2_guessDigit 43 = .ok (.aload_n 0, 1) := by decide +kernel
theorem dX2_guessDigit_44 : decode cX2_guessDigit 44 = .ok (.iload 6, 2) := by decide +kernel
theorem dX2_guessDigit_46 : decode cX2_guessDigit 46 = .ok (.iconst 1, 1) := by decide +kernel
theorem dX2_guessDigit_47 : decode cX2_guessDigit 47 = .ok (.isub, 1) := by decide +kernel
theorem dX2_guessDigit_48 : decode cX2_guessDigit 48 = .ok (.invokevirtual 21, 3) := by decide +kernel
theorem dX2_guessDigit_51 : decode cX2_guessDigit 51 = .ok (.lor, 1) := by decide +kernel
theorem dX2_guessDigit_52 : decode cX2_guessDigit 52 = .ok (.bipush 16, 2) := by decide +kernel
theorem dX2_guessDigit_54 : decode cX2_guessDigit 54 = .ok (.lshl, 1) := by decide +kernel
theorem dX2_guessDigit_55 : decode cX2_guessDigit 55 = .ok (.aload_n 0, 1) := by decide +kernel
theorem dX2_guessDigit_56 : decode cX2_guessDigit 56 = .ok (.iload 6, 2) := by decide +kernel
theorem dX2_guessDigit_58 : decode cX2_guessDigit 58 = .ok (.iconst 2, 1) := by decide +kernel
theorem dX2_guessDigit_59 : decode cX2_guessDigit 59 = .ok (.isub, 1) := by decide +kernel
theorem dX2_guessDigit_60 : decode cX2_guessDigit 60 = .ok (.invokevirtual 21, 3) := by decide +kernel
theorem dX2_guessDigit_63 : decode cX2_guessDigit 63 = .ok (.lor, 1) := by decide +kernel
theorem dX2_guessDigit_64 : decode cX2_guessDigit 64 = .ok (.lload 4, 2) := by decide +kernel
theorem dX2_guessDigit_66 : decode cX2_guessDigit 66 = .ok (.ldiv, 1) := by decide +kernel
theorem dX2_guessDigit_67 : decode cX2_guessDigit 67 = .ok (.lreturn, 1) := by decide +kernel
end
section
set_option maxRecDepth 20000 in
theorem ggX1_greatest_X1_least : GoodIn wsX1_greatest wsX1_least := goodIn_r _ [8, 1, 2, 3, 9, 10, 11, 12, 13, 14, 15] (by decide +kernel) (by decide +kernel)
set_option maxRecDepth 20000 in
theorem gX1_greatest_X1_least : GoodIn wsX1_greatest (wsV RX1 37 RX1 yX1_least wsX1_least) := goodIn_app (goodIn_of _ (by decide +kernel)) ggX1_greatest_X1_least
set_option maxRecDepth 20000 in
theorem ggX1_isRaw_X1_least : GoodIn wsX1_isRaw wsX1_least := goodIn_r _ [5, 6, 7, 8, 13, 14, 15, 16, 17, 18, 19] (by decide +kernel) (by decide +kernel)
set_option maxRecDepth 20000 in
theorem gX1_isRaw_X1_least : GoodIn wsX1_isRaw (wsV RX1 37 RX1 yX1_least wsX1_least) := goodIn_app (goodIn_of _ (by decide +kernel)) ggX1_isRaw_X1_least
set_option maxRecDepth 20000 in
theorem ggX1_isRaw_X1_greatest : GoodIn wsX1_isRaw wsX1_greatest := goodIn_r _ [12, 6, 7, 8, 1, 2, 3, 4, 5, 13, 14, 15, 16, 17, 18, 19] (by decide +kernel) (by decide +kernel)
set_option maxRecDepth 20000 in
theorem gX1_isRaw_X1_greatest : GoodIn wsX1_isRaw (wsV RX1 41 RX1 yX1_greatest wsX1_greatest) := goodIn_app (goodIn_of _ (by decide +kernel)) ggX1_isRaw_X1_greatest
end
section
set_option maxRecDepth 20000 in
theorem ggX2_isZero_X2_size : GoodIn wsX2_isZero wsX2_size := goodIn_r _ [5, 6, 7] (by decide +kernel) (by decide +kernel)
set_option maxRecDepth 20000 in
theorem gX2_isZero_X2_size : GoodIn wsX2_isZero (wsV RX2 17 RX2 yX2_size wsX2_size) := goodIn_app (goodIn_of _ (by decide +kernel)) ggX2_isZero_X2_size
set_option maxRecDepth 20000 in
theorem ggX2_bitsFrom_X2_limb : GoodIn wsX2_bitsFrom wsX2_limb := goodIn_r _ [5, 6, 7] (by decide +kernel) (by decide +kernel)
set_option maxRecDepth 20000 in
theorem gX2_bitsFrom_X2_limb : GoodIn wsX2_bitsFrom (wsV RX2 21 RX2 yX2_limb wsX2_limb) := goodIn_app (goodIn_of _ (by decide +kernel)) ggX2_bitsFrom_X2_limb
set_option maxRecDepth 20000 in
theorem ggX2_fitsLong_X2_bitsFrom : GoodIn wsX2_fitsLong wsX2_bitsFrom := goodIn_r _ [7, 8, 9, 10, 6, 11, 1, 12] (by decide +kernel) (by decide +kernel)
set_option maxRecDepth 20000 in
theorem gX2_fitsLong_X2_bitsFrom : GoodIn wsX2_fitsLong (wsV RX2 25 RX2 yX2_bitsFrom wsX2_bitsFrom) := goodIn_app (goodIn_of _ (by decide +kernel)) ggX2_fitsLong_X2_bitsFrom
set_option maxRecDepth 20000 in
theorem ggX2_addTimes_X2_addShifted : GoodIn wsX2_addTimes wsX2_addShifted := goodIn_r _ [5, 6, 7, 8, 9, 10, 4, 11, 12] (by decide +kernel) (by decide +kernel)
set_option maxRecDepth 20000 in
theorem gX2_addTimes_X2_addShifted : GoodIn wsX2_addTimes (wsV RX2 28 RX2 yX2_addShifted wsX2_addShifted) := goodIn_app (goodIn_of _ (by decide +kernel)) ggX2_addTimes_X2_addShifted
set_option maxRecDepth 20000 in
theorem ggX2_addShifted_X2_limb : GoodIn wsX2_addShifted wsX2_limb := goodIn_r _ [7, 1, 8] (by decide +kernel) (by decide +kernel)
set_option maxRecDepth 20000 in
theorem gX2_addShifted_X2_limb : GoodIn wsX2_addShifted (wsV RX2 21 RX2 yX2_limb wsX2_limb) := goodIn_app (goodIn_of _ (by decide +kernel)) ggX2_addShifted_X2_limb
set_option maxRecDepth 20000 in
theorem ggX2_multiply_X2_grow : GoodIn wsX2_multiply wsX2_grow := goodIn_r _ [6, 1, 7, 8] (by decide +kernel) (by decide +kernel)
set_option maxRecDepth 20000 in
theorem gX2_multiply_X2_grow : GoodIn wsX2_multiply (wsV RX2 32 RX2 yX2_grow wsX2_grow) := goodIn_app (goodIn_of _ (by decide +kernel)) ggX2_multiply_X2_grow
set_option maxRecDepth 20000 in
theorem ggX2_divide_X2_setTo : GoodIn wsX2_divide wsX2_setTo := goodIn_r _ [6, 1, 7, 24] (by decide +kernel) (by decide +kernel)
set_option maxRecDepth 20000 in
theorem gX2_divide_X2_setTo : GoodIn wsX2_divide (wsV RX2 36 RX2 yX2_setTo wsX2_setTo) := goodIn_app (goodIn_of _ (by decide +kernel)) ggX2_divide_X2_setTo
set_option maxRecDepth 20000 in
theorem ggX2_divide_X2_size : GoodIn wsX2_divide wsX2_size := goodIn_r _ [11, 1, 24] (by decide +kernel) (by decide +kernel)
set_option maxRecDepth 20000 in
theorem gX2_divide_X2_size : GoodIn wsX2_divide (wsV RX2 17 RX2 yX2_size wsX2_size) := goodIn_app (goodIn_of _ (by decide +kernel)) ggX2_divide_X2_size
set_option maxRecDepth 20000 in
theorem ggX2_divide_X2_guessDigit : GoodIn wsX2_divide wsX2_guessDigit := goodIn_r _ [15, 16, 17, 18, 5, 19, 1, 24] (by decide +kernel) (by decide +kernel)
set_option maxRecDepth 20000 in
theorem gX2_divide_X2_guessDigit : GoodIn wsX2_divide (wsV RX2 39 RX2 yX2_guessDigit wsX2_guessDigit) := goodIn_app (goodIn_of _ (by decide +kernel)) ggX2_divide_X2_guessDigit
set_option maxRecDepth 20000 in
theorem ggX2_divide_X2_addShifted : GoodIn wsX2_divide wsX2_addShifted := goodIn_r _ [23, 1, 7, 16, 17, 18, 5, 19, 24] (by decide +kernel) (by decide +kernel)
set_option maxRecDepth 20000 in
theorem gX2_divide_X2_addShifted : GoodIn wsX2_divide (wsV RX2 28 RX2 yX2_addShifted wsX2_addShifted) := goodIn_app (goodIn_of _ (by decide +kernel)) ggX2_divide_X2_addShifted
set_option maxRecDepth 20000 in
theorem ggX2_guessDigit_X2_limb : GoodIn wsX2_guessDigit wsX2_limb := goodIn_r _ [5, 6, 7] (by decide +kernel) (by decide +kernel)
set_option maxRecDepth 20000 in
theorem gX2_guessDigit_X2_limb : GoodIn wsX2_guessDigit (wsV RX2 21 RX2 yX2_limb wsX2_limb) := goodIn_app (goodIn_of _ (by decide +kernel)) ggX2_guessDigit_X2_limb
end
section
/-! Int64 and Int32 seen as whole numbers (their toInt). -/
theorem fk_add {x y : Int64} (h1 : -9223372036854775808 ≤ x.toInt + y.toInt) (h2 : x.toInt + y.toInt < 9223372036854775808) : (x + y).toInt = x.toInt + y.toInt := by
  rw [Int64.toInt_add]
  exact Int.bmod_eq_of_le (by omega) (by omega)
theorem fk_sub {x y : Int64} (h1 : -9223372036854775808 ≤ x.toInt - y.toInt) (h2 : x.toInt - y.toInt < 9223372036854775808) : (x - y).toInt = x.toInt - y.toInt := by
  rw [Int64.toInt_sub]
  exact Int.bmod_eq_of_le (by omega) (by omega)
theorem fk_mul {x y : Int64} (h1 : -9223372036854775808 ≤ x.toInt * y.toInt) (h2 : x.toInt * y.toInt < 9223372036854775808) : (x * y).toInt = x.toInt * y.toInt := by
  rw [Int64.toInt_mul]
  exact Int.bmod_eq_of_le (by omega) (by omega)
theorem fk_neg {x : Int64} (h1 : -9223372036854775808 < x.toInt) : (-x).toInt = -x.toInt := by
  have := x.toInt_lt
  rw [Int64.toInt_neg]
  exact Int.bmod_eq_of_le (by omega) (by omega)
theorem fk_nat (x : Int64) : (x.toBitVec.toNat : Int) = x.toInt % 18446744073709551616 := by
  have h : x.toInt = if 2 * x.toBitVec.toNat < 2 ^ 64 then (x.toBitVec.toNat : Int) else (x.toBitVec.toNat : Int) - ((2 ^ 64 : Nat) : Int) := BitVec.toInt_eq_toNat_cond _
  have h2 := x.toBitVec.isLt
  split at h <;> omega
theorem fk_ofnat {x : Int64} {n : Nat} (h : n < 9223372036854775808) (e : x.toBitVec.toNat = n) : x.toInt = n := by
  have h1 := fk_nat x
  have h2 := x.toInt_lt
  have h3 := x.le_toInt
  omega
theorem fk_and {x m : Int64} (k : Nat) (hk : k < 63) (hm : m.toBitVec.toNat = 2 ^ k - 1) : (x &&& m).toInt = x.toInt % ((2 ^ k : Nat) : Int) := by
  have e : (x &&& m).toBitVec.toNat = x.toBitVec.toNat % 2 ^ k := by
    rw [Int64.toBitVec_and, BitVec.toNat_and, hm, Nat.and_two_pow_sub_one_eq_mod]
  have hp : 2 ^ k < 2 ^ 63 := Nat.pow_lt_pow_right (by omega) hk
  have hl : x.toBitVec.toNat % 2 ^ k < 2 ^ k := Nat.mod_lt _ (Nat.two_pow_pos k)
  rw [fk_ofnat (n := x.toBitVec.toNat % 2 ^ k) (by omega) e, Int.natCast_emod, fk_nat]
  exact Int.emod_emod_of_dvd _ (by
    have : (18446744073709551616 : Int) = ((2 ^ k : Nat) : Int) * ((2 ^ (64 - k) : Nat) : Int) := by
      rw [← Int.natCast_mul, ← Nat.pow_add, show k + (64 - k) = 64 by omega]; rfl
    exact ⟨_, this⟩)
theorem fk_m16 (x : Int64) : (x &&& 65535).toInt = x.toInt % 65536 := fk_and 16 (by omega) (by decide)
theorem fk_shr {x y : Int64} (k : Nat) (hy : (y.toBitVec.smod 64).toNat = k) : (x >>> y).toInt = x.toInt / ((2 ^ k : Nat) : Int) := by
  have e : (x >>> y).toInt = x.toInt >>> k := by
    rw [← hy]
    exact BitVec.toInt_sshiftRight ..
  rw [e, Int.shiftRight_eq_div_pow]
theorem fk_s16 (x : Int64) : (x >>> ((16 : Int32).toInt64 &&& 63)).toInt = x.toInt / 65536 := fk_shr 16 (by decide)
theorem fk_divT {x y : Int64} (hx : 0 ≤ x.toInt) (hy : 0 < y.toInt) : (x / y).toInt = x.toInt / y.toInt := by
  rw [Int64.toInt_div_of_ne_right x y (by intro h; rw [h] at hy; revert hy; decide)]
  exact Int.tdiv_eq_ediv_of_nonneg hx
theorem fk_remT {x y : Int64} (hx : 0 ≤ x.toInt) (hy : 0 < y.toInt) : (x - x / y * y).toInt = x.toInt % y.toInt := by
  have h1 := fk_divT hx hy
  have h2 := x.toInt_lt
  have h3 : x.toInt / y.toInt * y.toInt + x.toInt % y.toInt = x.toInt := Int.mul_comm y.toInt _ ▸ Int.mul_ediv_add_emod x.toInt y.toInt
  have h4 := Int.emod_nonneg x.toInt (show y.toInt ≠ 0 by omega)
  have h5 : 0 ≤ x.toInt / y.toInt := Int.ediv_nonneg hx (by omega)
  have h6 : 0 ≤ x.toInt / y.toInt * y.toInt := Int.mul_nonneg h5 (by omega)
  have h7 : (x / y * y).toInt = x.toInt / y.toInt * y.toInt := by
    rw [fk_mul (by rw [h1]; omega) (by rw [h1]; omega), h1]
  rw [fk_sub (by rw [h7]; omega) (by rw [h7]; omega), h7]
  omega
end
section
/-! Numbers in limbs of 16 bits: sums, carries, products, all modulo 65536 ^ n. -/
def fk_T (t : Nat → Int) : Nat → Int
  | 0 => 0
  | n + 1 => fk_T t n + t n * 65536 ^ n
def fk_I (f : Nat → Int64) : Nat → Int := fun i => (f i).toInt
def fk_N (t : Nat → Int) (n : Nat) : Prop := ∀ i, i < n → 0 ≤ t i ∧ t i < 65536
theorem fk_I_def (f : Nat → Int64) (i : Nat) : fk_I f i = (f i).toInt := rfl
theorem fk_T_congr {t u : Nat → Int} {n : Nat} (h : ∀ i, i < n → t i = u i) : fk_T t n = fk_T u n := by
  induction n with
  | zero => rfl
  | succ n ih =>
    rw [fk_T, fk_T, ih (fun i hi => h i (by omega)), h n (by omega)]
theorem fk_pp (n : Nat) : (0 : Int) < 65536 ^ n := Int.pow_pos (by decide)
theorem fk_T_bd {t : Nat → Int} {n : Nat} (h : fk_N t n) : 0 ≤ fk_T t n ∧ fk_T t n < 65536 ^ n := by
  induction n with
  | zero => exact ⟨Int.le_refl _, by simp [fk_T]⟩
  | succ n ih =>
    obtain ⟨h1, h2⟩ := ih (fun i hi => h i (by omega))
    obtain ⟨h3, h4⟩ := h n (by omega)
    have hp := fk_pp n
    have h5 : 0 ≤ t n * 65536 ^ n := Int.mul_nonneg h3 (by omega)
    have h6 : t n * 65536 ^ n ≤ 65535 * 65536 ^ n := Int.mul_le_mul_of_nonneg_right (by omega) (by omega)
    rw [fk_T, Int.pow_succ]
    omega
theorem fk_T_mul (t : Nat → Int) (k : Int) (n : Nat) : fk_T (fun i => t i * k) n = fk_T t n * k := by
  induction n with
  | zero => simp [fk_T]
  | succ n ih => rw [fk_T, fk_T, ih]; grind
theorem fk_T_add (t u : Nat → Int) (n : Nat) : fk_T (fun i => t i + u i) n = fk_T t n + fk_T u n := by
  induction n with
  | zero => simp [fk_T]
  | succ n ih => rw [fk_T, fk_T, fk_T, ih]; grind
/-- from the lowest limb -/
theorem fk_T_low (t : Nat → Int) (n : Nat) : fk_T t (n + 1) = t 0 + 65536 * fk_T (fun i => t (i + 1)) n := by
  induction n with
  | zero => simp [fk_T]
  | succ n ih =>
    rw [fk_T, ih, fk_T]
    rw [Int.pow_succ]
    grind
theorem fk_T_zero {t : Nat → Int} {n : Nat} (h : ∀ i, i < n → t i = 0) : fk_T t n = 0 := by
  induction n with
  | zero => rfl
  | succ n ih => rw [fk_T, ih (fun i hi => h i (by omega)), h n (by omega)]; simp
/-- limbs above: a number is its lower limbs and those above -/
theorem fk_T_split (t : Nat → Int) (k n : Nat) : fk_T t (k + n) = fk_T t k + 65536 ^ k * fk_T (fun i => t (k + i)) n := by
  induction n with
  | zero => simp [fk_T]
  | succ n ih =>
    rw [← Nat.add_assoc, fk_T, ih, fk_T, Int.pow_add]
    grind
/-- carries: after i limbs -/
def fk_C (t : Nat → Int) (c0 : Int) (i : Nat) (g : Nat → Int64) (c : Int) : Prop := fk_N (fk_I g) i ∧ fk_T (fk_I g) i + c * 65536 ^ i = c0 + fk_T t i
theorem fk_C_0 (t : Nat → Int) (c0 : Int) (g : Nat → Int64) : fk_C t c0 0 g c0 := ⟨fun i h => absurd h (Nat.not_lt_zero i), by simp [fk_T]⟩
theorem fk_C_step {t : Nat → Int} {c0 c : Int} {i : Nat} {g : Nat → Int64} {y : Int64} (h : fk_C t c0 i g c) (hy : y.toInt = (c + t i) % 65536) : fk_C t c0 (i + 1) (vp_updL g i y) ((c + t i) / 65536) := by
  obtain ⟨h1, h2⟩ := h
  have e : ∀ j, j < i → fk_I (vp_updL g i y) j = fk_I g j := fun j hj => by rw [fk_I, fk_I, pk_uLn (by omega)]
  have e2 : fk_I (vp_updL g i y) i = y.toInt := by rw [fk_I, pk_uLs]
  refine ⟨fun j hj => ?_, ?_⟩
  · by_cases hji : j = i
    · subst hji
      rw [e2, hy]
      omega
    · rw [e j (by omega)]
      exact h1 j (by omega)
  · rw [fk_T, fk_T, fk_T_congr e, e2, hy, Int.pow_succ]
    have h3 : (c + t i) % 65536 = (c + t i) - 65536 * ((c + t i) / 65536) := by omega
    rw [h3]
    grind
theorem fk_mod {u c M X : Int} (h1 : 0 ≤ u) (h2 : u < M) (h : u + c * M = X) : X % M = u := by
  rw [← h, Int.add_mul_emod_self_right]
  exact Int.emod_eq_of_lt h1 h2
theorem fk_C_end {t : Nat → Int} {c0 c : Int} {n : Nat} {g : Nat → Int64} (h : fk_C t c0 n g c) : fk_T (fk_I g) n = (c0 + fk_T t n) % 65536 ^ n := by
  obtain ⟨b1, b2⟩ := fk_T_bd h.1
  exact (fk_mod b1 b2 h.2).symm
/-- products -/
def fk_cs (t u : Nat → Int) (i : Nat) : Nat → Int
  | 0 => 0
  | k + 1 => fk_cs t u i k + t k * u (i - k)
theorem fk_cs_low (t u : Nat → Int) (i k : Nat) (hk : k ≤ i + 1) : fk_cs t u (i + 1) (k + 1) = t 0 * u (i + 1) + fk_cs (fun j => t (j + 1)) u i k := by
  induction k with
  | zero => simp [fk_cs]
  | succ k ih =>
    rw [fk_cs, ih (by omega), fk_cs]
    have : i + 1 - (k + 1) = i - k := by omega
    rw [this]
    grind
theorem fk_conv (n : Nat) : ∀ (t u : Nat → Int), ∃ k : Int, fk_T (fun i => fk_cs t u i (i + 1)) n = fk_T t n * fk_T u n + k * 65536 ^ n := by
  induction n with
  | zero => intro t u; exact ⟨0, by simp [fk_T]⟩
  | succ n ih =>
    intro t u
    obtain ⟨k, hk⟩ := ih (fun j => t (j + 1)) u
    have e1 : fk_T (fun i => fk_cs t u i (i + 1)) (n + 1) = t 0 * fk_T u (n + 1) + 65536 * fk_T (fun i => fk_cs (fun j => t (j + 1)) u i (i + 1)) n := by
      rw [fk_T_low, fk_T_low u]
      have e2 : fk_T (fun i => fk_cs t u (i + 1) (i + 1 + 1)) n = fk_T (fun i => u (i + 1) * t 0 + fk_cs (fun j => t (j + 1)) u i (i + 1)) n := by
        refine fk_T_congr (fun i _ => ?_)
        rw [fk_cs_low t u i (i + 1) (by omega)]
        grind
      rw [e2, fk_T_add, fk_T_mul (fun i => u (i + 1)) (t 0) n]
      have e3 : fk_cs t u 0 (0 + 1) = t 0 * u 0 := by simp [fk_cs]
      rw [e3]
      grind
    rw [e1, hk, fk_T_low t n]
    refine ⟨k - fk_T (fun i => t (i + 1)) n * u n, ?_⟩
    rw [show fk_T u (n + 1) = fk_T u n + u n * 65536 ^ n from rfl, Int.pow_succ]
    grind
/-- limbs that stand for a whole number, modulo 2 ^ 192 -/
def fk_R (x : Int) (f : Nat → Int64) : Prop := fk_N (fk_I f) 12 ∧ fk_T (fk_I f) 12 = x % 65536 ^ 12
theorem fk_R_congr {x : Int} {f g : Nat → Int64} (h : fk_R x f) (e : ∀ i, i < 12 → g i = f i) : fk_R x g := by
  have e' : ∀ i, i < 12 → fk_I g i = fk_I f i := fun i hi => by rw [fk_I, fk_I, e i hi]
  exact ⟨fun i hi => by rw [e' i hi]; exact h.1 i hi, by rw [fk_T_congr e']; exact h.2⟩
theorem fk_R_mod {x y : Int} {f : Nat → Int64} (h : fk_R x f) (e : x % 65536 ^ 12 = y % 65536 ^ 12) : fk_R y f := ⟨h.1, by rw [h.2, e]⟩
theorem fk_R_scale {x k c : Int} {f g : Nat → Int64} (h : fk_R x f) (hc : fk_C (fun i => fk_I f i * k) 0 12 g c) : fk_R (x * k) g := by
  refine ⟨hc.1, ?_⟩
  rw [fk_C_end hc, fk_T_mul, h.2, Int.zero_add, Int.mul_emod, Int.emod_emod_of_dvd _ (Int.dvd_refl _), ← Int.mul_emod]
theorem fk_R_grow {x v c : Int} {f g : Nat → Int64} (h : fk_T (fk_I f) 12 % 65536 ^ 12 = x % 65536 ^ 12) (hc : fk_C (fk_I f) v 12 g c) : fk_R (x + v) g := by
  refine ⟨hc.1, ?_⟩
  rw [fk_C_end hc, Int.add_comm x v, Int.add_emod, h, ← Int.add_emod]
theorem fk_R_addt {x y k c : Int} {f o g : Nat → Int64} (h : fk_R x f) (ho : fk_R y o) (hc : fk_C (fun i => fk_I f i + fk_I o i * k) 0 12 g c) : fk_R (x + y * k) g := by
  refine ⟨hc.1, ?_⟩
  rw [fk_C_end hc, fk_T_add, fk_T_mul, h.2, ho.2, Int.zero_add, Int.add_emod, Int.mul_emod, Int.emod_emod_of_dvd _ (Int.dvd_refl _), Int.emod_emod_of_dvd _ (Int.dvd_refl _), ← Int.mul_emod, ← Int.add_emod]
theorem fk_R_mulr {x y : Int} {f o : Nat → Int64} (h : fk_R x f) (ho : fk_R y o) : fk_T (fun i => fk_cs (fk_I f) (fk_I o) i (i + 1)) 12 % 65536 ^ 12 = (x * y) % 65536 ^ 12 := by
  obtain ⟨k, hk⟩ := fk_conv 12 (fk_I f) (fk_I o)
  rw [hk, Int.add_mul_emod_self_right, h.2, ho.2, ← Int.mul_emod]
end
section
/-! Contracts over one world that stays the caller's: start, call, end. -/
def fk_isN : Cond → Bool
  | .methodLinkNest .. => true
  | .fieldLinkNest .. => true
  | _ => false
def fk_nest : List Cond := tables_1.filter fk_isN
/-- the links among nest mates, as the tables have them -/
def fk_NW (U : State) : Prop := ∀ w ∈ fk_nest, va_Nw w U
theorem fk_NW.same {u U : State} (h : u.vm = U.vm) (hN : fk_NW u) : fk_NW U := by
  intro w hw
  have h1 := hN w hw
  have h2 : fk_isN w = true := (List.mem_filter.mp hw).2
  cases w <;> first | (simp [fk_isN] at h2; done) | exact va_Nw.same rfl h h1
theorem fk_NW.warm {s U : State} (hW : s.WarmedH U.vm) (hN : fk_NW s) : fk_NW U := by
  intro w hw
  have h1 := hN w hw
  have h2 : fk_isN w = true := (List.mem_filter.mp hw).2
  cases w <;> first | (simp [fk_isN] at h2; done) | exact va_Nw.warmM hW h1 | exact va_Nw.warmF hW h1
theorem fk_NW.of {s : State} {args : Array Value} (h : ∀ w ∈ tables_1, w.before args s = true) : fk_NW s := by
  intro w hw
  obtain ⟨h1, h2⟩ := List.mem_filter.mp hw
  have h3 := h w h1
  cases w <;> first | (simp [fk_isN] at h2; done) | exact va_Nw.of rfl h3
abbrev fk_pre (D : va_G) (tys : List (ClassId × FieldType)) (ws : va_W) (sz : Nat) (U : State) : Prop := U.heap.size = sz ∧ va_P D vwCl ws U.heap ∧ va_K D vwCl tys U ∧ fk_NW U ∧ va_D (fun _ => True) ws
abbrev fk_Bd {S : Type} (D : va_G) (tys : List (ClassId × FieldType)) (A : Nat → Prop) (w1 : S → va_W) (u : S) (t : State) : Prop := va_P D vwCl (w1 u) t.heap ∧ va_K D vwCl tys t ∧ va_D A (w1 u)
theorem fk_blind {D : va_G} {tys : List (ClassId × FieldType)} {ws : va_W} {sz : Nat} {av : List Value} : FrameBlind (va_Pc av (fk_pre D tys ws sz)) := fun a U g mk q => by
  obtain ⟨q0, q1, qP, qK, qN, qD⟩ := q
  exact ⟨q0, q1, qP, va_K.moved (u := U) (U := U.calling g mk a) (Vm.Alike.refl U.vm) qK, fk_NW.same (u := U) (U := U.calling g mk a) rfl qN, qD⟩
theorem fk_preV {s : State} {H : Heap} {D : va_G} {tys : List (ClassId × FieldType)} {ws : va_W} {A : Nat → Prop} {b : Nat} {r : vw_C} {fs : List Value} {av : List Value} (q0 ci : Nat) (hK : va_K D vwCl tys s) (hN : fk_NW s) (hP : va_P D vwCl ws H) (hD : va_D A ws) (hc : vwCl[ci]? = some r) (he : ws[q0]? = some (b, .inr (ci, fs))) : PreV s H r.1 b (va_Pc (.ref b :: av) (fk_pre D tys ws H.size)) av :=
  ⟨fk_blind, va_recv hK hP hc he, fun U hU hW => ⟨rfl, by rw [hU], by rw [hU]; exact hP, va_K.moved hW.alike hK, hN.warm hW, hD.weaken (fun _ _ _ _ => trivial)⟩⟩
theorem fk_preS {s : State} {H : Heap} {D : va_G} {tys : List (ClassId × FieldType)} {ws : va_W} {A : Nat → Prop} {av : List Value} (hK : va_K D vwCl tys s) (hN : fk_NW s) (hP : va_P D vwCl ws H) (hD : va_D A ws) : PreS s H (va_Pc av (fk_pre D tys ws H.size)) av :=
  ⟨fk_blind, fun U hU hW => ⟨rfl, by rw [hU], by rw [hU]; exact hP, va_K.moved hW.alike hK, hN.warm hW, hD.weaken (fun _ _ _ _ => trivial)⟩⟩
section FkCalls
variable {p : Program} {l : Launch} {e : Env} {R : Room} {s : State} {m : MethodId} {args : Array Value} {below : List Frame} {meth : Method} {c : Code} {H H0 : Heap} {locs : List Loc} {cells slots mc ms : Nat} {Q : State → Prop} {pc : Nat} {ls : Array Slot} {st0 rest : List Value} {D : va_G} {tys : List (ClassId × FieldType)} {ws : va_W} {A : Nat → Prop} {a : Array Value} {S : Type}
theorem fk_fr (hD : va_D A ws) (hS : va_S A H0 H locs) (hA : ∀ q, H0.size ≤ q → A q) : ∀ q, va_A ws H.size q → A q := by
  intro q hq
  rcases hq with ⟨k, e, hk⟩ | hq
  · exact hD.2 k (q, e) hk
  · exact hA q (Nat.le_trans hS.1 hq)
theorem fk_cv {post : S → Prop} {w1 : S → va_W} (hD : va_D A ws) (hS : va_S A H0 H locs) (hA : ∀ q, H0.size ≤ q → A q)
    (hr : va_Run p l e R s m args below meth c H locs cells slots mc ms (F0 m pc ls st0) rest (va_Qv post (fk_Bd D tys (va_A ws H.size) w1) (va_A ws H.size) a) (va_A ws H.size))
    (kk : ∀ (u : S) (H1 : Heap) (locs1 : List Loc), post u → va_P D vwCl (w1 u) H1 → va_D A (w1 u) → va_S A H0 H1 locs1 → W p l e R s m args below meth c H1 locs1 (cells + mc) (slots + ms) Q (F0 m (pc + 3) ls rest)) :
    W p l e R s m args below meth c H locs cells slots Q (F0 m pc ls st0) := by
  have hF := fk_fr hD hS hA
  refine va_callv hr hS (fun q _ h => hF q h) hF (fun u t H1 locs1 ht hvm hw hB hz hk hS1 => ?_)
  obtain ⟨hP1, -, hD1⟩ := hB
  rw [ht] at hP1
  exact kk u H1 locs1 hw hP1 (hD1.weaken (fun _ _ _ h => hF _ h)) hS1
theorem fk_ci {post : Int32 → S → Prop} {w1 : S → va_W} (hD : va_D A ws) (hS : va_S A H0 H locs) (hA : ∀ q, H0.size ≤ q → A q)
    (hr : va_Run p l e R s m args below meth c H locs cells slots mc ms (F0 m pc ls st0) rest (va_Qi post (fk_Bd D tys (va_A ws H.size) w1) (va_A ws H.size) a) (va_A ws H.size))
    (kk : ∀ (r : Int32) (u : S) (H1 : Heap) (locs1 : List Loc), post r u → va_P D vwCl (w1 u) H1 → va_D A (w1 u) → va_S A H0 H1 locs1 → W p l e R s m args below meth c H1 locs1 (cells + mc) (slots + ms) Q (F0 m (pc + 3) ls (.int r :: rest))) :
    W p l e R s m args below meth c H locs cells slots Q (F0 m pc ls st0) := by
  have hF := fk_fr hD hS hA
  refine va_calli hr hS (fun q _ h => hF q h) hF (fun r u t H1 locs1 ht hvm hw hB hz hk hS1 => ?_)
  obtain ⟨hP1, -, hD1⟩ := hB
  rw [ht] at hP1
  exact kk r u H1 locs1 hw hP1 (hD1.weaken (fun _ _ _ h => hF _ h)) hS1
theorem fk_cl {post : Int64 → S → Prop} {w1 : S → va_W} (hD : va_D A ws) (hS : va_S A H0 H locs) (hA : ∀ q, H0.size ≤ q → A q)
    (hr : va_Run p l e R s m args below meth c H locs cells slots mc ms (F0 m pc ls st0) rest (va_Ql post (fk_Bd D tys (va_A ws H.size) w1) (va_A ws H.size) a) (va_A ws H.size))
    (kk : ∀ (r : Int64) (u : S) (H1 : Heap) (locs1 : List Loc), post r u → va_P D vwCl (w1 u) H1 → va_D A (w1 u) → va_S A H0 H1 locs1 → W p l e R s m args below meth c H1 locs1 (cells + mc) (slots + ms) Q (F0 m (pc + 3) ls (.long r :: rest))) :
    W p l e R s m args below meth c H locs cells slots Q (F0 m pc ls st0) := by
  have hF := fk_fr hD hS hA
  refine va_calll hr hS (fun q _ h => hF q h) hF (fun r u t H1 locs1 ht hvm hw hB hz hk hS1 => ?_)
  obtain ⟨hP1, -, hD1⟩ := hB
  rw [ht] at hP1
  exact kk r u H1 locs1 hw hP1 (hD1.weaken (fun _ _ _ h => hF _ h)) hS1
theorem fk_cq {post : Option Nat → S → Prop} {w1 : S → va_W} (hD : va_D A ws) (hS : va_S A H0 H locs) (hA : ∀ q, H0.size ≤ q → A q)
    (hr : va_Run p l e R s m args below meth c H locs cells slots mc ms (F0 m pc ls st0) rest (va_Qq post (fk_Bd D tys (va_A ws H.size) w1) (va_A ws H.size) a) (va_A ws H.size))
    (kk : ∀ (r : Option Nat) (u : S) (H1 : Heap) (locs1 : List Loc), post r u → va_P D vwCl (w1 u) H1 → va_D A (w1 u) → va_S A H0 H1 locs1 → W p l e R s m args below meth c H1 locs1 (cells + mc) (slots + ms) Q (F0 m (pc + 3) ls (va_rf r :: rest))) :
    W p l e R s m args below meth c H locs cells slots Q (F0 m pc ls st0) := by
  have hF := fk_fr hD hS hA
  refine va_callq hr hS (fun q _ h => hF q h) hF (fun r u t H1 locs1 ht hvm hw hB hz hk hS1 => ?_)
  obtain ⟨hP1, -, hD1⟩ := hB
  rw [ht] at hP1
  exact kk r u H1 locs1 hw hP1 (hD1.weaken (fun _ _ _ h => hF _ h)) hS1
end FkCalls
/-- what a body's walk begins with -/
abbrev fk_At (p : Program) (s : State) (m : MethodId) (meth : Method) (c : Code) (y : MethodName) (cc : ByteArray) (maxL : Nat) (ret : Option FieldType) (args : Array Value) (Ts : List Cond) : Prop :=
  CallFix p m c cc maxL s args Ts y.cls ∧ meth.sig.returnType = ret ∧ meth.locks = false ∧ meth.name = y.name
theorem fk_ofW {l : Launch} {y : MethodName} {ws ws' : List Cond} {rm : Room} (cc : ByteArray) (maxL : Nat) (ret : Option FieldType) {D : va_G} {tys : List (ClassId × FieldType)} {w0 : va_W} {av : List Value} (Qc : (Nat → Prop) → Array Value → State → Outcome → State → Prop) {mc ms sz : Nat}
    (hw : ws = Cond.code y cc maxL ret :: ws') (hy : plainName y.cls = true) (hn : (lg_sl av).length ≤ maxL)
    (body : ∀ (p : Program) (e : Env) (s : State) (m : MethodId) (below : List Frame) (meth : Method) (c : Code) (A : Nat → Prop) (ls : Array Slot) (args : Array Value) (QQ : State → Prop), QQ = MQ below (Qc A) args s mc ms A → fk_At p s m meth c y cc maxL ret args ws → va_P D vwCl w0 s.heap → va_K D vwCl tys s → fk_NW s → va_D A w0 → (∀ q : Nat, s.heap.size ≤ q → A q) → va_S A s.heap s.heap [] → lv_has ls maxL (lv_args 0 av) →
      W p l e rm s m args below meth c s.heap [] 0 0 QQ (F0 m 0 ls [])) :
    Met l y ws rm (va_Pc av (fk_pre D tys w0 sz)) (Qc (va_A w0 sz)) mc ms (va_A w0 sz) := by
  subst hw
  refine Met.ofW (cc := cc) (maxL := maxL) (ret := ret) hy rfl ?_
  intro p e s m args below meth c s₁ B hml hv
  obtain ⟨rfl, hsz, hP, hK, hN, hD0⟩ := hv
  subst hsz
  have hl := lv_entry av hn
  rw [lg_entry_eq]
  exact body p e s m below meth c _ _ _ _ rfl ⟨⟨B.exec, B.bytes, hml, findClass_of_methodNamed B.named, atoms_spec (ws := Cond.code y cc maxL ret :: ws') B.pre⟩, B.returns, B.notSynchronized, (name_of_methodNamed B.named B.method).1⟩ hP hK hN (hD0.self (sz := s.heap.size)) (fun q h => Or.inr h) va_S.rf hl
theorem fk_sn {α : Type} {ws : List α} {i j : Nat} {x y : α} (h : ws[i]? = some x) (hn : j ≠ i) : (ws.set j y)[i]? = some x := by
  rw [List.getElem?_set_ne hn]; exact h
theorem fk_ss {α : Type} {ws : List α} {i : Nat} {x y : α} (h : ws[i]? = some x) : (ws.set i y)[i]? = some y := by
  have hl : i < ws.length := (List.getElem?_eq_some_iff.mp h).1
  rw [List.getElem?_set_self hl]
theorem fk_s2 {α : Type} (ws : List α) (i : Nat) (x y : α) : (ws.set i x).set i y = ws.set i y := List.set_set ..
theorem fk_s0 {α : Type} {ws : List α} {i : Nat} {x : α} (h : ws[i]? = some x) : ws.set i x = ws := by
  obtain ⟨hl, e⟩ := List.getElem?_eq_some_iff.mp h
  rw [← e]; exact List.set_getElem_self hl
theorem fk_s3 {α : Type} {ws : List α} {i j : Nat} {x y z : α} (h : i ≠ j) : ((ws.set i x).set j y).set i z = (ws.set i z).set j y := by
  rw [List.set_comm _ _ h, List.set_set]; exact List.set_comm _ _ h.symm
end
section
/-! Signs, digits, sizes, short and long division in limbs. -/
theorem fk_p11 : (65536 : Int) ^ 11 = 95780971304118053647396689196894323976171195136475136 := by decide
theorem fk_p12 : (65536 : Int) ^ 12 = 6277101735386680763835789423207666416102355444464034512896 := by decide
def fk_In (x : Int) : Prop := -3138550867693340381917894711603833208051177722232017256448 ≤ x ∧ x < 3138550867693340381917894711603833208051177722232017256448
theorem fk_R_set {v c : Int} {g : Nat → Int64} (h : fk_C (fun _ => 0) v 12 g c) : fk_R v g := by
  refine ⟨h.1, ?_⟩
  rw [fk_C_end h, fk_T_zero (fun _ _ => rfl), Int.add_zero]
theorem fk_R_val {x : Int} {f : Nat → Int64} (h : fk_R x f) (h0 : 0 ≤ x) (hi : fk_In x) : fk_T (fk_I f) 12 = x := by
  rw [h.2, fk_p12]
  obtain ⟨h1, h2⟩ := hi
  omega
theorem fk_R_of {x : Int} {f : Nat → Int64} (hn : fk_N (fk_I f) 12) (e : fk_T (fk_I f) 12 = x) : fk_R x f := by
  refine ⟨hn, ?_⟩
  obtain ⟨h1, h2⟩ := fk_T_bd hn
  rw [← e]
  exact (Int.emod_eq_of_lt h1 h2).symm
theorem fk_R_neg {x : Int} {f : Nat → Int64} (h : fk_R x f) (hi : fk_In x) : x < 0 ↔ 32768 ≤ (f 11).toInt := by
  obtain ⟨b1, b2⟩ := fk_T_bd (t := fk_I f) (n := 11) (fun i hi => h.1 i (by omega))
  have e : fk_T (fk_I f) 12 = fk_T (fk_I f) 11 + fk_I f 11 * 65536 ^ 11 := rfl
  obtain ⟨c1, c2⟩ := h.1 11 (by omega)
  obtain ⟨h1, h2⟩ := hi
  rw [h.2, fk_p11, fk_p12] at e
  rw [fk_p11] at b2
  rw [fk_I_def] at e c1 c2
  omega
theorem fk_R_odd {x : Int} {f : Nat → Int64} (h : fk_R x f) : x % 2 = (f 0).toInt % 2 := by
  have e := fk_T_low (fk_I f) 11
  rw [h.2, fk_p12, fk_I_def] at e
  omega
theorem fk_T_trunc {t : Nat → Int} {s n : Nat} (hs : s ≤ n) (h : ∀ j, s ≤ j → j < n → t j = 0) : fk_T t n = fk_T t s := by
  have e := fk_T_split t s (n - s)
  rw [show s + (n - s) = n by omega, fk_T_zero (t := fun i => t (s + i)) (fun i hi => h (s + i) (by omega) (by omega))] at e
  rw [e]; simp
/-- how many limbs there are up to the highest one that is not 0 -/
def fk_Sz (t : Nat → Int) (s : Nat) : Prop := s ≤ 12 ∧ (∀ j, s ≤ j → j < 12 → t j = 0) ∧ (s = 0 ∨ t (s - 1) ≠ 0)
theorem fk_Sz_bd {t : Nat → Int} {s : Nat} (hn : fk_N t 12) (h : fk_Sz t s) : fk_T t 12 < 65536 ^ s ∧ (s ≠ 0 → 65536 ^ (s - 1) ≤ fk_T t 12) := by
  obtain ⟨h1, h2, h3⟩ := h
  rw [fk_T_trunc h1 h2]
  refine ⟨(fk_T_bd (fun i hi => hn i (by omega))).2, fun hs => ?_⟩
  obtain ⟨k, rfl⟩ : ∃ k, s = k + 1 := ⟨s - 1, by omega⟩
  have hk : t k ≠ 0 := by simpa using h3
  obtain ⟨b1, b2⟩ := hn k (by omega)
  have hp := fk_pp k
  have : 1 * 65536 ^ k ≤ t k * 65536 ^ k := Int.mul_le_mul_of_nonneg_right (by omega) (by omega)
  have := (fk_T_bd (t := t) (n := k) (fun i hi => hn i (by omega))).1
  rw [fk_T, Nat.add_sub_cancel]
  omega
theorem fk_Sz_zero {x : Int} {f : Nat → Int64} {s : Nat} (h : fk_R x f) (hi : fk_In x) (hs : fk_Sz (fk_I f) s) : x = 0 ↔ s = 0 := by
  obtain ⟨b1, b2⟩ := fk_Sz_bd h.1 hs
  obtain ⟨h1, h2⟩ := hi
  rw [h.2, fk_p12] at b1 b2
  constructor
  · intro hx
    subst hx
    rcases Nat.eq_zero_or_pos s with q | q
    · exact q
    · have := b2 (by omega)
      have := fk_pp (s - 1)
      omega
  · intro hx
    subst hx
    simp only [Int.pow_zero] at b1
    omega
theorem fk_uniq {t u : Nat → Int} (n : Nat) : ∀ (t u : Nat → Int), fk_N t n → fk_N u n → fk_T t n = fk_T u n → ∀ i, i < n → t i = u i := by
  induction n with
  | zero => intro t u _ _ _ i hi; omega
  | succ n ih =>
    intro t u ht hu e i hi
    rw [fk_T_low, fk_T_low] at e
    obtain ⟨a1, a2⟩ := ht 0 (by omega)
    obtain ⟨b1, b2⟩ := hu 0 (by omega)
    have e0 : t 0 = u 0 := by omega
    have e1 : fk_T (fun i => t (i + 1)) n = fk_T (fun i => u (i + 1)) n := by omega
    cases i with
    | zero => exact e0
    | succ i => exact ih (fun i => t (i + 1)) (fun i => u (i + 1)) (fun j hj => ht (j + 1) (by omega)) (fun j hj => hu (j + 1) (by omega)) e1 i (by omega)
/-- the limbs of a whole number -/
def fk_dg (y : Int) (i : Nat) : Int := y / 65536 ^ i % 65536
theorem fk_dg_T (y : Int) (n : Nat) : fk_T (fk_dg y) n = y % 65536 ^ n := by
  have key : ∀ n, fk_T (fk_dg y) n + y / 65536 ^ n * 65536 ^ n = y := by
    intro n
    induction n with
    | zero => simp [fk_T]
    | succ n ih =>
      rw [fk_T, fk_dg, Int.pow_succ, ← Int.ediv_ediv_of_nonneg (Int.le_of_lt (fk_pp n))]
      have h3 : y / 65536 ^ n % 65536 = y / 65536 ^ n - 65536 * (y / 65536 ^ n / 65536) := by omega
      rw [h3]
      grind
  have hb := fk_T_bd (t := fk_dg y) (n := n) (fun i _ => by rw [fk_dg]; omega)
  exact (fk_mod hb.1 hb.2 (key n)).symm
theorem fk_R_dg {x : Int} {f : Nat → Int64} (h : fk_R x f) {i : Nat} (hi : i < 12) : (f i).toInt = fk_dg x i :=
  fk_uniq (t := fk_I f) (u := fk_I f) 12 (fk_I f) (fk_dg x) h.1 (fun i _ => by rw [fk_dg]; omega) (by rw [h.2, fk_dg_T]) i hi
theorem fk_R_eq {x : Int} {f : Nat → Int64} (h : ∀ i, i < 12 → (f i).toInt = fk_dg x i) : fk_R x f := by
  refine ⟨fun i hi => ?_, ?_⟩
  · rw [fk_I, h i hi, fk_dg]; omega
  · rw [← fk_dg_T]
    exact fk_T_congr (fun i hi => h i hi)
theorem fk_R_inj {x y : Int} {f : Nat → Int64} (h : fk_R x f) (h2 : fk_R y f) (hx : fk_In x) (hy : fk_In y) : x = y := by
  have e : x % 65536 ^ 12 = y % 65536 ^ 12 := by rw [← h.2, h2.2]
  obtain ⟨a1, a2⟩ := hx
  obtain ⟨b1, b2⟩ := hy
  rw [fk_p12] at e
  omega
/-- short division, from the highest limb down: limbs from i on are done -/
def fk_Sd (t : Nat → Int) (d : Int) (i : Nat) (g : Nat → Int) (r : Int) : Prop := (∀ j, j < i → g j = t j) ∧ (∀ j, i ≤ j → j < 12 → 0 ≤ g j ∧ g j < 65536) ∧ 0 ≤ r ∧ r < d ∧ fk_T t 12 - fk_T t i = d * (fk_T g 12 - fk_T g i) + r * 65536 ^ i
theorem fk_Sd_0 {t : Nat → Int} {d : Int} (hd : 0 < d) : fk_Sd t d 12 t 0 := ⟨fun _ _ => rfl, fun j h1 h2 => by omega, by omega, hd, by simp⟩
theorem fk_Sd_step {t g : Nat → Int} {d r : Int} {i : Nat} (hi : i < 12) (ht : 0 ≤ t i ∧ t i < 65536) (h : fk_Sd t d (i + 1) g r) {g' : Nat → Int} (hg : ∀ j, j ≠ i → g' j = g j) (hgi : g' i = (r * 65536 + t i) / d) : fk_Sd t d i g' ((r * 65536 + t i) % d) := by
  obtain ⟨h1, h2, h3, h4, h5⟩ := h
  have hd : 0 < d := by omega
  have q1 := Int.mul_ediv_add_emod (r * 65536 + t i) d
  have q2 := Int.emod_nonneg (r * 65536 + t i) (show d ≠ 0 by omega)
  have q3 := Int.emod_lt_of_pos (r * 65536 + t i) hd
  have q4 : 0 ≤ (r * 65536 + t i) / d := Int.ediv_nonneg (by omega) (by omega)
  have q5 : (r * 65536 + t i) / d < 65536 := by
    rw [Int.ediv_lt_iff_lt_mul hd]
    have : (r + 1) * 65536 ≤ 65536 * d := by omega
    omega
  refine ⟨fun j hj => ?_, fun j ha hb => ?_, q2, q3, ?_⟩
  · rw [hg j (by omega)]; exact h1 j (by omega)
  · by_cases e : j = i
    · subst e; rw [hgi]; exact ⟨q4, q5⟩
    · rw [hg j e]; exact h2 j (by omega) hb
  · have e1 : fk_T g' 12 - fk_T g' (i + 1) = fk_T g 12 - fk_T g (i + 1) := by
      have a1 := fk_T_split g' (i + 1) (12 - (i + 1))
      have a2 := fk_T_split g (i + 1) (12 - (i + 1))
      rw [show i + 1 + (12 - (i + 1)) = 12 by omega] at a1 a2
      rw [fk_T_congr (t := fun k => g' (i + 1 + k)) (u := fun k => g (i + 1 + k)) (fun k _ => hg _ (by omega))] at a1
      omega
    have e2 : fk_T g' (i + 1) = fk_T g' i + g' i * 65536 ^ i := rfl
    have e3 : fk_T t (i + 1) = fk_T t i + t i * 65536 ^ i := rfl
    have e4 : fk_T t 12 - fk_T t (i + 1) = d * (fk_T g' 12 - fk_T g' (i + 1)) + r * (65536 ^ i * 65536) := by rw [e1, h5, Int.pow_succ]
    rw [e2, e3] at e4
    rw [hgi] at e4
    generalize (r * 65536 + t i) / d = q at *
    generalize (r * 65536 + t i) % d = w at *
    generalize (65536 : Int) ^ i = P at *
    grind
theorem fk_Sd_end {x d r : Int} {f g : Nat → Int64} (h : fk_R x f) (h0 : 0 ≤ x) (hi : fk_In x) (hs : fk_Sd (fk_I f) d 0 (fk_I g) r) : fk_R (x / d) g ∧ r = x % d := by
  obtain ⟨-, h2, h3, h4, h5⟩ := hs
  have e : fk_T (fk_I f) 12 = x := fk_R_val h h0 hi
  have z : ∀ t : Nat → Int, fk_T t 0 = 0 := fun _ => rfl
  rw [z, z, e] at h5
  simp only [Int.sub_zero, Int.pow_zero, Int.mul_one] at h5
  have hd : 0 < d := by omega
  have e2 : x / d = fk_T (fk_I g) 12 := by
    rw [h5, Int.add_comm, Int.add_mul_ediv_left _ _ (by omega), Int.ediv_eq_zero_of_lt h3 h4]; simp
  have e3 : x % d = r := by
    rw [h5, Int.add_comm, Int.add_mul_emod_self_left]
    exact Int.emod_eq_of_lt h3 h4
  exact ⟨fk_R_of (fun i hi => h2 i (by omega) hi) e2.symm, e3.symm⟩
/-- long division: the guess is the digit, or one more -/
theorem fk_guess {X Y T O P P' l1 l2 q : Int} (hP : 0 < P) (hP' : 0 < P') (hY : 0 < Y) (hX : X * 65536 = T * (P * P') + l1) (h1 : 0 ≤ l1) (h2 : l1 < P * P') (hO : Y * 65536 = O * P + l2) (h3 : 0 ≤ l2) (h4 : l2 < P) (hO2 : 65536 ≤ O) (hq : q = X / (Y * P')) (hq0 : 0 ≤ X) (hqB : X < Y * P' * 65536) : q ≤ T / O ∧ T / O ≤ q + 1 := by
  have hYP : 0 < Y * P' := Int.mul_pos hY hP'
  have a1 := Int.mul_ediv_add_emod X (Y * P')
  have a2 := Int.emod_nonneg X (show Y * P' ≠ 0 by omega)
  have a3 := Int.emod_lt_of_pos X hYP
  rw [← hq] at a1
  have hq1 : 0 ≤ q := by rw [hq]; exact Int.ediv_nonneg hq0 (by omega)
  have hq2 : q < 65536 := by
    rw [hq, Int.ediv_lt_iff_lt_mul hYP, Int.mul_comm 65536]; exact hqB
  have hPP : 0 < P * P' := Int.mul_pos hP hP'
  have hO0 : 0 < O := by omega
  constructor
  · rw [Int.le_ediv_iff_mul_le hO0]
    have : q * O * (P * P') < (T + 1) * (P * P') := by
      have e1 : Y * P' * q * 65536 ≤ X * 65536 := by omega
      have e2 : Y * P' * q * 65536 = (O * P + l2) * (P' * q) := by rw [← hO]; grind
      have e3 : 0 ≤ l2 * (P' * q) := Int.mul_nonneg h3 (Int.mul_nonneg (by omega) hq1)
      have e4 : (O * P + l2) * (P' * q) = q * O * (P * P') + l2 * (P' * q) := by grind
      have e5 : (T + 1) * (P * P') = T * (P * P') + P * P' := by grind
      omega
    have := Int.lt_of_mul_lt_mul_right this (by omega)
    omega
  · have h5 : T < (q + 1) * (O + 1) := by
      have : T * (P * P') < (q + 1) * (O + 1) * (P * P') := by
        have e1 : X * 65536 < Y * P' * (q + 1) * 65536 := by
          have : Y * P' * (q + 1) = Y * P' * q + Y * P' := by grind
          omega
        have e2 : Y * P' * (q + 1) * 65536 = (O * P + l2) * (P' * (q + 1)) := by rw [← hO]; grind
        have e3 : (O * P + l2) * (P' * (q + 1)) ≤ (O * P + P) * (P' * (q + 1)) := Int.mul_le_mul_of_nonneg_right (by omega) (Int.mul_nonneg (by omega) (by omega))
        have e4 : (O * P + P) * (P' * (q + 1)) = (q + 1) * (O + 1) * (P * P') := by grind
        omega
      exact Int.lt_of_mul_lt_mul_right this (by omega)
    have h6 : T < (q + 2) * O := by
      have : (q + 1) * (O + 1) = (q + 1) * O + q + 1 := by grind
      have : (q + 2) * O = (q + 1) * O + O := by grind
      omega
    have : T / O < q + 2 := (Int.ediv_lt_iff_lt_mul hO0).mpr h6
    omega
end
section
/-! Array rows with the place as a natural number; the array types of both; the links among nest mates by name. -/
abbrev fk_ty (cJ cC cI cZ cK : ClassId) : List (ClassId × FieldType) := [(cJ, .long), (cC, .char), (cI, .int), (cZ, .boolean), (cK, .object "FixedKinds$Kind")]
theorem fk_neA {ws : va_W} {q0 q1 a b : Nat} {x : Nat × List Value} {y : ClassId × vp_A} (h0 : ws[q0]? = some (a, .inr x)) (h1 : ws[q1]? = some (b, .inl y)) : q1 ≠ q0 := by
  intro h; subst h; rw [h0] at h1; simp at h1
section FkRows
variable {p : Program} {l : Launch} {e : Env} {R : Room} {s : State} {m : MethodId} {args : Array Value} {below : List Frame} {meth : Method} {c : Code} {H H0 : Heap} {locs : List Loc} {cells slots : Nat} {Q : State → Prop} {pc : Nat} {ls : Array Slot} {rest : List Value} {D : va_G} {cl : List vw_C} {tys : List (ClassId × FieldType)} {ws : va_W} {A : Nat → Prop} {cc : ByteArray} {a : Nat}
theorem fk_lald (hexec : p.tables.exec = Jvm.exec) (hb : c.code = cc) (hK : va_K D cl tys s) (hP : va_P D cl ws H) (q0 t0 : Nat) {cA : ClassId} {n : Nat} {f : Nat → Int64} (ha : ws[q0]? = some (a, .inl (cA, n, .inr (.inl f)))) (ht : tys[t0]? = some (cA, .long)) {i : Nat} (hi : i < n) (hn : n < 2 ^ 31) (hdg : decode cc pc = .ok (.laload, 1))
    (kk : W p l e R s m args below meth c H locs cells slots Q (F0 m (pc + 1) ls (.long (f i) :: rest))) : W p l e R s m args below meth c H locs cells slots Q (F0 m pc ls (.int (nI i) :: .ref a :: rest)) := by
  refine va_lald hexec hb hK hP q0 t0 ha ht (vp_in_nI hi hn) hdg ?_
  rw [nI_clamp (by omega)]; exact kk
theorem fk_last (hexec : p.tables.exec = Jvm.exec) (hb : c.code = cc) (hK : va_K D cl tys s) (hP : va_P D cl ws H) (hD : va_D A ws) (hS : va_S A H0 H locs) (q0 t0 : Nat) {cA : ClassId} {n : Nat} {f : Nat → Int64} (ha : ws[q0]? = some (a, .inl (cA, n, .inr (.inl f)))) (ht : tys[t0]? = some (cA, .long)) {i : Nat} {x : Int64} (hi : i < n) (hn : n < 2 ^ 31) (hdg : decode cc pc = .ok (.lastore, 1))
    (kk : ∀ (H1 : Heap) (locs1 : List Loc), va_P D cl (ws.set q0 (a, .inl (cA, n, .inr (.inl (vp_updL f i x))))) H1 → va_D A (ws.set q0 (a, .inl (cA, n, .inr (.inl (vp_updL f i x))))) → va_S A H0 H1 locs1 → W p l e R s m args below meth c H1 locs1 cells slots Q (F0 m (pc + 1) ls rest)) : W p l e R s m args below meth c H locs cells slots Q (F0 m pc ls (.long x :: .int (nI i) :: .ref a :: rest)) := by
  refine va_last hexec hb hK hP hD hS q0 t0 ha ht (vp_in_nI hi hn) hdg (fun H1 locs1 h1 h2 h3 => ?_)
  rw [nI_clamp (by omega)] at h1 h2
  exact kk H1 locs1 h1 h2 h3
theorem fk_iald (hexec : p.tables.exec = Jvm.exec) (hb : c.code = cc) (hK : va_K D cl tys s) (hP : va_P D cl ws H) (q0 t0 : Nat) {cA : ClassId} {n : Nat} {f : Nat → Int32} (ha : ws[q0]? = some (a, .inl (cA, n, .inl f))) (ht : tys[t0]? = some (cA, .int)) {i : Nat} (hi : i < n) (hn : n < 2 ^ 31) (hdg : decode cc pc = .ok (.iaload, 1))
    (kk : W p l e R s m args below meth c H locs cells slots Q (F0 m (pc + 1) ls (.int (f i) :: rest))) : W p l e R s m args below meth c H locs cells slots Q (F0 m pc ls (.int (nI i) :: .ref a :: rest)) := by
  refine va_iald hexec hb hK hP q0 t0 ha ht (vp_in_nI hi hn) hdg ?_
  rw [nI_clamp (by omega)]; exact kk
theorem fk_iast (hexec : p.tables.exec = Jvm.exec) (hb : c.code = cc) (hK : va_K D cl tys s) (hP : va_P D cl ws H) (hD : va_D A ws) (hS : va_S A H0 H locs) (q0 t0 : Nat) {cA : ClassId} {n : Nat} {f : Nat → Int32} (ha : ws[q0]? = some (a, .inl (cA, n, .inl f))) (ht : tys[t0]? = some (cA, .int)) {i : Nat} {x : Int32} (hi : i < n) (hn : n < 2 ^ 31) (hdg : decode cc pc = .ok (.iastore, 1))
    (kk : ∀ (H1 : Heap) (locs1 : List Loc), va_P D cl (ws.set q0 (a, .inl (cA, n, .inl (upd f i x)))) H1 → va_D A (ws.set q0 (a, .inl (cA, n, .inl (upd f i x)))) → va_S A H0 H1 locs1 → W p l e R s m args below meth c H1 locs1 cells slots Q (F0 m (pc + 1) ls rest)) : W p l e R s m args below meth c H locs cells slots Q (F0 m pc ls (.int x :: .int (nI i) :: .ref a :: rest)) := by
  refine va_iast hexec hb hK hP hD hS q0 t0 ha ht (vp_in_nI hi hn) hdg (fun H1 locs1 h1 h2 h3 => ?_)
  rw [nI_clamp (by omega)] at h1 h2
  exact kk H1 locs1 h1 h2 h3
theorem fk_cald (hexec : p.tables.exec = Jvm.exec) (hb : c.code = cc) (hK : va_K D cl tys s) (hP : va_P D cl ws H) (q0 t0 : Nat) {cA : ClassId} {n : Nat} {f : Nat → Int32} (ha : ws[q0]? = some (a, .inl (cA, n, .inl f))) (ht : tys[t0]? = some (cA, .char)) {i : Nat} (hi : i < n) (hn : n < 2 ^ 31) (hdg : decode cc pc = .ok (.caload, 1))
    (kk : W p l e R s m args below meth c H locs cells slots Q (F0 m (pc + 1) ls (.int (f i) :: rest))) : W p l e R s m args below meth c H locs cells slots Q (F0 m pc ls (.int (nI i) :: .ref a :: rest)) := by
  refine va_cald hexec hb hK hP q0 t0 ha ht (vp_in_nI hi hn) hdg ?_
  rw [nI_clamp (by omega)]; exact kk
theorem fk_cast (hexec : p.tables.exec = Jvm.exec) (hb : c.code = cc) (hK : va_K D cl tys s) (hP : va_P D cl ws H) (hD : va_D A ws) (hS : va_S A H0 H locs) (q0 t0 : Nat) {cA : ClassId} {n : Nat} {f : Nat → Int32} (ha : ws[q0]? = some (a, .inl (cA, n, .inl f))) (ht : tys[t0]? = some (cA, .char)) {i : Nat} {x : Int32} (hi : i < n) (hn : n < 2 ^ 31) (hdg : decode cc pc = .ok (.castore, 1))
    (kk : ∀ (H1 : Heap) (locs1 : List Loc), va_P D cl (ws.set q0 (a, .inl (cA, n, .inl (upd f i (vp_nar .char x))))) H1 → va_D A (ws.set q0 (a, .inl (cA, n, .inl (upd f i (vp_nar .char x))))) → va_S A H0 H1 locs1 → W p l e R s m args below meth c H1 locs1 cells slots Q (F0 m (pc + 1) ls rest)) : W p l e R s m args below meth c H locs cells slots Q (F0 m pc ls (.int x :: .int (nI i) :: .ref a :: rest)) := by
  refine va_cast hexec hb hK hP hD hS q0 t0 ha ht (vp_in_nI hi hn) hdg (fun H1 locs1 h1 h2 h3 => ?_)
  rw [nI_clamp (by omega)] at h1 h2
  exact kk H1 locs1 h1 h2 h3
theorem fk_zald (hexec : p.tables.exec = Jvm.exec) (hb : c.code = cc) (hK : va_K D cl tys s) (hP : va_P D cl ws H) (q0 t0 : Nat) {cA : ClassId} {n : Nat} {f : Nat → Int32} (ha : ws[q0]? = some (a, .inl (cA, n, .inl f))) (ht : tys[t0]? = some (cA, .boolean)) {i : Nat} (hi : i < n) (hn : n < 2 ^ 31) (hdg : decode cc pc = .ok (.baload, 1))
    (kk : W p l e R s m args below meth c H locs cells slots Q (F0 m (pc + 1) ls (.int (f i) :: rest))) : W p l e R s m args below meth c H locs cells slots Q (F0 m pc ls (.int (nI i) :: .ref a :: rest)) := by
  refine va_zald hexec hb hK hP q0 t0 ha ht (vp_in_nI hi hn) hdg ?_
  rw [nI_clamp (by omega)]; exact kk
theorem fk_zast (hexec : p.tables.exec = Jvm.exec) (hb : c.code = cc) (hK : va_K D cl tys s) (hP : va_P D cl ws H) (hD : va_D A ws) (hS : va_S A H0 H locs) (q0 t0 : Nat) {cA : ClassId} {n : Nat} {f : Nat → Int32} (ha : ws[q0]? = some (a, .inl (cA, n, .inl f))) (ht : tys[t0]? = some (cA, .boolean)) {i : Nat} {x : Int32} (hi : i < n) (hn : n < 2 ^ 31) (hdg : decode cc pc = .ok (.bastore, 1))
    (kk : ∀ (H1 : Heap) (locs1 : List Loc), va_P D cl (ws.set q0 (a, .inl (cA, n, .inl (upd f i (vp_nar .boolean x))))) H1 → va_D A (ws.set q0 (a, .inl (cA, n, .inl (upd f i (vp_nar .boolean x))))) → va_S A H0 H1 locs1 → W p l e R s m args below meth c H1 locs1 cells slots Q (F0 m (pc + 1) ls rest)) : W p l e R s m args below meth c H locs cells slots Q (F0 m pc ls (.int x :: .int (nI i) :: .ref a :: rest)) := by
  refine va_zast hexec hb hK hP hD hS q0 t0 ha ht (vp_in_nI hi hn) hdg (fun H1 locs1 h1 h2 h3 => ?_)
  rw [nI_clamp (by omega)] at h1 h2
  exact kk H1 locs1 h1 h2 h3
theorem fk_aldq (hexec : p.tables.exec = Jvm.exec) (hb : c.code = cc) (hK : va_K D cl tys s) (hP : va_P D cl ws H) (q0 t0 : Nat) {cA : ClassId} {C : String} {n : Nat} {f : Nat → Option Nat} (ha : ws[q0]? = some (a, .inl (cA, n, .inr (.inr (.inr (.inr f)))))) (ht : tys[t0]? = some (cA, .object C)) {i : Nat} (hi : i < n) (hn : n < 2 ^ 31) (hdg : decode cc pc = .ok (.aaload, 1))
    (kk : W p l e R s m args below meth c H locs cells slots Q (F0 m (pc + 1) ls (va_rf (f i) :: rest))) : W p l e R s m args below meth c H locs cells slots Q (F0 m pc ls (.int (nI i) :: .ref a :: rest)) := by
  refine va_aldq hexec hb hK hP q0 t0 ha ht (vp_in_nI hi hn) hdg ?_
  rw [nI_clamp (by omega)]; exact kk
end FkRows
theorem fkn_X3_32 : (Cond.methodLinkNest RX3 32 yX0_init "FixedKinds") ∈ fk_nest := by decide +kernel
theorem fkn_X3_42 : (Cond.methodLinkNest RX3 42 yX2_init "FixedKinds") ∈ fk_nest := by decide +kernel
theorem fkn_X3_59 : (Cond.methodLinkNest RX3 59 yX1_init "FixedKinds") ∈ fk_nest := by decide +kernel
theorem fkn_X3_72 : (Cond.methodLinkNest RX3 72 yX0_take "FixedKinds") ∈ fk_nest := by decide +kernel
theorem fkn_X3_76 : (Cond.methodLinkNest RX3 76 yX0_sign "FixedKinds") ∈ fk_nest := by decide +kernel
theorem fkn_X3_101 : (Cond.methodLinkNest RX3 101 yX0_reduce "FixedKinds") ∈ fk_nest := by decide +kernel
theorem fkn_X3_108 : (Cond.methodLinkNest RX3 108 yX2_bitsFrom "FixedKinds") ∈ fk_nest := by decide +kernel
theorem fkn_X3_114 : (Cond.methodLinkNest RX3 114 yX2_isNegative "FixedKinds") ∈ fk_nest := by decide +kernel
theorem fkn_X3_118 : (Cond.methodLinkNest RX3 118 yX0_toMillionths "FixedKinds") ∈ fk_nest := by decide +kernel
theorem fkn_X3_122 : (Cond.methodLinkNest RX3 122 yX2_isZero "FixedKinds") ∈ fk_nest := by decide +kernel
theorem fkn_X3_140 : (Cond.methodLinkNest RX3 140 yX1_least "FixedKinds") ∈ fk_nest := by decide +kernel
theorem fkn_X3_144 : (Cond.methodLinkNest RX3 144 yX1_greatest "FixedKinds") ∈ fk_nest := by decide +kernel
theorem fkn_X3_149 : (Cond.methodLinkNest RX3 149 yX0_add "FixedKinds") ∈ fk_nest := by decide +kernel
theorem fkn_X3_153 : (Cond.methodLinkNest RX3 153 yX1_octets "FixedKinds") ∈ fk_nest := by decide +kernel
theorem fkn_X3_156 : (Cond.methodLinkNest RX3 156 yX1_bits "FixedKinds") ∈ fk_nest := by decide +kernel
theorem fkn_X3_169 : (Cond.methodLinkNest RX3 169 yX0_multiply "FixedKinds") ∈ fk_nest := by decide +kernel
theorem fkn_X3_173 : (Cond.methodLinkNest RX3 173 yX0_divide "FixedKinds") ∈ fk_nest := by decide +kernel
theorem fkn_X3_176 : (Cond.methodLinkNest RX3 176 yX0_toRawScale "FixedKinds") ∈ fk_nest := by decide +kernel
theorem fkn_X3_180 : (Cond.methodLinkNest RX3 180 yX0_round "FixedKinds") ∈ fk_nest := by decide +kernel
theorem fkn_X3_184 : (Cond.methodLinkNest RX3 184 yX2_fitsLong "FixedKinds") ∈ fk_nest := by decide +kernel
theorem fkn_X3_187 : (Cond.methodLinkNest RX3 187 yX1_isRaw "FixedKinds") ∈ fk_nest := by decide +kernel
theorem fkn_X3_193 : (Cond.methodLinkNest RX3 193 yX1_broughtIn "FixedKinds") ∈ fk_nest := by decide +kernel
theorem fkn_X3_200 : (Cond.methodLinkNest RX3 200 yX2_shorten "FixedKinds") ∈ fk_nest := by decide +kernel
theorem fkn_X0_11 : (Cond.methodLinkNest RX0 11 yX2_init "FixedKinds") ∈ fk_nest := by decide +kernel
theorem fkn_X0_21 : (Cond.methodLinkNest RX0 21 yX1_broughtIn "FixedKinds") ∈ fk_nest := by decide +kernel
theorem fkn_X0_27 : (Cond.methodLinkNest RX0 27 yX2_setTo "FixedKinds") ∈ fk_nest := by decide +kernel
theorem fkn_X0_35 : (Cond.methodLinkNest RX0 35 yX2_scale "FixedKinds") ∈ fk_nest := by decide +kernel
theorem fkn_X0_44 : (Cond.methodLinkNest RX0 44 yX2_grow "FixedKinds") ∈ fk_nest := by decide +kernel
theorem fkn_X0_47 : (Cond.methodLinkNest RX0 47 yX2_isZero "FixedKinds") ∈ fk_nest := by decide +kernel
theorem fkn_X0_51 : (Cond.methodLinkNest RX0 51 yX2_isNegative "FixedKinds") ∈ fk_nest := by decide +kernel
theorem fkn_X0_54 : (Cond.methodLinkNest RX0 54 yX2_multiply "FixedKinds") ∈ fk_nest := by decide +kernel
theorem fkn_X0_58 : (Cond.methodLinkNest RX0 58 yX2_addTimes "FixedKinds") ∈ fk_nest := by decide +kernel
theorem fkn_X0_64 : (Cond.methodLinkNest RX0 64 yX2_divide "FixedKinds") ∈ fk_nest := by decide +kernel
theorem fkn_X0_68 : (Cond.methodLinkNest RX0 68 yX2_isOdd "FixedKinds") ∈ fk_nest := by decide +kernel
theorem fkn_X0_77 : (Cond.methodLinkNest RX0 77 yX2_bitsFrom "FixedKinds") ∈ fk_nest := by decide +kernel
theorem fkn_X0_81 : (Cond.methodLinkNest RX0 81 yX2_copy "FixedKinds") ∈ fk_nest := by decide +kernel
theorem fkn_X0_84 : (Cond.methodLinkNest RX0 84 yX2_shorten "FixedKinds") ∈ fk_nest := by decide +kernel
theorem fkn_X3_66 : (Cond.fieldLinkNest RX3 66 "FixedKinds$Kind" "overflow" "I" "FixedKinds") ∈ fk_nest := by decide +kernel
theorem fkn_X3_69 : (Cond.fieldLinkNest RX3 69 "FixedKinds$Kind" "rounding" "I" "FixedKinds") ∈ fk_nest := by decide +kernel
theorem fkn_X3_98 : (Cond.fieldLinkNest RX3 98 "FixedKinds$Fraction" "above" "LFixedKinds$Whole;" "FixedKinds") ∈ fk_nest := by decide +kernel
theorem fkn_X3_105 : (Cond.fieldLinkNest RX3 105 "FixedKinds$Fraction" "below" "LFixedKinds$Whole;" "FixedKinds") ∈ fk_nest := by decide +kernel
theorem fkn_X3_160 : (Cond.fieldLinkNest RX3 160 "FixedKinds$Kind" "width" "I" "FixedKinds") ∈ fk_nest := by decide +kernel
theorem fkn_X0_31 : (Cond.fieldLinkNest RX0 31 "FixedKinds$Kind" "up" "J" "FixedKinds") ∈ fk_nest := by decide +kernel
theorem fkn_X0_38 : (Cond.fieldLinkNest RX0 38 "FixedKinds$Kind" "offset" "J" "FixedKinds") ∈ fk_nest := by decide +kernel
theorem fkn_X0_41 : (Cond.fieldLinkNest RX0 41 "FixedKinds$Kind" "down" "J" "FixedKinds") ∈ fk_nest := by decide +kernel
end
section
/-! Bits of long numbers: shifts and ors of limbs, the 64 bits from a limb on. -/
theorem fk_ofInt_nat (n : Int) : (Int64.ofInt n).toBitVec.toNat = (n % 18446744073709551616).toNat := by
  rw [Int64.toBitVec_ofInt, BitVec.toNat_ofInt]
  rfl
theorem fk_ofInt_mod (n : Int) : Int64.ofInt (n % 18446744073709551616) = Int64.ofInt n := by
  apply Int64.toBitVec_inj.mp
  apply BitVec.eq_of_toNat_eq
  rw [fk_ofInt_nat, fk_ofInt_nat, Int.emod_emod_of_dvd _ (Int.dvd_refl _)]
theorem fk_or16 {b y : Int64} (h0 : 0 ≤ y.toInt) (h1 : y.toInt < 65536) : (b <<< ((16 : Int32).toInt64 &&& 63)) ||| y = Int64.ofInt (b.toInt * 65536 + y.toInt) := by
  apply Int64.toBitVec_inj.mp
  apply BitVec.eq_of_toNat_eq
  rw [fk_ofInt_nat, Int64.toBitVec_or, BitVec.toNat_or, Int64.toBitVec_shiftLeft]
  have e : (((16 : Int32).toInt64 &&& 63).toBitVec.smod 64) = 16#64 := by decide
  rw [e]
  have hy := fk_nat y
  have hb := fk_nat b
  have e2 : (b.toBitVec <<< 16#64).toNat = (b.toBitVec.toNat % 281474976710656) <<< 16 := by
    rw [BitVec.shiftLeft_eq', BitVec.toNat_shiftLeft]
    simp only [BitVec.toNat_ofNat, Nat.shiftLeft_eq, show 16 % 2 ^ 64 = 16 from rfl]
    omega
  have hy2 : y.toBitVec.toNat < 2 ^ 16 := by omega
  rw [e2, ← Nat.shiftLeft_add_eq_or_of_lt hy2, Nat.shiftLeft_eq]
  omega
theorem fk_or16' {V : Int} {y : Int64} (h0 : 0 ≤ y.toInt) (h1 : y.toInt < 65536) : (Int64.ofInt V <<< ((16 : Int32).toInt64 &&& 63)) ||| y = Int64.ofInt (V * 65536 + y.toInt) := by
  rw [fk_or16 h0 h1, Int64.ofInt_add, Int64.ofInt_mul, Int64.ofInt_toInt, Int64.ofInt_toInt, Int64.ofInt_add, Int64.ofInt_mul, Int64.ofInt_toInt]
/-- a limb, 0 outside -/
def fk_lb (f : Nat → Int64) (k : Int) : Int64 := if 0 ≤ k ∧ k < 12 then f k.toNat else 0
theorem fk_lb_in {f : Nat → Int64} {k : Int} {j : Nat} (hj : j < 12) (e : k = j) : fk_lb f k = f j := by
  subst e
  rw [fk_lb, if_pos ⟨by omega, by omega⟩]; rfl
theorem fk_lb_out {f : Nat → Int64} {k : Int} (h : k < 0 ∨ 12 ≤ k) : fk_lb f k = 0 := by
  rw [fk_lb, if_neg (by omega)]
theorem fk_dg_shift (x : Int) (s k : Nat) : fk_dg x (s + k) = fk_dg (x / 65536 ^ s) k := by
  rw [fk_dg, fk_dg, Int.pow_add, Int.ediv_ediv_of_nonneg (Int.le_of_lt (fk_pp s))]
theorem fk_bits4 {x : Int} {f : Nat → Int64} (h : fk_R x f) {s : Nat} (hs : s ≤ 8) : Int64.ofInt ((((fk_lb f (nI (s + 3)).toInt).toInt * 65536 + (fk_lb f (nI (s + 2)).toInt).toInt) * 65536 + (fk_lb f (nI (s + 1)).toInt).toInt) * 65536 + (fk_lb f (nI s).toInt).toInt) = Int64.ofInt (x / 65536 ^ s) := by
  have e : ∀ k, k < 4 → (fk_lb f (nI (s + k)).toInt).toInt = fk_dg (x / 65536 ^ s) k := by
    intro k hk
    rw [fk_lb_in (j := s + k) (by omega) (nI_toInt (by omega)), fk_R_dg h (by omega), fk_dg_shift]
  rw [e 3 (by omega), e 2 (by omega), e 1 (by omega), show nI s = nI (s + 0) from rfl, e 0 (by omega)]
  have t := fk_dg_T (x / 65536 ^ s) 4
  rw [← fk_ofInt_mod (x / 65536 ^ s), show (18446744073709551616 : Int) = 65536 ^ 4 by decide, ← t]
  congr 1
  simp only [fk_T]
  omega
theorem fk_lb_bd {x : Int} {f : Nat → Int64} (h : fk_R x f) (k : Int) : 0 ≤ (fk_lb f k).toInt ∧ (fk_lb f k).toInt < 65536 := by
  rw [fk_lb]
  split
  · rename_i q
    exact h.1 k.toNat (by omega)
  · decide
theorem fk_bit0 (x : Int64) : (x &&& 1).toInt = x.toInt % 2 := fk_and 1 (by omega) (by decide)
theorem fk_s15 (x : Int64) : (x >>> ((15 : Int32).toInt64 &&& 63)).toInt = x.toInt / 32768 := fk_shr 15 (by decide)
theorem fk_z64 : (0 : Int64).toInt = 0 := by decide
end
section
/-! Steps of the loops over limbs. -/
theorem fk_C_stp {t : Nat → Int} {c0 : Int} {i : Nat} {g : Nat → Int64} {cy x x1 x2 : Int64} (h : fk_C t c0 i g cy.toInt) (e : x.toInt = cy.toInt + t i) (e1 : x1 = x &&& 65535) (e2 : x2 = x >>> ((16 : Int32).toInt64 &&& 63)) : fk_C t c0 (i + 1) (vp_updL g i x1) x2.toInt := by
  rw [e2, fk_s16, e]
  exact fk_C_step h (by rw [e1, fk_m16, e])
theorem fk_mbd {a k K : Int} (h0 : 0 ≤ a) (h1 : a < 65536) (hk : -K ≤ k) (hk2 : k ≤ K) : -(65536 * K) ≤ a * k ∧ a * k ≤ 65536 * K := by
  have a1 : a * k ≤ a * K := Int.mul_le_mul_of_nonneg_left hk2 h0
  have a2 : a * K ≤ 65536 * K := Int.mul_le_mul_of_nonneg_right (by omega) (by omega)
  have a3 : a * (-K) ≤ a * k := Int.mul_le_mul_of_nonneg_left hk h0
  have a4 : a * (-K) = -(a * K) := Int.mul_neg _ _
  omega
/-- what is added, limb by limb, when k times o comes to f, sh limbs higher -/
def fk_at (f o : Nat → Int64) (sh : Nat) (k : Int) (j : Nat) : Int := fk_I f j + (if j < sh then 0 else (fk_lb o ((j - sh : Nat) : Int)).toInt * k)
def fk_e (f : Nat → Int64) (j : Nat) : Int := (fk_lb f (j : Int)).toInt
theorem fk_e_in {f : Nat → Int64} {j : Nat} (h : j < 12) : fk_e f j = fk_I f j := by rw [fk_e, fk_lb_in h rfl]; rfl
theorem fk_e_out {f : Nat → Int64} {j : Nat} (h : 12 ≤ j) : fk_e f j = 0 := by rw [fk_e, fk_lb_out (by omega)]; decide
theorem fk_at_T (f o : Nat → Int64) (sh : Nat) (k : Int) (n : Nat) : fk_T (fk_at f o sh k) (sh + n) = fk_T (fk_I f) (sh + n) + k * fk_T (fk_e o) n * 65536 ^ sh := by
  induction n with
  | zero =>
    have e : fk_T (fk_at f o sh k) sh = fk_T (fk_I f) sh := fk_T_congr (fun i hi => by rw [fk_at, if_pos hi, Int.add_zero])
    simp only [Nat.add_zero, e, fk_T]; simp
  | succ n ih =>
    rw [← Nat.add_assoc, fk_T, ih, fk_T, fk_T]
    have e : fk_at f o sh k (sh + n) = fk_I f (sh + n) + fk_e o n * k := by
      rw [fk_at, if_neg (by omega), show sh + n - sh = n by omega]; rfl
    rw [e, Int.pow_add]
    grind
theorem fk_at_0 {f o : Nat → Int64} {sh : Nat} {k : Int} (hn : fk_N (fk_I f) 12) (hs : sh ≤ 12) : fk_C (fk_at f o sh k) 0 sh f 0 := by
  refine ⟨fun i hi => hn i (by omega), ?_⟩
  have e := fk_at_T f o sh k 0
  simp only [Nat.add_zero, fk_T] at e
  rw [e]; simp
theorem fk_e_T {x : Int} {f : Nat → Int64} (h : fk_R x f) (h0 : 0 ≤ x) (hi : fk_In x) (n : Nat) (hn : 12 ≤ n) : fk_T (fk_e f) n = x := by
  rw [fk_T_trunc (s := 12) hn (fun j h1 _ => fk_e_out h1), fk_T_congr (fun i hi => fk_e_in hi)]
  exact fk_R_val h h0 hi
theorem fk_e_bd {x : Int} {f : Nat → Int64} (h : fk_R x f) (j : Nat) : 0 ≤ fk_e f j ∧ fk_e f j < 65536 := fk_lb_bd h _
theorem fk_pow_le {a b : Nat} (h : a ≤ b) : (65536 : Int) ^ a ≤ 65536 ^ b := by
  obtain ⟨d, rfl⟩ : ∃ d, b = a + d := ⟨b - a, by omega⟩
  rw [Int.pow_add]
  have h1 := fk_pp a
  have h2 := fk_pp d
  have : 65536 ^ a * 1 ≤ (65536 : Int) ^ a * 65536 ^ d := Int.mul_le_mul_of_nonneg_left (by omega) (by omega)
  omega
/-- a number below 65536 ^ k has no limbs from k on -/
theorem fk_high {t : Nat → Int} {n k : Nat} (hn : ∀ j, 0 ≤ t j ∧ t j < 65536) (h : fk_T t n < 65536 ^ k) (hk : k ≤ n) : fk_T t n = fk_T t k := by
  have e := fk_T_split t k (n - k)
  rw [show k + (n - k) = n by omega] at e
  have b1 := fk_T_bd (t := fun i => t (k + i)) (n := n - k) (fun i _ => hn _)
  have b2 := fk_T_bd (t := t) (n := k) (fun i _ => hn _)
  have hp := fk_pp k
  have : fk_T (fun i => t (k + i)) (n - k) = 0 := by
    rcases Int.lt_or_le 0 (fk_T (fun i => t (k + i)) (n - k)) with q | q
    · have : 65536 ^ k * 1 ≤ (65536 : Int) ^ k * fk_T (fun i => t (k + i)) (n - k) := Int.mul_le_mul_of_nonneg_left (by omega) (by omega)
      omega
    · omega
  rw [e, this]; simp
theorem fk_high0 {t : Nat → Int} {n k : Nat} (hn : ∀ j, 0 ≤ t j ∧ t j < 65536) (h : fk_T t n < 65536 ^ k) {j : Nat} (hj : k ≤ j) (hjn : j < n) : t j = 0 := by
  have e1 : fk_T t n = fk_T t (j + 1) := fk_high hn (Int.lt_of_lt_of_le h (fk_pow_le (by omega))) (by omega)
  have e2 : fk_T t n = fk_T t j := fk_high hn (Int.lt_of_lt_of_le h (fk_pow_le (by omega))) (by omega)
  rw [e2, fk_T] at e1
  have h0 : t j * 65536 ^ j = 0 := by omega
  rcases Int.mul_eq_zero.mp h0 with q | q
  · exact q
  · have := fk_pp j; omega
/-- the upper two limbs and what is below them -/
theorem fk_top2 {f : Nat → Int64} {x : Int} (h : fk_R x f) {k : Nat} (hk : 1 ≤ k) : ∃ l : Int, fk_T (fk_e f) k * 65536 = (fk_e f (k - 1) * 65536 + (fk_lb f ((k : Int) - 2)).toInt) * 65536 ^ (k - 1) + l ∧ 0 ≤ l ∧ l < 65536 ^ (k - 1) := by
  obtain ⟨j, rfl⟩ : ∃ j, k = j + 1 := ⟨k - 1, by omega⟩
  rw [Nat.add_sub_cancel]
  cases j with
  | zero =>
    refine ⟨0, ?_, by omega, by simp⟩
    rw [fk_lb_out (by omega)]
    simp [fk_T]
  | succ i =>
    have e : (fk_lb f (((i + 1 + 1 : Nat) : Int) - 2)).toInt = fk_e f i := by
      rw [fk_e]; congr 2; omega
    have b := fk_T_bd (t := fk_e f) (n := i) (fun i _ => fk_e_bd h i)
    refine ⟨fk_T (fk_e f) i * 65536, ?_, by omega, ?_⟩
    · rw [e, fk_T, fk_T, Int.pow_succ]; grind
    · rw [Int.pow_succ]; omega
theorem fk_as {x Y : Int} {f o g : Nat → Int64} {n sh m : Nat} {k c : Int} (hR : fk_R x f) (h0 : 0 ≤ x) (hI : fk_In x) (hRo : fk_R Y o) (hY : 0 ≤ Y) (hIY : fk_In Y) (hs : fk_Sz (fk_I o) n) (hm : m ≤ 12) (hm1 : n + sh ≤ m) (hx : x < 65536 ^ m) (hC : fk_C (fk_at f o sh k) 0 m g c) (hg : ∀ j, m ≤ j → g j = f j) : fk_N (fk_I g) 12 ∧ fk_T (fk_I g) 12 + c * 65536 ^ m = x + k * (Y * 65536 ^ sh) ∧ fk_T (fk_I g) 12 < 65536 ^ m := by
  have hfx : fk_T (fk_I f) 12 = x := fk_R_val hR h0 hI
  have hz : ∀ j, m ≤ j → j < 12 → fk_I f j = 0 := fun j h1 h2 => by
    rw [← fk_e_in h2]
    exact fk_high0 (fk_e_bd hR) (n := 12) (k := m) (by rw [fk_T_congr (fun i hi => fk_e_in hi), hfx]; exact hx) h1 h2
  have hgz : ∀ j, m ≤ j → j < 12 → fk_I g j = 0 := fun j h1 h2 => by rw [fk_I, hg j h1]; exact hz j h1 h2
  have hfm : fk_T (fk_I f) m = x := by rw [← hfx]; exact (fk_T_trunc hm hz).symm
  have hgm : fk_T (fk_I g) 12 = fk_T (fk_I g) m := fk_T_trunc hm hgz
  have e := fk_at_T f o sh k (m - sh)
  rw [show sh + (m - sh) = m by omega] at e
  have eo : fk_T (fk_e o) (m - sh) = Y := by
    have q := fk_e_T hRo hY hIY 12 (Nat.le_refl _)
    rw [← q]
    refine (fk_T_trunc (t := fk_e o) (by omega) (fun j h1 h2 => ?_)).symm
    rw [fk_e_in h2]
    exact hs.2.1 j (by omega) h2
  rw [eo, hfm] at e
  have hN : fk_N (fk_I g) 12 := fun i hi => by
    rcases Nat.lt_or_ge i m with q | q
    · exact hC.1 i q
    · rw [hgz i q hi]; decide
  refine ⟨hN, ?_, ?_⟩
  · rw [hgm, hC.2, e]; grind
  · rw [hgm]; exact (fk_T_bd hC.1).2
theorem fk_or16n {b y : Int64} (hb0 : 0 ≤ b.toInt) (hb1 : b.toInt < 70368744177664) (h0 : 0 ≤ y.toInt) (h1 : y.toInt < 65536) : ((b <<< ((16 : Int32).toInt64 &&& 63)) ||| y).toInt = b.toInt * 65536 + y.toInt := by
  rw [fk_or16 h0 h1]
  exact Int64.toInt_ofInt_of_le (by omega) (by omega)
theorem fk_cs_bd {t u : Nat → Int} (j : Nat) (hj : j < 12) (ht : fk_N t 12) (hu : fk_N u 12) : ∀ i, i ≤ j + 1 → 0 ≤ fk_cs t u j i ∧ fk_cs t u j i ≤ i * 4294967296 := by
  intro i
  induction i with
  | zero => intro _; simp [fk_cs]
  | succ i ih =>
    intro hi
    obtain ⟨a1, a2⟩ := ih (by omega)
    obtain ⟨b1, b2⟩ := ht i (by omega)
    obtain ⟨c1, c2⟩ := hu (j - i) (by omega)
    have d1 : 0 ≤ t i * u (j - i) := Int.mul_nonneg b1 c1
    have d2 : t i * u (j - i) ≤ 65536 * u (j - i) := Int.mul_le_mul_of_nonneg_right (by omega) c1
    rw [fk_cs]
    push_cast
    omega
end
section
/-! Long division: the guess from three limbs over two, and a step of it. -/
theorem fk_gd {x y : Int} {f o : Nat → Int64} {n sh : Nat} (hR : fk_R x f) (hx0 : 0 ≤ x) (hI : fk_In x) (hRo : fk_R y o) (hy0 : 0 < y) (hIy : fk_In y) (hs : fk_Sz (fk_I o) n) (hn1 : n ≠ 0) (hns : n + sh ≤ 12) (hxy : x < y * 65536 ^ sh * 65536) :
    65536 ≤ (fk_lb o ((n : Int) - 1)).toInt * 65536 + (fk_lb o ((n : Int) - 2)).toInt ∧
    x / (y * 65536 ^ sh) ≤ (((fk_lb f ((n + sh : Nat) : Int)).toInt * 65536 + (fk_lb f (((n + sh : Nat) : Int) - 1)).toInt) * 65536 + (fk_lb f (((n + sh : Nat) : Int) - 2)).toInt) / ((fk_lb o ((n : Int) - 1)).toInt * 65536 + (fk_lb o ((n : Int) - 2)).toInt) ∧
    (((fk_lb f ((n + sh : Nat) : Int)).toInt * 65536 + (fk_lb f (((n + sh : Nat) : Int) - 1)).toInt) * 65536 + (fk_lb f (((n + sh : Nat) : Int) - 2)).toInt) / ((fk_lb o ((n : Int) - 1)).toInt * 65536 + (fk_lb o ((n : Int) - 2)).toInt) ≤ x / (y * 65536 ^ sh) + 1 := by
  have i1 : (fk_lb o ((n : Int) - 1)).toInt = fk_e o (n - 1) := by rw [fk_e]; congr 2; omega
  have i2 : (fk_lb f (((n + sh : Nat) : Int) - 1)).toInt = fk_e f (n + sh - 1) := by rw [fk_e]; congr 2; omega
  have i3 : (fk_lb f ((n + sh : Nat) : Int)).toInt = fk_e f (n + sh) := rfl
  have hyT12 : fk_T (fk_e o) 12 = y := fk_e_T hRo (by omega) hIy 12 (Nat.le_refl _)
  have hyT : fk_T (fk_e o) n = y := by
    rw [← hyT12]
    exact (fk_T_trunc hs.1 (fun j h1 h2 => by rw [fk_e_in h2]; exact hs.2.1 j h1 h2)).symm
  have hyB : y < 65536 ^ n := by rw [← hyT]; exact (fk_T_bd (fun i _ => fk_e_bd hRo i)).2
  have hp := fk_pp sh
  have hxB : x < 65536 ^ (n + sh + 1) := by
    have a1 : y * 65536 ^ sh ≤ 65536 ^ n * 65536 ^ sh := Int.mul_le_mul_of_nonneg_right (by omega) (by omega)
    rw [Int.pow_succ, Int.pow_add]
    omega
  have hxT : fk_T (fk_e f) (n + sh + 1) = x := by
    have q := fk_e_T hR hx0 hI 13 (by omega)
    rw [← q]
    exact (fk_high (fk_e_bd hR) (by rw [q]; exact hxB) (by omega)).symm
  obtain ⟨l2, e2, h3, h4⟩ := fk_top2 hRo (k := n) (by omega)
  obtain ⟨l1, e1, h1, h2⟩ := fk_top2 hR (k := n + sh) (by omega)
  rw [hyT] at e2
  have hpw : (65536 : Int) ^ (n + sh - 1) = 65536 ^ (n - 1) * 65536 ^ sh := by rw [← Int.pow_add]; congr 1; omega
  have hpw2 : (65536 : Int) ^ (n + sh) = 65536 ^ (n - 1) * 65536 ^ sh * 65536 := by rw [← hpw, ← Int.pow_succ]; congr 1; omega
  have e3 : x * 65536 = ((fk_e f (n + sh) * 65536 + fk_e f (n + sh - 1)) * 65536 + (fk_lb f (((n + sh : Nat) : Int) - 2)).toInt) * (65536 ^ (n - 1) * 65536 ^ sh) + l1 := by
    rw [← hxT, fk_T, Int.add_mul, e1, hpw2, hpw]
    grind
  rw [i1, i2, i3]
  have hO : 65536 ≤ fk_e o (n - 1) * 65536 + (fk_lb o ((n : Int) - 2)).toInt := by
    have b1 := fk_e_bd hRo (n - 1)
    have b2 := fk_lb_bd hRo ((n : Int) - 2)
    have hne : fk_e o (n - 1) ≠ 0 := by
      rw [fk_e_in (by have := hs.1; omega)]
      rcases hs.2.2 with q | q
      · exact absurd q hn1
      · exact q
    omega
  refine ⟨hO, ?_⟩
  exact fk_guess (fk_pp (n - 1)) hp hy0 e3 h1 (by rw [← hpw]; exact h2) e2 h3 h4 hO rfl hx0 hxy
/-- the guess was the digit: what remains is there -/
theorem fk_d1 {u c1 M r q z Z : Int} (hu : 0 ≤ u) (hz : 0 ≤ z) (hzM : z < M) (hZ : 0 < Z) (e : u + c1 * M = z + -r * Z) (hq : q = z / Z) (hr : q ≤ r) (hr2 : r ≤ q + 1) (hc : 0 ≤ c1) (huM : u < M) : r = q ∧ u = z - q * Z := by
  have a1 := Int.mul_ediv_add_emod z Z
  have a2 := Int.emod_nonneg z (show Z ≠ 0 by omega)
  have a3 := Int.emod_lt_of_pos z hZ
  rw [← hq] at a1
  have hM : 0 < M := by omega
  have b1 : 0 ≤ c1 * M := Int.mul_nonneg hc (by omega)
  have hrq : r = q := by
    rcases Int.lt_or_le q r with h | h
    · have : r = q + 1 := by omega
      subst this
      have : -(q + 1) * Z = -(Z * q) - Z := by grind
      omega
    · omega
  subst hrq
  refine ⟨rfl, ?_⟩
  have e2 : -r * Z = -(Z * r) := by grind
  have e3 : r * Z = Z * r := Int.mul_comm _ _
  have hc0 : c1 = 0 := by
    rcases Int.lt_or_le 0 c1 with h | h
    · have : 1 * M ≤ c1 * M := Int.mul_le_mul_of_nonneg_right (by omega) (by omega)
      have : 0 ≤ r := by rw [hq]; exact Int.ediv_nonneg hz (by omega)
      have : 0 ≤ Z * r := Int.mul_nonneg (by omega) this
      omega
    · omega
  rw [hc0] at e
  omega
/-- the guess was one too great, and the divisor was added again -/
theorem fk_d2 {u u2 c1 c2 M r q z Z : Int} (hz : 0 ≤ z) (hzM : z < M) (hZ : 0 < Z) (hZM : Z ≤ M) (hu : 0 ≤ u) (huM : u < M) (e : u + c1 * M = z + -r * Z) (hq : q = z / Z) (hr : q ≤ r) (hr2 : r ≤ q + 1) (hc : c1 < 0) (hu2 : 0 ≤ u2) (hu2M : u2 < M) (e2 : u2 + c2 * M = u + 1 * Z) : r - 1 = q ∧ u2 = z - q * Z := by
  have a1 := Int.mul_ediv_add_emod z Z
  have a2 := Int.emod_nonneg z (show Z ≠ 0 by omega)
  have a3 := Int.emod_lt_of_pos z hZ
  rw [← hq] at a1
  have hM : 0 < M := by omega
  have hrq : r = q + 1 := by
    rcases Int.lt_or_le q r with h | h
    · omega
    · have : r = q := by omega
      subst this
      have b1 : c1 * M ≤ (-1) * M := Int.mul_le_mul_of_nonneg_right (by omega) (by omega)
      have : -r * Z = -(Z * r) := by grind
      omega
  subst hrq
  refine ⟨by omega, ?_⟩
  have e3 : -(q + 1) * Z = -(Z * q) - Z := by grind
  have e4 : q * Z = Z * q := Int.mul_comm _ _
  have e5 : (c1 + c2) * M = c1 * M + c2 * M := Int.add_mul _ _ _
  have e6 : u2 + (c1 + c2) * M = z - q * Z := by omega
  have e7 := fk_mod hu2 hu2M e6
  rw [← e7]
  exact Int.emod_eq_of_lt (by omega) (by omega)
theorem fk_T_upd {w : Nat → Int64} {d : Int64} {sh : Nat} (hw : fk_I w sh = 0) (n : Nat) (hn : sh < n) : fk_T (fk_I (vp_updL w sh d)) n = fk_T (fk_I w) n + d.toInt * 65536 ^ sh := by
  induction n with
  | zero => omega
  | succ n ih =>
    rw [fk_T, fk_T]
    by_cases q : n = sh
    · subst q
      rw [fk_T_congr (u := fk_I w) (fun i hi => by rw [fk_I, fk_I, pk_uLn (by omega)]), hw, fk_I, pk_uLs]
      omega
    · rw [ih (by omega), fk_I_def (vp_updL w sh d), pk_uLn q, ← fk_I_def]
      omega
theorem fk_dstep {x y z : Int} {w : Nat → Int64} {d : Int64} {sh : Nat} (hsh : sh < 12) (hy : 0 < y) (hz0 : 0 ≤ z) (hI : fk_In z) (hzk : z < y * 65536 ^ (sh + 1)) (hwN : fk_N (fk_I w) 12) (hw0 : ∀ j, j < sh + 1 → fk_I w j = 0) (hsum : x = z + y * fk_T (fk_I w) 12) (hd : d.toInt = z / (y * 65536 ^ sh)) :
    0 ≤ z - z / (y * 65536 ^ sh) * (y * 65536 ^ sh) ∧ fk_In (z - z / (y * 65536 ^ sh) * (y * 65536 ^ sh)) ∧ z - z / (y * 65536 ^ sh) * (y * 65536 ^ sh) < y * 65536 ^ sh ∧ fk_N (fk_I (vp_updL w sh d)) 12 ∧ (∀ j, j < sh → fk_I (vp_updL w sh d) j = 0) ∧ x = z - z / (y * 65536 ^ sh) * (y * 65536 ^ sh) + y * fk_T (fk_I (vp_updL w sh d)) 12 := by
  have hZ : 0 < y * 65536 ^ sh := Int.mul_pos hy (fk_pp sh)
  have a1 := Int.mul_ediv_add_emod z (y * 65536 ^ sh)
  have a2 := Int.emod_nonneg z (show y * 65536 ^ sh ≠ 0 by omega)
  have a3 := Int.emod_lt_of_pos z hZ
  have a4 : z / (y * 65536 ^ sh) * (y * 65536 ^ sh) = y * 65536 ^ sh * (z / (y * 65536 ^ sh)) := Int.mul_comm _ _
  have q0 : 0 ≤ z / (y * 65536 ^ sh) := Int.ediv_nonneg hz0 (by omega)
  have q1 : z / (y * 65536 ^ sh) < 65536 := by
    rw [Int.ediv_lt_iff_lt_mul hZ]
    rw [Int.pow_succ] at hzk
    have : 65536 * (y * 65536 ^ sh) = y * (65536 ^ sh * 65536) := by grind
    omega
  have q2 : 0 ≤ z / (y * 65536 ^ sh) * (y * 65536 ^ sh) := Int.mul_nonneg q0 (by omega)
  obtain ⟨i1, i2⟩ := hI
  refine ⟨by omega, ⟨by omega, by omega⟩, by omega, fun j hj => ?_, fun j hj => ?_, ?_⟩
  · by_cases q : j = sh
    · subst q; rw [fk_I, pk_uLs, hd]; exact ⟨q0, q1⟩
    · rw [fk_I, pk_uLn q]; exact hwN j hj
  · rw [fk_I, pk_uLn (by omega)]; exact hw0 j (by omega)
  · rw [fk_T_upd (hw0 sh (by omega)) 12 hsh, hd, hsum]
    grind
theorem fk_dend {x y z : Int} {g w : Nat → Int64} (hy : 0 < y) (hz0 : 0 ≤ z) (hzk : z < y) (hR : fk_R z g) (hwN : fk_N (fk_I w) 12) (hsum : x = z + y * fk_T (fk_I w) 12) : fk_R (x % y) g ∧ fk_R (x / y) w := by
  have e1 : x % y = z := by rw [hsum, Int.add_mul_emod_self_left]; exact Int.emod_eq_of_lt hz0 hzk
  have e2 : x / y = fk_T (fk_I w) 12 := by rw [hsum, Int.add_mul_ediv_left _ _ (by omega), Int.ediv_eq_zero_of_lt hz0 hzk]; simp
  exact ⟨by rw [e1]; exact hR, fk_R_of hwN e2.symm⟩
/-- the same, of limbs that may fill all twelve -/
theorem fk_as2 {x Y : Int} {f o g : Nat → Int64} {n sh m : Nat} {k c : Int} (hf : fk_N (fk_I f) 12) (hfx : fk_T (fk_I f) 12 = x) (hx : x < 65536 ^ m) (hRo : fk_R Y o) (hY : 0 ≤ Y) (hIY : fk_In Y) (hs : fk_Sz (fk_I o) n) (hm : m ≤ 12) (hm1 : n + sh ≤ m) (hC : fk_C (fk_at f o sh k) 0 m g c) (hg : ∀ j, m ≤ j → g j = f j) : fk_N (fk_I g) 12 ∧ fk_T (fk_I g) 12 + c * 65536 ^ m = x + k * (Y * 65536 ^ sh) ∧ fk_T (fk_I g) 12 < 65536 ^ m := by
  have hR : fk_R x f := fk_R_of hf hfx
  have hz : ∀ j, m ≤ j → j < 12 → fk_I f j = 0 := fun j h1 h2 => by
    rw [← fk_e_in h2]
    exact fk_high0 (fk_e_bd hR) (n := 12) (k := m) (by rw [fk_T_congr (fun i hi => fk_e_in hi), hfx]; exact hx) h1 h2
  have hgz : ∀ j, m ≤ j → j < 12 → fk_I g j = 0 := fun j h1 h2 => by rw [fk_I, hg j h1]; exact hz j h1 h2
  have hfm : fk_T (fk_I f) m = x := by rw [← hfx]; exact (fk_T_trunc hm hz).symm
  have hgm : fk_T (fk_I g) 12 = fk_T (fk_I g) m := fk_T_trunc hm hgz
  have e := fk_at_T f o sh k (m - sh)
  rw [show sh + (m - sh) = m by omega] at e
  have eo : fk_T (fk_e o) (m - sh) = Y := by
    have q := fk_e_T hRo hY hIY 12 (Nat.le_refl _)
    rw [← q]
    refine (fk_T_trunc (t := fk_e o) (by omega) (fun j h1 h2 => ?_)).symm
    rw [fk_e_in h2]
    exact hs.2.1 j (by omega) h2
  rw [eo, hfm] at e
  have hN : fk_N (fk_I g) 12 := fun i hi => by
    rcases Nat.lt_or_ge i m with q | q
    · exact hC.1 i q
    · rw [hgz i q hi]; decide
  refine ⟨hN, ?_, ?_⟩
  · rw [hgm, hC.2, e]; grind
  · rw [hgm]; exact (fk_T_bd hC.1).2
end
section
/-! Whole: contracts, by program -/
abbrev rmX2_setTo : Room := { frames := 0, cells := 0, slots := 0, locals := 0 }
set_option maxHeartbeats 4000000 in
set_option maxRecDepth 100000 in
/-- Whole.setTo -/
theorem kX2_setTo {l : Launch} {D : va_G} {cJ cC cI cZ cK : ClassId} (sz : Nat) (ws : va_W) (h0 h1 q0 q1 : Nat) (f : Nat → Int64) (v : Int64) (hq0 : ws[q0]? = some (h0, .inr (3, [.ref h1]))) (hq1 : ws[q1]? = some (h1, .inl (cJ, 12, .inr (.inl f)))) : Met l yX2_setTo wsX2_setTo rmX2_setTo (va_Pc [.ref h0, .long v] (fk_pre D (fk_ty cJ cC cI cZ cK) ws sz)) (va_Qv (fun g : Nat → Int64 => fk_R v.toInt g) (fk_Bd D (fk_ty cJ cC cI cZ cK) (va_A ws sz) (fun g : Nat → Int64 => ws.set q1 (h1, .inl (cJ, 12, .inr (.inl g))))) (va_A ws sz)) 0 0 (va_A ws sz) := by
  refine fk_ofW cX2_setTo 6 none (fun A => va_Qv (fun g : Nat → Int64 => fk_R v.toInt g) (fk_Bd D (fk_ty cJ cC cI cZ cK) A (fun g : Nat → Int64 => ws.set q1 (h1, .inl (cJ, 12, .inr (.inl g))))) A) rfl (by decide) (Nat.le_of_ble_eq_true rfl) ?_
  intro p e s m below meth c A ls args QQ hQQ hAt hP hK hN hD hA hS hl
  obtain ⟨⟨hx, hb, hml, hown, hts⟩, hr, hlocks, hin⟩ := hAt
  have hl : lv_has ls 6 [(0, .ref h0), (1, .long v)] := hl
  have k1 := hts (.fieldLink RX2 9 "FixedKinds$Whole" "limbs" "[J") (by decide +kernel)
  have k2 := (by decide +kernel : ∀ w ∈ u_ws RX2 TX2 1, w ∈ wsX2_setTo)
  have k3 := hts (.constantLong RX2 15 65535) (by decide +kernel)
  have hn_q1_q0 : q1 ≠ q0 := fk_neA hq0 hq1
  have hw0 : ws = (ws.set q1 (h1, .inl (cJ, 12, .inr (.inl f)))) := by rw [fk_s0 hq1]
  rw [hw0] at hP hD
  refine lv_lload_n hx hb dX2_setTo_0 rfl (lv_at hl 1 rfl) ?_
  refine lv_lstore_n (lv' := [(3, .long v), (0, .ref h0), (1, .long v)]) hx hb dX2_setTo_1 rfl hl (by decide) rfl (fun ls hl => ?_)
  refine lv_iconst (v := 0) hx hb dX2_setTo_2 (by decide) ?_
  refine lv_istore (lv' := [(5, .int 0), (3, .long v), (0, .ref h0), (1, .long v)]) hx hb dX2_setTo_3 hl (by decide) rfl (fun ls hl => ?_)
  have L5 : ∀ (fu5 : Nat) (i : Nat) (g : Nat → Int64) (cy : Int64), 12 - i < fu5 → (i ≤ 12) → (fk_C (fun _ => 0) v.toInt i g cy.toInt) → ∀ (H : Heap) (locs : List Loc) (ls : Array Slot), va_P D vwCl (ws.set q1 (h1, .inl (cJ, 12, .inr (.inl g)))) H → va_D A (ws.set q1 (h1, .inl (cJ, 12, .inr (.inl g)))) → va_S A s.heap H locs → lv_has ls 6 [(0, .ref h0), (1, .long v), (3, .long cy), (5, .int (nI i))] → W p l e rmX2_setTo s m args below meth c H locs 0 0 QQ (F0 m 5 ls []) := by
    intro fu5
    induction fu5 with
    | zero => intro i g cy hfu; exact absurd hfu (Nat.not_lt_zero _)
    | succ fu5 ih5 =>
      intro i g cy hfu5 hi hc H locs ls hP hD hS hl
      refine lv_iload hx hb dX2_setTo_5 (lv_at hl 3 rfl) ?_
      refine lv_bipush (v := 12) hx hb dX2_setTo_7 (by decide) ?_
      refine lv_icmp_ge (tgt := 35) hx hb dX2_setTo_9 (by decide) (fun c_9 => ?_) (fun c_9 => ?_)
      · have hi12 : i = 12 := by have q := (nI_leI (a := 12) (b := i) (by omega) (by omega)).mp c_9; omega
        subst hi12
        rw [hQQ]
        exact W.vret hx hb hr (fun t ht hW => ⟨⟨g, rfl, fk_R_set hc, by rw [ht]; exact hP, va_K.moved hW.alike hK, hD⟩, hS.F ht⟩) hS.2.2 dX2_setTo_35
      · have hi12 : i < 12 := by rcases Nat.lt_or_ge i 12 with q | q; exact q; exact absurd ((nI_leI (a := 12) (b := i) (by omega) (by omega)).mpr q) c_9
        refine lv_aload_n hx hb dX2_setTo_12 rfl (lv_at hl 0 rfl) ?_
        refine va_get (D := D) (ci := 3) (v := .ref h1) (C := RX2) (T := TX2) (N := 1) hx hb hts k2 hown hK hP q0 (fk_sn hq0 hn_q1_q0) rfl 0 (by decide) k1 (fun _ h9 => h9) rfl dX2_setTo_13 ?_
        refine lv_iload hx hb dX2_setTo_16 (lv_at hl 3 rfl) ?_
        refine lv_lload_n hx hb dX2_setTo_18 rfl (lv_at hl 2 rfl) ?_
        refine lv_ldc2 (v := 65535) hx hb hown k3 dX2_setTo_19 ?_
        refine lv_land hx hb dX2_setTo_22 ?_
        refine lv_topl (fun x1 ex1 => ?_)
        refine fk_last hx hb hK hP hD hS q1 0 (fk_ss hq1) rfl (i := i) (by omega) (by decide) dX2_setTo_23 (fun H locs hP hD hS => ?_)
        rw [fk_s2] at hP hD
        refine lv_lload_n hx hb dX2_setTo_24 rfl (lv_at hl 2 rfl) ?_
        refine lv_bipush (v := 16) hx hb dX2_setTo_25 (by decide) ?_
        refine lv_lshr hx hb dX2_setTo_27 rfl ?_
        refine lv_topl (fun x2 ex2 => ?_)
        refine lv_lstore_n (lv' := [(3, .long x2), (0, .ref h0), (1, .long v), (5, .int (nI i))]) hx hb dX2_setTo_28 rfl hl (by decide) rfl (fun ls hl => ?_)
        have a3 : fk_C (fun _ => 0) v.toInt (i + 1) (vp_updL g i x1) x2.toInt := by
          have q := fk_C_step (y := x1) hc (by rw [ex1, fk_m16]; simp)
          rw [ex2, fk_s16]; simpa using q
        refine lv_iinc (v := nI (i + 1)) (lv' := [(5, .int (nI (i + 1))), (3, .long x2), (0, .ref h0), (1, .long v)]) hx hb dX2_setTo_29 hl (k := 3) rfl (by exact nI_1 i) (by decide) rfl (fun ls hl => ?_)
        refine lv_goto (tgt := 5) hx hb dX2_setTo_32 (by decide) ?_
        exact ih5 (i + 1) (vp_updL g i x1) x2 (by omega) (by omega) a3 _ _ _ hP hD hS (lv_sub hl [2, 3, 1, 0] rfl)
  exact L5 13 0 f v (by omega) (by omega) (fk_C_0 _ _ _) _ _ _ hP hD hS (lv_sub hl [2, 3, 1, 0] rfl)
end
section
/-! Whole: readers, by program -/
abbrev rmX2_copy : Room := { frames := 0, cells := 0, slots := 0, locals := 0 }
set_option maxHeartbeats 4000000 in
set_option maxRecDepth 100000 in
/-- Whole.copy -/
theorem kX2_copy {l : Launch} {D : va_G} {cJ cC cI cZ cK : ClassId} (sz : Nat) (ws : va_W) (h0 h1 h2 h3 q0 q1 q2 q3 : Nat) (f o : Nat → Int64) (y : Int) (hq0 : ws[q0]? = some (h0, .inr (3, [.ref h1]))) (hq1 : ws[q1]? = some (h1, .inl (cJ, 12, .inr (.inl f)))) (hq2 : ws[q2]? = some (h2, .inr (3, [.ref h3]))) (hq3 : ws[q3]? = some (h3, .inl (cJ, 12, .inr (.inl o)))) (hne : q1 ≠ q3) (hR2 : fk_R y o) : Met l yX2_copy wsX2_copy rmX2_copy (va_Pc [.ref h0, .ref h2] (fk_pre D (fk_ty cJ cC cI cZ cK) ws sz)) (va_Qv (fun g : Nat → Int64 => fk_R y g) (fk_Bd D (fk_ty cJ cC cI cZ cK) (va_A ws sz) (fun g : Nat → Int64 => ws.set q1 (h1, .inl (cJ, 12, .inr (.inl g))))) (va_A ws sz)) 0 0 (va_A ws sz) := by
  refine fk_ofW cX2_copy 3 none (fun A => va_Qv (fun g : Nat → Int64 => fk_R y g) (fk_Bd D (fk_ty cJ cC cI cZ cK) A (fun g : Nat → Int64 => ws.set q1 (h1, .inl (cJ, 12, .inr (.inl g))))) A) rfl (by decide) (Nat.le_of_ble_eq_true rfl) ?_
  intro p e s m below meth c A ls args QQ hQQ hAt hP hK hN hD hA hS hl
  obtain ⟨⟨hx, hb, hml, hown, hts⟩, hr, hlocks, hin⟩ := hAt
  have hl : lv_has ls 3 [(0, .ref h0), (1, .ref h2)] := hl
  have k1 := hts (.fieldLink RX2 9 "FixedKinds$Whole" "limbs" "[J") (by decide +kernel)
  have k2 := (by decide +kernel : ∀ w ∈ u_ws RX2 TX2 1, w ∈ wsX2_copy)
  have hn_q1_q0 : q1 ≠ q0 := fk_neA hq0 hq1
  have hn_q1_q2 : q1 ≠ q2 := fk_neA hq2 hq1
  have hn_q1_q3 := hne
  have hw0 : ws = (ws.set q1 (h1, .inl (cJ, 12, .inr (.inl f)))) := by rw [fk_s0 hq1]
  rw [hw0] at hP hD
  refine lv_iconst (v := 0) hx hb dX2_copy_0 (by decide) ?_
  refine lv_istore_n (lv' := [(2, .int 0), (0, .ref h0), (1, .ref h2)]) hx hb dX2_copy_1 rfl hl (by decide) rfl (fun ls hl => ?_)
  have L2 : ∀ (fu2 : Nat) (i : Nat) (g : Nat → Int64), 12 - i < fu2 → (i ≤ 12) → (∀ j, j < i → g j = o j) → ∀ (H : Heap) (locs : List Loc) (ls : Array Slot), va_P D vwCl (ws.set q1 (h1, .inl (cJ, 12, .inr (.inl g)))) H → va_D A (ws.set q1 (h1, .inl (cJ, 12, .inr (.inl g)))) → va_S A s.heap H locs → lv_has ls 3 [(0, .ref h0), (1, .ref h2), (2, .int (nI i))] → W p l e rmX2_copy s m args below meth c H locs 0 0 QQ (F0 m 2 ls []) := by
    intro fu2
    induction fu2 with
    | zero => intro i g hfu; exact absurd hfu (Nat.not_lt_zero _)
    | succ fu2 ih2 =>
      intro i g hfu2 hi hc H locs ls hP hD hS hl
      refine lv_iload_n hx hb dX2_copy_2 rfl (lv_at hl 2 rfl) ?_
      refine lv_bipush (v := 12) hx hb dX2_copy_3 (by decide) ?_
      refine lv_icmp_ge (tgt := 26) hx hb dX2_copy_5 (by decide) (fun c_5 => ?_) (fun c_5 => ?_)
      · have hi12 : i = 12 := by have q := (nI_leI (a := 12) (b := i) (by omega) (by omega)).mp c_5; omega
        subst hi12
        rw [hQQ]
        exact W.vret hx hb hr (fun t ht hW => ⟨⟨g, rfl, fk_R_congr hR2 hc, by rw [ht]; exact hP, va_K.moved hW.alike hK, hD⟩, hS.F ht⟩) hS.2.2 dX2_copy_26
      · have hi12 : i < 12 := by rcases Nat.lt_or_ge i 12 with q | q; exact q; exact absurd ((nI_leI (a := 12) (b := i) (by omega) (by omega)).mpr q) c_5
        refine lv_aload_n hx hb dX2_copy_8 rfl (lv_at hl 0 rfl) ?_
        refine va_get (D := D) (ci := 3) (v := .ref h1) (C := RX2) (T := TX2) (N := 1) hx hb hts k2 hown hK hP q0 (fk_sn hq0 hn_q1_q0) rfl 0 (by decide) k1 (fun _ h9 => h9) rfl dX2_copy_9 ?_
        refine lv_iload_n hx hb dX2_copy_12 rfl (lv_at hl 2 rfl) ?_
        refine lv_aload_n hx hb dX2_copy_13 rfl (lv_at hl 1 rfl) ?_
        refine va_get (D := D) (ci := 3) (v := .ref h3) (C := RX2) (T := TX2) (N := 1) hx hb hts k2 hown hK hP q2 (fk_sn hq2 hn_q1_q2) rfl 0 (by decide) k1 (fun _ h9 => h9) rfl dX2_copy_14 ?_
        refine lv_iload_n hx hb dX2_copy_17 rfl (lv_at hl 2 rfl) ?_
        refine fk_lald hx hb hK hP q3 0 (fk_sn hq3 hn_q1_q3) rfl (i := i) (by omega) (by decide) dX2_copy_18 ?_
        refine fk_last hx hb hK hP hD hS q1 0 (fk_ss hq1) rfl (i := i) (by omega) (by decide) dX2_copy_19 (fun H locs hP hD hS => ?_)
        rw [fk_s2] at hP hD
        have a3 : ∀ j, j < i + 1 → vp_updL g i (o i) j = o j := by
          intro j hj
          by_cases q : j = i
          · subst q; rw [pk_uLs]
          · rw [pk_uLn q]; exact hc j (by omega)
        refine lv_iinc (v := nI (i + 1)) (lv' := [(2, .int (nI (i + 1))), (0, .ref h0), (1, .ref h2)]) hx hb dX2_copy_20 hl (k := 2) rfl (by exact nI_1 i) (by decide) rfl (fun ls hl => ?_)
        refine lv_goto (tgt := 2) hx hb dX2_copy_23 (by decide) ?_
        exact ih2 (i + 1) (vp_updL g i (o i)) (by omega) (by omega) a3 _ _ _ hP hD hS (lv_sub hl [1, 2, 0] rfl)
  exact L2 13 0 f (by omega) (by omega) (fun j hj => absurd hj (Nat.not_lt_zero j)) _ _ _ hP hD hS (lv_sub hl [1, 2, 0] rfl)
abbrev rmX2_isNegative : Room := { frames := 0, cells := 0, slots := 0, locals := 0 }
set_option maxHeartbeats 4000000 in
set_option maxRecDepth 100000 in
/-- Whole.isNegative -/
theorem kX2_isNegative {l : Launch} {D : va_G} {cJ cC cI cZ cK : ClassId} (sz : Nat) (ws : va_W) (h0 h1 q0 q1 : Nat) (f : Nat → Int64) (x : Int) (hq0 : ws[q0]? = some (h0, .inr (3, [.ref h1]))) (hq1 : ws[q1]? = some (h1, .inl (cJ, 12, .inr (.inl f)))) (hR : fk_R x f) (hI : fk_In x) : Met l yX2_isNegative wsX2_isNegative rmX2_isNegative (va_Pc [.ref h0] (fk_pre D (fk_ty cJ cC cI cZ cK) ws sz)) (va_Qi (fun (r : Int32) (_ : Unit) => r = if x < 0 then 1 else 0) (fk_Bd D (fk_ty cJ cC cI cZ cK) (va_A ws sz) (fun _ : Unit => ws)) (va_A ws sz)) 0 0 (va_A ws sz) := by
  refine fk_ofW cX2_isNegative 1 (some .boolean) (fun A => va_Qi (fun (r : Int32) (_ : Unit) => r = if x < 0 then 1 else 0) (fk_Bd D (fk_ty cJ cC cI cZ cK) A (fun _ : Unit => ws)) A) rfl (by decide) (Nat.le_of_ble_eq_true rfl) ?_
  intro p e s m below meth c A ls args QQ hQQ hAt hP hK hN hD hA hS hl
  obtain ⟨⟨hx, hb, hml, hown, hts⟩, hr, hlocks, hin⟩ := hAt
  have hl : lv_has ls 1 [(0, .ref h0)] := hl
  have k1 := hts (.fieldLink RX2 9 "FixedKinds$Whole" "limbs" "[J") (by decide +kernel)
  have k2 := (by decide +kernel : ∀ w ∈ u_ws RX2 TX2 1, w ∈ wsX2_isNegative)
  refine lv_aload_n hx hb dX2_isNegative_0 rfl (lv_at hl 0 rfl) ?_
  refine va_get (D := D) (ci := 3) (v := .ref h1) (C := RX2) (T := TX2) (N := 1) hx hb hts k2 hown hK hP q0 hq0 rfl 0 (by decide) k1 (fun _ h9 => h9) rfl dX2_isNegative_1 ?_
  refine lv_bipush (v := 11) hx hb dX2_isNegative_4 (by decide) ?_
  refine fk_lald hx hb hK hP q1 0 hq1 rfl (i := 11) (by decide) (by decide) dX2_isNegative_6 ?_
  refine lv_bipush (v := 15) hx hb dX2_isNegative_7 (by decide) ?_
  refine lv_lshr hx hb dX2_isNegative_9 rfl ?_
  refine lv_topl (fun x1 ex1 => ?_)
  refine lv_lconst (v := 0) hx hb dX2_isNegative_10 (by decide) ?_
  refine W.lcmp hx hb dX2_isNegative_11 ?_
  refine lv_if_eq (tgt := 19) hx hb dX2_isNegative_12 (by decide) (fun c_12 => ?_) (fun c_12 => ?_)
  · rw [lg_cmp_eq] at c_12
    have hz := fk_s15 (f 11)
    have hbd := hR.1 11 (by omega)
    rw [fk_I_def] at hbd
    have hv := fk_R_neg hR hI
    rw [← Int64.toInt_inj, ex1, hz, fk_z64] at c_12
    refine lv_iconst (v := 0) hx hb dX2_isNegative_19 (by decide) ?_
    rw [hQQ]
    exact W.zret (v := 0) hx hb hr rfl (fun t ht hW => ⟨⟨0, (), rfl, (by rw [if_neg (fun q => by have := hv.mp q; omega)]), by rw [ht]; exact hP, va_K.moved hW.alike hK, hD⟩, hS.F ht⟩) hS.2.2 dX2_isNegative_20
  · rw [lg_cmp_eq] at c_12
    have hz := fk_s15 (f 11)
    have hbd := hR.1 11 (by omega)
    rw [fk_I_def] at hbd
    have hv := fk_R_neg hR hI
    rw [← Int64.toInt_inj, ex1, hz, fk_z64] at c_12
    refine lv_iconst (v := 1) hx hb dX2_isNegative_15 (by decide) ?_
    refine lv_goto (tgt := 20) hx hb dX2_isNegative_16 (by decide) ?_
    rw [hQQ]
    exact W.zret (v := 1) hx hb hr rfl (fun t ht hW => ⟨⟨1, (), rfl, (by rw [if_pos (hv.mpr (by omega))]), by rw [ht]; exact hP, va_K.moved hW.alike hK, hD⟩, hS.F ht⟩) hS.2.2 dX2_isNegative_20
abbrev rmX2_size : Room := { frames := 0, cells := 0, slots := 0, locals := 0 }
set_option maxHeartbeats 4000000 in
set_option maxRecDepth 100000 in
/-- Whole.size -/
theorem kX2_size {l : Launch} {D : va_G} {cJ cC cI cZ cK : ClassId} (sz : Nat) (ws : va_W) (h0 h1 q0 q1 : Nat) (f : Nat → Int64) (hq0 : ws[q0]? = some (h0, .inr (3, [.ref h1]))) (hq1 : ws[q1]? = some (h1, .inl (cJ, 12, .inr (.inl f)))) : Met l yX2_size wsX2_size rmX2_size (va_Pc [.ref h0] (fk_pre D (fk_ty cJ cC cI cZ cK) ws sz)) (va_Qi (fun (r : Int32) (_ : Unit) => ∃ n : Nat, r = nI n ∧ fk_Sz (fk_I f) n) (fk_Bd D (fk_ty cJ cC cI cZ cK) (va_A ws sz) (fun _ : Unit => ws)) (va_A ws sz)) 0 0 (va_A ws sz) := by
  refine fk_ofW cX2_size 2 (some .int) (fun A => va_Qi (fun (r : Int32) (_ : Unit) => ∃ n : Nat, r = nI n ∧ fk_Sz (fk_I f) n) (fk_Bd D (fk_ty cJ cC cI cZ cK) A (fun _ : Unit => ws)) A) rfl (by decide) (Nat.le_of_ble_eq_true rfl) ?_
  intro p e s m below meth c A ls args QQ hQQ hAt hP hK hN hD hA hS hl
  obtain ⟨⟨hx, hb, hml, hown, hts⟩, hr, hlocks, hin⟩ := hAt
  have hl : lv_has ls 2 [(0, .ref h0)] := hl
  have k1 := hts (.fieldLink RX2 9 "FixedKinds$Whole" "limbs" "[J") (by decide +kernel)
  have k2 := (by decide +kernel : ∀ w ∈ u_ws RX2 TX2 1, w ∈ wsX2_size)
  refine lv_bipush (v := 12) hx hb dX2_size_0 (by decide) ?_
  refine lv_istore_n (lv' := [(1, .int 12), (0, .ref h0)]) hx hb dX2_size_2 rfl hl (by decide) rfl (fun ls hl => ?_)
  have L3 : ∀ (fu3 : Nat) (i : Nat), i < fu3 → (i ≤ 12) → (∀ j, i ≤ j → j < 12 → fk_I f j = 0) → ∀ (H : Heap) (locs : List Loc) (ls : Array Slot), va_P D vwCl ws H → va_D A ws → va_S A s.heap H locs → lv_has ls 2 [(0, .ref h0), (1, .int (nI i))] → W p l e rmX2_size s m args below meth c H locs 0 0 QQ (F0 m 3 ls []) := by
    intro fu3
    induction fu3 with
    | zero => intro i hfu; exact absurd hfu (Nat.not_lt_zero _)
    | succ fu3 ih3 =>
      intro i hfu3 hi hc H locs ls hP hD hS hl
      refine lv_iload_n hx hb dX2_size_3 rfl (lv_at hl 1 rfl) ?_
      refine lv_if_le (tgt := 26) hx hb dX2_size_4 (by decide) (fun c_4 => ?_) (fun c_4 => ?_)
      · have h0i : i = 0 := by have q := (nI_leI (a := i) (b := 0) (by omega) (by omega)).mp c_4; omega
        refine lv_iload_n hx hb dX2_size_26 rfl (lv_at hl 1 rfl) ?_
        rw [hQQ]
        exact W.iret (v := (nI i)) hx hb hr (fun t ht hW => ⟨⟨(nI i), (), rfl, ⟨i, rfl, hi, hc, Or.inl h0i⟩, by rw [ht]; exact hP, va_K.moved hW.alike hK, hD⟩, hS.F ht⟩) hS.2.2 dX2_size_27
      · obtain ⟨k, rfl⟩ : ∃ k, i = k + 1 := by rcases Nat.eq_zero_or_pos i with q | q; exact absurd (by rw [q]; decide) c_4; exact ⟨i - 1, by omega⟩
        refine lv_aload_n hx hb dX2_size_7 rfl (lv_at hl 0 rfl) ?_
        refine va_get (D := D) (ci := 3) (v := .ref h1) (C := RX2) (T := TX2) (N := 1) hx hb hts k2 hown hK hP q0 hq0 rfl 0 (by decide) k1 (fun _ h9 => h9) rfl dX2_size_8 ?_
        refine lv_iload_n hx hb dX2_size_11 rfl (lv_at hl 1 rfl) ?_
        refine lv_iconst (v := 1) hx hb dX2_size_12 (by decide) ?_
        refine lv_isub hx hb dX2_size_13 ?_
        refine lv_topi (fun x1 ex1 => ?_)
        have ex1q : x1 = nI k := by
          rw [ex1]; exact nI_pred k
        subst ex1q
        refine fk_lald hx hb hK hP q1 0 hq1 rfl (i := k) (by omega) (by decide) dX2_size_14 ?_
        refine lv_lconst (v := 0) hx hb dX2_size_15 (by decide) ?_
        refine W.lcmp hx hb dX2_size_16 ?_
        refine lv_if_ne (tgt := 26) hx hb dX2_size_17 (by decide) (fun c_17 => ?_) (fun c_17 => ?_)
        · rw [lg_cmp_eq] at c_17
          refine lv_iload_n hx hb dX2_size_26 rfl (lv_at hl 1 rfl) ?_
          rw [hQQ]
          exact W.iret (v := (nI (k + 1))) hx hb hr (fun t ht hW => ⟨⟨(nI (k + 1)), (), rfl, ⟨k + 1, rfl, hi, hc, Or.inr (by rw [Nat.add_sub_cancel, fk_I]; intro q; exact c_17 (Int64.toInt_inj.mp (by rw [q]; decide)))⟩, by rw [ht]; exact hP, va_K.moved hW.alike hK, hD⟩, hS.F ht⟩) hS.2.2 dX2_size_27
        · rw [lg_cmp_eq] at c_17
          have a3 : ∀ j, k ≤ j → j < 12 → fk_I f j = 0 := by
            intro j h1 h2
            by_cases q : j = k
            · subst q; rw [fk_I, c_17]; decide
            · exact hc j (by omega) h2
          refine lv_iinc (v := nI k) (lv' := [(1, .int (nI k)), (0, .ref h0)]) hx hb dX2_size_20 hl (k := 1) rfl (by exact pk_m1 k) (by decide) rfl (fun ls hl => ?_)
          refine lv_goto (tgt := 3) hx hb dX2_size_23 (by decide) ?_
          exact ih3 k (by omega) (by omega) a3 _ _ _ hP hD hS (lv_sub hl [1, 0] rfl)
  exact L3 13 12 (by omega) (by omega) (fun j h1 h2 => by omega) _ _ _ hP hD hS (lv_sub hl [1, 0] rfl)
abbrev rmX2_isZero : Room := { frames := 1, cells := 0, slots := 0, locals := 21 }
set_option maxHeartbeats 4000000 in
set_option maxRecDepth 100000 in
/-- Whole.isZero -/
theorem kX2_isZero {l : Launch} {D : va_G} {cJ cC cI cZ cK : ClassId} (sz : Nat) (ws : va_W) (h0 h1 q0 q1 : Nat) (f : Nat → Int64) (x : Int) (hq0 : ws[q0]? = some (h0, .inr (3, [.ref h1]))) (hq1 : ws[q1]? = some (h1, .inl (cJ, 12, .inr (.inl f)))) (hR : fk_R x f) (hI : fk_In x) : Met l yX2_isZero wsX2_isZero rmX2_isZero (va_Pc [.ref h0] (fk_pre D (fk_ty cJ cC cI cZ cK) ws sz)) (va_Qi (fun (r : Int32) (_ : Unit) => r = if x = 0 then 1 else 0) (fk_Bd D (fk_ty cJ cC cI cZ cK) (va_A ws sz) (fun _ : Unit => ws)) (va_A ws sz)) 0 0 (va_A ws sz) := by
  refine fk_ofW cX2_isZero 1 (some .boolean) (fun A => va_Qi (fun (r : Int32) (_ : Unit) => r = if x = 0 then 1 else 0) (fk_Bd D (fk_ty cJ cC cI cZ cK) A (fun _ : Unit => ws)) A) rfl (by decide) (Nat.le_of_ble_eq_true rfl) ?_
  intro p e s m below meth c A ls args QQ hQQ hAt hP hK hN hD hA hS hl
  obtain ⟨⟨hx, hb, hml, hown, hts⟩, hr, hlocks, hin⟩ := hAt
  have hl : lv_has ls 1 [(0, .ref h0)] := hl
  refine lv_aload_n hx hb dX2_isZero_0 rfl (lv_at hl 0 rfl) ?_
  refine fk_ci hD hS hA (va_runV (As := []) (rest := []) ⟨hx, hb, hml, hown, hts⟩ (kX2_size s.heap.size ws h0 h1 q0 q1 f hq0 hq1) (cwV 0 hts gX2_isZero_X2_size rfl rfl rfl (by decide +kernel) ⟨Nat.le_of_ble_eq_true rfl, Nat.le_of_ble_eq_true rfl⟩) (fk_preV q0 3 hK hN hP hD rfl hq0) rfl rfl hl.1 rfl (lv_room (Nat.le_of_ble_eq_true rfl)) dX2_isZero_1 ⟨Nat.le_of_ble_eq_true rfl, Nat.le_of_ble_eq_true rfl⟩) (fun r1 u H locs hw hP hD hS => ?_)
  have hP : va_P D vwCl ws H := hP
  have hD : va_D A ws := hD
  obtain ⟨n, hn, hs⟩ := hw
  subst hn
  refine lv_if_ne (tgt := 11) hx hb dX2_isZero_4 (by decide) (fun c_4 => ?_) (fun c_4 => ?_)
  · have hv := fk_Sz_zero hR hI hs
    have hn12 := hs.1
    refine lv_iconst (v := 0) hx hb dX2_isZero_11 (by decide) ?_
    rw [hQQ]
    exact W.zret (v := 0) hx hb hr rfl (fun t ht hW => ⟨⟨0, (), rfl, (by rw [if_neg (fun q => c_4 (by rw [hv.mp q]; rfl))]), by rw [ht]; exact hP, va_K.moved hW.alike hK, hD⟩, hS.F ht⟩) hS.2.2 dX2_isZero_12
  · have hv := fk_Sz_zero hR hI hs
    have hn12 := hs.1
    refine lv_iconst (v := 1) hx hb dX2_isZero_7 (by decide) ?_
    refine lv_goto (tgt := 12) hx hb dX2_isZero_8 (by decide) ?_
    rw [hQQ]
    exact W.zret (v := 1) hx hb hr rfl (fun t ht hW => ⟨⟨1, (), rfl, (by rw [if_pos (hv.mpr ((nI_eq (a := n) (b := 0) (by omega) (by omega)).mp c_4))]), by rw [ht]; exact hP, va_K.moved hW.alike hK, hD⟩, hS.F ht⟩) hS.2.2 dX2_isZero_12
abbrev rmX2_isOdd : Room := { frames := 0, cells := 0, slots := 0, locals := 0 }
set_option maxHeartbeats 4000000 in
set_option maxRecDepth 100000 in
/-- Whole.isOdd -/
theorem kX2_isOdd {l : Launch} {D : va_G} {cJ cC cI cZ cK : ClassId} (sz : Nat) (ws : va_W) (h0 h1 q0 q1 : Nat) (f : Nat → Int64) (x : Int) (hq0 : ws[q0]? = some (h0, .inr (3, [.ref h1]))) (hq1 : ws[q1]? = some (h1, .inl (cJ, 12, .inr (.inl f)))) (hR : fk_R x f) : Met l yX2_isOdd wsX2_isOdd rmX2_isOdd (va_Pc [.ref h0] (fk_pre D (fk_ty cJ cC cI cZ cK) ws sz)) (va_Qi (fun (r : Int32) (_ : Unit) => r = if x % 2 = 0 then 0 else 1) (fk_Bd D (fk_ty cJ cC cI cZ cK) (va_A ws sz) (fun _ : Unit => ws)) (va_A ws sz)) 0 0 (va_A ws sz) := by
  refine fk_ofW cX2_isOdd 1 (some .boolean) (fun A => va_Qi (fun (r : Int32) (_ : Unit) => r = if x % 2 = 0 then 0 else 1) (fk_Bd D (fk_ty cJ cC cI cZ cK) A (fun _ : Unit => ws)) A) rfl (by decide) (Nat.le_of_ble_eq_true rfl) ?_
  intro p e s m below meth c A ls args QQ hQQ hAt hP hK hN hD hA hS hl
  obtain ⟨⟨hx, hb, hml, hown, hts⟩, hr, hlocks, hin⟩ := hAt
  have hl : lv_has ls 1 [(0, .ref h0)] := hl
  have k1 := hts (.fieldLink RX2 9 "FixedKinds$Whole" "limbs" "[J") (by decide +kernel)
  have k2 := (by decide +kernel : ∀ w ∈ u_ws RX2 TX2 1, w ∈ wsX2_isOdd)
  refine lv_aload_n hx hb dX2_isOdd_0 rfl (lv_at hl 0 rfl) ?_
  refine va_get (D := D) (ci := 3) (v := .ref h1) (C := RX2) (T := TX2) (N := 1) hx hb hts k2 hown hK hP q0 hq0 rfl 0 (by decide) k1 (fun _ h9 => h9) rfl dX2_isOdd_1 ?_
  refine lv_iconst (v := 0) hx hb dX2_isOdd_4 (by decide) ?_
  refine fk_lald hx hb hK hP q1 0 hq1 rfl (i := 0) (by decide) (by decide) dX2_isOdd_5 ?_
  refine lv_lconst (v := 1) hx hb dX2_isOdd_6 (by decide) ?_
  refine lv_land hx hb dX2_isOdd_7 ?_
  refine lv_topl (fun x1 ex1 => ?_)
  refine lv_lconst (v := 0) hx hb dX2_isOdd_8 (by decide) ?_
  refine W.lcmp hx hb dX2_isOdd_9 ?_
  refine lv_if_eq (tgt := 17) hx hb dX2_isOdd_10 (by decide) (fun c_10 => ?_) (fun c_10 => ?_)
  · rw [lg_cmp_eq] at c_10
    have hz := fk_bit0 (f 0)
    have hv := fk_R_odd hR
    rw [← Int64.toInt_inj, ex1, hz, fk_z64, ← hv] at c_10
    refine lv_iconst (v := 0) hx hb dX2_isOdd_17 (by decide) ?_
    rw [hQQ]
    exact W.zret (v := 0) hx hb hr rfl (fun t ht hW => ⟨⟨0, (), rfl, (by rw [if_pos c_10]), by rw [ht]; exact hP, va_K.moved hW.alike hK, hD⟩, hS.F ht⟩) hS.2.2 dX2_isOdd_18
  · rw [lg_cmp_eq] at c_10
    have hz := fk_bit0 (f 0)
    have hv := fk_R_odd hR
    rw [← Int64.toInt_inj, ex1, hz, fk_z64, ← hv] at c_10
    refine lv_iconst (v := 1) hx hb dX2_isOdd_13 (by decide) ?_
    refine lv_goto (tgt := 18) hx hb dX2_isOdd_14 (by decide) ?_
    rw [hQQ]
    exact W.zret (v := 1) hx hb hr rfl (fun t ht hW => ⟨⟨1, (), rfl, (by rw [if_neg c_10]), by rw [ht]; exact hP, va_K.moved hW.alike hK, hD⟩, hS.F ht⟩) hS.2.2 dX2_isOdd_18
abbrev rmX2_limb : Room := { frames := 0, cells := 0, slots := 0, locals := 0 }
set_option maxHeartbeats 4000000 in
set_option maxRecDepth 100000 in
/-- Whole.limb -/
theorem kX2_limb {l : Launch} {D : va_G} {cJ cC cI cZ cK : ClassId} (sz : Nat) (ws : va_W) (h0 h1 q0 q1 : Nat) (f : Nat → Int64) (i : Int32) (hq0 : ws[q0]? = some (h0, .inr (3, [.ref h1]))) (hq1 : ws[q1]? = some (h1, .inl (cJ, 12, .inr (.inl f)))) : Met l yX2_limb wsX2_limb rmX2_limb (va_Pc [.ref h0, .int i] (fk_pre D (fk_ty cJ cC cI cZ cK) ws sz)) (va_Ql (fun (r : Int64) (_ : Unit) => r = fk_lb f i.toInt) (fk_Bd D (fk_ty cJ cC cI cZ cK) (va_A ws sz) (fun _ : Unit => ws)) (va_A ws sz)) 0 0 (va_A ws sz) := by
  refine fk_ofW cX2_limb 2 (some .long) (fun A => va_Ql (fun (r : Int64) (_ : Unit) => r = fk_lb f i.toInt) (fk_Bd D (fk_ty cJ cC cI cZ cK) A (fun _ : Unit => ws)) A) rfl (by decide) (Nat.le_of_ble_eq_true rfl) ?_
  intro p e s m below meth c A ls args QQ hQQ hAt hP hK hN hD hA hS hl
  obtain ⟨⟨hx, hb, hml, hown, hts⟩, hr, hlocks, hin⟩ := hAt
  have hl : lv_has ls 2 [(0, .ref h0), (1, .int i)] := hl
  have k1 := hts (.fieldLink RX2 9 "FixedKinds$Whole" "limbs" "[J") (by decide +kernel)
  have k2 := (by decide +kernel : ∀ w ∈ u_ws RX2 TX2 1, w ∈ wsX2_limb)
  refine lv_iload_n hx hb dX2_limb_0 rfl (lv_at hl 1 rfl) ?_
  refine lv_if_lt (tgt := 19) hx hb dX2_limb_1 (by decide) (fun c_1 => ?_) (fun c_1 => ?_)
  · refine lv_lconst (v := 0) hx hb dX2_limb_19 (by decide) ?_
    rw [hQQ]
    exact W.lret (v := 0) hx hb hr (fun t ht hW => ⟨⟨0, (), rfl, (fk_lb_out (Or.inl (Int32.lt_iff_toInt_lt.mp c_1))).symm, by rw [ht]; exact hP, va_K.moved hW.alike hK, hD⟩, hS.F ht⟩) hS.2.2 dX2_limb_20
  · refine lv_iload_n hx hb dX2_limb_4 rfl (lv_at hl 1 rfl) ?_
    refine lv_bipush (v := 12) hx hb dX2_limb_5 (by decide) ?_
    refine lv_icmp_ge (tgt := 19) hx hb dX2_limb_7 (by decide) (fun c_7 => ?_) (fun c_7 => ?_)
    · refine lv_lconst (v := 0) hx hb dX2_limb_19 (by decide) ?_
      rw [hQQ]
      exact W.lret (v := 0) hx hb hr (fun t ht hW => ⟨⟨0, (), rfl, (fk_lb_out (Or.inr (Int32.le_iff_toInt_le.mp c_7))).symm, by rw [ht]; exact hP, va_K.moved hW.alike hK, hD⟩, hS.F ht⟩) hS.2.2 dX2_limb_20
    · obtain ⟨j, hj, hji⟩ : ∃ j : Nat, j < 12 ∧ i = nI j := by
        rcases pk_ix i (n := 12) (by omega) with q | q | q
        · exact absurd q c_1
        · exact absurd q c_7
        · exact q
      subst hji
      refine lv_aload_n hx hb dX2_limb_10 rfl (lv_at hl 0 rfl) ?_
      refine va_get (D := D) (ci := 3) (v := .ref h1) (C := RX2) (T := TX2) (N := 1) hx hb hts k2 hown hK hP q0 hq0 rfl 0 (by decide) k1 (fun _ h9 => h9) rfl dX2_limb_11 ?_
      refine lv_iload_n hx hb dX2_limb_14 rfl (lv_at hl 1 rfl) ?_
      refine fk_lald hx hb hK hP q1 0 hq1 rfl (i := j) hj (by decide) dX2_limb_15 ?_
      refine lv_goto (tgt := 20) hx hb dX2_limb_16 (by decide) ?_
      rw [hQQ]
      exact W.lret (v := f j) hx hb hr (fun t ht hW => ⟨⟨(f j), (), rfl, (fk_lb_in hj (nI_toInt (by omega))).symm, by rw [ht]; exact hP, va_K.moved hW.alike hK, hD⟩, hS.F ht⟩) hS.2.2 dX2_limb_20
end
section
/-! Whole: bitsFrom, grow, scale, by program -/
abbrev rmX2_bitsFrom : Room := { frames := 1, cells := 0, slots := 0, locals := 21 }
set_option maxHeartbeats 4000000 in
set_option maxRecDepth 100000 in
/-- Whole.bitsFrom -/
theorem kX2_bitsFrom {l : Launch} {D : va_G} {cJ cC cI cZ cK : ClassId} (sz : Nat) (ws : va_W) (h0 h1 q0 q1 : Nat) (f : Nat → Int64) (st : Nat) (x : Int) (hq0 : ws[q0]? = some (h0, .inr (3, [.ref h1]))) (hq1 : ws[q1]? = some (h1, .inl (cJ, 12, .inr (.inl f)))) (hR : fk_R x f) (hst : st ≤ 8) : Met l yX2_bitsFrom wsX2_bitsFrom rmX2_bitsFrom (va_Pc [.ref h0, .int (nI st)] (fk_pre D (fk_ty cJ cC cI cZ cK) ws sz)) (va_Ql (fun (r : Int64) (_ : Unit) => r = Int64.ofInt (x / 65536 ^ st)) (fk_Bd D (fk_ty cJ cC cI cZ cK) (va_A ws sz) (fun _ : Unit => ws)) (va_A ws sz)) 0 0 (va_A ws sz) := by
  refine fk_ofW cX2_bitsFrom 5 (some .long) (fun A => va_Ql (fun (r : Int64) (_ : Unit) => r = Int64.ofInt (x / 65536 ^ st)) (fk_Bd D (fk_ty cJ cC cI cZ cK) A (fun _ : Unit => ws)) A) rfl (by decide) (Nat.le_of_ble_eq_true rfl) ?_
  intro p e s m below meth c A ls args QQ hQQ hAt hP hK hN hD hA hS hl
  obtain ⟨⟨hx, hb, hml, hown, hts⟩, hr, hlocks, hin⟩ := hAt
  have hl : lv_has ls 5 [(0, .ref h0), (1, .int (nI st))] := hl
  refine lv_lconst (v := 0) hx hb dX2_bitsFrom_0 (by decide) ?_
  refine lv_lstore_n (lv' := [(2, .long 0), (0, .ref h0), (1, .int (nI st))]) hx hb dX2_bitsFrom_1 rfl hl (by decide) rfl (fun ls hl => ?_)
  refine lv_iconst (v := 3) hx hb dX2_bitsFrom_2 (by decide) ?_
  refine lv_istore (lv' := [(4, .int 3), (2, .long 0), (0, .ref h0), (1, .int (nI st))]) hx hb dX2_bitsFrom_3 hl (by decide) rfl (fun ls hl => ?_)
  refine lv_iload hx hb dX2_bitsFrom_5 (lv_at hl 0 rfl) ?_
  refine lv_if_lt (tgt := 30) hx hb dX2_bitsFrom_7 (by decide) (fun c_7 => False.elim (absurd c_7 (by decide))) (fun c_7 => ?_)
  refine lv_lload_n hx hb dX2_bitsFrom_10 rfl (lv_at hl 1 rfl) ?_
  refine lv_bipush (v := 16) hx hb dX2_bitsFrom_11 (by decide) ?_
  refine lv_lshl hx hb dX2_bitsFrom_13 rfl ?_
  refine lv_topl (fun x1 ex1 => ?_)
  refine lv_aload_n hx hb dX2_bitsFrom_14 rfl (lv_at hl 2 rfl) ?_
  refine lv_iload_n hx hb dX2_bitsFrom_15 rfl (lv_at hl 3 rfl) ?_
  refine lv_iload hx hb dX2_bitsFrom_16 (lv_at hl 0 rfl) ?_
  refine lv_iadd hx hb dX2_bitsFrom_18 ?_
  refine lv_topi (fun x2 ex2 => ?_)
  have ex2q : x2 = nI (st + 3) := by
    rw [ex2]; exact nI_add st 3
  subst ex2q
  refine fk_cl hD hS hA (va_runV (As := [.int (nI (st + 3))]) (rest := [.long x1]) ⟨hx, hb, hml, hown, hts⟩ (kX2_limb _ ws h0 h1 q0 q1 f (nI (st + 3)) hq0 hq1) (cwV 1 hts gX2_bitsFrom_X2_limb rfl rfl rfl (by decide +kernel) ⟨Nat.le_of_ble_eq_true rfl, Nat.le_of_ble_eq_true rfl⟩) (fk_preV q0 3 hK hN hP hD rfl hq0) rfl rfl hl.1 rfl (lv_room (Nat.le_of_ble_eq_true rfl)) dX2_bitsFrom_19 ⟨Nat.le_of_ble_eq_true rfl, Nat.le_of_ble_eq_true rfl⟩) (fun r3 u H locs hw hP hD hS => ?_)
  have hP : va_P D vwCl ws H := hP
  have hD : va_D A ws := hD
  have hb3 := fk_lb_bd hR (nI (st + 3)).toInt
  rw [← hw] at hb3
  have hl3 := hw
  refine lv_lor hx hb dX2_bitsFrom_22 ?_
  refine lv_topl (fun x4 ex4 => ?_)
  have ex4q : x4 = Int64.ofInt (r3.toInt) := by
    rw [ex4, ex1, show (0 : Int64) = Int64.ofInt 0 by decide, fk_or16' hb3.1 hb3.2]; congr 1; omega
  subst ex4q
  refine lv_lstore_n (lv' := [(2, .long (Int64.ofInt (r3.toInt))), (4, .int 3), (0, .ref h0), (1, .int (nI st))]) hx hb dX2_bitsFrom_23 rfl hl (by decide) rfl (fun ls hl => ?_)
  refine lv_iinc (v := 2) (lv' := [(4, .int 2), (2, .long (Int64.ofInt (r3.toInt))), (0, .ref h0), (1, .int (nI st))]) hx hb dX2_bitsFrom_24 hl (k := 1) rfl (by decide) (by decide) rfl (fun ls hl => ?_)
  refine lv_goto (tgt := 5) hx hb dX2_bitsFrom_27 (by decide) ?_
  refine lv_iload hx hb dX2_bitsFrom_5 (lv_at hl 0 rfl) ?_
  refine lv_if_lt (tgt := 30) hx hb dX2_bitsFrom_7 (by decide) (fun c_7 => False.elim (absurd c_7 (by decide))) (fun c_7 => ?_)
  refine lv_lload_n hx hb dX2_bitsFrom_10 rfl (lv_at hl 1 rfl) ?_
  refine lv_bipush (v := 16) hx hb dX2_bitsFrom_11 (by decide) ?_
  refine lv_lshl hx hb dX2_bitsFrom_13 rfl ?_
  refine lv_topl (fun x5 ex5 => ?_)
  refine lv_aload_n hx hb dX2_bitsFrom_14 rfl (lv_at hl 2 rfl) ?_
  refine lv_iload_n hx hb dX2_bitsFrom_15 rfl (lv_at hl 3 rfl) ?_
  refine lv_iload hx hb dX2_bitsFrom_16 (lv_at hl 0 rfl) ?_
  refine lv_iadd hx hb dX2_bitsFrom_18 ?_
  refine lv_topi (fun x6 ex6 => ?_)
  have ex6q : x6 = nI (st + 2) := by
    rw [ex6]; exact nI_add st 2
  subst ex6q
  refine fk_cl hD hS hA (va_runV (As := [.int (nI (st + 2))]) (rest := [.long x5]) ⟨hx, hb, hml, hown, hts⟩ (kX2_limb _ ws h0 h1 q0 q1 f (nI (st + 2)) hq0 hq1) (cwV 1 hts gX2_bitsFrom_X2_limb rfl rfl rfl (by decide +kernel) ⟨Nat.le_of_ble_eq_true rfl, Nat.le_of_ble_eq_true rfl⟩) (fk_preV q0 3 hK hN hP hD rfl hq0) rfl rfl hl.1 rfl (lv_room (Nat.le_of_ble_eq_true rfl)) dX2_bitsFrom_19 ⟨Nat.le_of_ble_eq_true rfl, Nat.le_of_ble_eq_true rfl⟩) (fun r7 u H locs hw hP hD hS => ?_)
  have hP : va_P D vwCl ws H := hP
  have hD : va_D A ws := hD
  have hb2 := fk_lb_bd hR (nI (st + 2)).toInt
  rw [← hw] at hb2
  have hl2 := hw
  refine lv_lor hx hb dX2_bitsFrom_22 ?_
  refine lv_topl (fun x8 ex8 => ?_)
  have ex8q : x8 = Int64.ofInt ((r3.toInt) * 65536 + r7.toInt) := by
    rw [ex8, ex5]; exact fk_or16' hb2.1 hb2.2
  subst ex8q
  refine lv_lstore_n (lv' := [(2, .long (Int64.ofInt ((r3.toInt) * 65536 + r7.toInt))), (4, .int 2), (0, .ref h0), (1, .int (nI st))]) hx hb dX2_bitsFrom_23 rfl hl (by decide) rfl (fun ls hl => ?_)
  refine lv_iinc (v := 1) (lv' := [(4, .int 1), (2, .long (Int64.ofInt ((r3.toInt) * 65536 + r7.toInt))), (0, .ref h0), (1, .int (nI st))]) hx hb dX2_bitsFrom_24 hl (k := 1) rfl (by decide) (by decide) rfl (fun ls hl => ?_)
  refine lv_goto (tgt := 5) hx hb dX2_bitsFrom_27 (by decide) ?_
  refine lv_iload hx hb dX2_bitsFrom_5 (lv_at hl 0 rfl) ?_
  refine lv_if_lt (tgt := 30) hx hb dX2_bitsFrom_7 (by decide) (fun c_7 => False.elim (absurd c_7 (by decide))) (fun c_7 => ?_)
  refine lv_lload_n hx hb dX2_bitsFrom_10 rfl (lv_at hl 1 rfl) ?_
  refine lv_bipush (v := 16) hx hb dX2_bitsFrom_11 (by decide) ?_
  refine lv_lshl hx hb dX2_bitsFrom_13 rfl ?_
  refine lv_topl (fun x9 ex9 => ?_)
  refine lv_aload_n hx hb dX2_bitsFrom_14 rfl (lv_at hl 2 rfl) ?_
  refine lv_iload_n hx hb dX2_bitsFrom_15 rfl (lv_at hl 3 rfl) ?_
  refine lv_iload hx hb dX2_bitsFrom_16 (lv_at hl 0 rfl) ?_
  refine lv_iadd hx hb dX2_bitsFrom_18 ?_
  refine lv_topi (fun x10 ex10 => ?_)
  have ex10q : x10 = nI (st + 1) := by
    rw [ex10]; exact nI_add st 1
  subst ex10q
  refine fk_cl hD hS hA (va_runV (As := [.int (nI (st + 1))]) (rest := [.long x9]) ⟨hx, hb, hml, hown, hts⟩ (kX2_limb _ ws h0 h1 q0 q1 f (nI (st + 1)) hq0 hq1) (cwV 1 hts gX2_bitsFrom_X2_limb rfl rfl rfl (by decide +kernel) ⟨Nat.le_of_ble_eq_true rfl, Nat.le_of_ble_eq_true rfl⟩) (fk_preV q0 3 hK hN hP hD rfl hq0) rfl rfl hl.1 rfl (lv_room (Nat.le_of_ble_eq_true rfl)) dX2_bitsFrom_19 ⟨Nat.le_of_ble_eq_true rfl, Nat.le_of_ble_eq_true rfl⟩) (fun r11 u H locs hw hP hD hS => ?_)
  have hP : va_P D vwCl ws H := hP
  have hD : va_D A ws := hD
  have hb1 := fk_lb_bd hR (nI (st + 1)).toInt
  rw [← hw] at hb1
  have hl1 := hw
  refine lv_lor hx hb dX2_bitsFrom_22 ?_
  refine lv_topl (fun x12 ex12 => ?_)
  have ex12q : x12 = Int64.ofInt (((r3.toInt) * 65536 + r7.toInt) * 65536 + r11.toInt) := by
    rw [ex12, ex9]; exact fk_or16' hb1.1 hb1.2
  subst ex12q
  refine lv_lstore_n (lv' := [(2, .long (Int64.ofInt (((r3.toInt) * 65536 + r7.toInt) * 65536 + r11.toInt))), (4, .int 1), (0, .ref h0), (1, .int (nI st))]) hx hb dX2_bitsFrom_23 rfl hl (by decide) rfl (fun ls hl => ?_)
  refine lv_iinc (v := 0) (lv' := [(4, .int 0), (2, .long (Int64.ofInt (((r3.toInt) * 65536 + r7.toInt) * 65536 + r11.toInt))), (0, .ref h0), (1, .int (nI st))]) hx hb dX2_bitsFrom_24 hl (k := 1) rfl (by decide) (by decide) rfl (fun ls hl => ?_)
  refine lv_goto (tgt := 5) hx hb dX2_bitsFrom_27 (by decide) ?_
  refine lv_iload hx hb dX2_bitsFrom_5 (lv_at hl 0 rfl) ?_
  refine lv_if_lt (tgt := 30) hx hb dX2_bitsFrom_7 (by decide) (fun c_7 => False.elim (absurd c_7 (by decide))) (fun c_7 => ?_)
  refine lv_lload_n hx hb dX2_bitsFrom_10 rfl (lv_at hl 1 rfl) ?_
  refine lv_bipush (v := 16) hx hb dX2_bitsFrom_11 (by decide) ?_
  refine lv_lshl hx hb dX2_bitsFrom_13 rfl ?_
  refine lv_topl (fun x13 ex13 => ?_)
  refine lv_aload_n hx hb dX2_bitsFrom_14 rfl (lv_at hl 2 rfl) ?_
  refine lv_iload_n hx hb dX2_bitsFrom_15 rfl (lv_at hl 3 rfl) ?_
  refine lv_iload hx hb dX2_bitsFrom_16 (lv_at hl 0 rfl) ?_
  refine lv_iadd hx hb dX2_bitsFrom_18 ?_
  refine lv_topi (fun x14 ex14 => ?_)
  have ex14q : x14 = nI (st + 0) := by
    rw [ex14]; exact nI_add st 0
  subst ex14q
  refine fk_cl hD hS hA (va_runV (As := [.int (nI (st + 0))]) (rest := [.long x13]) ⟨hx, hb, hml, hown, hts⟩ (kX2_limb _ ws h0 h1 q0 q1 f (nI (st + 0)) hq0 hq1) (cwV 1 hts gX2_bitsFrom_X2_limb rfl rfl rfl (by decide +kernel) ⟨Nat.le_of_ble_eq_true rfl, Nat.le_of_ble_eq_true rfl⟩) (fk_preV q0 3 hK hN hP hD rfl hq0) rfl rfl hl.1 rfl (lv_room (Nat.le_of_ble_eq_true rfl)) dX2_bitsFrom_19 ⟨Nat.le_of_ble_eq_true rfl, Nat.le_of_ble_eq_true rfl⟩) (fun r15 u H locs hw hP hD hS => ?_)
  have hP : va_P D vwCl ws H := hP
  have hD : va_D A ws := hD
  have hb0 := fk_lb_bd hR (nI (st + 0)).toInt
  rw [← hw] at hb0
  have hl0 := hw
  refine lv_lor hx hb dX2_bitsFrom_22 ?_
  refine lv_topl (fun x16 ex16 => ?_)
  have ex16q : x16 = Int64.ofInt ((((r3.toInt) * 65536 + r7.toInt) * 65536 + r11.toInt) * 65536 + r15.toInt) := by
    rw [ex16, ex13]; exact fk_or16' hb0.1 hb0.2
  subst ex16q
  refine lv_lstore_n (lv' := [(2, .long (Int64.ofInt ((((r3.toInt) * 65536 + r7.toInt) * 65536 + r11.toInt) * 65536 + r15.toInt))), (4, .int 0), (0, .ref h0), (1, .int (nI st))]) hx hb dX2_bitsFrom_23 rfl hl (by decide) rfl (fun ls hl => ?_)
  refine lv_iinc (v := (-1)) (lv' := [(4, .int (-1)), (2, .long (Int64.ofInt ((((r3.toInt) * 65536 + r7.toInt) * 65536 + r11.toInt) * 65536 + r15.toInt))), (0, .ref h0), (1, .int (nI st))]) hx hb dX2_bitsFrom_24 hl (k := 1) rfl (by decide) (by decide) rfl (fun ls hl => ?_)
  refine lv_goto (tgt := 5) hx hb dX2_bitsFrom_27 (by decide) ?_
  refine lv_iload hx hb dX2_bitsFrom_5 (lv_at hl 0 rfl) ?_
  refine lv_if_lt (tgt := 30) hx hb dX2_bitsFrom_7 (by decide) (fun c_7 => ?_) (fun c_7 => False.elim (c_7 (by decide)))
  refine lv_lload_n hx hb dX2_bitsFrom_30 rfl (lv_at hl 1 rfl) ?_
  rw [hQQ]
  exact W.lret (v := Int64.ofInt ((((r3.toInt) * 65536 + r7.toInt) * 65536 + r11.toInt) * 65536 + r15.toInt)) hx hb hr (fun t ht hW => ⟨⟨(Int64.ofInt ((((r3.toInt) * 65536 + r7.toInt) * 65536 + r11.toInt) * 65536 + r15.toInt)), (), rfl, (by rw [hl3, hl2, hl1, hl0]; exact fk_bits4 hR hst), by rw [ht]; exact hP, va_K.moved hW.alike hK, hD⟩, hS.F ht⟩) hS.2.2 dX2_bitsFrom_31
abbrev rmX2_grow : Room := { frames := 0, cells := 0, slots := 0, locals := 0 }
set_option maxHeartbeats 4000000 in
set_option maxRecDepth 100000 in
/-- Whole.grow -/
theorem kX2_grow {l : Launch} {D : va_G} {cJ cC cI cZ cK : ClassId} (sz : Nat) (ws : va_W) (h0 h1 q0 q1 : Nat) (f : Nat → Int64) (v : Int64) (x : Int) (hq0 : ws[q0]? = some (h0, .inr (3, [.ref h1]))) (hq1 : ws[q1]? = some (h1, .inl (cJ, 12, .inr (.inl f)))) (hF : ∀ i, i < 12 → 0 ≤ (f i).toInt ∧ (f i).toInt < 1099511627776) (hT : fk_T (fk_I f) 12 % 65536 ^ 12 = x % 65536 ^ 12) (hv : -4611686018427387904 ≤ v.toInt ∧ v.toInt ≤ 4611686018427387904) : Met l yX2_grow wsX2_grow rmX2_grow (va_Pc [.ref h0, .long v] (fk_pre D (fk_ty cJ cC cI cZ cK) ws sz)) (va_Qv (fun g : Nat → Int64 => fk_R (x + v.toInt) g) (fk_Bd D (fk_ty cJ cC cI cZ cK) (va_A ws sz) (fun g : Nat → Int64 => ws.set q1 (h1, .inl (cJ, 12, .inr (.inl g))))) (va_A ws sz)) 0 0 (va_A ws sz) := by
  refine fk_ofW cX2_grow 6 none (fun A => va_Qv (fun g : Nat → Int64 => fk_R (x + v.toInt) g) (fk_Bd D (fk_ty cJ cC cI cZ cK) A (fun g : Nat → Int64 => ws.set q1 (h1, .inl (cJ, 12, .inr (.inl g))))) A) rfl (by decide) (Nat.le_of_ble_eq_true rfl) ?_
  intro p e s m below meth c A ls args QQ hQQ hAt hP hK hN hD hA hS hl
  obtain ⟨⟨hx, hb, hml, hown, hts⟩, hr, hlocks, hin⟩ := hAt
  have hl : lv_has ls 6 [(0, .ref h0), (1, .long v)] := hl
  have k1 := hts (.fieldLink RX2 9 "FixedKinds$Whole" "limbs" "[J") (by decide +kernel)
  have k2 := (by decide +kernel : ∀ w ∈ u_ws RX2 TX2 1, w ∈ wsX2_grow)
  have k3 := hts (.constantLong RX2 15 65535) (by decide +kernel)
  have hn_q1_q0 : q1 ≠ q0 := fk_neA hq0 hq1
  have hw0 : ws = (ws.set q1 (h1, .inl (cJ, 12, .inr (.inl f)))) := by rw [fk_s0 hq1]
  rw [hw0] at hP hD
  refine lv_lload_n hx hb dX2_grow_0 rfl (lv_at hl 1 rfl) ?_
  refine lv_lstore_n (lv' := [(3, .long v), (0, .ref h0), (1, .long v)]) hx hb dX2_grow_1 rfl hl (by decide) rfl (fun ls hl => ?_)
  refine lv_iconst (v := 0) hx hb dX2_grow_2 (by decide) ?_
  refine lv_istore (lv' := [(5, .int 0), (3, .long v), (0, .ref h0), (1, .long v)]) hx hb dX2_grow_3 hl (by decide) rfl (fun ls hl => ?_)
  have L5 : ∀ (fu5 : Nat) (i : Nat) (g : Nat → Int64) (cy : Int64), 12 - i < fu5 → (i ≤ 12) → (fk_C (fk_I f) v.toInt i g cy.toInt) → (∀ j, i ≤ j → g j = f j) → (-4611686018427387904 ≤ cy.toInt ∧ cy.toInt ≤ 4611686018427387904) → ∀ (H : Heap) (locs : List Loc) (ls : Array Slot), va_P D vwCl (ws.set q1 (h1, .inl (cJ, 12, .inr (.inl g)))) H → va_D A (ws.set q1 (h1, .inl (cJ, 12, .inr (.inl g)))) → va_S A s.heap H locs → lv_has ls 6 [(0, .ref h0), (1, .long v), (3, .long cy), (5, .int (nI i))] → W p l e rmX2_grow s m args below meth c H locs 0 0 QQ (F0 m 5 ls []) := by
    intro fu5
    induction fu5 with
    | zero => intro i g cy hfu; exact absurd hfu (Nat.not_lt_zero _)
    | succ fu5 ih5 =>
      intro i g cy hfu5 hi hc hg hy H locs ls hP hD hS hl
      refine lv_iload hx hb dX2_grow_5 (lv_at hl 3 rfl) ?_
      refine lv_bipush (v := 12) hx hb dX2_grow_7 (by decide) ?_
      refine lv_icmp_ge (tgt := 45) hx hb dX2_grow_9 (by decide) (fun c_9 => ?_) (fun c_9 => ?_)
      · have hi12 : i = 12 := by have q := (nI_leI (a := 12) (b := i) (by omega) (by omega)).mp c_9; omega
        subst hi12
        rw [hQQ]
        exact W.vret hx hb hr (fun t ht hW => ⟨⟨g, rfl, fk_R_grow hT hc, by rw [ht]; exact hP, va_K.moved hW.alike hK, hD⟩, hS.F ht⟩) hS.2.2 dX2_grow_45
      · have hi12 : i < 12 := by rcases Nat.lt_or_ge i 12 with q | q; exact q; exact absurd ((nI_leI (a := 12) (b := i) (by omega) (by omega)).mpr q) c_9
        refine lv_lload_n hx hb dX2_grow_12 rfl (lv_at hl 2 rfl) ?_
        refine lv_aload_n hx hb dX2_grow_13 rfl (lv_at hl 0 rfl) ?_
        refine va_get (D := D) (ci := 3) (v := .ref h1) (C := RX2) (T := TX2) (N := 1) hx hb hts k2 hown hK hP q0 (fk_sn hq0 hn_q1_q0) rfl 0 (by decide) k1 (fun _ h9 => h9) rfl dX2_grow_14 ?_
        refine lv_iload hx hb dX2_grow_17 (lv_at hl 3 rfl) ?_
        refine fk_lald hx hb hK hP q1 0 (fk_ss hq1) rfl (i := i) (by omega) (by decide) dX2_grow_19 ?_
        refine lv_ladd hx hb dX2_grow_20 ?_
        refine lv_topl (fun x1 ex1 => ?_)
        refine lv_lstore_n (lv' := [(3, .long x1), (0, .ref h0), (1, .long v), (5, .int (nI i))]) hx hb dX2_grow_21 rfl hl (by decide) rfl (fun ls hl => ?_)
        have hfi := hF i hi12
        have a2 : x1.toInt = cy.toInt + fk_I f i := by
          rw [ex1, hg i (Nat.le_refl i), fk_I]; exact fk_add (by omega) (by omega)
        refine lv_aload_n hx hb dX2_grow_22 rfl (lv_at hl 1 rfl) ?_
        refine va_get (D := D) (ci := 3) (v := .ref h1) (C := RX2) (T := TX2) (N := 1) hx hb hts k2 hown hK hP q0 (fk_sn hq0 hn_q1_q0) rfl 0 (by decide) k1 (fun _ h9 => h9) rfl dX2_grow_23 ?_
        refine lv_iload hx hb dX2_grow_26 (lv_at hl 3 rfl) ?_
        refine lv_lload_n hx hb dX2_grow_28 rfl (lv_at hl 0 rfl) ?_
        refine lv_ldc2 (v := 65535) hx hb hown k3 dX2_grow_29 ?_
        refine lv_land hx hb dX2_grow_32 ?_
        refine lv_topl (fun x2 ex2 => ?_)
        refine fk_last hx hb hK hP hD hS q1 0 (fk_ss hq1) rfl (i := i) (by omega) (by decide) dX2_grow_33 (fun H locs hP hD hS => ?_)
        rw [fk_s2] at hP hD
        refine lv_lload_n hx hb dX2_grow_34 rfl (lv_at hl 0 rfl) ?_
        refine lv_bipush (v := 16) hx hb dX2_grow_35 (by decide) ?_
        refine lv_lshr hx hb dX2_grow_37 rfl ?_
        refine lv_topl (fun x3 ex3 => ?_)
        refine lv_lstore_n (lv' := [(3, .long x3), (0, .ref h0), (1, .long v), (5, .int (nI i))]) hx hb dX2_grow_38 rfl hl (by decide) rfl (fun ls hl => ?_)
        have a3 := fk_C_stp hc a2 ex2 ex3
        have a4 : ∀ j, i + 1 ≤ j → vp_updL g i x2 j = f j := fun j hj => by rw [pk_uLn (by omega)]; exact hg j (by omega)
        have a5 : -4611686018427387904 ≤ x3.toInt ∧ x3.toInt ≤ 4611686018427387904 := by rw [ex3, fk_s16, a2, fk_I]; omega
        refine lv_iinc (v := nI (i + 1)) (lv' := [(5, .int (nI (i + 1))), (3, .long x3), (0, .ref h0), (1, .long v)]) hx hb dX2_grow_39 hl (k := 3) rfl (by exact nI_1 i) (by decide) rfl (fun ls hl => ?_)
        refine lv_goto (tgt := 5) hx hb dX2_grow_42 (by decide) ?_
        exact ih5 (i + 1) (vp_updL g i x2) x3 (by omega) (by omega) a3 a4 a5 _ _ _ hP hD hS (lv_sub hl [2, 3, 1, 0] rfl)
  exact L5 13 0 f v (by omega) (by omega) (fk_C_0 _ _ _) (fun _ _ => rfl) hv _ _ _ hP hD hS (lv_sub hl [2, 3, 1, 0] rfl)
abbrev rmX2_scale : Room := { frames := 0, cells := 0, slots := 0, locals := 0 }
set_option maxHeartbeats 4000000 in
set_option maxRecDepth 100000 in
/-- Whole.scale -/
theorem kX2_scale {l : Launch} {D : va_G} {cJ cC cI cZ cK : ClassId} (sz : Nat) (ws : va_W) (h0 h1 q0 q1 : Nat) (f : Nat → Int64) (k : Int64) (x : Int) (hq0 : ws[q0]? = some (h0, .inr (3, [.ref h1]))) (hq1 : ws[q1]? = some (h1, .inl (cJ, 12, .inr (.inl f)))) (hR : fk_R x f) (hk : -1099511627776 ≤ k.toInt ∧ k.toInt ≤ 1099511627776) : Met l yX2_scale wsX2_scale rmX2_scale (va_Pc [.ref h0, .long k] (fk_pre D (fk_ty cJ cC cI cZ cK) ws sz)) (va_Qv (fun g : Nat → Int64 => fk_R (x * k.toInt) g) (fk_Bd D (fk_ty cJ cC cI cZ cK) (va_A ws sz) (fun g : Nat → Int64 => ws.set q1 (h1, .inl (cJ, 12, .inr (.inl g))))) (va_A ws sz)) 0 0 (va_A ws sz) := by
  refine fk_ofW cX2_scale 6 none (fun A => va_Qv (fun g : Nat → Int64 => fk_R (x * k.toInt) g) (fk_Bd D (fk_ty cJ cC cI cZ cK) A (fun g : Nat → Int64 => ws.set q1 (h1, .inl (cJ, 12, .inr (.inl g))))) A) rfl (by decide) (Nat.le_of_ble_eq_true rfl) ?_
  intro p e s m below meth c A ls args QQ hQQ hAt hP hK hN hD hA hS hl
  obtain ⟨⟨hx, hb, hml, hown, hts⟩, hr, hlocks, hin⟩ := hAt
  have hl : lv_has ls 6 [(0, .ref h0), (1, .long k)] := hl
  have k1 := hts (.fieldLink RX2 9 "FixedKinds$Whole" "limbs" "[J") (by decide +kernel)
  have k2 := (by decide +kernel : ∀ w ∈ u_ws RX2 TX2 1, w ∈ wsX2_scale)
  have k3 := hts (.constantLong RX2 15 65535) (by decide +kernel)
  have hn_q1_q0 : q1 ≠ q0 := fk_neA hq0 hq1
  have hw0 : ws = (ws.set q1 (h1, .inl (cJ, 12, .inr (.inl f)))) := by rw [fk_s0 hq1]
  rw [hw0] at hP hD
  refine lv_lconst (v := 0) hx hb dX2_scale_0 (by decide) ?_
  refine lv_lstore_n (lv' := [(3, .long 0), (0, .ref h0), (1, .long k)]) hx hb dX2_scale_1 rfl hl (by decide) rfl (fun ls hl => ?_)
  refine lv_iconst (v := 0) hx hb dX2_scale_2 (by decide) ?_
  refine lv_istore (lv' := [(5, .int 0), (3, .long 0), (0, .ref h0), (1, .long k)]) hx hb dX2_scale_3 hl (by decide) rfl (fun ls hl => ?_)
  have L5 : ∀ (fu5 : Nat) (i : Nat) (g : Nat → Int64) (cy : Int64), 12 - i < fu5 → (i ≤ 12) → (fk_C (fun i => fk_I f i * k.toInt) 0 i g cy.toInt) → (∀ j, i ≤ j → g j = f j) → (-2199023255552 ≤ cy.toInt ∧ cy.toInt ≤ 2199023255552) → ∀ (H : Heap) (locs : List Loc) (ls : Array Slot), va_P D vwCl (ws.set q1 (h1, .inl (cJ, 12, .inr (.inl g)))) H → va_D A (ws.set q1 (h1, .inl (cJ, 12, .inr (.inl g)))) → va_S A s.heap H locs → lv_has ls 6 [(0, .ref h0), (1, .long k), (3, .long cy), (5, .int (nI i))] → W p l e rmX2_scale s m args below meth c H locs 0 0 QQ (F0 m 5 ls []) := by
    intro fu5
    induction fu5 with
    | zero => intro i g cy hfu; exact absurd hfu (Nat.not_lt_zero _)
    | succ fu5 ih5 =>
      intro i g cy hfu5 hi hc hg hy H locs ls hP hD hS hl
      refine lv_iload hx hb dX2_scale_5 (lv_at hl 3 rfl) ?_
      refine lv_bipush (v := 12) hx hb dX2_scale_7 (by decide) ?_
      refine lv_icmp_ge (tgt := 47) hx hb dX2_scale_9 (by decide) (fun c_9 => ?_) (fun c_9 => ?_)
      · have hi12 : i = 12 := by have q := (nI_leI (a := 12) (b := i) (by omega) (by omega)).mp c_9; omega
        subst hi12
        rw [hQQ]
        exact W.vret hx hb hr (fun t ht hW => ⟨⟨g, rfl, fk_R_scale hR hc, by rw [ht]; exact hP, va_K.moved hW.alike hK, hD⟩, hS.F ht⟩) hS.2.2 dX2_scale_47
      · have hi12 : i < 12 := by rcases Nat.lt_or_ge i 12 with q | q; exact q; exact absurd ((nI_leI (a := 12) (b := i) (by omega) (by omega)).mpr q) c_9
        refine lv_lload_n hx hb dX2_scale_12 rfl (lv_at hl 2 rfl) ?_
        refine lv_aload_n hx hb dX2_scale_13 rfl (lv_at hl 0 rfl) ?_
        refine va_get (D := D) (ci := 3) (v := .ref h1) (C := RX2) (T := TX2) (N := 1) hx hb hts k2 hown hK hP q0 (fk_sn hq0 hn_q1_q0) rfl 0 (by decide) k1 (fun _ h9 => h9) rfl dX2_scale_14 ?_
        refine lv_iload hx hb dX2_scale_17 (lv_at hl 3 rfl) ?_
        refine fk_lald hx hb hK hP q1 0 (fk_ss hq1) rfl (i := i) (by omega) (by decide) dX2_scale_19 ?_
        refine lv_lload_n hx hb dX2_scale_20 rfl (lv_at hl 1 rfl) ?_
        refine lv_lmul hx hb dX2_scale_21 ?_
        refine lv_topl (fun x1 ex1 => ?_)
        refine lv_ladd hx hb dX2_scale_22 ?_
        refine lv_topl (fun x2 ex2 => ?_)
        refine lv_lstore_n (lv' := [(3, .long x2), (0, .ref h0), (1, .long k), (5, .int (nI i))]) hx hb dX2_scale_23 rfl hl (by decide) rfl (fun ls hl => ?_)
        have hfi := hR.1 i hi12
        rw [fk_I_def] at hfi
        have hm := fk_mbd hfi.1 hfi.2 hk.1 hk.2
        have a1 : x1.toInt = (f i).toInt * k.toInt := by
          rw [ex1, hg i (Nat.le_refl i)]; exact fk_mul (by omega) (by omega)
        have a2 : x2.toInt = cy.toInt + fk_I f i * k.toInt := by
          rw [ex2, fk_I, ← a1]; exact fk_add (by omega) (by omega)
        refine lv_aload_n hx hb dX2_scale_24 rfl (lv_at hl 1 rfl) ?_
        refine va_get (D := D) (ci := 3) (v := .ref h1) (C := RX2) (T := TX2) (N := 1) hx hb hts k2 hown hK hP q0 (fk_sn hq0 hn_q1_q0) rfl 0 (by decide) k1 (fun _ h9 => h9) rfl dX2_scale_25 ?_
        refine lv_iload hx hb dX2_scale_28 (lv_at hl 3 rfl) ?_
        refine lv_lload_n hx hb dX2_scale_30 rfl (lv_at hl 0 rfl) ?_
        refine lv_ldc2 (v := 65535) hx hb hown k3 dX2_scale_31 ?_
        refine lv_land hx hb dX2_scale_34 ?_
        refine lv_topl (fun x3 ex3 => ?_)
        refine fk_last hx hb hK hP hD hS q1 0 (fk_ss hq1) rfl (i := i) (by omega) (by decide) dX2_scale_35 (fun H locs hP hD hS => ?_)
        rw [fk_s2] at hP hD
        refine lv_lload_n hx hb dX2_scale_36 rfl (lv_at hl 0 rfl) ?_
        refine lv_bipush (v := 16) hx hb dX2_scale_37 (by decide) ?_
        refine lv_lshr hx hb dX2_scale_39 rfl ?_
        refine lv_topl (fun x4 ex4 => ?_)
        refine lv_lstore_n (lv' := [(3, .long x4), (0, .ref h0), (1, .long k), (5, .int (nI i))]) hx hb dX2_scale_40 rfl hl (by decide) rfl (fun ls hl => ?_)
        have a3 := fk_C_stp (t := fun i => fk_I f i * k.toInt) hc a2 ex3 ex4
        have a4 : ∀ j, i + 1 ≤ j → vp_updL g i x3 j = f j := fun j hj => by rw [pk_uLn (by omega)]; exact hg j (by omega)
        have a5 : -2199023255552 ≤ x4.toInt ∧ x4.toInt ≤ 2199023255552 := by rw [ex4, fk_s16, a2, fk_I]; omega
        refine lv_iinc (v := nI (i + 1)) (lv' := [(5, .int (nI (i + 1))), (3, .long x4), (0, .ref h0), (1, .long k)]) hx hb dX2_scale_41 hl (k := 3) rfl (by exact nI_1 i) (by decide) rfl (fun ls hl => ?_)
        refine lv_goto (tgt := 5) hx hb dX2_scale_44 (by decide) ?_
        exact ih5 (i + 1) (vp_updL g i x3) x4 (by omega) (by omega) a3 a4 a5 _ _ _ hP hD hS (lv_sub hl [2, 3, 1, 0] rfl)
  exact L5 13 0 f 0 (by omega) (by omega) (fk_C_0 _ _ _) (fun _ _ => rfl) (by decide) _ _ _ hP hD hS (lv_sub hl [2, 3, 1, 0] rfl)
end
section
/-! Whole: fitsLong, addShifted, addTimes, by program -/
abbrev rmX2_fitsLong : Room := { frames := 2, cells := 0, slots := 0, locals := 45 }
set_option maxHeartbeats 4000000 in
set_option maxRecDepth 100000 in
/-- Whole.fitsLong -/
theorem kX2_fitsLong {l : Launch} {D : va_G} {cJ cC cI cZ cK : ClassId} (sz : Nat) (ws : va_W) (h0 h1 q0 q1 : Nat) (f : Nat → Int64) (x : Int) (hq0 : ws[q0]? = some (h0, .inr (3, [.ref h1]))) (hq1 : ws[q1]? = some (h1, .inl (cJ, 12, .inr (.inl f)))) (hR : fk_R x f) (hI : fk_In x) : Met l yX2_fitsLong wsX2_fitsLong rmX2_fitsLong (va_Pc [.ref h0] (fk_pre D (fk_ty cJ cC cI cZ cK) ws sz)) (va_Qi (fun (r : Int32) (_ : Unit) => r = if -9223372036854775808 ≤ x ∧ x < 9223372036854775808 then 1 else 0) (fk_Bd D (fk_ty cJ cC cI cZ cK) (va_A ws sz) (fun _ : Unit => ws)) (va_A ws sz)) 0 0 (va_A ws sz) := by
  refine fk_ofW cX2_fitsLong 4 (some .boolean) (fun A => va_Qi (fun (r : Int32) (_ : Unit) => r = if -9223372036854775808 ≤ x ∧ x < 9223372036854775808 then 1 else 0) (fk_Bd D (fk_ty cJ cC cI cZ cK) A (fun _ : Unit => ws)) A) rfl (by decide) (Nat.le_of_ble_eq_true rfl) ?_
  intro p e s m below meth c A ls args QQ hQQ hAt hP hK hN hD hA hS hl
  obtain ⟨⟨hx, hb, hml, hown, hts⟩, hr, hlocks, hin⟩ := hAt
  have hl : lv_has ls 4 [(0, .ref h0)] := hl
  have k1 := hts (.fieldLink RX2 9 "FixedKinds$Whole" "limbs" "[J") (by decide +kernel)
  have k2 := (by decide +kernel : ∀ w ∈ u_ws RX2 TX2 1, w ∈ wsX2_fitsLong)
  have k3 := hts (.constantLong RX2 15 65535) (by decide +kernel)
  refine lv_aload_n hx hb dX2_fitsLong_0 rfl (lv_at hl 0 rfl) ?_
  refine lv_iconst (v := 0) hx hb dX2_fitsLong_1 (by decide) ?_
  refine fk_cl hD hS hA (va_runV (As := [.int 0]) (rest := []) ⟨hx, hb, hml, hown, hts⟩ (kX2_bitsFrom _ ws h0 h1 q0 q1 f 0 x hq0 hq1 hR (by omega)) (cwV 1 hts gX2_fitsLong_X2_bitsFrom rfl rfl rfl (by decide +kernel) ⟨Nat.le_of_ble_eq_true rfl, Nat.le_of_ble_eq_true rfl⟩) (fk_preV q0 3 hK hN hP hD rfl hq0) rfl rfl hl.1 rfl (lv_room (Nat.le_of_ble_eq_true rfl)) dX2_fitsLong_2 ⟨Nat.le_of_ble_eq_true rfl, Nat.le_of_ble_eq_true rfl⟩) (fun r1 u H locs hw hP hD hS => ?_)
  have hP : va_P D vwCl ws H := hP
  have hD : va_D A ws := hD
  have hy : (r1).toInt = x.bmod 18446744073709551616 := by rw [hw]; simp
  generalize hye : x.bmod 18446744073709551616 = y at hy
  have hyI : fk_In y := by rw [← hye]; have := Int.le_bmod (x := x) (m := 18446744073709551616) (by omega); have := Int.bmod_lt (x := x) (m := 18446744073709551616) (by omega); constructor <;> omega
  have hyx : (-9223372036854775808 ≤ x ∧ x < 9223372036854775808) ↔ x = y := by rw [← hye]; constructor; intro q; exact (Int.bmod_eq_of_le (by omega) (by omega)).symm; intro q; have := Int.le_bmod (x := x) (m := 18446744073709551616) (by omega); have := Int.bmod_lt (x := x) (m := 18446744073709551616) (by omega); omega
  refine lv_lstore_n (lv' := [(1, .long r1), (0, .ref h0)]) hx hb dX2_fitsLong_5 rfl hl (by decide) rfl (fun ls hl => ?_)
  refine lv_iconst (v := 0) hx hb dX2_fitsLong_6 (by decide) ?_
  refine lv_istore_n (lv' := [(3, .int 0), (1, .long r1), (0, .ref h0)]) hx hb dX2_fitsLong_7 rfl hl (by decide) rfl (fun ls hl => ?_)
  have L8 : ∀ (fu8 : Nat) (i : Nat) (rs : Int64), 12 - i < fu8 → (i ≤ 12) → (∀ j, j < i → (f j).toInt = fk_dg y j) → (rs.toInt = y / 65536 ^ i) → ∀ (H : Heap) (locs : List Loc) (ls : Array Slot), va_P D vwCl ws H → va_D A ws → va_S A s.heap H locs → lv_has ls 4 [(0, .ref h0), (1, .long rs), (3, .int (nI i))] → W p l e rmX2_fitsLong s m args below meth c H locs 0 0 QQ (F0 m 8 ls []) := by
    intro fu8
    induction fu8 with
    | zero => intro i rs hfu; exact absurd hfu (Nat.not_lt_zero _)
    | succ fu8 ih8 =>
      intro i rs hfu8 hi hc hrs H locs ls hP hD hS hl
      refine lv_iload_n hx hb dX2_fitsLong_8 rfl (lv_at hl 2 rfl) ?_
      refine lv_bipush (v := 12) hx hb dX2_fitsLong_9 (by decide) ?_
      refine lv_icmp_ge (tgt := 42) hx hb dX2_fitsLong_11 (by decide) (fun c_11 => ?_) (fun c_11 => ?_)
      · have hi12 : i = 12 := by have q := (nI_leI (a := 12) (b := i) (by omega) (by omega)).mp c_11; omega
        subst hi12
        refine lv_iconst (v := 1) hx hb dX2_fitsLong_42 (by decide) ?_
        rw [hQQ]
        exact W.zret (v := 1) hx hb hr rfl (fun t ht hW => ⟨⟨1, (), rfl, (by rw [if_pos (hyx.mpr (fk_R_inj hR (fk_R_eq hc) hI hyI))]), by rw [ht]; exact hP, va_K.moved hW.alike hK, hD⟩, hS.F ht⟩) hS.2.2 dX2_fitsLong_43
      · have hi12 : i < 12 := by rcases Nat.lt_or_ge i 12 with q | q; exact q; exact absurd ((nI_leI (a := 12) (b := i) (by omega) (by omega)).mpr q) c_11
        refine lv_aload_n hx hb dX2_fitsLong_14 rfl (lv_at hl 0 rfl) ?_
        refine va_get (D := D) (ci := 3) (v := .ref h1) (C := RX2) (T := TX2) (N := 1) hx hb hts k2 hown hK hP q0 hq0 rfl 0 (by decide) k1 (fun _ h9 => h9) rfl dX2_fitsLong_15 ?_
        refine lv_iload_n hx hb dX2_fitsLong_18 rfl (lv_at hl 2 rfl) ?_
        refine fk_lald hx hb hK hP q1 0 hq1 rfl (i := i) (by omega) (by decide) dX2_fitsLong_19 ?_
        refine lv_lload_n hx hb dX2_fitsLong_20 rfl (lv_at hl 1 rfl) ?_
        refine lv_ldc2 (v := 65535) hx hb hown k3 dX2_fitsLong_21 ?_
        refine lv_land hx hb dX2_fitsLong_24 ?_
        refine lv_topl (fun x2 ex2 => ?_)
        refine W.lcmp hx hb dX2_fitsLong_25 ?_
        refine lv_if_eq (tgt := 31) hx hb dX2_fitsLong_26 (by decide) (fun c_26 => ?_) (fun c_26 => ?_)
        · rw [lg_cmp_eq] at c_26
          rw [← Int64.toInt_inj, ex2, fk_m16, hrs] at c_26
          have a3 : ∀ j, j < i + 1 → (f j).toInt = fk_dg y j := by
            intro j hj
            by_cases q : j = i
            · subst q; exact c_26
            · exact hc j (by omega)
          refine lv_lload_n hx hb dX2_fitsLong_31 rfl (lv_at hl 1 rfl) ?_
          refine lv_bipush (v := 16) hx hb dX2_fitsLong_32 (by decide) ?_
          refine lv_lshr hx hb dX2_fitsLong_34 rfl ?_
          refine lv_topl (fun x3 ex3 => ?_)
          refine lv_lstore_n (lv' := [(1, .long x3), (0, .ref h0), (3, .int (nI i))]) hx hb dX2_fitsLong_35 rfl hl (by decide) rfl (fun ls hl => ?_)
          have a4 : x3.toInt = y / 65536 ^ (i + 1) := by rw [ex3, fk_s16, hrs, Int.pow_succ, Int.ediv_ediv_of_nonneg (Int.le_of_lt (fk_pp i))]
          refine lv_iinc (v := nI (i + 1)) (lv' := [(3, .int (nI (i + 1))), (1, .long x3), (0, .ref h0)]) hx hb dX2_fitsLong_36 hl (k := 2) rfl (by exact nI_1 i) (by decide) rfl (fun ls hl => ?_)
          refine lv_goto (tgt := 8) hx hb dX2_fitsLong_39 (by decide) ?_
          exact ih8 (i + 1) x3 (by omega) (by omega) a3 a4 _ _ _ hP hD hS (lv_sub hl [2, 1, 0] rfl)
        · rw [lg_cmp_eq] at c_26
          rw [← Int64.toInt_inj, ex2, fk_m16, hrs] at c_26
          refine lv_iconst (v := 0) hx hb dX2_fitsLong_29 (by decide) ?_
          rw [hQQ]
          exact W.zret (v := 0) hx hb hr rfl (fun t ht hW => ⟨⟨0, (), rfl, (by rw [if_neg (fun q => c_26 (by have e := fk_R_dg hR hi12; rw [hyx.mp q] at e; exact e))]), by rw [ht]; exact hP, va_K.moved hW.alike hK, hD⟩, hS.F ht⟩) hS.2.2 dX2_fitsLong_30
  exact L8 13 0 r1 (by omega) (by omega) (fun j hj => absurd hj (Nat.not_lt_zero j)) (by rw [hy]; simp) _ _ _ hP hD hS (lv_sub hl [2, 1, 0] rfl)
abbrev rmX2_addShifted : Room := { frames := 1, cells := 0, slots := 0, locals := 21 }
set_option maxHeartbeats 4000000 in
set_option maxRecDepth 100000 in
/-- Whole.addShifted -/
theorem kX2_addShifted {l : Launch} {D : va_G} {cJ cC cI cZ cK : ClassId} (sz : Nat) (ws : va_W) (h0 h1 h2 h3 q0 q1 q2 q3 : Nat) (f o : Nat → Int64) (n sh M : Nat) (k : Int64) (x y : Int) (hq0 : ws[q0]? = some (h0, .inr (3, [.ref h1]))) (hq1 : ws[q1]? = some (h1, .inl (cJ, 12, .inr (.inl f)))) (hq2 : ws[q2]? = some (h2, .inr (3, [.ref h3]))) (hq3 : ws[q3]? = some (h3, .inl (cJ, 12, .inr (.inl o)))) (hne : q1 ≠ q3) (hR : fk_R x f) (hRo : fk_R y o) (hn : n ≤ 12) (hM : M ≤ 12 ∧ sh ≤ M ∧ M ≤ n + sh + 1 ∧ (M = 12 ∨ M = n + sh + 1)) (hk : -1099511627776 ≤ k.toInt ∧ k.toInt ≤ 1099511627776) : Met l yX2_addShifted wsX2_addShifted rmX2_addShifted (va_Pc [.ref h0, .ref h2, .int (nI n), .int (nI sh), .long k] (fk_pre D (fk_ty cJ cC cI cZ cK) ws sz)) (va_Ql (fun (r : Int64) (g : Nat → Int64) => fk_C (fk_at f o sh k.toInt) 0 M g r.toInt ∧ ∀ j, M ≤ j → g j = f j) (fk_Bd D (fk_ty cJ cC cI cZ cK) (va_A ws sz) (fun g : Nat → Int64 => ws.set q1 (h1, .inl (cJ, 12, .inr (.inl g))))) (va_A ws sz)) 0 0 (va_A ws sz) := by
  refine fk_ofW cX2_addShifted 9 (some .long) (fun A => va_Ql (fun (r : Int64) (g : Nat → Int64) => fk_C (fk_at f o sh k.toInt) 0 M g r.toInt ∧ ∀ j, M ≤ j → g j = f j) (fk_Bd D (fk_ty cJ cC cI cZ cK) A (fun g : Nat → Int64 => ws.set q1 (h1, .inl (cJ, 12, .inr (.inl g))))) A) rfl (by decide) (Nat.le_of_ble_eq_true rfl) ?_
  intro p e s m below meth c A ls args QQ hQQ hAt hP hK hN hD hA hS hl
  obtain ⟨⟨hx, hb, hml, hown, hts⟩, hr, hlocks, hin⟩ := hAt
  have hl : lv_has ls 9 [(0, .ref h0), (1, .ref h2), (2, .int (nI n)), (3, .int (nI sh)), (4, .long k)] := hl
  have k1 := hts (.fieldLink RX2 9 "FixedKinds$Whole" "limbs" "[J") (by decide +kernel)
  have k2 := (by decide +kernel : ∀ w ∈ u_ws RX2 TX2 1, w ∈ wsX2_addShifted)
  have k3 := hts (.constantLong RX2 15 65535) (by decide +kernel)
  have hn_q1_q0 : q1 ≠ q0 := fk_neA hq0 hq1
  have hn_q1_q2 : q1 ≠ q2 := fk_neA hq2 hq1
  have hn_q1_q3 := hne
  have hw0 : ws = (ws.set q1 (h1, .inl (cJ, 12, .inr (.inl f)))) := by rw [fk_s0 hq1]
  rw [hw0] at hP hD
  refine lv_lconst (v := 0) hx hb dX2_addShifted_0 (by decide) ?_
  refine lv_lstore (lv' := [(6, .long 0), (0, .ref h0), (1, .ref h2), (2, .int (nI n)), (3, .int (nI sh)), (4, .long k)]) hx hb dX2_addShifted_1 hl (by decide) rfl (fun ls hl => ?_)
  refine lv_iload_n hx hb dX2_addShifted_3 rfl (lv_at hl 4 rfl) ?_
  refine lv_istore (lv' := [(8, .int (nI sh)), (6, .long 0), (0, .ref h0), (1, .ref h2), (2, .int (nI n)), (3, .int (nI sh)), (4, .long k)]) hx hb dX2_addShifted_4 hl (by decide) rfl (fun ls hl => ?_)
  have L6 : ∀ (fu6 : Nat) (i : Nat) (g : Nat → Int64) (cy : Int64), 12 - i < fu6 → (sh ≤ i) → (i ≤ M) → (fk_C (fk_at f o sh k.toInt) 0 i g cy.toInt) → (∀ j, i ≤ j → g j = f j) → (-2199023255552 ≤ cy.toInt ∧ cy.toInt ≤ 2199023255552) → ∀ (H : Heap) (locs : List Loc) (ls : Array Slot), va_P D vwCl (ws.set q1 (h1, .inl (cJ, 12, .inr (.inl g)))) H → va_D A (ws.set q1 (h1, .inl (cJ, 12, .inr (.inl g)))) → va_S A s.heap H locs → lv_has ls 9 [(0, .ref h0), (1, .ref h2), (2, .int (nI n)), (3, .int (nI sh)), (4, .long k), (6, .long cy), (8, .int (nI i))] → W p l e rmX2_addShifted s m args below meth c H locs 0 0 QQ (F0 m 6 ls []) := by
    intro fu6
    induction fu6 with
    | zero => intro i g cy hfu; exact absurd hfu (Nat.not_lt_zero _)
    | succ fu6 ih6 =>
      intro i g cy hfu6 hi0 hi hc hg hy H locs ls hP hD hS hl
      refine lv_iload hx hb dX2_addShifted_6 (lv_at hl 6 rfl) ?_
      refine lv_if_lt (tgt := 76) hx hb dX2_addShifted_8 (by decide) (fun c_8 => False.elim (nI_pos (n := i) (by omega) c_8)) (fun c_8 => ?_)
      refine lv_iload hx hb dX2_addShifted_11 (lv_at hl 6 rfl) ?_
      refine lv_bipush (v := 12) hx hb dX2_addShifted_13 (by decide) ?_
      refine lv_icmp_ge (tgt := 76) hx hb dX2_addShifted_15 (by decide) (fun c_15 => ?_) (fun c_15 => ?_)
      · have hiM : i = M := by have q := (nI_leI (a := 12) (b := i) (by omega) (by omega)).mp c_15; omega
        refine lv_lload hx hb dX2_addShifted_76 (lv_at hl 5 rfl) ?_
        rw [hQQ]
        exact W.lret (v := cy) hx hb hr (fun t ht hW => ⟨⟨cy, g, rfl, ⟨by rw [← hiM]; exact hc, by rw [← hiM]; exact hg⟩, by rw [ht]; exact hP, va_K.moved hW.alike hK, hD⟩, hS.F ht⟩) hS.2.2 dX2_addShifted_78
      · have hi12 : i < 12 := by rcases Nat.lt_or_ge i 12 with q | q; exact q; exact absurd ((nI_leI (a := 12) (b := i) (by omega) (by omega)).mpr q) c_15
        refine lv_iload hx hb dX2_addShifted_18 (lv_at hl 6 rfl) ?_
        refine lv_iload_n hx hb dX2_addShifted_20 rfl (lv_at hl 2 rfl) ?_
        refine lv_iload_n hx hb dX2_addShifted_21 rfl (lv_at hl 3 rfl) ?_
        refine lv_iadd hx hb dX2_addShifted_22 ?_
        refine lv_topi (fun x1 ex1 => ?_)
        have ex1q : x1 = nI (n + sh) := by
          rw [ex1]; exact nI_add n sh
        subst ex1q
        refine lv_icmp_gt (tgt := 76) hx hb dX2_addShifted_23 (by decide) (fun c_23 => ?_) (fun c_23 => ?_)
        · have hiM : i = M := by have q := (nI_ltI (a := n + sh) (b := i) (by omega) (by omega)).mp c_23; omega
          refine lv_lload hx hb dX2_addShifted_76 (lv_at hl 5 rfl) ?_
          rw [hQQ]
          exact W.lret (v := cy) hx hb hr (fun t ht hW => ⟨⟨cy, g, rfl, ⟨by rw [← hiM]; exact hc, by rw [← hiM]; exact hg⟩, by rw [ht]; exact hP, va_K.moved hW.alike hK, hD⟩, hS.F ht⟩) hS.2.2 dX2_addShifted_78
        · have hiM : i < M := by rcases Nat.lt_or_ge (n + sh) i with q | q; exact absurd ((nI_ltI (a := n + sh) (b := i) (by omega) (by omega)).mpr q) c_23; omega
          refine lv_lload hx hb dX2_addShifted_26 (lv_at hl 5 rfl) ?_
          refine lv_aload_n hx hb dX2_addShifted_28 rfl (lv_at hl 0 rfl) ?_
          refine va_get (D := D) (ci := 3) (v := .ref h1) (C := RX2) (T := TX2) (N := 1) hx hb hts k2 hown hK hP q0 (fk_sn hq0 hn_q1_q0) rfl 0 (by decide) k1 (fun _ h9 => h9) rfl dX2_addShifted_29 ?_
          refine lv_iload hx hb dX2_addShifted_32 (lv_at hl 6 rfl) ?_
          refine fk_lald hx hb hK hP q1 0 (fk_ss hq1) rfl (i := i) (by omega) (by decide) dX2_addShifted_34 ?_
          refine lv_aload_n hx hb dX2_addShifted_35 rfl (lv_at hl 1 rfl) ?_
          refine lv_iload hx hb dX2_addShifted_36 (lv_at hl 6 rfl) ?_
          refine lv_iload_n hx hb dX2_addShifted_38 rfl (lv_at hl 3 rfl) ?_
          refine lv_isub hx hb dX2_addShifted_39 ?_
          refine lv_topi (fun x2 ex2 => ?_)
          have ex2q : x2 = nI (i - sh) := by
            rw [ex2]; exact pk_sub hi0
          subst ex2q
          refine fk_cl hD hS hA (va_runV (As := [.int (nI (i - sh))]) (rest := [.long (g i), .long cy]) ⟨hx, hb, hml, hown, hts⟩ (kX2_limb _ _ h2 h3 q2 q3 o (nI (i - sh)) (fk_sn hq2 hn_q1_q2) (fk_sn hq3 hn_q1_q3)) (cwV 1 hts gX2_addShifted_X2_limb rfl rfl rfl (by decide +kernel) ⟨Nat.le_of_ble_eq_true rfl, Nat.le_of_ble_eq_true rfl⟩) (fk_preV q2 3 hK hN hP hD rfl (fk_sn hq2 hn_q1_q2)) rfl rfl hl.1 rfl (lv_room (Nat.le_of_ble_eq_true rfl)) dX2_addShifted_40 ⟨Nat.le_of_ble_eq_true rfl, Nat.le_of_ble_eq_true rfl⟩) (fun r3 u H locs hw hP hD hS => ?_)
          have hP : va_P D vwCl (ws.set q1 (h1, .inl (cJ, 12, .inr (.inl g)))) H := hP
          have hD : va_D A (ws.set q1 (h1, .inl (cJ, 12, .inr (.inl g)))) := hD
          rw [nI_toInt (by omega)] at hw
          refine lv_lload hx hb dX2_addShifted_43 (lv_at hl 4 rfl) ?_
          refine lv_lmul hx hb dX2_addShifted_45 ?_
          refine lv_topl (fun x4 ex4 => ?_)
          refine lv_ladd hx hb dX2_addShifted_46 ?_
          refine lv_topl (fun x5 ex5 => ?_)
          refine lv_ladd hx hb dX2_addShifted_47 ?_
          refine lv_topl (fun x6 ex6 => ?_)
          refine lv_lstore (lv' := [(6, .long x6), (0, .ref h0), (1, .ref h2), (2, .int (nI n)), (3, .int (nI sh)), (4, .long k), (8, .int (nI i))]) hx hb dX2_addShifted_48 hl (by decide) rfl (fun ls hl => ?_)
          have hfi := hR.1 i hi12
          rw [fk_I_def] at hfi
          have hob := fk_lb_bd hRo ((i - sh : Nat) : Int)
          rw [← hw] at hob
          have hm := fk_mbd hob.1 hob.2 hk.1 hk.2
          have a0 : x4.toInt = r3.toInt * k.toInt := by
            rw [ex4]; exact fk_mul (by omega) (by omega)
          have a1 : x5.toInt = (f i).toInt + x4.toInt := by
            rw [ex5, hg i (Nat.le_refl i)]; exact fk_add (by omega) (by omega)
          have a2 : x6.toInt = cy.toInt + fk_at f o sh k.toInt i := by
            rw [fk_at, if_neg (by omega), ← hw, fk_I, ← a0, ← a1, ex6]; exact fk_add (by omega) (by omega)
          have a2b : x6.toInt = cy.toInt + ((f i).toInt + r3.toInt * k.toInt) := by rw [← a0, ← a1, ex6]; exact fk_add (by omega) (by omega)
          refine lv_aload_n hx hb dX2_addShifted_50 rfl (lv_at hl 1 rfl) ?_
          refine va_get (D := D) (ci := 3) (v := .ref h1) (C := RX2) (T := TX2) (N := 1) hx hb hts k2 hown hK hP q0 (fk_sn hq0 hn_q1_q0) rfl 0 (by decide) k1 (fun _ h9 => h9) rfl dX2_addShifted_51 ?_
          refine lv_iload hx hb dX2_addShifted_54 (lv_at hl 6 rfl) ?_
          refine lv_lload hx hb dX2_addShifted_56 (lv_at hl 0 rfl) ?_
          refine lv_ldc2 (v := 65535) hx hb hown k3 dX2_addShifted_58 ?_
          refine lv_land hx hb dX2_addShifted_61 ?_
          refine lv_topl (fun x7 ex7 => ?_)
          refine fk_last hx hb hK hP hD hS q1 0 (fk_ss hq1) rfl (i := i) (by omega) (by decide) dX2_addShifted_62 (fun H locs hP hD hS => ?_)
          rw [fk_s2] at hP hD
          refine lv_lload hx hb dX2_addShifted_63 (lv_at hl 0 rfl) ?_
          refine lv_bipush (v := 16) hx hb dX2_addShifted_65 (by decide) ?_
          refine lv_lshr hx hb dX2_addShifted_67 rfl ?_
          refine lv_topl (fun x8 ex8 => ?_)
          refine lv_lstore (lv' := [(6, .long x8), (0, .ref h0), (1, .ref h2), (2, .int (nI n)), (3, .int (nI sh)), (4, .long k), (8, .int (nI i))]) hx hb dX2_addShifted_68 hl (by decide) rfl (fun ls hl => ?_)
          have a3 := fk_C_stp hc a2 ex7 ex8
          have a4 : ∀ j, i + 1 ≤ j → vp_updL g i x7 j = f j := fun j hj => by rw [pk_uLn (by omega)]; exact hg j (by omega)
          have a5 : -2199023255552 ≤ x8.toInt ∧ x8.toInt ≤ 2199023255552 := by rw [ex8, fk_s16, a2b]; omega
          refine lv_iinc (v := nI (i + 1)) (lv' := [(8, .int (nI (i + 1))), (6, .long x8), (0, .ref h0), (1, .ref h2), (2, .int (nI n)), (3, .int (nI sh)), (4, .long k)]) hx hb dX2_addShifted_70 hl (k := 6) rfl (by exact nI_1 i) (by decide) rfl (fun ls hl => ?_)
          refine lv_goto (tgt := 6) hx hb dX2_addShifted_73 (by decide) ?_
          exact ih6 (i + 1) (vp_updL g i x7) x8 (by omega) (by omega) (by omega) a3 a4 a5 _ _ _ hP hD hS (lv_sub hl [2, 3, 4, 5, 6, 1, 0] rfl)
  exact L6 13 sh f 0 (by omega) (Nat.le_refl _) (by omega) (fk_at_0 hR.1 (by omega)) (fun _ _ => rfl) (by decide) _ _ _ hP hD hS (lv_sub hl [2, 3, 4, 5, 6, 1, 0] rfl)
abbrev rmX2_addTimes : Room := { frames := 2, cells := 0, slots := 0, locals := 49 }
set_option maxHeartbeats 4000000 in
set_option maxRecDepth 100000 in
/-- Whole.addTimes -/
theorem kX2_addTimes {l : Launch} {D : va_G} {cJ cC cI cZ cK : ClassId} (sz : Nat) (ws : va_W) (h0 h1 h2 h3 q0 q1 q2 q3 : Nat) (f o : Nat → Int64) (k : Int64) (x y : Int) (hq0 : ws[q0]? = some (h0, .inr (3, [.ref h1]))) (hq1 : ws[q1]? = some (h1, .inl (cJ, 12, .inr (.inl f)))) (hq2 : ws[q2]? = some (h2, .inr (3, [.ref h3]))) (hq3 : ws[q3]? = some (h3, .inl (cJ, 12, .inr (.inl o)))) (hne : q1 ≠ q3) (hR : fk_R x f) (hRo : fk_R y o) (hk : -1099511627776 ≤ k.toInt ∧ k.toInt ≤ 1099511627776) : Met l yX2_addTimes wsX2_addTimes rmX2_addTimes (va_Pc [.ref h0, .ref h2, .long k] (fk_pre D (fk_ty cJ cC cI cZ cK) ws sz)) (va_Qv (fun g : Nat → Int64 => fk_R (x + y * k.toInt) g) (fk_Bd D (fk_ty cJ cC cI cZ cK) (va_A ws sz) (fun g : Nat → Int64 => ws.set q1 (h1, .inl (cJ, 12, .inr (.inl g))))) (va_A ws sz)) 0 0 (va_A ws sz) := by
  refine fk_ofW cX2_addTimes 4 none (fun A => va_Qv (fun g : Nat → Int64 => fk_R (x + y * k.toInt) g) (fk_Bd D (fk_ty cJ cC cI cZ cK) A (fun g : Nat → Int64 => ws.set q1 (h1, .inl (cJ, 12, .inr (.inl g))))) A) rfl (by decide) (Nat.le_of_ble_eq_true rfl) ?_
  intro p e s m below meth c A ls args QQ hQQ hAt hP hK hN hD hA hS hl
  obtain ⟨⟨hx, hb, hml, hown, hts⟩, hr, hlocks, hin⟩ := hAt
  have hl : lv_has ls 4 [(0, .ref h0), (1, .ref h2), (2, .long k)] := hl
  refine lv_aload_n hx hb dX2_addTimes_0 rfl (lv_at hl 0 rfl) ?_
  refine lv_aload_n hx hb dX2_addTimes_1 rfl (lv_at hl 1 rfl) ?_
  refine lv_bipush (v := 12) hx hb dX2_addTimes_2 (by decide) ?_
  refine lv_iconst (v := 0) hx hb dX2_addTimes_4 (by decide) ?_
  refine lv_lload_n hx hb dX2_addTimes_5 rfl (lv_at hl 2 rfl) ?_
  refine fk_cl hD hS hA (va_runV (As := [.ref h2, .int 12, .int 0, .long k]) (rest := []) ⟨hx, hb, hml, hown, hts⟩ (kX2_addShifted _ ws h0 h1 h2 h3 q0 q1 q2 q3 f o 12 0 12 k x y hq0 hq1 hq2 hq3 hne hR hRo (by omega) (by omega) hk) (cwV 4 hts gX2_addTimes_X2_addShifted rfl rfl rfl (by decide +kernel) ⟨Nat.le_of_ble_eq_true rfl, Nat.le_of_ble_eq_true rfl⟩) (fk_preV q0 3 hK hN hP hD rfl hq0) rfl rfl hl.1 rfl (lv_room (Nat.le_of_ble_eq_true rfl)) dX2_addTimes_6 ⟨Nat.le_of_ble_eq_true rfl, Nat.le_of_ble_eq_true rfl⟩) (fun r1 g H locs hw hP hD hS => ?_)
  have hP : va_P D vwCl (ws.set q1 (h1, .inl (cJ, 12, .inr (.inl g)))) H := hP
  have hD : va_D A (ws.set q1 (h1, .inl (cJ, 12, .inr (.inl g)))) := hD
  obtain ⟨hc, hg⟩ := hw
  have hc2 : fk_C (fun i => fk_I f i + fk_I o i * k.toInt) 0 12 g r1.toInt := by
    refine ⟨hc.1, ?_⟩
    rw [hc.2]
    exact congrArg (fun z => 0 + z) (fk_T_congr (fun i hi => by rw [fk_at, if_neg (by omega), Nat.sub_zero, fk_lb_in hi rfl]; rfl))
  refine lv_pop2_2 hx hb dX2_addTimes_9 rfl ?_
  rw [hQQ]
  exact W.vret hx hb hr (fun t ht hW => ⟨⟨g, rfl, fk_R_addt hR hRo hc2, by rw [ht]; exact hP, va_K.moved hW.alike hK, hD⟩, hS.F ht⟩) hS.2.2 dX2_addTimes_10
end
section
/-! Whole: multiply, shorten, by program -/
abbrev rmX2_multiply : Room := { frames := 1, cells := 0, slots := 0, locals := 25 }
set_option maxHeartbeats 4000000 in
set_option maxRecDepth 100000 in
/-- Whole.multiply -/
theorem kX2_multiply {l : Launch} {D : va_G} {cJ cC cI cZ cK : ClassId} (sz : Nat) (ws : va_W) (h0 h1 h2 h3 q0 q1 q2 q3 : Nat) (f o : Nat → Int64) (x y : Int) (hq0 : ws[q0]? = some (h0, .inr (3, [.ref h1]))) (hq1 : ws[q1]? = some (h1, .inl (cJ, 12, .inr (.inl f)))) (hq2 : ws[q2]? = some (h2, .inr (3, [.ref h3]))) (hq3 : ws[q3]? = some (h3, .inl (cJ, 12, .inr (.inl o)))) (hne : q1 ≠ q3) (hR : fk_R x f) (hRo : fk_R y o) : Met l yX2_multiply wsX2_multiply rmX2_multiply (va_Pc [.ref h0, .ref h2] (fk_pre D (fk_ty cJ cC cI cZ cK) ws sz)) (va_Qv (fun g : Nat → Int64 => fk_R (x * y) g) (fk_Bd D (fk_ty cJ cC cI cZ cK) (va_A ws sz) (fun g : Nat → Int64 => ws.set q1 (h1, .inl (cJ, 12, .inr (.inl g))))) (va_A ws sz)) 0 0 (va_A ws sz) := by
  refine fk_ofW cX2_multiply 6 none (fun A => va_Qv (fun g : Nat → Int64 => fk_R (x * y) g) (fk_Bd D (fk_ty cJ cC cI cZ cK) A (fun g : Nat → Int64 => ws.set q1 (h1, .inl (cJ, 12, .inr (.inl g))))) A) rfl (by decide) (Nat.le_of_ble_eq_true rfl) ?_
  intro p e s m below meth c A ls args QQ hQQ hAt hP hK hN hD hA hS hl
  obtain ⟨⟨hx, hb, hml, hown, hts⟩, hr, hlocks, hin⟩ := hAt
  have hl : lv_has ls 6 [(0, .ref h0), (1, .ref h2)] := hl
  have k1 := hts (.fieldLink RX2 9 "FixedKinds$Whole" "limbs" "[J") (by decide +kernel)
  have k2 := (by decide +kernel : ∀ w ∈ u_ws RX2 TX2 1, w ∈ wsX2_multiply)
  have hn_q1_q0 : q1 ≠ q0 := fk_neA hq0 hq1
  have hn_q1_q2 : q1 ≠ q2 := fk_neA hq2 hq1
  have hn_q1_q3 := hne
  have hw0 : ws = (ws.set q1 (h1, .inl (cJ, 12, .inr (.inl f)))) := by rw [fk_s0 hq1]
  rw [hw0] at hP hD
  refine lv_bipush (v := 11) hx hb dX2_multiply_0 (by decide) ?_
  refine lv_istore_n (lv' := [(2, .int 11), (0, .ref h0), (1, .ref h2)]) hx hb dX2_multiply_2 rfl hl (by decide) rfl (fun ls hl => ?_)
  rw [show (11 : Int32) = nI 12 + (-1) by decide] at hl
  have L3 : ∀ (fu3 : Nat) (k : Nat) (g : Nat → Int64), k < fu3 → (k ≤ 12) → (∀ j, j < k → g j = f j) → (∀ j, k ≤ j → j < 12 → (g j).toInt = fk_cs (fk_I f) (fk_I o) j (j + 1)) → ∀ (H : Heap) (locs : List Loc) (ls : Array Slot), va_P D vwCl (ws.set q1 (h1, .inl (cJ, 12, .inr (.inl g)))) H → va_D A (ws.set q1 (h1, .inl (cJ, 12, .inr (.inl g)))) → va_S A s.heap H locs → lv_has ls 6 [(0, .ref h0), (1, .ref h2), (2, .int (nI k + (-1)))] → W p l e rmX2_multiply s m args below meth c H locs 0 0 QQ (F0 m 3 ls []) := by
    intro fu3
    induction fu3 with
    | zero => intro k g hfu; exact absurd hfu (Nat.not_lt_zero _)
    | succ fu3 ih3 =>
      intro k g hfu3 hk12 hlo hhi H locs ls hP hD hS hl
      refine lv_iload_n hx hb dX2_multiply_3 rfl (lv_at hl 2 rfl) ?_
      refine lv_if_lt (tgt := 57) hx hb dX2_multiply_4 (by decide) (fun c_4 => ?_) (fun c_4 => ?_)
      · have hk0 : k = 0 := by rcases Nat.eq_zero_or_pos k with q | q; exact q; obtain ⟨j, rfl⟩ : ∃ j, k = j + 1 := ⟨k - 1, by omega⟩; rw [pk_m1] at c_4; exact absurd c_4 (nI_pos (by omega))
        subst hk0
        refine lv_aload_n hx hb dX2_multiply_57 rfl (lv_at hl 0 rfl) ?_
        refine lv_lconst (v := 0) hx hb dX2_multiply_58 (by decide) ?_
        have hF : ∀ i, i < 12 → 0 ≤ (g i).toInt ∧ (g i).toInt < 1099511627776 := by
          intro i hi
          have q := fk_cs_bd i hi hR.1 hRo.1 (i + 1) (by omega)
          rw [hhi i (by omega) hi]
          omega
        have hT : fk_T (fk_I g) 12 % 65536 ^ 12 = (x * y) % 65536 ^ 12 := by
          rw [← fk_R_mulr hR hRo]; congr 1; exact fk_T_congr (fun i hi => hhi i (by omega) hi)
        refine fk_cv hD hS hA (va_runV (As := [.long 0]) (rest := []) ⟨hx, hb, hml, hown, hts⟩ (kX2_grow _ _ h0 h1 q0 q1 g 0 (x * y) (fk_sn hq0 hn_q1_q0) (fk_ss hq1) hF hT (by decide)) (cwV 1 hts gX2_multiply_X2_grow rfl rfl rfl (by decide +kernel) ⟨Nat.le_of_ble_eq_true rfl, Nat.le_of_ble_eq_true rfl⟩) (fk_preV q0 3 hK hN hP hD rfl (fk_sn hq0 hn_q1_q0)) rfl rfl hl.1 rfl (lv_room (Nat.le_of_ble_eq_true rfl)) dX2_multiply_59 ⟨Nat.le_of_ble_eq_true rfl, Nat.le_of_ble_eq_true rfl⟩) (fun g2 H locs hw hP hD hS => ?_)
        rw [fk_s2] at hP hD
        have hP : va_P D vwCl (ws.set q1 (h1, .inl (cJ, 12, .inr (.inl g2)))) H := hP
        have hD : va_D A (ws.set q1 (h1, .inl (cJ, 12, .inr (.inl g2)))) := hD
        rw [fk_z64, Int.add_zero] at hw
        rw [hQQ]
        exact W.vret hx hb hr (fun t ht hW => ⟨⟨g2, rfl, hw, by rw [ht]; exact hP, va_K.moved hW.alike hK, hD⟩, hS.F ht⟩) hS.2.2 dX2_multiply_62
      · obtain ⟨j, rfl⟩ : ∃ j, k = j + 1 := by rcases Nat.eq_zero_or_pos k with q | q; exact absurd (by rw [q]; decide) c_4; exact ⟨k - 1, by omega⟩
        rw [pk_m1] at hl
        refine lv_lconst (v := 0) hx hb dX2_multiply_7 (by decide) ?_
        refine lv_lstore_n (lv' := [(3, .long 0), (0, .ref h0), (1, .ref h2), (2, .int (nI j))]) hx hb dX2_multiply_8 rfl hl (by decide) rfl (fun ls hl => ?_)
        refine lv_iconst (v := 0) hx hb dX2_multiply_9 (by decide) ?_
        refine lv_istore (lv' := [(5, .int 0), (3, .long 0), (0, .ref h0), (1, .ref h2), (2, .int (nI j))]) hx hb dX2_multiply_10 hl (by decide) rfl (fun ls hl => ?_)
        have L12 : ∀ (fu12 : Nat) (i : Nat) (sm : Int64), 13 - i < fu12 → (i ≤ j + 1) → (sm.toInt = fk_cs (fk_I f) (fk_I o) j i) → ∀ (H : Heap) (locs : List Loc) (ls : Array Slot), va_P D vwCl (ws.set q1 (h1, .inl (cJ, 12, .inr (.inl g)))) H → va_D A (ws.set q1 (h1, .inl (cJ, 12, .inr (.inl g)))) → va_S A s.heap H locs → lv_has ls 6 [(0, .ref h0), (1, .ref h2), (2, .int (nI j)), (3, .long sm), (5, .int (nI i))] → W p l e rmX2_multiply s m args below meth c H locs 0 0 QQ (F0 m 12 ls []) := by
          intro fu12
          induction fu12 with
          | zero => intro i sm hfu; exact absurd hfu (Nat.not_lt_zero _)
          | succ fu12 ih12 =>
            intro i sm hfu12 hij hsm H locs ls hP hD hS hl
            refine lv_iload hx hb dX2_multiply_12 (lv_at hl 4 rfl) ?_
            refine lv_iload_n hx hb dX2_multiply_14 rfl (lv_at hl 2 rfl) ?_
            refine lv_icmp_gt (tgt := 44) hx hb dX2_multiply_15 (by decide) (fun c_15 => ?_) (fun c_15 => ?_)
            · have hij1 : i = j + 1 := by have q := (nI_ltI (a := j) (b := i) (by omega) (by omega)).mp c_15; omega
              subst hij1
              refine lv_aload_n hx hb dX2_multiply_44 rfl (lv_at hl 0 rfl) ?_
              refine va_get (D := D) (ci := 3) (v := .ref h1) (C := RX2) (T := TX2) (N := 1) hx hb hts k2 hown hK hP q0 (fk_sn hq0 hn_q1_q0) rfl 0 (by decide) k1 (fun _ h9 => h9) rfl dX2_multiply_45 ?_
              refine lv_iload_n hx hb dX2_multiply_48 rfl (lv_at hl 2 rfl) ?_
              refine lv_lload_n hx hb dX2_multiply_49 rfl (lv_at hl 3 rfl) ?_
              refine fk_last hx hb hK hP hD hS q1 0 (fk_ss hq1) rfl (i := j) (by omega) (by decide) dX2_multiply_50 (fun H locs hP hD hS => ?_)
              rw [fk_s2] at hP hD
              have b1 : ∀ a, a < j → vp_updL g j sm a = f a := fun a ha => by rw [pk_uLn (by omega)]; exact hlo a (by omega)
              have b2 : ∀ a, j ≤ a → a < 12 → (vp_updL g j sm a).toInt = fk_cs (fk_I f) (fk_I o) a (a + 1) := by
                intro a h1 h2
                by_cases q : a = j
                · subst q; rw [pk_uLs]; exact hsm
                · rw [pk_uLn q]; exact hhi a (by omega) h2
              refine lv_iinc (v := nI j + (-1)) (lv' := [(2, .int (nI j + (-1))), (0, .ref h0), (1, .ref h2), (3, .long sm), (5, .int (nI (j + 1)))]) hx hb dX2_multiply_51 hl (k := 2) rfl (by rfl) (by decide) rfl (fun ls hl => ?_)
              refine lv_goto (tgt := 3) hx hb dX2_multiply_54 (by decide) ?_
              exact ih3 j (vp_updL g j sm) (by omega) (by omega) b1 b2 _ _ _ hP hD hS (lv_sub hl [1, 2, 0] rfl)
            · have hij2 : i ≤ j := by rcases Nat.lt_or_ge j i with q | q; exact absurd ((nI_ltI (a := j) (b := i) (by omega) (by omega)).mpr q) c_15; exact q
              refine lv_lload_n hx hb dX2_multiply_18 rfl (lv_at hl 3 rfl) ?_
              refine lv_aload_n hx hb dX2_multiply_19 rfl (lv_at hl 0 rfl) ?_
              refine va_get (D := D) (ci := 3) (v := .ref h1) (C := RX2) (T := TX2) (N := 1) hx hb hts k2 hown hK hP q0 (fk_sn hq0 hn_q1_q0) rfl 0 (by decide) k1 (fun _ h9 => h9) rfl dX2_multiply_20 ?_
              refine lv_iload hx hb dX2_multiply_23 (lv_at hl 4 rfl) ?_
              refine fk_lald hx hb hK hP q1 0 (fk_ss hq1) rfl (i := i) (by omega) (by decide) dX2_multiply_25 ?_
              refine lv_aload_n hx hb dX2_multiply_26 rfl (lv_at hl 1 rfl) ?_
              refine va_get (D := D) (ci := 3) (v := .ref h3) (C := RX2) (T := TX2) (N := 1) hx hb hts k2 hown hK hP q2 (fk_sn hq2 hn_q1_q2) rfl 0 (by decide) k1 (fun _ h9 => h9) rfl dX2_multiply_27 ?_
              refine lv_iload_n hx hb dX2_multiply_30 rfl (lv_at hl 2 rfl) ?_
              refine lv_iload hx hb dX2_multiply_31 (lv_at hl 4 rfl) ?_
              refine lv_isub hx hb dX2_multiply_33 ?_
              refine lv_topi (fun x2 ex2 => ?_)
              have ex2q : x2 = nI (j - i) := by
                rw [ex2]; exact pk_sub hij2
              subst ex2q
              refine fk_lald hx hb hK hP q3 0 (fk_sn hq3 hn_q1_q3) rfl (i := j - i) (by omega) (by decide) dX2_multiply_34 ?_
              refine lv_lmul hx hb dX2_multiply_35 ?_
              refine lv_topl (fun x3 ex3 => ?_)
              refine lv_ladd hx hb dX2_multiply_36 ?_
              refine lv_topl (fun x4 ex4 => ?_)
              have hfi := hR.1 i (by omega)
              have hoi := hRo.1 (j - i) (by omega)
              rw [fk_I_def] at hfi hoi
              have hcb := fk_cs_bd j (by omega) hR.1 hRo.1 i (by omega)
              have hm : 0 ≤ (f i).toInt * (o (j - i)).toInt := Int.mul_nonneg hfi.1 hoi.1
              have hm2 : (f i).toInt * (o (j - i)).toInt ≤ 65536 * (o (j - i)).toInt := Int.mul_le_mul_of_nonneg_right (by omega) hoi.1
              have d1 : x3.toInt = (f i).toInt * (o (j - i)).toInt := by
                rw [ex3, hlo i (by omega)]; exact fk_mul (by omega) (by omega)
              have d2 : x4.toInt = fk_cs (fk_I f) (fk_I o) j (i + 1) := by
                rw [fk_cs, ← hsm, ex4, fk_I_def, fk_I_def, ← d1]; exact fk_add (by omega) (by omega)
              refine lv_lstore_n (lv' := [(3, .long x4), (0, .ref h0), (1, .ref h2), (2, .int (nI j)), (5, .int (nI i))]) hx hb dX2_multiply_37 rfl hl (by decide) rfl (fun ls hl => ?_)
              refine lv_iinc (v := nI (i + 1)) (lv' := [(5, .int (nI (i + 1))), (3, .long x4), (0, .ref h0), (1, .ref h2), (2, .int (nI j))]) hx hb dX2_multiply_38 hl (k := 4) rfl (by exact nI_1 i) (by decide) rfl (fun ls hl => ?_)
              refine lv_goto (tgt := 12) hx hb dX2_multiply_41 (by decide) ?_
              exact ih12 (i + 1) x4 (by omega) (by omega) d2 _ _ _ hP hD hS (lv_sub hl [2, 3, 4, 1, 0] rfl)
        exact L12 14 0 0 (by omega) (by omega) fk_z64 _ _ _ hP hD hS (lv_sub hl [2, 3, 4, 1, 0] rfl)
  exact L3 13 12 f (by omega) (by omega) (fun _ _ => rfl) (fun j h1 h2 => by omega) _ _ _ hP hD hS (lv_sub hl [1, 2, 0] rfl)
abbrev rmX2_shorten : Room := { frames := 0, cells := 0, slots := 0, locals := 0 }
set_option maxHeartbeats 4000000 in
set_option maxRecDepth 100000 in
/-- Whole.shorten -/
theorem kX2_shorten {l : Launch} {D : va_G} {cJ cC cI cZ cK : ClassId} (sz : Nat) (ws : va_W) (h0 h1 q0 q1 : Nat) (f : Nat → Int64) (d : Int64) (x : Int) (hq0 : ws[q0]? = some (h0, .inr (3, [.ref h1]))) (hq1 : ws[q1]? = some (h1, .inl (cJ, 12, .inr (.inl f)))) (hR : fk_R x f) (hI : fk_In x) (hx0 : 0 ≤ x) (hd : 0 < d.toInt ∧ d.toInt < 1099511627776) : Met l yX2_shorten wsX2_shorten rmX2_shorten (va_Pc [.ref h0, .long d] (fk_pre D (fk_ty cJ cC cI cZ cK) ws sz)) (va_Ql (fun (r : Int64) (g : Nat → Int64) => r.toInt = x % d.toInt ∧ fk_R (x / d.toInt) g) (fk_Bd D (fk_ty cJ cC cI cZ cK) (va_A ws sz) (fun g : Nat → Int64 => ws.set q1 (h1, .inl (cJ, 12, .inr (.inl g))))) (va_A ws sz)) 0 0 (va_A ws sz) := by
  refine fk_ofW cX2_shorten 6 (some .long) (fun A => va_Ql (fun (r : Int64) (g : Nat → Int64) => r.toInt = x % d.toInt ∧ fk_R (x / d.toInt) g) (fk_Bd D (fk_ty cJ cC cI cZ cK) A (fun g : Nat → Int64 => ws.set q1 (h1, .inl (cJ, 12, .inr (.inl g))))) A) rfl (by decide) (Nat.le_of_ble_eq_true rfl) ?_
  intro p e s m below meth c A ls args QQ hQQ hAt hP hK hN hD hA hS hl
  obtain ⟨⟨hx, hb, hml, hown, hts⟩, hr, hlocks, hin⟩ := hAt
  have hl : lv_has ls 6 [(0, .ref h0), (1, .long d)] := hl
  have k1 := hts (.fieldLink RX2 9 "FixedKinds$Whole" "limbs" "[J") (by decide +kernel)
  have k2 := (by decide +kernel : ∀ w ∈ u_ws RX2 TX2 1, w ∈ wsX2_shorten)
  have hn_q1_q0 : q1 ≠ q0 := fk_neA hq0 hq1
  have hw0 : ws = (ws.set q1 (h1, .inl (cJ, 12, .inr (.inl f)))) := by rw [fk_s0 hq1]
  rw [hw0] at hP hD
  refine lv_lload_n hx hb dX2_shorten_0 rfl (lv_at hl 1 rfl) ?_
  refine lv_lconst (v := 0) hx hb dX2_shorten_1 (by decide) ?_
  refine W.lcmp hx hb dX2_shorten_2 ?_
  refine lv_if_gt (tgt := 8) hx hb dX2_shorten_3 (by decide) (fun c_3 => ?_) (fun c_3 => False.elim (c_3 ((lg_cmp_gt _ _).mpr (Int64.lt_iff_toInt_lt.mpr (by rw [fk_z64]; exact hd.1)))))
  refine lv_lconst (v := 0) hx hb dX2_shorten_8 (by decide) ?_
  refine lv_lstore_n (lv' := [(3, .long 0), (0, .ref h0), (1, .long d)]) hx hb dX2_shorten_9 rfl hl (by decide) rfl (fun ls hl => ?_)
  refine lv_bipush (v := 11) hx hb dX2_shorten_10 (by decide) ?_
  refine lv_istore (lv' := [(5, .int 11), (3, .long 0), (0, .ref h0), (1, .long d)]) hx hb dX2_shorten_12 hl (by decide) rfl (fun ls hl => ?_)
  rw [show (11 : Int32) = nI 12 + (-1) by decide] at hl
  have L14 : ∀ (fu14 : Nat) (k : Nat) (g : Nat → Int64) (rs : Int64), k < fu14 → (k ≤ 12) → (fk_Sd (fk_I f) d.toInt k (fk_I g) rs.toInt) → ∀ (H : Heap) (locs : List Loc) (ls : Array Slot), va_P D vwCl (ws.set q1 (h1, .inl (cJ, 12, .inr (.inl g)))) H → va_D A (ws.set q1 (h1, .inl (cJ, 12, .inr (.inl g)))) → va_S A s.heap H locs → lv_has ls 6 [(0, .ref h0), (1, .long d), (3, .long rs), (5, .int (nI k + (-1)))] → W p l e rmX2_shorten s m args below meth c H locs 0 0 QQ (F0 m 14 ls []) := by
    intro fu14
    induction fu14 with
    | zero => intro k g rs hfu; exact absurd hfu (Nat.not_lt_zero _)
    | succ fu14 ih14 =>
      intro k g rs hfu14 hk12 hs H locs ls hP hD hS hl
      refine lv_iload hx hb dX2_shorten_14 (lv_at hl 3 rfl) ?_
      refine lv_if_lt (tgt := 52) hx hb dX2_shorten_16 (by decide) (fun c_16 => ?_) (fun c_16 => ?_)
      · have hk0 : k = 0 := by rcases Nat.eq_zero_or_pos k with q | q; exact q; obtain ⟨j, rfl⟩ : ∃ j, k = j + 1 := ⟨k - 1, by omega⟩; rw [pk_m1] at c_16; exact absurd c_16 (nI_pos (by omega))
        subst hk0
        refine lv_lload_n hx hb dX2_shorten_52 rfl (lv_at hl 2 rfl) ?_
        rw [hQQ]
        exact W.lret (v := rs) hx hb hr (fun t ht hW => ⟨⟨rs, g, rfl, (by have z := fk_Sd_end hR hx0 hI hs; exact ⟨z.2, z.1⟩), by rw [ht]; exact hP, va_K.moved hW.alike hK, hD⟩, hS.F ht⟩) hS.2.2 dX2_shorten_53
      · obtain ⟨j, rfl⟩ : ∃ j, k = j + 1 := by rcases Nat.eq_zero_or_pos k with q | q; exact absurd (by rw [q]; decide) c_16; exact ⟨k - 1, by omega⟩
        rw [pk_m1] at hl
        refine lv_lload_n hx hb dX2_shorten_19 rfl (lv_at hl 2 rfl) ?_
        refine lv_bipush (v := 16) hx hb dX2_shorten_20 (by decide) ?_
        refine lv_lshl hx hb dX2_shorten_22 rfl ?_
        refine lv_topl (fun x1 ex1 => ?_)
        refine lv_aload_n hx hb dX2_shorten_23 rfl (lv_at hl 0 rfl) ?_
        refine va_get (D := D) (ci := 3) (v := .ref h1) (C := RX2) (T := TX2) (N := 1) hx hb hts k2 hown hK hP q0 (fk_sn hq0 hn_q1_q0) rfl 0 (by decide) k1 (fun _ h9 => h9) rfl dX2_shorten_24 ?_
        refine lv_iload hx hb dX2_shorten_27 (lv_at hl 3 rfl) ?_
        refine fk_lald hx hb hK hP q1 0 (fk_ss hq1) rfl (i := j) (by omega) (by decide) dX2_shorten_29 ?_
        refine lv_lor hx hb dX2_shorten_30 ?_
        refine lv_topl (fun x2 ex2 => ?_)
        have hfj := hR.1 j (by omega)
        have hgj : (g j).toInt = (f j).toInt := hs.1 j (by omega)
        rw [fk_I_def] at hfj
        have hr0 := hs.2.2.1
        have hr1 := hs.2.2.2.1
        have a1 : x2.toInt = rs.toInt * 65536 + (f j).toInt := by
          rw [ex2, ex1, ← hgj]; exact fk_or16n hr0 (by omega) (by omega) (by omega)
        have a0 : 0 ≤ x2.toInt := by omega
        refine lv_lstore_n (lv' := [(3, .long x2), (0, .ref h0), (1, .long d), (5, .int (nI j))]) hx hb dX2_shorten_31 rfl hl (by decide) rfl (fun ls hl => ?_)
        refine lv_aload_n hx hb dX2_shorten_32 rfl (lv_at hl 1 rfl) ?_
        refine va_get (D := D) (ci := 3) (v := .ref h1) (C := RX2) (T := TX2) (N := 1) hx hb hts k2 hown hK hP q0 (fk_sn hq0 hn_q1_q0) rfl 0 (by decide) k1 (fun _ h9 => h9) rfl dX2_shorten_33 ?_
        refine lv_iload hx hb dX2_shorten_36 (lv_at hl 3 rfl) ?_
        refine lv_lload_n hx hb dX2_shorten_38 rfl (lv_at hl 0 rfl) ?_
        refine lv_lload_n hx hb dX2_shorten_39 rfl (lv_at hl 2 rfl) ?_
        refine lv_ldiv hx hb dX2_shorten_40 (fun q => by rw [q] at hd; exact absurd hd.1 (by decide)) ?_
        refine lv_topl (fun x3 ex3 => ?_)
        refine fk_last hx hb hK hP hD hS q1 0 (fk_ss hq1) rfl (i := j) (by omega) (by decide) dX2_shorten_41 (fun H locs hP hD hS => ?_)
        rw [fk_s2] at hP hD
        refine lv_lload_n hx hb dX2_shorten_42 rfl (lv_at hl 0 rfl) ?_
        refine lv_lload_n hx hb dX2_shorten_43 rfl (lv_at hl 2 rfl) ?_
        refine lv_lrem hx hb dX2_shorten_44 (fun q => by rw [q] at hd; exact absurd hd.1 (by decide)) ?_
        refine lv_topl (fun x4 ex4 => ?_)
        refine lv_lstore_n (lv' := [(3, .long x4), (0, .ref h0), (1, .long d), (5, .int (nI j))]) hx hb dX2_shorten_45 rfl hl (by decide) rfl (fun ls hl => ?_)
        have b1 : fk_Sd (fk_I f) d.toInt j (fk_I (vp_updL g j x3)) x4.toInt := by
          have z := fk_Sd_step (g' := fk_I (vp_updL g j x3)) (by omega) (by rw [fk_I_def]; exact hfj) hs (fun a ha => by rw [fk_I, fk_I, pk_uLn ha]) (by rw [fk_I, pk_uLs, ex3, fk_divT a0 hd.1, a1]; rfl)
          rw [ex4, fk_remT a0 hd.1, a1]; exact z
        refine lv_iinc (v := nI j + (-1)) (lv' := [(5, .int (nI j + (-1))), (3, .long x4), (0, .ref h0), (1, .long d)]) hx hb dX2_shorten_46 hl (k := 3) rfl (by rfl) (by decide) rfl (fun ls hl => ?_)
        refine lv_goto (tgt := 14) hx hb dX2_shorten_49 (by decide) ?_
        exact ih14 j (vp_updL g j x3) x4 (by omega) (by omega) b1 _ _ _ hP hD hS (lv_sub hl [2, 3, 1, 0] rfl)
  exact L14 13 12 f 0 (by omega) (by omega) (fk_Sd_0 hd.1) _ _ _ hP hD hS (lv_sub hl [2, 3, 1, 0] rfl)
end
section
/-! Whole: guessDigit, by program -/
abbrev rmX2_guessDigit : Room := { frames := 1, cells := 0, slots := 0, locals := 21 }
set_option maxHeartbeats 4000000 in
set_option maxRecDepth 100000 in
/-- Whole.guessDigit -/
theorem kX2_guessDigit {l : Launch} {D : va_G} {cJ cC cI cZ cK : ClassId} (sz : Nat) (ws : va_W) (h0 h1 h2 h3 q0 q1 q2 q3 : Nat) (f o : Nat → Int64) (n sh : Nat) (x y : Int) (hq0 : ws[q0]? = some (h0, .inr (3, [.ref h1]))) (hq1 : ws[q1]? = some (h1, .inl (cJ, 12, .inr (.inl f)))) (hq2 : ws[q2]? = some (h2, .inr (3, [.ref h3]))) (hq3 : ws[q3]? = some (h3, .inl (cJ, 12, .inr (.inl o)))) (hR : fk_R x f) (hI : fk_In x) (hx0 : 0 ≤ x) (hRo : fk_R y o) (hy0 : 0 < y) (hIy : fk_In y) (hs : fk_Sz (fk_I o) n) (hn1 : n ≠ 0) (hns : n + sh ≤ 12) (hxy : x < y * 65536 ^ sh * 65536) : Met l yX2_guessDigit wsX2_guessDigit rmX2_guessDigit (va_Pc [.ref h0, .ref h2, .int (nI n), .int (nI sh)] (fk_pre D (fk_ty cJ cC cI cZ cK) ws sz)) (va_Ql (fun (r : Int64) (_ : Unit) => x / (y * 65536 ^ sh) ≤ r.toInt ∧ r.toInt ≤ x / (y * 65536 ^ sh) + 1) (fk_Bd D (fk_ty cJ cC cI cZ cK) (va_A ws sz) (fun _ : Unit => ws)) (va_A ws sz)) 0 0 (va_A ws sz) := by
  refine fk_ofW cX2_guessDigit 7 (some .long) (fun A => va_Ql (fun (r : Int64) (_ : Unit) => x / (y * 65536 ^ sh) ≤ r.toInt ∧ r.toInt ≤ x / (y * 65536 ^ sh) + 1) (fk_Bd D (fk_ty cJ cC cI cZ cK) A (fun _ : Unit => ws)) A) rfl (by decide) (Nat.le_of_ble_eq_true rfl) ?_
  intro p e s m below meth c A ls args QQ hQQ hAt hP hK hN hD hA hS hl
  obtain ⟨⟨hx, hb, hml, hown, hts⟩, hr, hlocks, hin⟩ := hAt
  have hl : lv_has ls 7 [(0, .ref h0), (1, .ref h2), (2, .int (nI n)), (3, .int (nI sh))] := hl
  refine lv_aload_n hx hb dX2_guessDigit_0 rfl (lv_at hl 1 rfl) ?_
  refine lv_iload_n hx hb dX2_guessDigit_1 rfl (lv_at hl 2 rfl) ?_
  refine lv_iconst (v := 1) hx hb dX2_guessDigit_2 (by decide) ?_
  refine lv_isub hx hb dX2_guessDigit_3 ?_
  refine lv_topi (fun x1 ex1 => ?_)
  refine fk_cl hD hS hA (va_runV (As := [.int x1]) (rest := []) ⟨hx, hb, hml, hown, hts⟩ (kX2_limb _ ws h2 h3 q2 q3 o x1 hq2 hq3) (cwV 1 hts gX2_guessDigit_X2_limb rfl rfl rfl (by decide +kernel) ⟨Nat.le_of_ble_eq_true rfl, Nat.le_of_ble_eq_true rfl⟩) (fk_preV q2 3 hK hN hP hD rfl hq2) rfl rfl hl.1 rfl (lv_room (Nat.le_of_ble_eq_true rfl)) dX2_guessDigit_4 ⟨Nat.le_of_ble_eq_true rfl, Nat.le_of_ble_eq_true rfl⟩) (fun r2 u H locs hw hP hD hS => ?_)
  have hP : va_P D vwCl ws H := hP
  have hD : va_D A ws := hD
  have v1 := hw
  have bv1 := fk_lb_bd hRo (x1 : Int32).toInt
  rw [← v1] at bv1
  refine lv_bipush (v := 16) hx hb dX2_guessDigit_7 (by decide) ?_
  refine lv_lshl hx hb dX2_guessDigit_9 rfl ?_
  refine lv_topl (fun x3 ex3 => ?_)
  refine lv_aload_n hx hb dX2_guessDigit_10 rfl (lv_at hl 1 rfl) ?_
  refine lv_iload_n hx hb dX2_guessDigit_11 rfl (lv_at hl 2 rfl) ?_
  refine lv_iconst (v := 2) hx hb dX2_guessDigit_12 (by decide) ?_
  refine lv_isub hx hb dX2_guessDigit_13 ?_
  refine lv_topi (fun x4 ex4 => ?_)
  refine fk_cl hD hS hA (va_runV (As := [.int x4]) (rest := [.long x3]) ⟨hx, hb, hml, hown, hts⟩ (kX2_limb _ ws h2 h3 q2 q3 o x4 hq2 hq3) (cwV 1 hts gX2_guessDigit_X2_limb rfl rfl rfl (by decide +kernel) ⟨Nat.le_of_ble_eq_true rfl, Nat.le_of_ble_eq_true rfl⟩) (fk_preV q2 3 hK hN hP hD rfl hq2) rfl rfl hl.1 rfl (lv_room (Nat.le_of_ble_eq_true rfl)) dX2_guessDigit_14 ⟨Nat.le_of_ble_eq_true rfl, Nat.le_of_ble_eq_true rfl⟩) (fun r5 u H locs hw hP hD hS => ?_)
  have hP : va_P D vwCl ws H := hP
  have hD : va_D A ws := hD
  have v2 := hw
  have bv2 := fk_lb_bd hRo (x4 : Int32).toInt
  rw [← v2] at bv2
  refine lv_lor hx hb dX2_guessDigit_17 ?_
  refine lv_topl (fun x6 ex6 => ?_)
  have j1 : x1.toInt = (n : Int) - 1 := by rw [ex1]; exact pk_sub_toInt (a := n) (b := 1) (by omega) (by omega)
  have j2 : x4.toInt = (n : Int) - 2 := by rw [ex4]; exact pk_sub_toInt (a := n) (b := 2) (by omega) (by omega)
  rw [j1] at v1
  rw [j2] at v2
  have hov : x6.toInt = (fk_lb o ((n : Int) - 1)).toInt * 65536 + (fk_lb o ((n : Int) - 2)).toInt := by
    rw [ex6, ex3, ← v1, ← v2]; exact fk_or16n (by omega) (by omega) (by omega) (by omega)
  obtain ⟨gO, g1, g2⟩ := fk_gd hR hx0 hI hRo hy0 hIy hs hn1 hns hxy
  rw [← hov] at gO g1 g2
  have hov0 : ¬ x6 = 0 := fun q => by rw [q] at gO; exact absurd gO (by decide)
  refine lv_lstore (lv' := [(4, .long x6), (0, .ref h0), (1, .ref h2), (2, .int (nI n)), (3, .int (nI sh))]) hx hb dX2_guessDigit_18 hl (by decide) rfl (fun ls hl => ?_)
  refine lv_lload hx hb dX2_guessDigit_20 (lv_at hl 0 rfl) ?_
  refine lv_lconst (v := 0) hx hb dX2_guessDigit_22 (by decide) ?_
  refine W.lcmp hx hb dX2_guessDigit_23 ?_
  refine lv_if_ne (tgt := 29) hx hb dX2_guessDigit_24 (by decide) (fun c_24 => ?_) (fun c_24 => False.elim (hov0 ((lg_cmp_eq _ _).mp c_24)))
  refine lv_iload_n hx hb dX2_guessDigit_29 rfl (lv_at hl 3 rfl) ?_
  refine lv_iload_n hx hb dX2_guessDigit_30 rfl (lv_at hl 4 rfl) ?_
  refine lv_iadd hx hb dX2_guessDigit_31 ?_
  refine lv_topi (fun x7 ex7 => ?_)
  have ex7q : x7 = nI (n + sh) := by
    rw [ex7]; exact nI_add n sh
  subst ex7q
  refine lv_istore (lv' := [(6, .int (nI (n + sh))), (4, .long x6), (0, .ref h0), (1, .ref h2), (2, .int (nI n)), (3, .int (nI sh))]) hx hb dX2_guessDigit_32 hl (by decide) rfl (fun ls hl => ?_)
  refine lv_aload_n hx hb dX2_guessDigit_34 rfl (lv_at hl 2 rfl) ?_
  refine lv_iload hx hb dX2_guessDigit_35 (lv_at hl 0 rfl) ?_
  refine fk_cl hD hS hA (va_runV (As := [.int (nI (n + sh))]) (rest := []) ⟨hx, hb, hml, hown, hts⟩ (kX2_limb _ ws h0 h1 q0 q1 f (nI (n + sh)) hq0 hq1) (cwV 1 hts gX2_guessDigit_X2_limb rfl rfl rfl (by decide +kernel) ⟨Nat.le_of_ble_eq_true rfl, Nat.le_of_ble_eq_true rfl⟩) (fk_preV q0 3 hK hN hP hD rfl hq0) rfl rfl hl.1 rfl (lv_room (Nat.le_of_ble_eq_true rfl)) dX2_guessDigit_37 ⟨Nat.le_of_ble_eq_true rfl, Nat.le_of_ble_eq_true rfl⟩) (fun r8 u H locs hw hP hD hS => ?_)
  have hP : va_P D vwCl ws H := hP
  have hD : va_D A ws := hD
  have v3 := hw
  have bv3 := fk_lb_bd hR ((nI (n + sh)) : Int32).toInt
  rw [← v3] at bv3
  refine lv_bipush (v := 16) hx hb dX2_guessDigit_40 (by decide) ?_
  refine lv_lshl hx hb dX2_guessDigit_42 rfl ?_
  refine lv_topl (fun x9 ex9 => ?_)
  refine lv_aload_n hx hb dX2_guessDigit_43 rfl (lv_at hl 2 rfl) ?_
  refine lv_iload hx hb dX2_guessDigit_44 (lv_at hl 0 rfl) ?_
  refine lv_iconst (v := 1) hx hb dX2_guessDigit_46 (by decide) ?_
  refine lv_isub hx hb dX2_guessDigit_47 ?_
  refine lv_topi (fun x10 ex10 => ?_)
  refine fk_cl hD hS hA (va_runV (As := [.int x10]) (rest := [.long x9]) ⟨hx, hb, hml, hown, hts⟩ (kX2_limb _ ws h0 h1 q0 q1 f x10 hq0 hq1) (cwV 1 hts gX2_guessDigit_X2_limb rfl rfl rfl (by decide +kernel) ⟨Nat.le_of_ble_eq_true rfl, Nat.le_of_ble_eq_true rfl⟩) (fk_preV q0 3 hK hN hP hD rfl hq0) rfl rfl hl.1 rfl (lv_room (Nat.le_of_ble_eq_true rfl)) dX2_guessDigit_48 ⟨Nat.le_of_ble_eq_true rfl, Nat.le_of_ble_eq_true rfl⟩) (fun r11 u H locs hw hP hD hS => ?_)
  have hP : va_P D vwCl ws H := hP
  have hD : va_D A ws := hD
  have v4 := hw
  have bv4 := fk_lb_bd hR (x10 : Int32).toInt
  rw [← v4] at bv4
  refine lv_lor hx hb dX2_guessDigit_51 ?_
  refine lv_topl (fun x12 ex12 => ?_)
  refine lv_bipush (v := 16) hx hb dX2_guessDigit_52 (by decide) ?_
  refine lv_lshl hx hb dX2_guessDigit_54 rfl ?_
  refine lv_topl (fun x13 ex13 => ?_)
  refine lv_aload_n hx hb dX2_guessDigit_55 rfl (lv_at hl 2 rfl) ?_
  refine lv_iload hx hb dX2_guessDigit_56 (lv_at hl 0 rfl) ?_
  refine lv_iconst (v := 2) hx hb dX2_guessDigit_58 (by decide) ?_
  refine lv_isub hx hb dX2_guessDigit_59 ?_
  refine lv_topi (fun x14 ex14 => ?_)
  refine fk_cl hD hS hA (va_runV (As := [.int x14]) (rest := [.long x13]) ⟨hx, hb, hml, hown, hts⟩ (kX2_limb _ ws h0 h1 q0 q1 f x14 hq0 hq1) (cwV 1 hts gX2_guessDigit_X2_limb rfl rfl rfl (by decide +kernel) ⟨Nat.le_of_ble_eq_true rfl, Nat.le_of_ble_eq_true rfl⟩) (fk_preV q0 3 hK hN hP hD rfl hq0) rfl rfl hl.1 rfl (lv_room (Nat.le_of_ble_eq_true rfl)) dX2_guessDigit_60 ⟨Nat.le_of_ble_eq_true rfl, Nat.le_of_ble_eq_true rfl⟩) (fun r15 u H locs hw hP hD hS => ?_)
  have hP : va_P D vwCl ws H := hP
  have hD : va_D A ws := hD
  have v5 := hw
  have bv5 := fk_lb_bd hR (x14 : Int32).toInt
  rw [← v5] at bv5
  refine lv_lor hx hb dX2_guessDigit_63 ?_
  refine lv_topl (fun x16 ex16 => ?_)
  rw [nI_toInt (by omega)] at v3
  have j4 : x10.toInt = ((n + sh : Nat) : Int) - 1 := by rw [ex10]; exact pk_sub_toInt (a := n + sh) (b := 1) (by omega) (by omega)
  have j5 : x14.toInt = ((n + sh : Nat) : Int) - 2 := by rw [ex14]; exact pk_sub_toInt (a := n + sh) (b := 2) (by omega) (by omega)
  rw [j4] at v4
  rw [j5] at v5
  rw [← v3, ← v4, ← v5] at g1 g2
  have t4 : x12.toInt = r8.toInt * 65536 + r11.toInt := by
    rw [ex12, ex9]; exact fk_or16n (by omega) (by omega) (by omega) (by omega)
  have t5 : x16.toInt = (r8.toInt * 65536 + r11.toInt) * 65536 + r15.toInt := by
    rw [ex16, ex13, ← t4]; exact fk_or16n (by omega) (by omega) (by omega) (by omega)
  rw [← t5] at g1 g2
  rw [← fk_divT (by omega) (by omega)] at g1 g2
  refine lv_lload hx hb dX2_guessDigit_64 (lv_at hl 1 rfl) ?_
  refine lv_ldiv hx hb dX2_guessDigit_66 hov0 ?_
  refine lv_topl (fun x17 ex17 => ?_)
  rw [hQQ]
  exact W.lret (v := x17) hx hb hr (fun t ht hW => ⟨⟨x17, (), rfl, ⟨by rw [ex17]; exact g1, by rw [ex17]; exact g2⟩, by rw [ht]; exact hP, va_K.moved hW.alike hK, hD⟩, hS.F ht⟩) hS.2.2 dX2_guessDigit_67
end
section
/-! Whole: divide, by program -/
abbrev rmX2_divide : Room := { frames := 2, cells := 0, slots := 0, locals := 49 }
set_option maxHeartbeats 4000000 in
set_option maxRecDepth 100000 in
/-- Whole.divide -/
theorem kX2_divide {l : Launch} {D : va_G} {cJ cC cI cZ cK : ClassId} (sz : Nat) (ws : va_W) (h0 h1 h2 h3 h4 h5 q0 q1 q2 q3 q4 q5 : Nat) (f o w : Nat → Int64) (x y : Int) (hq0 : ws[q0]? = some (h0, .inr (3, [.ref h1]))) (hq1 : ws[q1]? = some (h1, .inl (cJ, 12, .inr (.inl f)))) (hq2 : ws[q2]? = some (h2, .inr (3, [.ref h3]))) (hq3 : ws[q3]? = some (h3, .inl (cJ, 12, .inr (.inl o)))) (hq4 : ws[q4]? = some (h4, .inr (3, [.ref h5]))) (hq5 : ws[q5]? = some (h5, .inl (cJ, 12, .inr (.inl w)))) (hn_q1_q3 : q1 ≠ q3) (hn_q1_q5 : q1 ≠ q5) (hn_q5_q3 : q5 ≠ q3) (hR : fk_R x f) (hI : fk_In x) (hx0 : 0 ≤ x) (hRo : fk_R y o) (hy0 : 0 < y) (hIy : fk_In y) : Met l yX2_divide wsX2_divide rmX2_divide (va_Pc [.ref h0, .ref h2, .ref h4] (fk_pre D (fk_ty cJ cC cI cZ cK) ws sz)) (va_Qv (fun u : (Nat → Int64) × (Nat → Int64) => fk_R (x % y) u.1 ∧ fk_R (x / y) u.2) (fk_Bd D (fk_ty cJ cC cI cZ cK) (va_A ws sz) (fun u : (Nat → Int64) × (Nat → Int64) => (ws.set q1 (h1, .inl (cJ, 12, .inr (.inl u.1)))).set q5 (h5, .inl (cJ, 12, .inr (.inl u.2))))) (va_A ws sz)) 0 0 (va_A ws sz) := by
  refine fk_ofW cX2_divide 7 none (fun A => va_Qv (fun u : (Nat → Int64) × (Nat → Int64) => fk_R (x % y) u.1 ∧ fk_R (x / y) u.2) (fk_Bd D (fk_ty cJ cC cI cZ cK) A (fun u : (Nat → Int64) × (Nat → Int64) => (ws.set q1 (h1, .inl (cJ, 12, .inr (.inl u.1)))).set q5 (h5, .inl (cJ, 12, .inr (.inl u.2))))) A) rfl (by decide) (Nat.le_of_ble_eq_true rfl) ?_
  intro p e s m below meth c A ls args QQ hQQ hAt hP hK hN hD hA hS hl
  obtain ⟨⟨hx, hb, hml, hown, hts⟩, hr, hlocks, hin⟩ := hAt
  have hl : lv_has ls 7 [(0, .ref h0), (1, .ref h2), (2, .ref h4)] := hl
  have k1 := hts (.fieldLink RX2 9 "FixedKinds$Whole" "limbs" "[J") (by decide +kernel)
  have k2 := (by decide +kernel : ∀ w ∈ u_ws RX2 TX2 1, w ∈ wsX2_divide)
  have hn_q1_q0 : q1 ≠ q0 := fk_neA hq0 hq1
  have hn_q1_q2 : q1 ≠ q2 := fk_neA hq2 hq1
  have hn_q1_q4 : q1 ≠ q4 := fk_neA hq4 hq1
  have hn_q5_q0 : q5 ≠ q0 := fk_neA hq0 hq5
  have hn_q5_q2 : q5 ≠ q2 := fk_neA hq2 hq5
  have hn_q5_q4 : q5 ≠ q4 := fk_neA hq4 hq5
  have hn_q5_q1 : q5 ≠ q1 := Ne.symm hn_q1_q5
  have hw0 : ws = ((ws.set q1 (h1, .inl (cJ, 12, .inr (.inl f)))).set q5 (h5, .inl (cJ, 12, .inr (.inl w)))) := by rw [fk_s0 hq1, fk_s0 hq5]
  rw [hw0] at hP hD
  refine lv_aload_n hx hb dX2_divide_0 rfl (lv_at hl 2 rfl) ?_
  refine lv_lconst (v := 0) hx hb dX2_divide_1 (by decide) ?_
  refine fk_cv hD hS hA (va_runV (As := [.long 0]) (rest := []) ⟨hx, hb, hml, hown, hts⟩ (kX2_setTo _ _ h4 h5 q4 q5 w 0 (fk_sn (fk_sn hq4 hn_q1_q4) hn_q5_q4) (fk_ss (fk_sn hq5 hn_q1_q5))) (cwV 1 hts gX2_divide_X2_setTo rfl rfl rfl (by decide +kernel) ⟨Nat.le_of_ble_eq_true rfl, Nat.le_of_ble_eq_true rfl⟩) (fk_preV q4 3 hK hN hP hD rfl (fk_sn (fk_sn hq4 hn_q1_q4) hn_q5_q4)) rfl rfl hl.1 rfl (lv_room (Nat.le_of_ble_eq_true rfl)) dX2_divide_2 ⟨Nat.le_of_ble_eq_true rfl, Nat.le_of_ble_eq_true rfl⟩) (fun wq H locs hw hP hD hS => ?_)
  rw [fk_s2] at hP hD
  have hP : va_P D vwCl ((ws.set q1 (h1, .inl (cJ, 12, .inr (.inl f)))).set q5 (h5, .inl (cJ, 12, .inr (.inl wq)))) H := hP
  have hD : va_D A ((ws.set q1 (h1, .inl (cJ, 12, .inr (.inl f)))).set q5 (h5, .inl (cJ, 12, .inr (.inl wq)))) := hD
  rw [fk_z64] at hw
  have hwq := hw
  refine lv_aload_n hx hb dX2_divide_5 rfl (lv_at hl 1 rfl) ?_
  refine fk_ci hD hS hA (va_runV (As := []) (rest := []) ⟨hx, hb, hml, hown, hts⟩ (kX2_size _ _ h2 h3 q2 q3 o (fk_sn (fk_sn hq2 hn_q1_q2) hn_q5_q2) (fk_sn (fk_sn hq3 hn_q1_q3) hn_q5_q3)) (cwV 0 hts gX2_divide_X2_size rfl rfl rfl (by decide +kernel) ⟨Nat.le_of_ble_eq_true rfl, Nat.le_of_ble_eq_true rfl⟩) (fk_preV q2 3 hK hN hP hD rfl (fk_sn (fk_sn hq2 hn_q1_q2) hn_q5_q2)) rfl rfl hl.1 rfl (lv_room (Nat.le_of_ble_eq_true rfl)) dX2_divide_6 ⟨Nat.le_of_ble_eq_true rfl, Nat.le_of_ble_eq_true rfl⟩) (fun r2 u H locs hw hP hD hS => ?_)
  have hP : va_P D vwCl ((ws.set q1 (h1, .inl (cJ, 12, .inr (.inl f)))).set q5 (h5, .inl (cJ, 12, .inr (.inl wq)))) H := hP
  have hD : va_D A ((ws.set q1 (h1, .inl (cJ, 12, .inr (.inl f)))).set q5 (h5, .inl (cJ, 12, .inr (.inl wq)))) := hD
  obtain ⟨n, hn, hs⟩ := hw
  subst hn
  have hn1 : n ≠ 0 := fun q => by have := (fk_Sz_zero hRo hIy hs).mpr q; omega
  have hn12 := hs.1
  refine lv_istore_n (lv' := [(3, .int (nI n)), (0, .ref h0), (1, .ref h2), (2, .ref h4)]) hx hb dX2_divide_9 rfl hl (by decide) rfl (fun ls hl => ?_)
  refine lv_iload_n hx hb dX2_divide_10 rfl (lv_at hl 0 rfl) ?_
  refine lv_if_ne (tgt := 15) hx hb dX2_divide_11 (by decide) (fun c_11 => ?_) (fun c_11 => False.elim (hn1 ((nI_eq (a := n) (b := 0) (by omega) (by omega)).mp c_11)))
  refine lv_aload_n hx hb dX2_divide_15 rfl (lv_at hl 1 rfl) ?_
  refine fk_ci hD hS hA (va_runV (As := []) (rest := []) ⟨hx, hb, hml, hown, hts⟩ (kX2_size _ _ h0 h1 q0 q1 f (fk_sn (fk_sn hq0 hn_q1_q0) hn_q5_q0) (fk_sn (fk_ss hq1) hn_q5_q1)) (cwV 0 hts gX2_divide_X2_size rfl rfl rfl (by decide +kernel) ⟨Nat.le_of_ble_eq_true rfl, Nat.le_of_ble_eq_true rfl⟩) (fk_preV q0 3 hK hN hP hD rfl (fk_sn (fk_sn hq0 hn_q1_q0) hn_q5_q0)) rfl rfl hl.1 rfl (lv_room (Nat.le_of_ble_eq_true rfl)) dX2_divide_16 ⟨Nat.le_of_ble_eq_true rfl, Nat.le_of_ble_eq_true rfl⟩) (fun r3 u H locs hw hP hD hS => ?_)
  have hP : va_P D vwCl ((ws.set q1 (h1, .inl (cJ, 12, .inr (.inl f)))).set q5 (h5, .inl (cJ, 12, .inr (.inl wq)))) H := hP
  have hD : va_D A ((ws.set q1 (h1, .inl (cJ, 12, .inr (.inl f)))).set q5 (h5, .inl (cJ, 12, .inr (.inl wq)))) := hD
  obtain ⟨a, ha, hsa⟩ := hw
  subst ha
  have ha12 := hsa.1
  have hbx := fk_Sz_bd hR.1 hsa
  have hby := fk_Sz_bd hRo.1 hs
  rw [fk_R_val hR hx0 hI] at hbx
  rw [fk_R_val hRo (by omega) hIy] at hby
  have hyn := hby.2 hn1
  have hwN := hwq.1
  have hwz : ∀ j, j < 12 → fk_I wq j = 0 := fun j hj => by rw [fk_I, fk_R_dg hwq hj, fk_dg]; simp
  have hwT : fk_T (fk_I wq) 12 = 0 := fk_T_zero hwz
  refine lv_iload_n hx hb dX2_divide_19 rfl (lv_at hl 0 rfl) ?_
  refine lv_isub hx hb dX2_divide_20 ?_
  refine lv_topi (fun x4 ex4 => ?_)
  refine lv_istore (lv' := [(4, .int x4), (3, .int (nI n)), (0, .ref h0), (1, .ref h2), (2, .ref h4)]) hx hb dX2_divide_21 hl (by decide) rfl (fun ls hl => ?_)
  rcases Nat.lt_or_ge a n with han | han
  · have hlt : x < y := Int.lt_of_lt_of_le (Int.lt_of_lt_of_le hbx.1 (fk_pow_le (by omega))) hyn
    have hfin := fk_dend (x := x) (z := x) (y := y) hy0 hx0 hlt hR hwN (by rw [hwT]; simp)
    refine lv_iload hx hb dX2_divide_23 (lv_at hl 0 rfl) ?_
    refine lv_if_lt (tgt := 92) hx hb dX2_divide_25 (by decide) (fun c_25 => ?_) (fun c_25 => False.elim (c_25 (by rw [ex4]; exact pk_sneg (by omega) han)))
    rw [hQQ]
    exact W.vret hx hb hr (fun t ht hW => ⟨⟨(f, wq), rfl, hfin, by rw [ht]; exact hP, va_K.moved hW.alike hK, hD⟩, hS.F ht⟩) hS.2.2 dX2_divide_92
  · rw [ex4, pk_sub han, show nI (a - n) = nI (a - n + 1) + (-1) from (pk_m1 _).symm] at hl
    have hk0 : x < y * 65536 ^ (a - n + 1) := by
      have e : (65536 : Int) ^ a = 65536 ^ (n - 1) * 65536 ^ (a - n + 1) := by rw [← Int.pow_add]; congr 1; omega
      have q : 65536 ^ (n - 1) * 65536 ^ (a - n + 1) ≤ y * 65536 ^ (a - n + 1) := Int.mul_le_mul_of_nonneg_right hyn (Int.le_of_lt (fk_pp _))
      have := hbx.1
      omega
    have L23 : ∀ (fu23 : Nat) (k : Nat) (z : Int) (g : Nat → Int64) (w : Nat → Int64), k < fu23 → (k + n ≤ 13 ∧ k ≤ 12) → (fk_R z g) → (0 ≤ z) → (fk_In z) → (z < y * 65536 ^ k) → (fk_N (fk_I w) 12) → (∀ j, j < k → fk_I w j = 0) → (x = z + y * fk_T (fk_I w) 12) → ∀ (H : Heap) (locs : List Loc) (ls : Array Slot), va_P D vwCl ((ws.set q1 (h1, .inl (cJ, 12, .inr (.inl g)))).set q5 (h5, .inl (cJ, 12, .inr (.inl w)))) H → va_D A ((ws.set q1 (h1, .inl (cJ, 12, .inr (.inl g)))).set q5 (h5, .inl (cJ, 12, .inr (.inl w)))) → va_S A s.heap H locs → lv_has ls 7 [(0, .ref h0), (1, .ref h2), (2, .ref h4), (3, .int (nI n)), (4, .int (nI k + (-1)))] → W p l e rmX2_divide s m args below meth c H locs 0 0 QQ (F0 m 23 ls []) := by
      intro fu23
      induction fu23 with
      | zero => intro k z g w hfu; exact absurd hfu (Nat.not_lt_zero _)
      | succ fu23 ih23 =>
        intro k z g w hfu23 hk hzR hz0 hzI hzk hwN hw0 hsum H locs ls hP hD hS hl
        refine lv_iload hx hb dX2_divide_23 (lv_at hl 4 rfl) ?_
        refine lv_if_lt (tgt := 92) hx hb dX2_divide_25 (by decide) (fun c_25 => ?_) (fun c_25 => ?_)
        · have hk0 : k = 0 := by rcases Nat.eq_zero_or_pos k with q | q; exact q; obtain ⟨j, rfl⟩ : ∃ j, k = j + 1 := ⟨k - 1, by omega⟩; rw [pk_m1] at c_25; exact absurd c_25 (nI_pos (by omega))
          subst hk0
          have hfin := fk_dend hy0 hz0 (by simpa using hzk) hzR hwN hsum
          rw [hQQ]
          exact W.vret hx hb hr (fun t ht hW => ⟨⟨(g, w), rfl, hfin, by rw [ht]; exact hP, va_K.moved hW.alike hK, hD⟩, hS.F ht⟩) hS.2.2 dX2_divide_92
        · obtain ⟨sh, rfl⟩ : ∃ j, k = j + 1 := by rcases Nat.eq_zero_or_pos k with q | q; exact absurd (by rw [q]; decide) c_25; exact ⟨k - 1, by omega⟩
          rw [pk_m1] at hl
          obtain ⟨M, hM⟩ : ∃ M : Nat, M ≤ 12 ∧ sh ≤ M ∧ M ≤ n + sh + 1 ∧ (M = 12 ∨ M = n + sh + 1) := by
            rcases Nat.lt_or_ge (n + sh) 12 with q | q
            · exact ⟨n + sh + 1, by omega⟩
            · exact ⟨12, by omega⟩
          have hZ : 0 < y * 65536 ^ sh := Int.mul_pos hy0 (fk_pp sh)
          have hZM : y * 65536 ^ sh ≤ 65536 ^ M := by
            have q1 : y * 65536 ^ sh ≤ 65536 ^ n * 65536 ^ sh := Int.mul_le_mul_of_nonneg_right (Int.le_of_lt hby.1) (Int.le_of_lt (fk_pp sh))
            rw [← Int.pow_add] at q1
            exact Int.le_trans q1 (fk_pow_le (by omega))
          have hzM : z < 65536 ^ M := by
            rcases hM.2.2.2 with q | q
            · rw [q, ← fk_R_val hzR hz0 hzI]; exact (fk_T_bd hzR.1).2
            · have q1 : y * 65536 ^ (sh + 1) ≤ 65536 ^ n * 65536 ^ (sh + 1) := Int.mul_le_mul_of_nonneg_right (Int.le_of_lt hby.1) (Int.le_of_lt (fk_pp _))
              rw [← Int.pow_add] at q1
              rw [q]; exact Int.lt_of_lt_of_le hzk q1
          have hzk2 : z < y * 65536 ^ sh * 65536 := by rw [Int.pow_succ, ← Int.mul_assoc] at hzk; exact hzk
          have hqd : 0 ≤ z / (y * 65536 ^ sh) := Int.ediv_nonneg hz0 (by omega)
          have hqB : z / (y * 65536 ^ sh) < 65536 := by rw [Int.ediv_lt_iff_lt_mul hZ, Int.mul_comm 65536]; exact hzk2
          refine lv_aload_n hx hb dX2_divide_28 rfl (lv_at hl 0 rfl) ?_
          refine lv_aload_n hx hb dX2_divide_29 rfl (lv_at hl 1 rfl) ?_
          refine lv_iload_n hx hb dX2_divide_30 rfl (lv_at hl 3 rfl) ?_
          refine lv_iload hx hb dX2_divide_31 (lv_at hl 4 rfl) ?_
          refine fk_cl hD hS hA (va_runV (As := [.ref h2, .int (nI n), .int (nI sh)]) (rest := []) ⟨hx, hb, hml, hown, hts⟩ (kX2_guessDigit _ _ h0 h1 h2 h3 q0 q1 q2 q3 g o n sh z y (fk_sn (fk_sn hq0 hn_q1_q0) hn_q5_q0) (fk_sn (fk_ss hq1) hn_q5_q1) (fk_sn (fk_sn hq2 hn_q1_q2) hn_q5_q2) (fk_sn (fk_sn hq3 hn_q1_q3) hn_q5_q3) hzR hzI hz0 hRo hy0 hIy hs hn1 (by omega) hzk2) (cwV 3 hts gX2_divide_X2_guessDigit rfl rfl rfl (by decide +kernel) ⟨Nat.le_of_ble_eq_true rfl, Nat.le_of_ble_eq_true rfl⟩) (fk_preV q0 3 hK hN hP hD rfl (fk_sn (fk_sn hq0 hn_q1_q0) hn_q5_q0)) rfl rfl hl.1 rfl (lv_room (Nat.le_of_ble_eq_true rfl)) dX2_divide_33 ⟨Nat.le_of_ble_eq_true rfl, Nat.le_of_ble_eq_true rfl⟩) (fun r5 u H locs hw hP hD hS => ?_)
          have hP : va_P D vwCl ((ws.set q1 (h1, .inl (cJ, 12, .inr (.inl g)))).set q5 (h5, .inl (cJ, 12, .inr (.inl w)))) H := hP
          have hD : va_D A ((ws.set q1 (h1, .inl (cJ, 12, .inr (.inl g)))).set q5 (h5, .inl (cJ, 12, .inr (.inl w)))) := hD
          obtain ⟨hr1, hr2⟩ := hw
          refine lv_lstore (lv' := [(5, .long r5), (0, .ref h0), (1, .ref h2), (2, .ref h4), (3, .int (nI n)), (4, .int (nI sh))]) hx hb dX2_divide_36 hl (by decide) rfl (fun ls hl => ?_)
          refine lv_lload hx hb dX2_divide_38 (lv_at hl 0 rfl) ?_
          refine lv_lconst (v := 0) hx hb dX2_divide_40 (by decide) ?_
          refine W.lcmp hx hb dX2_divide_41 ?_
          refine lv_if_le (tgt := 77) hx hb dX2_divide_42 (by decide) (fun c_42 => ?_) (fun c_42 => ?_)
          · rw [lg_cmp_le] at c_42
            rw [Int64.le_iff_toInt_le, fk_z64] at c_42
            have hqz : z / (y * 65536 ^ sh) = 0 := by omega
            have hdq : r5.toInt = z / (y * 65536 ^ sh) := by omega
            have hzR2 : fk_R (z - z / (y * 65536 ^ sh) * (y * 65536 ^ sh)) g := by rw [hqz]; simpa using hzR
            obtain ⟨i1, i2, i3, i4, i5, i6⟩ := fk_dstep (by omega) hy0 hz0 hzI hzk hwN hw0 hsum hdq
            refine lv_aload_n hx hb dX2_divide_77 rfl (lv_at hl 3 rfl) ?_
            refine va_get (D := D) (ci := 3) (v := .ref h5) (C := RX2) (T := TX2) (N := 1) hx hb hts k2 hown hK hP q4 (fk_sn (fk_sn hq4 hn_q1_q4) hn_q5_q4) rfl 0 (by decide) k1 (fun _ h9 => h9) rfl dX2_divide_78 ?_
            refine lv_iload hx hb dX2_divide_81 (lv_at hl 5 rfl) ?_
            refine lv_lload hx hb dX2_divide_83 (lv_at hl 0 rfl) ?_
            refine fk_last hx hb hK hP hD hS q5 0 (fk_ss (fk_sn hq5 hn_q1_q5)) rfl (i := sh) (by omega) (by decide) dX2_divide_85 (fun H locs hP hD hS => ?_)
            rw [fk_s2] at hP hD
            refine lv_iinc (v := nI sh + (-1)) (lv' := [(4, .int (nI sh + (-1))), (5, .long r5), (0, .ref h0), (1, .ref h2), (2, .ref h4), (3, .int (nI n))]) hx hb dX2_divide_86 hl (k := 5) rfl (by rfl) (by decide) rfl (fun ls hl => ?_)
            refine lv_goto (tgt := 23) hx hb dX2_divide_89 (by decide) ?_
            exact ih23 sh (z - z / (y * 65536 ^ sh) * (y * 65536 ^ sh)) g (vp_updL w sh r5) (by omega) (by omega) hzR2 i1 i2 i3 i4 i5 i6 _ _ _ hP hD hS (lv_sub hl [2, 3, 4, 5, 0] rfl)
          · rw [lg_cmp_le] at c_42
            rw [Int64.le_iff_toInt_le, fk_z64] at c_42
            refine lv_aload_n hx hb dX2_divide_45 rfl (lv_at hl 1 rfl) ?_
            refine lv_aload_n hx hb dX2_divide_46 rfl (lv_at hl 2 rfl) ?_
            refine lv_iload_n hx hb dX2_divide_47 rfl (lv_at hl 4 rfl) ?_
            refine lv_iload hx hb dX2_divide_48 (lv_at hl 5 rfl) ?_
            refine lv_lload hx hb dX2_divide_50 (lv_at hl 0 rfl) ?_
            refine lv_lneg hx hb dX2_divide_52 ?_
            refine lv_topl (fun x6 ex6 => ?_)
            have hmr : x6.toInt = -r5.toInt := by rw [ex6]; exact fk_neg (by omega)
            refine fk_cl hD hS hA (va_runV (As := [.ref h2, .int (nI n), .int (nI sh), .long x6]) (rest := []) ⟨hx, hb, hml, hown, hts⟩ (kX2_addShifted _ _ h0 h1 h2 h3 q0 q1 q2 q3 g o n sh M x6 z y (fk_sn (fk_sn hq0 hn_q1_q0) hn_q5_q0) (fk_sn (fk_ss hq1) hn_q5_q1) (fk_sn (fk_sn hq2 hn_q1_q2) hn_q5_q2) (fk_sn (fk_sn hq3 hn_q1_q3) hn_q5_q3) hn_q1_q3 hzR hRo hn12 hM (by omega)) (cwV 4 hts gX2_divide_X2_addShifted rfl rfl rfl (by decide +kernel) ⟨Nat.le_of_ble_eq_true rfl, Nat.le_of_ble_eq_true rfl⟩) (fk_preV q0 3 hK hN hP hD rfl (fk_sn (fk_sn hq0 hn_q1_q0) hn_q5_q0)) rfl rfl hl.1 rfl (lv_room (Nat.le_of_ble_eq_true rfl)) dX2_divide_53 ⟨Nat.le_of_ble_eq_true rfl, Nat.le_of_ble_eq_true rfl⟩) (fun r7 g1 H locs hw hP hD hS => ?_)
            rw [fk_s3 hn_q1_q5] at hP hD
            have hP : va_P D vwCl ((ws.set q1 (h1, .inl (cJ, 12, .inr (.inl g1)))).set q5 (h5, .inl (cJ, 12, .inr (.inl w)))) H := hP
            have hD : va_D A ((ws.set q1 (h1, .inl (cJ, 12, .inr (.inl g1)))).set q5 (h5, .inl (cJ, 12, .inr (.inl w)))) := hD
            obtain ⟨hc1, hg1⟩ := hw
            rw [hmr] at hc1
            obtain ⟨n1, e1, u1M⟩ := fk_as hzR hz0 hzI hRo (by omega) hIy hs (by omega) (by omega) hzM hc1 hg1
            have u10 := (fk_T_bd n1).1
            refine lv_lconst (v := 0) hx hb dX2_divide_56 (by decide) ?_
            refine W.lcmp hx hb dX2_divide_57 ?_
            refine lv_if_ge (tgt := 77) hx hb dX2_divide_58 (by decide) (fun c_58 => ?_) (fun c_58 => ?_)
            · rw [lg_cmp_ge] at c_58
              rw [Int64.le_iff_toInt_le, fk_z64] at c_58
              obtain ⟨hdq, hu⟩ := fk_d1 u10 hz0 hzM hZ e1 rfl hr1 hr2 c_58 u1M
              have hzR2 : fk_R (z - z / (y * 65536 ^ sh) * (y * 65536 ^ sh)) g1 := fk_R_of n1 hu
              obtain ⟨i1, i2, i3, i4, i5, i6⟩ := fk_dstep (by omega) hy0 hz0 hzI hzk hwN hw0 hsum hdq
              refine lv_aload_n hx hb dX2_divide_77 rfl (lv_at hl 3 rfl) ?_
              refine va_get (D := D) (ci := 3) (v := .ref h5) (C := RX2) (T := TX2) (N := 1) hx hb hts k2 hown hK hP q4 (fk_sn (fk_sn hq4 hn_q1_q4) hn_q5_q4) rfl 0 (by decide) k1 (fun _ h9 => h9) rfl dX2_divide_78 ?_
              refine lv_iload hx hb dX2_divide_81 (lv_at hl 5 rfl) ?_
              refine lv_lload hx hb dX2_divide_83 (lv_at hl 0 rfl) ?_
              refine fk_last hx hb hK hP hD hS q5 0 (fk_ss (fk_sn hq5 hn_q1_q5)) rfl (i := sh) (by omega) (by decide) dX2_divide_85 (fun H locs hP hD hS => ?_)
              rw [fk_s2] at hP hD
              refine lv_iinc (v := nI sh + (-1)) (lv' := [(4, .int (nI sh + (-1))), (5, .long r5), (0, .ref h0), (1, .ref h2), (2, .ref h4), (3, .int (nI n))]) hx hb dX2_divide_86 hl (k := 5) rfl (by rfl) (by decide) rfl (fun ls hl => ?_)
              refine lv_goto (tgt := 23) hx hb dX2_divide_89 (by decide) ?_
              exact ih23 sh (z - z / (y * 65536 ^ sh) * (y * 65536 ^ sh)) g1 (vp_updL w sh r5) (by omega) (by omega) hzR2 i1 i2 i3 i4 i5 i6 _ _ _ hP hD hS (lv_sub hl [2, 3, 4, 5, 0] rfl)
            · rw [lg_cmp_ge] at c_58
              rw [Int64.le_iff_toInt_le, fk_z64] at c_58
              have hRu : fk_R (fk_T (fk_I g1) 12) g1 := fk_R_of n1 rfl
              refine lv_aload_n hx hb dX2_divide_61 rfl (lv_at hl 1 rfl) ?_
              refine lv_aload_n hx hb dX2_divide_62 rfl (lv_at hl 2 rfl) ?_
              refine lv_iload_n hx hb dX2_divide_63 rfl (lv_at hl 4 rfl) ?_
              refine lv_iload hx hb dX2_divide_64 (lv_at hl 5 rfl) ?_
              refine lv_lconst (v := 1) hx hb dX2_divide_66 (by decide) ?_
              refine fk_cl hD hS hA (va_runV (As := [.ref h2, .int (nI n), .int (nI sh), .long 1]) (rest := []) ⟨hx, hb, hml, hown, hts⟩ (kX2_addShifted _ _ h0 h1 h2 h3 q0 q1 q2 q3 g1 o n sh M 1 (fk_T (fk_I g1) 12) y (fk_sn (fk_sn hq0 hn_q1_q0) hn_q5_q0) (fk_sn (fk_ss hq1) hn_q5_q1) (fk_sn (fk_sn hq2 hn_q1_q2) hn_q5_q2) (fk_sn (fk_sn hq3 hn_q1_q3) hn_q5_q3) hn_q1_q3 hRu hRo hn12 hM (by decide)) (cwV 4 hts gX2_divide_X2_addShifted rfl rfl rfl (by decide +kernel) ⟨Nat.le_of_ble_eq_true rfl, Nat.le_of_ble_eq_true rfl⟩) (fk_preV q0 3 hK hN hP hD rfl (fk_sn (fk_sn hq0 hn_q1_q0) hn_q5_q0)) rfl rfl hl.1 rfl (lv_room (Nat.le_of_ble_eq_true rfl)) dX2_divide_67 ⟨Nat.le_of_ble_eq_true rfl, Nat.le_of_ble_eq_true rfl⟩) (fun r8 g2 H locs hw hP hD hS => ?_)
              rw [fk_s3 hn_q1_q5] at hP hD
              have hP : va_P D vwCl ((ws.set q1 (h1, .inl (cJ, 12, .inr (.inl g2)))).set q5 (h5, .inl (cJ, 12, .inr (.inl w)))) H := hP
              have hD : va_D A ((ws.set q1 (h1, .inl (cJ, 12, .inr (.inl g2)))).set q5 (h5, .inl (cJ, 12, .inr (.inl w)))) := hD
              obtain ⟨hc2, hg2⟩ := hw
              rw [show (1 : Int64).toInt = 1 by decide] at hc2
              obtain ⟨n2, e2, u2M⟩ := fk_as2 n1 rfl u1M hRo (by omega) hIy hs (by omega) (by omega) hc2 hg2
              have u20 := (fk_T_bd n2).1
              obtain ⟨hdq0, hu⟩ := fk_d2 hz0 hzM hZ hZM u10 u1M e1 rfl hr1 hr2 (by omega) u20 u2M e2
              have hzR2 : fk_R (z - z / (y * 65536 ^ sh) * (y * 65536 ^ sh)) g2 := fk_R_of n2 hu
              refine lv_pop2_2 hx hb dX2_divide_70 rfl ?_
              refine lv_lload hx hb dX2_divide_71 (lv_at hl 0 rfl) ?_
              refine lv_lconst (v := 1) hx hb dX2_divide_73 (by decide) ?_
              refine lv_lsub hx hb dX2_divide_74 ?_
              refine lv_topl (fun x9 ex9 => ?_)
              have hdq : x9.toInt = z / (y * 65536 ^ sh) := by
                rw [ex9, ← hdq0]; exact fk_sub (by rw [show (1 : Int64).toInt = 1 by decide]; omega) (by rw [show (1 : Int64).toInt = 1 by decide]; omega)
              refine lv_lstore (lv' := [(5, .long x9), (0, .ref h0), (1, .ref h2), (2, .ref h4), (3, .int (nI n)), (4, .int (nI sh))]) hx hb dX2_divide_75 hl (by decide) rfl (fun ls hl => ?_)
              obtain ⟨i1, i2, i3, i4, i5, i6⟩ := fk_dstep (by omega) hy0 hz0 hzI hzk hwN hw0 hsum hdq
              refine lv_aload_n hx hb dX2_divide_77 rfl (lv_at hl 3 rfl) ?_
              refine va_get (D := D) (ci := 3) (v := .ref h5) (C := RX2) (T := TX2) (N := 1) hx hb hts k2 hown hK hP q4 (fk_sn (fk_sn hq4 hn_q1_q4) hn_q5_q4) rfl 0 (by decide) k1 (fun _ h9 => h9) rfl dX2_divide_78 ?_
              refine lv_iload hx hb dX2_divide_81 (lv_at hl 5 rfl) ?_
              refine lv_lload hx hb dX2_divide_83 (lv_at hl 0 rfl) ?_
              refine fk_last hx hb hK hP hD hS q5 0 (fk_ss (fk_sn hq5 hn_q1_q5)) rfl (i := sh) (by omega) (by decide) dX2_divide_85 (fun H locs hP hD hS => ?_)
              rw [fk_s2] at hP hD
              refine lv_iinc (v := nI sh + (-1)) (lv' := [(4, .int (nI sh + (-1))), (5, .long x9), (0, .ref h0), (1, .ref h2), (2, .ref h4), (3, .int (nI n))]) hx hb dX2_divide_86 hl (k := 5) rfl (by rfl) (by decide) rfl (fun ls hl => ?_)
              refine lv_goto (tgt := 23) hx hb dX2_divide_89 (by decide) ?_
              exact ih23 sh (z - z / (y * 65536 ^ sh) * (y * 65536 ^ sh)) g2 (vp_updL w sh x9) (by omega) (by omega) hzR2 i1 i2 i3 i4 i5 i6 _ _ _ hP hD hS (lv_sub hl [2, 3, 4, 5, 0] rfl)
    exact L23 14 (a - n + 1) x f wq (by omega) (by omega) hR hx0 hI hk0 hwN (fun j hj => hwz j (by omega)) (by rw [hwT]; simp) _ _ _ hP hD hS (lv_sub hl [2, 3, 4, 1, 0] rfl)
end
section
/-! A kind's numbers as whole numbers: least, greatest, brought in, bits. -/
def fk_h (w : Nat) : Int := 2 ^ (w - 1)
def fk_least (w : Nat) (sg : Int32) : Int := if sg = 0 then 0 else -(2 ^ (w - 1))
def fk_most (w : Nat) (sg : Int32) : Int := if sg = 0 then 2 ^ w - 1 else 2 ^ (w - 1) - 1
/-- the RAW number with the same lowest w bits -/
def fk_bring (w : Nat) (sg : Int32) (v : Int) : Int := if sg = 0 then v % 2 ^ w else (v + 2 ^ (w - 1)) % 2 ^ w - 2 ^ (w - 1)
/-- a width that there is, with or without sign -/
def fk_wd (w : Nat) (sg : Int32) : Prop := 8 ≤ w ∧ w ≤ 64 ∧ (sg = 0 ∨ sg = 1) ∧ (w = 64 → sg = 1)
theorem fk_cnt : ∀ k, k < 64 → (((nI k).toInt64 &&& 63).toBitVec.smod 64).toNat = k := by decide +kernel
theorem fk_cntu : ∀ k, k < 64 → (((nI k).toInt64.toUInt64 &&& Int64.toUInt64 63).toBitVec % 64).toNat = k := by decide +kernel
theorem fk_2p (k : Nat) : (0 : Int) < 2 ^ k := Int.pow_pos (by decide)
theorem fk_2n (k : Nat) : ((2 ^ k : Nat) : Int) = 2 ^ k := by push_cast; rfl
theorem fk_2a (a b : Nat) : (2 : Int) ^ (a + b) = 2 ^ a * 2 ^ b := Int.pow_add _ _ _
theorem fk_2h {w : Nat} (h : 1 ≤ w) : (2 : Int) ^ w = 2 * 2 ^ (w - 1) := by
  obtain ⟨k, rfl⟩ : ∃ k, w = k + 1 := ⟨w - 1, by omega⟩
  rw [Int.pow_succ, Nat.add_sub_cancel, Int.mul_comm]
theorem fk_shl (x : Int64) {u : Nat} (hu : u < 64) : ∃ z : Int, (x <<< ((nI u).toInt64 &&& 63)).toInt = x.toInt * 2 ^ u + z * 18446744073709551616 := by
  have e : (x <<< ((nI u).toInt64 &&& 63)).toBitVec.toNat = x.toBitVec.toNat * 2 ^ u % 2 ^ 64 := by
    rw [Int64.toBitVec_shiftLeft, BitVec.shiftLeft_eq', fk_cnt u hu, BitVec.toNat_shiftLeft, Nat.shiftLeft_eq]
  have h1 := fk_nat (x <<< ((nI u).toInt64 &&& 63))
  have h2 := fk_nat x
  have h3 : ((x.toBitVec.toNat * 2 ^ u : Nat) : Int) = (x.toBitVec.toNat : Int) * 2 ^ u := by push_cast; rfl
  have h4 : ∃ q : Int, (x.toBitVec.toNat : Int) = x.toInt + q * 18446744073709551616 := ⟨-(x.toInt / 18446744073709551616), by omega⟩
  obtain ⟨q, hq⟩ := h4
  rw [hq] at h3
  rw [e] at h1
  refine ⟨(x <<< ((nI u).toInt64 &&& 63)).toInt / 18446744073709551616 - ((x.toBitVec.toNat * 2 ^ u / 2 ^ 64 : Nat) : Int) + q * 2 ^ u, ?_⟩
  have h5 : ((x.toInt + q * 18446744073709551616) * 2 ^ u : Int) = x.toInt * 2 ^ u + q * 2 ^ u * 18446744073709551616 := by grind
  rw [h5] at h3
  generalize x.toInt * 2 ^ u = X at *
  generalize q * 2 ^ u = Y at *
  generalize x.toBitVec.toNat * 2 ^ u = N at *
  omega
theorem fk_shrk (x : Int64) {u : Nat} (hu : u < 64) : (x >>> ((nI u).toInt64 &&& 63)).toInt = x.toInt / 2 ^ u := by
  rw [fk_shr u (fk_cnt u hu), fk_2n]
theorem fk_ushrk (x : Int64) {u : Nat} (hu : u < 64) : (x.toUInt64 >>> ((nI u).toInt64.toUInt64 &&& Int64.toUInt64 63)).toInt64.toInt % 18446744073709551616 = x.toInt % 18446744073709551616 / 2 ^ u := by
  have e : (x.toUInt64 >>> ((nI u).toInt64.toUInt64 &&& Int64.toUInt64 63)).toInt64.toBitVec.toNat = x.toBitVec.toNat / 2 ^ u := by
    show (x.toUInt64 >>> ((nI u).toInt64.toUInt64 &&& Int64.toUInt64 63)).toBitVec.toNat = _
    rw [UInt64.toBitVec_shiftRight, BitVec.ushiftRight_eq', fk_cntu u hu, BitVec.toNat_ushiftRight, Nat.shiftRight_eq_div_pow]; rfl
  rw [← fk_nat, ← fk_nat, e, Int.natCast_ediv, fk_2n]
theorem fk_emm (a b : Int) {c : Int} (hc : 0 < c) : a * c % (b * c) = (a % b) * c := by
  rw [Int.mul_comm a, Int.mul_comm b, Int.mul_emod_mul_of_pos _ _ hc, Int.mul_comm]
/-- left and back again with sign -/
theorem fk_bs (v : Int64) {w : Nat} (h8 : 1 ≤ w) (h64 : w ≤ 64) : ((v <<< ((nI (64 - w)).toInt64 &&& 63)) >>> ((nI (64 - w)).toInt64 &&& 63)).toInt = (v.toInt + 2 ^ (w - 1)) % 2 ^ w - 2 ^ (w - 1) := by
  rw [fk_shrk _ (by omega)]
  obtain ⟨z, hz⟩ := fk_shl v (u := 64 - w) (by omega)
  have hl := (v <<< ((nI (64 - w)).toInt64 &&& 63)).toInt_lt
  have hg := (v <<< ((nI (64 - w)).toInt64 &&& 63)).le_toInt
  generalize (v <<< ((nI (64 - w)).toInt64 &&& 63)).toInt = t at *
  have hc := fk_2p (64 - w)
  have hh := fk_2p (w - 1)
  have e1 : (2 : Int) ^ w = 2 * 2 ^ (w - 1) := fk_2h h8
  have e2 : (18446744073709551616 : Int) = 2 * 2 ^ (w - 1) * 2 ^ (64 - w) := by
    rw [← e1, ← fk_2a, show w + (64 - w) = 64 by omega]; decide
  have e3 : (9223372036854775808 : Int) = 2 ^ (w - 1) * 2 ^ (64 - w) := by
    rw [← fk_2a, show w - 1 + (64 - w) = 63 by omega]; decide
  rw [e1]
  generalize (2 : Int) ^ (w - 1) = h at *
  generalize (2 : Int) ^ (64 - w) = c at *
  have e4 : t + h * c = ((v.toInt + h) % (2 * h)) * c := by
    have a1 : ((v.toInt + h) % (2 * h)) * c = ((v.toInt + h) * c) % (2 * h * c) := (fk_emm _ _ hc).symm
    rw [a1]
    have a2 : (v.toInt + h) * c = (t + h * c) + (-z) * (2 * h * c) := by rw [hz, e2]; grind
    rw [a2, Int.add_mul_emod_self_right]
    exact (Int.emod_eq_of_lt (by omega) (by rw [← e2]; omega)).symm
  have e5 : t = ((v.toInt + h) % (2 * h) - h) * c := by rw [Int.sub_mul]; omega
  rw [e5, Int.mul_ediv_cancel _ (by omega)]
/-- left and back again without sign, as 64 bits -/
theorem fk_bu (v : Int64) {w : Nat} (h8 : 1 ≤ w) (h64 : w ≤ 64) : ((v <<< ((nI (64 - w)).toInt64 &&& 63)).toUInt64 >>> ((nI (64 - w)).toInt64.toUInt64 &&& Int64.toUInt64 63)).toInt64.toInt % 18446744073709551616 = v.toInt % 2 ^ w := by
  rw [fk_ushrk _ (by omega)]
  obtain ⟨z, hz⟩ := fk_shl v (u := 64 - w) (by omega)
  have hc := fk_2p (64 - w)
  have hw := fk_2p w
  have e2 : (18446744073709551616 : Int) = 2 ^ w * 2 ^ (64 - w) := by
    rw [← fk_2a, show w + (64 - w) = 64 by omega]; decide
  rw [hz, Int.add_mul_emod_self_right, e2, fk_emm _ _ hc, Int.mul_ediv_cancel _ (by omega)]
/-- an unsigned number below 2 ^ 63 is itself -/
theorem fk_small {x : Int64} {n : Int} (h : x.toInt % 18446744073709551616 = n) (h2 : n < 9223372036854775808) : x.toInt = n := by
  have := x.toInt_lt
  have := x.le_toInt
  omega
theorem fk_nIsub {a b : Nat} (h : b ≤ a) : nI a - nI b = nI (a - b) := pk_sub h
theorem fk_least_sh : ∀ w, w < 65 → 8 ≤ w → ((-1 : Int64) <<< ((nI (w - 1)).toInt64 &&& 63)).toInt = -(2 ^ (w - 1)) := by decide +kernel
theorem fk_most_un : ∀ w, w < 64 → 8 ≤ w → ((1 : Int64) <<< ((nI w).toInt64 &&& 63) - 1).toInt = 2 ^ w - 1 := by decide +kernel
theorem fk_not (x : Int64) : (x ^^^ (-1)).toInt = -x.toInt - 1 := by
  have e : x ^^^ (-1) = ~~~x := by
    apply Int64.toBitVec_inj.mp
    rw [Int64.toBitVec_xor, Int64.toBitVec_not, show (-1 : Int64).toBitVec = BitVec.allOnes 64 by decide, BitVec.xor_allOnes]
  have h1 := x.toInt_lt
  have h2 := x.le_toInt
  rw [e, Int64.toInt_not]
  exact Int.bmod_eq_of_le (by omega) (by omega)
theorem fk_lm {w : Nat} {sg : Int32} (h : fk_wd w sg) : fk_least w sg ≤ 0 ∧ 0 ≤ fk_most w sg ∧ -9223372036854775808 ≤ fk_least w sg ∧ fk_most w sg < 9223372036854775808 ∧ fk_most w sg - fk_least w sg = 2 ^ w - 1 := by
  obtain ⟨h8, h64, h01, hs⟩ := h
  have hp := fk_2p (w - 1)
  have hq := fk_2p w
  have e := fk_2h (w := w) (by omega)
  have m1 : (2 : Int) ^ (w - 1) ≤ 2 ^ 63 := by
    have : (2 : Int) ^ 63 = 2 ^ (w - 1) * 2 ^ (63 - (w - 1)) := by rw [← fk_2a]; congr 1; omega
    have k := fk_2p (63 - (w - 1))
    have : 2 ^ (w - 1) * 1 ≤ (2 : Int) ^ (w - 1) * 2 ^ (63 - (w - 1)) := Int.mul_le_mul_of_nonneg_left (by omega) (by omega)
    omega
  rw [fk_least, fk_most]
  by_cases q : sg = 0
  · rw [if_pos q, if_pos q]
    have hw : w ≤ 63 := by
      rcases Nat.lt_or_ge w 64 with a | a
      · omega
      · have := hs (by omega); rw [q] at this; exact absurd this (by decide)
    have m2 : (2 : Int) ^ w ≤ 2 ^ 63 := by
      have : (2 : Int) ^ 63 = 2 ^ w * 2 ^ (63 - w) := by rw [← fk_2a]; congr 1; omega
      have k := fk_2p (63 - w)
      have : 2 ^ w * 1 ≤ (2 : Int) ^ w * 2 ^ (63 - w) := Int.mul_le_mul_of_nonneg_left (by omega) (by omega)
      omega
    omega
  · rw [if_neg q, if_neg q]
    omega
theorem fk_bring_bd {w : Nat} {sg : Int32} (h : fk_wd w sg) (v : Int) : fk_least w sg ≤ fk_bring w sg v ∧ fk_bring w sg v ≤ fk_most w sg := by
  have hq := fk_2p w
  have e := fk_2h (w := w) (by have := h.1; omega)
  rw [fk_least, fk_most, fk_bring]
  by_cases q : sg = 0
  · rw [if_pos q, if_pos q, if_pos q]
    have := Int.emod_nonneg v (show (2 : Int) ^ w ≠ 0 by omega)
    have := Int.emod_lt_of_pos v hq
    omega
  · rw [if_neg q, if_neg q, if_neg q]
    have := Int.emod_nonneg (v + 2 ^ (w - 1)) (show (2 : Int) ^ w ≠ 0 by omega)
    have := Int.emod_lt_of_pos (v + 2 ^ (w - 1)) hq
    omega
end
section
/-! Kind: contracts, by program -/
abbrev rmX1_least : Room := { frames := 0, cells := 0, slots := 0, locals := 0 }
set_option maxHeartbeats 4000000 in
set_option maxRecDepth 100000 in
/-- Kind.least -/
theorem kX1_least {l : Launch} {D : va_G} {cJ cC cI cZ cK : ClassId} (sz : Nat) (ws : va_W) (h0 q0 w : Nat) (sg ov rd : Int32) (up dn of : Int64) (hq0 : ws[q0]? = some (h0, .inr (2, [.int (nI w), .int sg, .long up, .long dn, .long of, .int ov, .int rd]))) (hw : fk_wd w sg) : Met l yX1_least wsX1_least rmX1_least (va_Pc [.ref h0] (fk_pre D (fk_ty cJ cC cI cZ cK) ws sz)) (va_Ql (fun (r : Int64) (_ : Unit) => r.toInt = fk_least w sg) (fk_Bd D (fk_ty cJ cC cI cZ cK) (va_A ws sz) (fun _ : Unit => ws)) (va_A ws sz)) 0 0 (va_A ws sz) := by
  refine fk_ofW cX1_least 1 (some .long) (fun A => va_Ql (fun (r : Int64) (_ : Unit) => r.toInt = fk_least w sg) (fk_Bd D (fk_ty cJ cC cI cZ cK) A (fun _ : Unit => ws)) A) rfl (by decide) (Nat.le_of_ble_eq_true rfl) ?_
  intro p e s m below meth c A ls args QQ hQQ hAt hP hK hN hD hA hS hl
  obtain ⟨⟨hx, hb, hml, hown, hts⟩, hr, hlocks, hin⟩ := hAt
  have hl : lv_has ls 1 [(0, .ref h0)] := hl
  have k1 := hts (.fieldLink RX1 15 "FixedKinds$Kind" "signed" "Z") (by decide +kernel)
  have k2 := (by decide +kernel : ∀ w ∈ u_ws RX1 TX1 7, w ∈ wsX1_least)
  have k3 := hts (.constantLong RX1 35 (-1)) (by decide +kernel)
  have k4 := hts (.fieldLink RX1 9 "FixedKinds$Kind" "width" "I") (by decide +kernel)
  obtain ⟨h8, h64, h01, hs64⟩ := hw
  refine lv_aload_n hx hb dX1_least_0 rfl (lv_at hl 0 rfl) ?_
  refine va_get (D := D) (ci := 2) (v := .int sg) (C := RX1) (T := TX1) (N := 7) hx hb hts k2 hown hK hP q0 hq0 rfl 1 (by decide) k1 (fun _ h9 => h9) rfl dX1_least_1 ?_
  refine lv_if_eq (tgt := 20) hx hb dX1_least_4 (by decide) (fun c_4 => ?_) (fun c_4 => ?_)
  · have hfin : (0 : Int64).toInt = fk_least w sg := by rw [fk_least, if_pos c_4]; decide
    refine lv_lconst (v := 0) hx hb dX1_least_20 (by decide) ?_
    rw [hQQ]
    exact W.lret (v := 0) hx hb hr (fun t ht hW => ⟨⟨0, (), rfl, hfin, by rw [ht]; exact hP, va_K.moved hW.alike hK, hD⟩, hS.F ht⟩) hS.2.2 dX1_least_21
  · refine lv_ldc2 (v := (-1)) hx hb hown k3 dX1_least_7 ?_
    refine lv_aload_n hx hb dX1_least_10 rfl (lv_at hl 0 rfl) ?_
    refine va_get (D := D) (ci := 2) (v := .int (nI w)) (C := RX1) (T := TX1) (N := 7) hx hb hts k2 hown hK hP q0 hq0 rfl 0 (by decide) k4 (fun _ h9 => h9) rfl dX1_least_11 ?_
    refine lv_iconst (v := 1) hx hb dX1_least_14 (by decide) ?_
    refine lv_isub hx hb dX1_least_15 ?_
    refine lv_topi (fun x1 ex1 => ?_)
    have ex1q : x1 = nI (w - 1) := by
      rw [ex1]; exact pk_sub (a := w) (b := 1) (by omega)
    subst ex1q
    refine lv_lshl hx hb dX1_least_16 rfl ?_
    refine lv_topl (fun x2 ex2 => ?_)
    have hfin : x2.toInt = fk_least w sg := by rw [ex2, fk_least, if_neg c_4]; exact fk_least_sh w (by omega) h8
    refine lv_goto (tgt := 21) hx hb dX1_least_17 (by decide) ?_
    rw [hQQ]
    exact W.lret (v := x2) hx hb hr (fun t ht hW => ⟨⟨x2, (), rfl, hfin, by rw [ht]; exact hP, va_K.moved hW.alike hK, hD⟩, hS.F ht⟩) hS.2.2 dX1_least_21
abbrev rmX1_greatest : Room := { frames := 1, cells := 0, slots := 0, locals := 20 }
set_option maxHeartbeats 4000000 in
set_option maxRecDepth 100000 in
/-- Kind.greatest -/
theorem kX1_greatest {l : Launch} {D : va_G} {cJ cC cI cZ cK : ClassId} (sz : Nat) (ws : va_W) (h0 q0 w : Nat) (sg ov rd : Int32) (up dn of : Int64) (hq0 : ws[q0]? = some (h0, .inr (2, [.int (nI w), .int sg, .long up, .long dn, .long of, .int ov, .int rd]))) (hw : fk_wd w sg) : Met l yX1_greatest wsX1_greatest rmX1_greatest (va_Pc [.ref h0] (fk_pre D (fk_ty cJ cC cI cZ cK) ws sz)) (va_Ql (fun (r : Int64) (_ : Unit) => r.toInt = fk_most w sg) (fk_Bd D (fk_ty cJ cC cI cZ cK) (va_A ws sz) (fun _ : Unit => ws)) (va_A ws sz)) 0 0 (va_A ws sz) := by
  refine fk_ofW cX1_greatest 1 (some .long) (fun A => va_Ql (fun (r : Int64) (_ : Unit) => r.toInt = fk_most w sg) (fk_Bd D (fk_ty cJ cC cI cZ cK) A (fun _ : Unit => ws)) A) rfl (by decide) (Nat.le_of_ble_eq_true rfl) ?_
  intro p e s m below meth c A ls args QQ hQQ hAt hP hK hN hD hA hS hl
  obtain ⟨⟨hx, hb, hml, hown, hts⟩, hr, hlocks, hin⟩ := hAt
  have hl : lv_has ls 1 [(0, .ref h0)] := hl
  have k1 := hts (.fieldLink RX1 15 "FixedKinds$Kind" "signed" "Z") (by decide +kernel)
  have k2 := (by decide +kernel : ∀ w ∈ u_ws RX1 TX1 7, w ∈ wsX1_greatest)
  have k3 := hts (.fieldLink RX1 9 "FixedKinds$Kind" "width" "I") (by decide +kernel)
  have k4 := hts (.constantLong RX1 35 (-1)) (by decide +kernel)
  have hw0 := hw
  obtain ⟨h8, h64, h01, hs64⟩ := hw
  refine lv_aload_n hx hb dX1_greatest_0 rfl (lv_at hl 0 rfl) ?_
  refine va_get (D := D) (ci := 2) (v := .int sg) (C := RX1) (T := TX1) (N := 7) hx hb hts k2 hown hK hP q0 hq0 rfl 1 (by decide) k1 (fun _ h9 => h9) rfl dX1_greatest_1 ?_
  refine lv_if_eq (tgt := 18) hx hb dX1_greatest_4 (by decide) (fun c_4 => ?_) (fun c_4 => ?_)
  · refine lv_lconst (v := 1) hx hb dX1_greatest_18 (by decide) ?_
    refine lv_aload_n hx hb dX1_greatest_19 rfl (lv_at hl 0 rfl) ?_
    refine va_get (D := D) (ci := 2) (v := .int (nI w)) (C := RX1) (T := TX1) (N := 7) hx hb hts k2 hown hK hP q0 hq0 rfl 0 (by decide) k3 (fun _ h9 => h9) rfl dX1_greatest_20 ?_
    refine lv_lshl hx hb dX1_greatest_23 rfl ?_
    refine lv_topl (fun x1 ex1 => ?_)
    refine lv_lconst (v := 1) hx hb dX1_greatest_24 (by decide) ?_
    refine lv_lsub hx hb dX1_greatest_25 ?_
    refine lv_topl (fun x2 ex2 => ?_)
    have hfin : x2.toInt = fk_most w sg := by
      have h63 : w < 64 := by
        rcases Nat.lt_or_ge w 64 with q | q
        · exact q
        · have := hs64 (by omega); rw [c_4] at this; exact absurd this (by decide)
      rw [ex2, ex1, fk_most, if_pos c_4]; exact fk_most_un w h63 h8
    rw [hQQ]
    exact W.lret (v := x2) hx hb hr (fun t ht hW => ⟨⟨x2, (), rfl, hfin, by rw [ht]; exact hP, va_K.moved hW.alike hK, hD⟩, hS.F ht⟩) hS.2.2 dX1_greatest_26
  · refine lv_aload_n hx hb dX1_greatest_7 rfl (lv_at hl 0 rfl) ?_
    refine fk_cl hD hS hA (va_runV (As := []) (rest := []) ⟨hx, hb, hml, hown, hts⟩ (kX1_least _ ws h0 q0 w sg ov rd up dn of hq0 hw0) (cwV 0 hts gX1_greatest_X1_least rfl rfl rfl (by decide +kernel) ⟨Nat.le_of_ble_eq_true rfl, Nat.le_of_ble_eq_true rfl⟩) (fk_preV q0 2 hK hN hP hD rfl hq0) rfl rfl hl.1 rfl (lv_room (Nat.le_of_ble_eq_true rfl)) dX1_greatest_8 ⟨Nat.le_of_ble_eq_true rfl, Nat.le_of_ble_eq_true rfl⟩) (fun r3 u H locs hw hP hD hS => ?_)
    have hP : va_P D vwCl ws H := hP
    have hD : va_D A ws := hD
    refine lv_ldc2 (v := (-1)) hx hb hown k4 dX1_greatest_11 ?_
    refine lv_lxor hx hb dX1_greatest_14 ?_
    refine lv_topl (fun x4 ex4 => ?_)
    have hfin : x4.toInt = fk_most w sg := by rw [ex4, fk_not, hw, fk_least, fk_most, if_neg c_4, if_neg c_4]; omega
    refine lv_goto (tgt := 26) hx hb dX1_greatest_15 (by decide) ?_
    rw [hQQ]
    exact W.lret (v := x4) hx hb hr (fun t ht hW => ⟨⟨x4, (), rfl, hfin, by rw [ht]; exact hP, va_K.moved hW.alike hK, hD⟩, hS.F ht⟩) hS.2.2 dX1_greatest_26
abbrev rmX1_isRaw : Room := { frames := 2, cells := 0, slots := 0, locals := 40 }
set_option maxHeartbeats 4000000 in
set_option maxRecDepth 100000 in
/-- Kind.isRaw -/
theorem kX1_isRaw {l : Launch} {D : va_G} {cJ cC cI cZ cK : ClassId} (sz : Nat) (ws : va_W) (h0 q0 w : Nat) (sg ov rd : Int32) (up dn of : Int64) (v : Int64) (hq0 : ws[q0]? = some (h0, .inr (2, [.int (nI w), .int sg, .long up, .long dn, .long of, .int ov, .int rd]))) (hw : fk_wd w sg) : Met l yX1_isRaw wsX1_isRaw rmX1_isRaw (va_Pc [.ref h0, .long v] (fk_pre D (fk_ty cJ cC cI cZ cK) ws sz)) (va_Qi (fun (r : Int32) (_ : Unit) => r = if fk_least w sg ≤ v.toInt ∧ v.toInt ≤ fk_most w sg then 1 else 0) (fk_Bd D (fk_ty cJ cC cI cZ cK) (va_A ws sz) (fun _ : Unit => ws)) (va_A ws sz)) 0 0 (va_A ws sz) := by
  refine fk_ofW cX1_isRaw 3 (some .boolean) (fun A => va_Qi (fun (r : Int32) (_ : Unit) => r = if fk_least w sg ≤ v.toInt ∧ v.toInt ≤ fk_most w sg then 1 else 0) (fk_Bd D (fk_ty cJ cC cI cZ cK) A (fun _ : Unit => ws)) A) rfl (by decide) (Nat.le_of_ble_eq_true rfl) ?_
  intro p e s m below meth c A ls args QQ hQQ hAt hP hK hN hD hA hS hl
  obtain ⟨⟨hx, hb, hml, hown, hts⟩, hr, hlocks, hin⟩ := hAt
  have hl : lv_has ls 3 [(0, .ref h0), (1, .long v)] := hl
  have hw0 := hw
  refine lv_lload_n hx hb dX1_isRaw_0 rfl (lv_at hl 1 rfl) ?_
  refine lv_aload_n hx hb dX1_isRaw_1 rfl (lv_at hl 0 rfl) ?_
  refine fk_cl hD hS hA (va_runV (As := []) (rest := [.long v]) ⟨hx, hb, hml, hown, hts⟩ (kX1_least _ ws h0 q0 w sg ov rd up dn of hq0 hw0) (cwV 0 hts gX1_isRaw_X1_least rfl rfl rfl (by decide +kernel) ⟨Nat.le_of_ble_eq_true rfl, Nat.le_of_ble_eq_true rfl⟩) (fk_preV q0 2 hK hN hP hD rfl hq0) rfl rfl hl.1 rfl (lv_room (Nat.le_of_ble_eq_true rfl)) dX1_isRaw_2 ⟨Nat.le_of_ble_eq_true rfl, Nat.le_of_ble_eq_true rfl⟩) (fun r1 u H locs hw hP hD hS => ?_)
  have hP : va_P D vwCl ws H := hP
  have hD : va_D A ws := hD
  have g1 := hw
  refine W.lcmp hx hb dX1_isRaw_5 ?_
  refine lv_if_lt (tgt := 22) hx hb dX1_isRaw_6 (by decide) (fun c_6 => ?_) (fun c_6 => ?_)
  · rw [lg_cmp_lt] at c_6
    rw [Int64.lt_iff_toInt_lt, g1] at c_6
    refine lv_iconst (v := 0) hx hb dX1_isRaw_22 (by decide) ?_
    rw [hQQ]
    exact W.zret (v := 0) hx hb hr rfl (fun t ht hW => ⟨⟨0, (), rfl, (by rw [if_neg (fun q => by omega)]), by rw [ht]; exact hP, va_K.moved hW.alike hK, hD⟩, hS.F ht⟩) hS.2.2 dX1_isRaw_23
  · rw [lg_cmp_lt] at c_6
    rw [Int64.lt_iff_toInt_lt, g1] at c_6
    refine lv_lload_n hx hb dX1_isRaw_9 rfl (lv_at hl 1 rfl) ?_
    refine lv_aload_n hx hb dX1_isRaw_10 rfl (lv_at hl 0 rfl) ?_
    refine fk_cl hD hS hA (va_runV (As := []) (rest := [.long v]) ⟨hx, hb, hml, hown, hts⟩ (kX1_greatest _ ws h0 q0 w sg ov rd up dn of hq0 hw0) (cwV 0 hts gX1_isRaw_X1_greatest rfl rfl rfl (by decide +kernel) ⟨Nat.le_of_ble_eq_true rfl, Nat.le_of_ble_eq_true rfl⟩) (fk_preV q0 2 hK hN hP hD rfl hq0) rfl rfl hl.1 rfl (lv_room (Nat.le_of_ble_eq_true rfl)) dX1_isRaw_11 ⟨Nat.le_of_ble_eq_true rfl, Nat.le_of_ble_eq_true rfl⟩) (fun r2 u H locs hw hP hD hS => ?_)
    have hP : va_P D vwCl ws H := hP
    have hD : va_D A ws := hD
    have g2 := hw
    refine W.lcmp hx hb dX1_isRaw_14 ?_
    refine lv_if_gt (tgt := 22) hx hb dX1_isRaw_15 (by decide) (fun c_15 => ?_) (fun c_15 => ?_)
    · rw [lg_cmp_gt] at c_15
      rw [Int64.lt_iff_toInt_lt, g2] at c_15
      refine lv_iconst (v := 0) hx hb dX1_isRaw_22 (by decide) ?_
      rw [hQQ]
      exact W.zret (v := 0) hx hb hr rfl (fun t ht hW => ⟨⟨0, (), rfl, (by rw [if_neg (fun q => by omega)]), by rw [ht]; exact hP, va_K.moved hW.alike hK, hD⟩, hS.F ht⟩) hS.2.2 dX1_isRaw_23
    · rw [lg_cmp_gt] at c_15
      rw [Int64.lt_iff_toInt_lt, g2] at c_15
      refine lv_iconst (v := 1) hx hb dX1_isRaw_18 (by decide) ?_
      refine lv_goto (tgt := 23) hx hb dX1_isRaw_19 (by decide) ?_
      rw [hQQ]
      exact W.zret (v := 1) hx hb hr rfl (fun t ht hW => ⟨⟨1, (), rfl, (by rw [if_pos ⟨by omega, by omega⟩]), by rw [ht]; exact hP, va_K.moved hW.alike hK, hD⟩, hS.F ht⟩) hS.2.2 dX1_isRaw_23
abbrev rmX1_broughtIn : Room := { frames := 0, cells := 0, slots := 0, locals := 0 }
set_option maxHeartbeats 4000000 in
set_option maxRecDepth 100000 in
/-- Kind.broughtIn -/
theorem kX1_broughtIn {l : Launch} {D : va_G} {cJ cC cI cZ cK : ClassId} (sz : Nat) (ws : va_W) (h0 q0 w : Nat) (sg ov rd : Int32) (up dn of : Int64) (v : Int64) (hq0 : ws[q0]? = some (h0, .inr (2, [.int (nI w), .int sg, .long up, .long dn, .long of, .int ov, .int rd]))) (hw : fk_wd w sg) : Met l yX1_broughtIn wsX1_broughtIn rmX1_broughtIn (va_Pc [.ref h0, .long v] (fk_pre D (fk_ty cJ cC cI cZ cK) ws sz)) (va_Ql (fun (r : Int64) (_ : Unit) => r.toInt = fk_bring w sg v.toInt) (fk_Bd D (fk_ty cJ cC cI cZ cK) (va_A ws sz) (fun _ : Unit => ws)) (va_A ws sz)) 0 0 (va_A ws sz) := by
  refine fk_ofW cX1_broughtIn 4 (some .long) (fun A => va_Ql (fun (r : Int64) (_ : Unit) => r.toInt = fk_bring w sg v.toInt) (fk_Bd D (fk_ty cJ cC cI cZ cK) A (fun _ : Unit => ws)) A) rfl (by decide) (Nat.le_of_ble_eq_true rfl) ?_
  intro p e s m below meth c A ls args QQ hQQ hAt hP hK hN hD hA hS hl
  obtain ⟨⟨hx, hb, hml, hown, hts⟩, hr, hlocks, hin⟩ := hAt
  have hl : lv_has ls 4 [(0, .ref h0), (1, .long v)] := hl
  have k1 := hts (.fieldLink RX1 9 "FixedKinds$Kind" "width" "I") (by decide +kernel)
  have k2 := (by decide +kernel : ∀ w ∈ u_ws RX1 TX1 7, w ∈ wsX1_broughtIn)
  have k3 := hts (.fieldLink RX1 15 "FixedKinds$Kind" "signed" "Z") (by decide +kernel)
  have hw0 := hw
  obtain ⟨h8, h64, h01, hs64⟩ := hw
  refine lv_bipush (v := 64) hx hb dX1_broughtIn_0 (by decide) ?_
  refine lv_aload_n hx hb dX1_broughtIn_2 rfl (lv_at hl 0 rfl) ?_
  refine va_get (D := D) (ci := 2) (v := .int (nI w)) (C := RX1) (T := TX1) (N := 7) hx hb hts k2 hown hK hP q0 hq0 rfl 0 (by decide) k1 (fun _ h9 => h9) rfl dX1_broughtIn_3 ?_
  refine lv_isub hx hb dX1_broughtIn_6 ?_
  refine lv_topi (fun x1 ex1 => ?_)
  have ex1q : x1 = nI (64 - w) := by
    rw [ex1]; exact pk_sub (a := 64) (b := w) h64
  subst ex1q
  refine lv_istore_n (lv' := [(3, .int (nI (64 - w))), (0, .ref h0), (1, .long v)]) hx hb dX1_broughtIn_7 rfl hl (by decide) rfl (fun ls hl => ?_)
  refine lv_aload_n hx hb dX1_broughtIn_8 rfl (lv_at hl 1 rfl) ?_
  refine va_get (D := D) (ci := 2) (v := .int sg) (C := RX1) (T := TX1) (N := 7) hx hb hts k2 hown hK hP q0 hq0 rfl 1 (by decide) k3 (fun _ h9 => h9) rfl dX1_broughtIn_9 ?_
  refine lv_if_eq (tgt := 23) hx hb dX1_broughtIn_12 (by decide) (fun c_12 => ?_) (fun c_12 => ?_)
  · refine lv_lload_n hx hb dX1_broughtIn_23 rfl (lv_at hl 2 rfl) ?_
    refine lv_iload_n hx hb dX1_broughtIn_24 rfl (lv_at hl 0 rfl) ?_
    refine lv_lshl hx hb dX1_broughtIn_25 rfl ?_
    refine lv_topl (fun x2 ex2 => ?_)
    refine lv_iload_n hx hb dX1_broughtIn_26 rfl (lv_at hl 0 rfl) ?_
    refine lv_lushr hx hb dX1_broughtIn_27 rfl ?_
    refine lv_topl (fun x3 ex3 => ?_)
    have hfin : x3.toInt = fk_bring w sg v.toInt := by
      have h63 : w < 64 := by
        rcases Nat.lt_or_ge w 64 with q | q
        · exact q
        · have := hs64 (by omega); rw [c_12] at this; exact absurd this (by decide)
      rw [ex3, ex2, fk_bring, if_pos c_12]
      have hb := (fk_bring_bd hw0 v.toInt).2
      have hl := (fk_lm hw0).2.2.2.1
      rw [fk_bring, if_pos c_12] at hb
      exact fk_small (fk_bu v (by omega) h64) (by omega)
    rw [hQQ]
    exact W.lret (v := x3) hx hb hr (fun t ht hW => ⟨⟨x3, (), rfl, hfin, by rw [ht]; exact hP, va_K.moved hW.alike hK, hD⟩, hS.F ht⟩) hS.2.2 dX1_broughtIn_28
  · refine lv_lload_n hx hb dX1_broughtIn_15 rfl (lv_at hl 2 rfl) ?_
    refine lv_iload_n hx hb dX1_broughtIn_16 rfl (lv_at hl 0 rfl) ?_
    refine lv_lshl hx hb dX1_broughtIn_17 rfl ?_
    refine lv_topl (fun x4 ex4 => ?_)
    refine lv_iload_n hx hb dX1_broughtIn_18 rfl (lv_at hl 0 rfl) ?_
    refine lv_lshr hx hb dX1_broughtIn_19 rfl ?_
    refine lv_topl (fun x5 ex5 => ?_)
    have hfin : x5.toInt = fk_bring w sg v.toInt := by rw [ex5, ex4, fk_bring, if_neg c_12]; exact fk_bs v (by omega) h64
    refine lv_goto (tgt := 28) hx hb dX1_broughtIn_20 (by decide) ?_
    rw [hQQ]
    exact W.lret (v := x5) hx hb hr (fun t ht hW => ⟨⟨x5, (), rfl, hfin, by rw [ht]; exact hP, va_K.moved hW.alike hK, hD⟩, hS.F ht⟩) hS.2.2 dX1_broughtIn_28
abbrev rmX1_bits : Room := { frames := 0, cells := 0, slots := 0, locals := 0 }
set_option maxHeartbeats 4000000 in
set_option maxRecDepth 100000 in
/-- Kind.bits -/
theorem kX1_bits {l : Launch} {D : va_G} {cJ cC cI cZ cK : ClassId} (sz : Nat) (ws : va_W) (h0 q0 w : Nat) (sg ov rd : Int32) (up dn of : Int64) (v : Int64) (hq0 : ws[q0]? = some (h0, .inr (2, [.int (nI w), .int sg, .long up, .long dn, .long of, .int ov, .int rd]))) (hw : fk_wd w sg) : Met l yX1_bits wsX1_bits rmX1_bits (va_Pc [.ref h0, .long v] (fk_pre D (fk_ty cJ cC cI cZ cK) ws sz)) (va_Ql (fun (r : Int64) (_ : Unit) => r.toInt % 18446744073709551616 = v.toInt % 2 ^ w) (fk_Bd D (fk_ty cJ cC cI cZ cK) (va_A ws sz) (fun _ : Unit => ws)) (va_A ws sz)) 0 0 (va_A ws sz) := by
  refine fk_ofW cX1_bits 4 (some .long) (fun A => va_Ql (fun (r : Int64) (_ : Unit) => r.toInt % 18446744073709551616 = v.toInt % 2 ^ w) (fk_Bd D (fk_ty cJ cC cI cZ cK) A (fun _ : Unit => ws)) A) rfl (by decide) (Nat.le_of_ble_eq_true rfl) ?_
  intro p e s m below meth c A ls args QQ hQQ hAt hP hK hN hD hA hS hl
  obtain ⟨⟨hx, hb, hml, hown, hts⟩, hr, hlocks, hin⟩ := hAt
  have hl : lv_has ls 4 [(0, .ref h0), (1, .long v)] := hl
  have k1 := hts (.fieldLink RX1 9 "FixedKinds$Kind" "width" "I") (by decide +kernel)
  have k2 := (by decide +kernel : ∀ w ∈ u_ws RX1 TX1 7, w ∈ wsX1_bits)
  obtain ⟨h8, h64, h01, hs64⟩ := hw
  refine lv_bipush (v := 64) hx hb dX1_bits_0 (by decide) ?_
  refine lv_aload_n hx hb dX1_bits_2 rfl (lv_at hl 0 rfl) ?_
  refine va_get (D := D) (ci := 2) (v := .int (nI w)) (C := RX1) (T := TX1) (N := 7) hx hb hts k2 hown hK hP q0 hq0 rfl 0 (by decide) k1 (fun _ h9 => h9) rfl dX1_bits_3 ?_
  refine lv_isub hx hb dX1_bits_6 ?_
  refine lv_topi (fun x1 ex1 => ?_)
  have ex1q : x1 = nI (64 - w) := by
    rw [ex1]; exact pk_sub (a := 64) (b := w) h64
  subst ex1q
  refine lv_istore_n (lv' := [(3, .int (nI (64 - w))), (0, .ref h0), (1, .long v)]) hx hb dX1_bits_7 rfl hl (by decide) rfl (fun ls hl => ?_)
  refine lv_lload_n hx hb dX1_bits_8 rfl (lv_at hl 2 rfl) ?_
  refine lv_iload_n hx hb dX1_bits_9 rfl (lv_at hl 0 rfl) ?_
  refine lv_lshl hx hb dX1_bits_10 rfl ?_
  refine lv_topl (fun x2 ex2 => ?_)
  refine lv_iload_n hx hb dX1_bits_11 rfl (lv_at hl 0 rfl) ?_
  refine lv_lushr hx hb dX1_bits_12 rfl ?_
  refine lv_topl (fun x3 ex3 => ?_)
  have hfin : x3.toInt % 18446744073709551616 = v.toInt % 2 ^ w := by rw [ex3, ex2]; exact fk_bu v (by omega) h64
  rw [hQQ]
  exact W.lret (v := x3) hx hb hr (fun t ht hW => ⟨⟨x3, (), rfl, hfin, by rw [ht]; exact hP, va_K.moved hW.alike hK, hD⟩, hS.F ht⟩) hS.2.2 dX1_bits_13
abbrev rmX1_octets : Room := { frames := 0, cells := 0, slots := 0, locals := 0 }
set_option maxHeartbeats 4000000 in
set_option maxRecDepth 100000 in
/-- Kind.octets -/
theorem kX1_octets {l : Launch} {D : va_G} {cJ cC cI cZ cK : ClassId} (sz : Nat) (ws : va_W) (h0 q0 w : Nat) (sg ov rd : Int32) (up dn of : Int64) (hq0 : ws[q0]? = some (h0, .inr (2, [.int (nI w), .int sg, .long up, .long dn, .long of, .int ov, .int rd]))) (hw : fk_wd w sg) : Met l yX1_octets wsX1_octets rmX1_octets (va_Pc [.ref h0] (fk_pre D (fk_ty cJ cC cI cZ cK) ws sz)) (va_Qi (fun (r : Int32) (_ : Unit) => r = nI ((w + 7) / 8)) (fk_Bd D (fk_ty cJ cC cI cZ cK) (va_A ws sz) (fun _ : Unit => ws)) (va_A ws sz)) 0 0 (va_A ws sz) := by
  refine fk_ofW cX1_octets 1 (some .int) (fun A => va_Qi (fun (r : Int32) (_ : Unit) => r = nI ((w + 7) / 8)) (fk_Bd D (fk_ty cJ cC cI cZ cK) A (fun _ : Unit => ws)) A) rfl (by decide) (Nat.le_of_ble_eq_true rfl) ?_
  intro p e s m below meth c A ls args QQ hQQ hAt hP hK hN hD hA hS hl
  obtain ⟨⟨hx, hb, hml, hown, hts⟩, hr, hlocks, hin⟩ := hAt
  have hl : lv_has ls 1 [(0, .ref h0)] := hl
  have k1 := hts (.fieldLink RX1 9 "FixedKinds$Kind" "width" "I") (by decide +kernel)
  have k2 := (by decide +kernel : ∀ w ∈ u_ws RX1 TX1 7, w ∈ wsX1_octets)
  obtain ⟨h8, h64, h01, hs64⟩ := hw
  refine lv_aload_n hx hb dX1_octets_0 rfl (lv_at hl 0 rfl) ?_
  refine va_get (D := D) (ci := 2) (v := .int (nI w)) (C := RX1) (T := TX1) (N := 7) hx hb hts k2 hown hK hP q0 hq0 rfl 0 (by decide) k1 (fun _ h9 => h9) rfl dX1_octets_1 ?_
  refine lv_bipush (v := 7) hx hb dX1_octets_4 (by decide) ?_
  refine lv_iadd hx hb dX1_octets_6 ?_
  refine lv_topi (fun x1 ex1 => ?_)
  have ex1q : x1 = nI (w + 7) := by
    rw [ex1]; exact nI_add w 7
  subst ex1q
  refine lv_bipush (v := 8) hx hb dX1_octets_7 (by decide) ?_
  refine lv_idiv hx hb dX1_octets_9 (by decide) ?_
  refine lv_topi (fun x2 ex2 => ?_)
  have ex2q : x2 = nI ((w + 7) / 8) := by
    rw [ex2]; exact pk_div (a := w + 7) (d := 8) (by omega) (by omega) (by omega)
  subst ex2q
  rw [hQQ]
  exact W.iret (v := nI ((w + 7) / 8)) hx hb hr (fun t ht hW => ⟨⟨(nI ((w + 7) / 8)), (), rfl, rfl, by rw [ht]; exact hP, va_K.moved hW.alike hK, hD⟩, hS.F ht⟩) hS.2.2 dX1_octets_10
abbrev rmX1_init : Room := { frames := 1, cells := 0, slots := 0, locals := 20 }
set_option maxHeartbeats 4000000 in
set_option maxRecDepth 100000 in
/-- Kind() -/
theorem kX1_init {l : Launch} {D : va_G} {cJ cC cI cZ cK : ClassId} (sz : Nat) (ws : va_W) (h0 q0 : Nat) (wd sg : Int32) (up dn of : Int64) (hq0 : ws[q0]? = some (h0, .inr (2, [.int 0, .int 0, .long 0, .long 0, .long 0, .int 0, .int 0]))) (hsg : sg = 0 ∨ sg = 1) : Met l yX1_init wsX1_init rmX1_init (va_Pc [.ref h0, .int wd, .int sg, .long up, .long dn, .long of] (fk_pre D (fk_ty cJ cC cI cZ cK) ws sz)) (va_Qv (fun _ : Unit => True) (fk_Bd D (fk_ty cJ cC cI cZ cK) (va_A ws sz) (fun _ : Unit => ws.set q0 (h0, .inr (2, [.int wd, .int sg, .long up, .long dn, .long of, .int 0, .int 0])))) (va_A ws sz)) 0 0 (va_A ws sz) := by
  refine fk_ofW cX1_init 9 none (fun A => va_Qv (fun _ : Unit => True) (fk_Bd D (fk_ty cJ cC cI cZ cK) A (fun _ : Unit => ws.set q0 (h0, .inr (2, [.int wd, .int sg, .long up, .long dn, .long of, .int 0, .int 0])))) A) rfl (by decide) (Nat.le_of_ble_eq_true rfl) ?_
  intro p e s m below meth c A ls args QQ hQQ hAt hP hK hN hD hA hS hl
  obtain ⟨⟨hx, hb, hml, hown, hts⟩, hr, hlocks, hin⟩ := hAt
  have hl : lv_has ls 9 [(0, .ref h0), (1, .int wd), (2, .int sg), (3, .long up), (5, .long dn), (7, .long of)] := hl
  have k1 := hts (.methodLink RX1 3 objectInit) (by decide +kernel)
  have k2 := hts (.instanceMethod objectInit) (by decide +kernel)
  have k3 := hts (.fieldLink RX1 9 "FixedKinds$Kind" "width" "I") (by decide +kernel)
  have k4 := (by decide +kernel : ∀ w ∈ u_ws RX1 TX1 7, w ∈ wsX1_init)
  have k5 := hts (.fieldLink RX1 15 "FixedKinds$Kind" "signed" "Z") (by decide +kernel)
  have k6 := hts (.fieldLink RX1 19 "FixedKinds$Kind" "up" "J") (by decide +kernel)
  have k7 := hts (.fieldLink RX1 23 "FixedKinds$Kind" "down" "J") (by decide +kernel)
  have k8 := hts (.fieldLink RX1 26 "FixedKinds$Kind" "offset" "J") (by decide +kernel)
  have k9 := hts (.fieldLink RX1 29 "FixedKinds$Kind" "overflow" "I") (by decide +kernel)
  have k10 := hts (.fieldLink RX1 32 "FixedKinds$Kind" "rounding" "I") (by decide +kernel)
  have hw0 : ws = (ws.set q0 (h0, .inr (2, [.int 0, .int 0, .long 0, .long 0, .long 0, .int 0, .int 0]))) := by rw [fk_s0 hq0]
  rw [hw0] at hP hD
  refine lv_aload_n hx hb dX1_init_0 rfl (lv_at hl 0 rfl) ?_
  refine W.objInit hx hb hown k1 k2 (hts _ (List.mem_of_getElem? (l := wsX1_init) (i := 3) rfl)) rfl (by rw [hml]; exact hl.1) rfl dX1_init_1 (Nat.le_of_ble_eq_true rfl) (Nat.le_of_ble_eq_true rfl) ?_
  refine W.eq (g2 := F0 m 4 ls []) rfl ?_
  refine lv_aload_n hx hb dX1_init_4 rfl (lv_at hl 0 rfl) ?_
  refine lv_iload_n hx hb dX1_init_5 rfl (lv_at hl 1 rfl) ?_
  refine va_putF (D := D) (ci := 2) (v := .int wd) (ty := (.int)) (C := RX1) (T := TX1) (N := 7) hx hb hts k4 tyX1 tyX1_ok nmX1 hown hK hP hD hS q0 (fk_ss hq0) rfl 0 (by decide) k3 (fun _ h9 => h9) rfl hin rfl (by decide +kernel) rfl rfl (Nat.le_of_ble_eq_true rfl) dX1_init_6 (fun H locs hP hD hS => ?_)
  rw [fk_s2] at hP hD
  refine lv_aload_n hx hb dX1_init_9 rfl (lv_at hl 0 rfl) ?_
  refine lv_iload_n hx hb dX1_init_10 rfl (lv_at hl 2 rfl) ?_
  refine va_putF (D := D) (ci := 2) (v := .int sg) (ty := (.boolean)) (C := RX1) (T := TX1) (N := 7) hx hb hts k4 tyX1 tyX1_ok nmX1 hown hK hP hD hS q0 (fk_ss hq0) rfl 1 (by decide) k5 (fun _ h9 => h9) rfl hin rfl (by decide +kernel) (by rcases hsg with q | q <;> rw [q] <;> rfl) (by rcases hsg with q | q <;> rw [q] <;> rfl) (Nat.le_of_ble_eq_true rfl) dX1_init_11 (fun H locs hP hD hS => ?_)
  rw [fk_s2] at hP hD
  refine lv_aload_n hx hb dX1_init_14 rfl (lv_at hl 0 rfl) ?_
  refine lv_lload_n hx hb dX1_init_15 rfl (lv_at hl 3 rfl) ?_
  refine va_putF (D := D) (ci := 2) (v := .long up) (ty := (.long)) (C := RX1) (T := TX1) (N := 7) hx hb hts k4 tyX1 tyX1_ok nmX1 hown hK hP hD hS q0 (fk_ss hq0) rfl 2 (by decide) k6 (fun _ h9 => h9) rfl hin rfl (by decide +kernel) rfl rfl (Nat.le_of_ble_eq_true rfl) dX1_init_16 (fun H locs hP hD hS => ?_)
  rw [fk_s2] at hP hD
  refine lv_aload_n hx hb dX1_init_19 rfl (lv_at hl 0 rfl) ?_
  refine lv_lload hx hb dX1_init_20 (lv_at hl 4 rfl) ?_
  refine va_putF (D := D) (ci := 2) (v := .long dn) (ty := (.long)) (C := RX1) (T := TX1) (N := 7) hx hb hts k4 tyX1 tyX1_ok nmX1 hown hK hP hD hS q0 (fk_ss hq0) rfl 3 (by decide) k7 (fun _ h9 => h9) rfl hin rfl (by decide +kernel) rfl rfl (Nat.le_of_ble_eq_true rfl) dX1_init_22 (fun H locs hP hD hS => ?_)
  rw [fk_s2] at hP hD
  refine lv_aload_n hx hb dX1_init_25 rfl (lv_at hl 0 rfl) ?_
  refine lv_lload hx hb dX1_init_26 (lv_at hl 5 rfl) ?_
  refine va_putF (D := D) (ci := 2) (v := .long of) (ty := (.long)) (C := RX1) (T := TX1) (N := 7) hx hb hts k4 tyX1 tyX1_ok nmX1 hown hK hP hD hS q0 (fk_ss hq0) rfl 4 (by decide) k8 (fun _ h9 => h9) rfl hin rfl (by decide +kernel) rfl rfl (Nat.le_of_ble_eq_true rfl) dX1_init_28 (fun H locs hP hD hS => ?_)
  rw [fk_s2] at hP hD
  refine lv_aload_n hx hb dX1_init_31 rfl (lv_at hl 0 rfl) ?_
  refine lv_iconst (v := 0) hx hb dX1_init_32 (by decide) ?_
  refine va_put (D := D) (ci := 2) (v := .int 0) (ty := (.int)) (C := RX1) (T := TX1) (N := 7) hx hb hts k4 tyX1 tyX1_ok nmX1 hown hK hP hD hS q0 (fk_ss hq0) rfl 5 (by decide) k9 (fun _ h9 => h9) rfl (by decide +kernel) rfl rfl (Nat.le_of_ble_eq_true rfl) dX1_init_33 (fun H locs hP hD hS => ?_)
  rw [fk_s2] at hP hD
  refine lv_aload_n hx hb dX1_init_36 rfl (lv_at hl 0 rfl) ?_
  refine lv_iconst (v := 0) hx hb dX1_init_37 (by decide) ?_
  refine va_put (D := D) (ci := 2) (v := .int 0) (ty := (.int)) (C := RX1) (T := TX1) (N := 7) hx hb hts k4 tyX1 tyX1_ok nmX1 hown hK hP hD hS q0 (fk_ss hq0) rfl 6 (by decide) k10 (fun _ h9 => h9) rfl (by decide +kernel) rfl rfl (Nat.le_of_ble_eq_true rfl) dX1_init_38 (fun H locs hP hD hS => ?_)
  rw [fk_s2] at hP hD
  rw [hQQ]
  exact W.vret hx hb hr (fun t ht hW => ⟨⟨(), rfl, trivial, by rw [ht]; exact hP, va_K.moved hW.alike hK, hD⟩, hS.F ht⟩) hS.2.2 dX1_init_41
end
section
theorem dX0_init_0 : decode cX0_init 0 = .ok (.aload_n 0, 1) := by decide +kernel
theorem dX0_init_1 : decode cX0_init 1 = .ok (.invokespecial 3, 3) := by decide +kernel
theorem dX0_init_4 : decode cX0_init 4 = .ok (.aload_n 0, 1) := by decide +kernel
theorem dX0_init_5 : decode cX0_init 5 = .ok (.new 9, 3) := by decide +kernel
theorem dX0_init_8 : decode cX0_init 8 = .ok (.dup, 1) := by decide +kernel
theorem dX0_init_9 : decode cX0_init 9 = .ok (.invokespecial 11, 3) := by decide +kernel
theorem dX0_init_12 : decode cX0_init 12 = .ok (.putfield 12, 3) := by decide +kernel
theorem dX0_init_15 : decode cX0_init 15 = .ok (.aload_n 0, 1) := by decide +kernel
theorem dX0_init_16 : decode cX0_init 16 = .ok (.new 9, 3) := by decide +kernel
theorem dX0_init_19 : decode cX0_init 19 = .ok (.dup, 1) := by decide +kernel
theorem dX0_init_20 : decode cX0_init 20 = .ok (.invokespecial 11, 3) := by decide +kernel
theorem dX0_init_23 : decode cX0_init 23 = .ok (.putfield 18, 3) := by decide +kernel
theorem dX0_init_26 : decode cX0_init 26 = .ok (.return_, 1) := by decide +kernel
theorem dX0_take_0 : decode cX0_take 0 = .ok (.aload_n 0, 1) := by decide +kernel
theorem dX0_take_1 : decode cX0_take 1 = .ok (.getfield 12, 3) := by decide +kernel
theorem dX0_take_4 : decode cX0_take 4 = .ok (.aload_n 1, 1) := by decide +kernel
theorem dX0_take_5 : decode cX0_take 5 = .ok (.lload_n 2, 1) := by decide +kernel
theorem dX0_take_6 : decode cX0_take 6 = .ok (.invokevirtual 21, 3) := by decide +kernel
theorem dX0_take_9 : decode cX0_take 9 = .ok (.invokevirtual 27, 3) := by decide +kernel
theorem dX0_take_12 : decode cX0_take 12 = .ok (.aload_n 0, 1) := by decide +kernel
theorem dX0_take_13 : decode cX0_take 13 = .ok (.getfield 12, 3) := by decide +kernel
theorem dX0_take_16 : decode cX0_take 16 = .ok (.aload_n 1, 1) := by decide +kernel
theorem dX0_take_17 : decode cX0_take 17 = .ok (.getfield 31, 3) := by decide +kernel
theorem dX0_take_20 : decode cX0_take 20 = .ok (.invokevirtual 35, 3) := by decide +kernel
theorem dX0_take_23 : decode cX0_take 23 = .ok (.aload_n 0, 1) := by decide +kernel
theorem dX0_take_24 : decode cX0_take 24 = .ok (.getfield 12, 3) := by decide +kernel
theorem dX0_take_27 : decode cX0_take 27 = .ok (.aload_n 1, 1) := by decide +kernel
theorem dX0_take_28 : decode cX0_take 28 = .ok (.getfield 38, 3) := by decide +kernel
theorem dX0_take_31 : decode cX0_take 31 = .ok (.aload_n 1, 1) := by decide +kernel
theorem dX0_take_32 : decode cX0_take 32 = .ok (.getfield 41, 3) := by decide +kernel
theorem dX0_take_35 : decode cX0_take 35 = .ok (.lmul, 1) := by decide +kernel
theorem dX0_take_36 : decode cX0_take 36 = .ok (.invokevirtual 44, 3) := by decide +kernel
theorem dX0_take_39 : decode cX0_take 39 = .ok (.aload_n 0, 1) := by decide +kernel
theorem dX0_take_40 : decode cX0_take 40 = .ok (.getfield 18, 3) := by decide +kernel
theorem dX0_take_43 : decode cX0_take 43 = .ok (.aload_n 1, 1) := by decide +kernel
theorem dX0_take_44 : decode cX0_take 44 = .ok (.getfield 41, 3) := by decide +kernel
theorem dX0_take_47 : decode cX0_take 47 = .ok (.invokevirtual 27, 3) := by decide +kernel
theorem dX0_take_50 : decode cX0_take 50 = .ok (.return_, 1) := by decide +kernel
theorem dX0_sign_0 : decode cX0_sign 0 = .ok (.aload_n 0, 1) := by decide +kernel
theorem dX0_sign_1 : decode cX0_sign 1 = .ok (.getfield 12, 3) := by decide +kernel
theorem dX0_sign_4 : decode cX0_sign 4 = .ok (.invokevirtual 47, 3) := by decide +kernel
theorem dX0_sign_7 : decode cX0_sign 7 = .ok (.ifCond .eq 5, 3) := by decide +kernel
theorem dX0_sign_10 : decode cX0_sign 10 = .ok (.iconst 0, 1) := by decide +kernel
theorem dX0_sign_11 : decode cX0_sign 11 = .ok (.ireturn, 1) := by decide +kernel
theorem dX0_sign_12 : decode cX0_sign 12 = .ok (.aload_n 0, 1) := by decide +kernel
theorem dX0_sign_13 : decode cX0_sign 13 = .ok (.getfield 12, 3) := by decide +kernel
theorem dX0_sign_16 : decode cX0_sign 16 = .ok (.invokevirtual 51, 3) := by decide +kernel
theorem dX0_sign_19 : decode cX0_sign 19 = .ok (.ifCond .eq 7, 3) := by decide +kernel
theorem dX0_sign_22 : decode cX0_sign 22 = .ok (.iconst (-1), 1) := by decide +kernel
theorem dX0_sign_23 : decode cX0_sign 23 = .ok (.goto 4, 3) := by decide +kernel
theorem dX0_sign_26 : decode cX0_sign 26 = .ok (.iconst 1, 1) := by decide +kernel
theorem dX0_sign_27 : decode cX0_sign 27 = .ok (.ireturn, 1) := by decide +kernel
theorem dX0_add_0 : decode cX0_add 0 = .ok (.aload_n 0, 1) := by decide +kernel
theorem dX0_add_1 : decode cX0_add 1 = .ok (.getfield 12, 3) := by decide +kernel
theorem dX0_add_4 : decode cX0_add 4 = .ok (.aload_n 1, 1) := by decide +kernel
theorem dX0_add_5 : decode cX0_add 5 = .ok (.getfield 18, 3) := by decide +kernel
theorem dX0_add_8 : decode cX0_add 8 = .ok (.invokevirtual 54, 3) := by decide +kernel
theorem dX0_add_11 : decode cX0_add 11 = .ok (.aload_n 1, 1) := by decide +kernel
theorem dX0_add_12 : decode cX0_add 12 = .ok (.getfield 12, 3) := by decide +kernel
theorem dX0_add_15 : decode cX0_add 15 = .ok (.aload_n 0, 1) := by decide +kernel
theorem dX0_add_16 : decode cX0_add 16 = .ok (.getfield 18, 3) := by decide +kernel
theorem dX0_add_19 : decode cX0_add 19 = .ok (.invokevirtual 54, 3) := by decide +kernel
theorem dX0_add_22 : decode cX0_add 22 = .ok (.aload_n 0, 1) := by decide +kernel
theorem dX0_add_23 : decode cX0_add 23 = .ok (.getfield 12, 3) := by decide +kernel
theorem dX0_add_26 : decode cX0_add 26 = .ok (.aload_n 1, 1) := by decide +kernel
theorem dX0_add_27 : decode cX0_add 27 = .ok (.getfield 12, 3) := by decide +kernel
theorem dX0_add_30 : decode cX0_add 30 = .ok (.lload_n 2, 1) := by decide +kernel
theorem dX0_add_31 : decode cX0_add 31 = .ok (.invokevirtual 58, 3) := by decide +kernel
theorem dX0_add_34 : decode cX0_add 34 = .ok (.aload_n 0, 1) := by decide +kernel
theorem dX0_add_35 : decode cX0_add 35 = .ok (.getfield 18, 3) := by decide +kernel
theorem dX0_add_38 : decode cX0_add 38 = .ok (.aload_n 1, 1) := by decide +kernel
theorem dX0_add_39 : decode cX0_add 39 = .ok (.getfield 18, 3) := by decide +kernel
theorem dX0_add_42 : decode cX0_add 42 = .ok (.invokevirtual 54, 3) := by decide +kernel
theorem dX0_add_45 : decode cX0_add 45 = .ok (.return_, 1) := by decide +kernel
theorem dX0_multiply_0 : decode cX0_multiply 0 = .ok (.aload_n 0, 1) := by decide +kernel
theorem dX0_multiply_1 : decode cX0_multiply 1 = .ok (.getfield 12, 3) := by decide +kernel
theorem dX0_multiply_4 : decode cX0_multiply 4 = .ok (.aload_n 1, 1) := by decide +kernel
theorem dX0_multiply_5 : decode cX0_multiply 5 = .ok (.getfield 12, 3) := by decide +kernel
theorem dX0_multiply_8 : decode cX0_multiply 8 = .ok (.invokevirtual 54, 3) := by decide +kernel
theorem dX0_multiply_11 : decode cX0_multiply 11 = .ok (.aload_n 0, 1) := by decide +kernel
theorem dX0_multiply_12 : decode cX0_multiply 12 = .ok (.getfield 18, 3) := by decide +kernel
theorem dX0_multiply_15 : decode cX0_multiply 15 = .ok (.aload_n 1, 1) := by decide +kernel
theorem dX0_multiply_16 : decode cX0_multiply 16 = .ok (.getfield 18, 3) := by decide +kernel
theorem dX0_multiply_19 : decode cX0_multiply 19 = .ok (.invokevirtual 54, 3) := by decide +kernel
theorem dX0_multiply_22 : decode cX0_multiply 22 = .ok (.return_, 1) := by decide +kernel
theorem dX0_divide_0 : decode cX0_divide 0 = .ok (.aload_n 0, 1) := by decide +kernel
theorem dX0_divide_1 : decode cX0_divide 1 = .ok (.getfield 12, 3) := by decide +kernel
theorem dX0_divide_4 : decode cX0_divide 4 = .ok (.aload_n 1, 1) := by decide +kernel
theorem dX0_divide_5 : decode cX0_divide 5 = .ok (.getfield 18, 3) := by decide +kernel
theorem dX0_divide_8 : decode cX0_divide 8 = .ok (.invokevirtual 54, 3) := by decide +kernel
theorem dX0_divide_11 : decode cX0_divide 11 = .ok (.aload_n 0, 1) := by decide +kernel
theorem dX0_divide_12 : decode cX0_divide 12 = .ok (.getfield 18, 3) := by decide +kernel
theorem dX0_divide_15 : decode cX0_divide 15 = .ok (.aload_n 1, 1) := by decide +kernel
theorem dX0_divide_16 : decode cX0_divide 16 = .ok (.getfield 12, 3) := by decide +kernel
theorem dX0_divide_19 : decode cX0_divide 19 = .ok (.invokevirtual 54, 3) := by decide +kernel
theorem dX0_divide_22 : decode cX0_divide 22 = .ok (.aload_n 0, 1) := by decide +kernel
theorem dX0_divide_23 : decode cX0_divide 23 = .ok (.getfield 18, 3) := by decide +kernel
theorem dX0_divide_26 : decode cX0_divide 26 = .ok (.invokevirtual 51, 3) := by decide +kernel
theorem dX0_divide_29 : decode cX0_divide 29 = .ok (.ifCond .eq 23, 3) := by decide +kernel
theorem dX0_divide_32 : decode cX0_divide 32 = .ok (.aload_n 0, 1) := by decide +kernel
theorem dX0_divide_33 : decode cX0_divide 33 = .ok (.getfield 12, 3) := by decide +kernel
theorem dX0_divide_36 : decode cX0_divide 36 = .ok (.ldc2_w 62, 3) := by decide +kernel
theorem dX0_divide_39 : decode cX0_divide 39 = .ok (.invokevirtual 35, 3) := by decide +kernel
theorem dX0_divide_42 : decode cX0_divide 42 = .ok (.aload_n 0, 1) := by decide +kernel
theorem dX0_divide_43 : decode cX0_divide 43 = .ok (.getfield 18, 3) := by decide +kernel
theorem dX0_divide_46 : decode cX0_divide 46 = .ok (.ldc2_w 62, 3) := by decide +kernel
theorem dX0_divide_49 : decode cX0_divide 49 = .ok (.invokevirtual 35, 3) := by decide +kernel
theorem dX0_divide_52 : decode cX0_divide 52 = .ok (.return_, 1) := by decide +kernel
theorem dX0_toRawScale_0 : decode cX0_toRawScale 0 = .ok (.aload_n 0, 1) := by decide +kernel
theorem dX0_toRawScale_1 : decode cX0_toRawScale 1 = .ok (.getfield 12, 3) := by decide +kernel
theorem dX0_toRawScale_4 : decode cX0_toRawScale 4 = .ok (.aload_n 0, 1) := by decide +kernel
theorem dX0_toRawScale_5 : decode cX0_toRawScale 5 = .ok (.getfield 18, 3) := by decide +kernel
theorem dX0_toRawScale_8 : decode cX0_toRawScale 8 = .ok (.aload_n 1, 1) := by decide +kernel
theorem dX0_toRawScale_9 : decode cX0_toRawScale 9 = .ok (.getfield 38, 3) := by decide +kernel
theorem dX0_toRawScale_12 : decode cX0_toRawScale 12 = .ok (.lneg, 1) := by decide +kernel
theorem dX0_toRawScale_13 : decode cX0_toRawScale 13 = .ok (.invokevirtual 58, 3) := by decide +kernel
theorem dX0_toRawScale_16 : decode cX0_toRawScale 16 = .ok (.aload_n 0, 1) := by decide +kernel
theorem dX0_toRawScale_17 : decode cX0_toRawScale 17 = .ok (.getfield 12, 3) := by decide +kernel
theorem dX0_toRawScale_20 : decode cX0_toRawScale 20 = .ok (.aload_n 1, 1) := by decide +kernel
theorem dX0_toRawScale_21 : decode cX0_toRawScale 21 = .ok (.getfield 41, 3) := by decide +kernel
theorem dX0_toRawScale_24 : decode cX0_toRawScale 24 = .ok (.invokevirtual 35, 3) := by decide +kernel
theorem dX0_toRawScale_27 : decode cX0_toRawScale 27 = .ok (.aload_n 0, 1) := by decide +kernel
theorem dX0_toRawScale_28 : decode cX0_toRawScale 28 = .ok (.getfield 18, 3) := by decide +kernel
theorem dX0_toRawScale_31 : decode cX0_toRawScale 31 = .ok (.aload_n 1, 1) := by decide +kernel
theorem dX0_toRawScale_32 : decode cX0_toRawScale 32 = .ok (.getfield 31, 3) := by decide +kernel
theorem dX0_toRawScale_35 : decode cX0_toRawScale 35 = .ok (.invokevirtual 35, 3) := by decide +kernel
theorem dX0_toRawScale_38 : decode cX0_toRawScale 38 = .ok (.return_, 1) := by decide +kernel
theorem dX0_round_0 : decode cX0_round 0 = .ok (.aload_n 0, 1) := by decide +kernel
theorem dX0_round_1 : decode cX0_round 1 = .ok (.getfield 12, 3) := by decide +kernel
theorem dX0_round_4 : decode cX0_round 4 = .ok (.invokevirtual 51, 3) := by decide +kernel
theorem dX0_round_7 : decode cX0_round 7 = .ok (.istore_n 3, 1) := by decide +kernel
theorem dX0_round_8 : decode cX0_round 8 = .ok (.iload_n 3, 1) := by decide +kernel
theorem dX0_round_9 : decode cX0_round 9 = .ok (.ifCond .eq 13, 3) := by decide +kernel
theorem dX0_round_12 : decode cX0_round 12 = .ok (.aload_n 0, 1) := by decide +kernel
theorem dX0_round_13 : decode cX0_round 13 = .ok (.getfield 12, 3) := by decide +kernel
theorem dX0_round_16 : decode cX0_round 16 = .ok (.ldc2_w 62, 3) := by decide +kernel
theorem dX0_round_19 : decode cX0_round 19 = .ok (.invokevirtual 35, 3) := by decide +kernel
theorem dX0_round_22 : decode cX0_round 22 = .ok (.aload_n 0, 1) := by decide +kernel
theorem dX0_round_23 : decode cX0_round 23 = .ok (.getfield 12, 3) := by decide +kernel
theorem dX0_round_26 : decode cX0_round 26 = .ok (.aload_n 0, 1) := by decide +kernel
theorem dX0_round_27 : decode cX0_round 27 = .ok (.getfield 18, 3) := by decide +kernel
theorem dX0_round_30 : decode cX0_round 30 = .ok (.aload_n 2, 1) := by decide +kernel
theorem dX0_round_31 : decode cX0_round 31 = .ok (.invokevirtual 64, 3) := by decide +kernel
theorem dX0_round_34 : decode cX0_round 34 = .ok (.aload_n 0, 1) := by decide +kernel
theorem dX0_round_35 : decode cX0_round 35 = .ok (.getfield 12, 3) := by decide +kernel
theorem dX0_round_38 : decode cX0_round 38 = .ok (.invokevirtual 47, 3) := by decide +kernel
theorem dX0_round_41 : decode cX0_round 41 = .ok (.istore 4, 2) := by decide +kernel
theorem dX0_round_43 : decode cX0_round 43 = .ok (.iload 4, 2) := by decide +kernel
theorem dX0_round_45 : decode cX0_round 45 = .ok (.ifCond .ne 21, 3) := by decide +kernel
theorem dX0_round_48 : decode cX0_round 48 = .ok (.aload_n 0, 1) := by decide +kernel
theorem dX0_round_49 : decode cX0_round 49 = .ok (.iload_n 1, 1) := by decide +kernel
theorem dX0_round_50 : decode cX0_round 50 = .ok (.iload_n 3, 1) := by decide +kernel
theorem dX0_round_51 : decode cX0_round 51 = .ok (.aload_n 2, 1) := by decide +kernel
theorem dX0_round_52 : decode cX0_round 52 = .ok (.invokevirtual 68, 3) := by decide +kernel
theorem dX0_round_55 : decode cX0_round 55 = .ok (.invokevirtual 71, 3) := by decide +kernel
theorem dX0_round_58 : decode cX0_round 58 = .ok (.ifCond .eq 8, 3) := by decide +kernel
theorem dX0_round_61 : decode cX0_round 61 = .ok (.aload_n 2, 1) := by decide +kernel
theorem dX0_round_62 : decode cX0_round 62 = .ok (.lconst 1, 1) := by decide +kernel
theorem dX0_round_63 : decode cX0_round 63 = .ok (.invokevirtual 44, 3) := by decide +kernel
theorem dX0_round_66 : decode cX0_round 66 = .ok (.iload_n 3, 1) := by decide +kernel
theorem dX0_round_67 : decode cX0_round 67 = .ok (.ifCond .eq 10, 3) := by decide +kernel
theorem dX0_round_70 : decode cX0_round 70 = .ok (.aload_n 2, 1) := by decide +kernel
theorem dX0_round_71 : decode cX0_round 71 = .ok (.ldc2_w 62, 3) := by decide +kernel
theorem dX0_round_74 : decode cX0_round 74 = .ok (.invokevirtual 35, 3) := by decide +kernel
theorem dX0_round_77 : decode cX0_round 77 = .ok (.iload 4, 2) := by decide +kernel
theorem dX0_round_79 : decode cX0_round 79 = .ok (.ireturn, 1) := by decide +kernel
theorem dX0_isRoundedAway_0 : decode cX0_isRoundedAway 0 = .ok (.iload_n 1, 1) := by decide +kernel
theorem dX0_isRoundedAway_1 : decode cX0_isRoundedAway 1 = .ok (.ifCond .ne 5, 3) := by decide +kernel
theorem dX0_isRoundedAway_4 : decode cX0_isRoundedAway 4 = .ok (.iconst 0, 1) := by decide +kernel
theorem dX0_isRoundedAway_5 : decode cX0_isRoundedAway 5 = .ok (.ireturn, 1) := by decide +kernel
theorem dX0_isRoundedAway_6 : decode cX0_isRoundedAway 6 = .ok (.iload_n 1, 1) := by decide +kernel
theorem dX0_isRoundedAway_7 : decode cX0_isRoundedAway 7 = .ok (.iconst 1, 1) := by decide +kernel
theorem dX0_isRoundedAway_8 : decode cX0_isRoundedAway 8 = .ok (.if_icmp .ne 5, 3) := by decide +kernel
theorem dX0_isRoundedAway_11 : decode cX0_isRoundedAway 11 = .ok (.iload_n 2, 1) := by decide +kernel
theorem dX0_isRoundedAway_12 : decode cX0_isRoundedAway 12 = .ok (.ireturn, 1) := by decide +kernel
theorem dX0_isRoundedAway_13 : decode cX0_isRoundedAway 13 = .ok (.aload_n 0, 1) := by decide +kernel
theorem dX0_isRoundedAway_14 : decode cX0_isRoundedAway 14 = .ok (.getfield 12, 3) := by decide +kernel
theorem dX0_isRoundedAway_17 : decode cX0_isRoundedAway 17 = .ok (.ldc2_w 75, 3) := by decide +kernel
theorem dX0_isRoundedAway_20 : decode cX0_isRoundedAway 20 = .ok (.invokevirtual 35, 3) := by decide +kernel
theorem dX0_isRoundedAway_23 : decode cX0_isRoundedAway 23 = .ok (.aload_n 0, 1) := by decide +kernel
theorem dX0_isRoundedAway_24 : decode cX0_isRoundedAway 24 = .ok (.getfield 12, 3) := by decide +kernel
theorem dX0_isRoundedAway_27 : decode cX0_isRoundedAway 27 = .ok (.aload_n 0, 1) := by decide +kernel
theorem dX0_isRoundedAway_28 : decode cX0_isRoundedAway 28 = .ok (.getfield 18, 3) := by decide +kernel
theorem dX0_isRoundedAway_31 : decode cX0_isRoundedAway 31 = .ok (.ldc2_w 62, 3) := by decide +kernel
theorem dX0_isRoundedAway_34 : decode cX0_isRoundedAway 34 = .ok (.invokevirtual 58, 3) := by decide +kernel
theorem dX0_isRoundedAway_37 : decode cX0_isRoundedAway 37 = .ok (.aload_n 0, 1) := by decide +kernel
theorem dX0_isRoundedAway_38 : decode cX0_isRoundedAway 38 = .ok (.getfield 12, 3) := by decide +kernel
theorem dX0_isRoundedAway_41 : decode cX0_isRoundedAway 41 = .ok (.invokevirtual 47, 3) := by decide +kernel
theorem dX0_isRoundedAway_44 : decode cX0_isRoundedAway 44 = .ok (.ifCond .eq 18, 3) := by decide +kernel
theorem dX0_isRoundedAway_47 : decode cX0_isRoundedAway 47 = .ok (.iload_n 1, 1) := by decide +kernel
theorem dX0_isRoundedAway_48 : decode cX0_isRoundedAway 48 = .ok (.iconst 2, 1) := by decide +kernel
theorem dX0_isRoundedAway_49 : decode cX0_isRoundedAway 49 = .ok (.if_icmp .eq 7, 3) := by decide +kernel
theorem dX0_isRoundedAway_52 : decode cX0_isRoundedAway 52 = .ok (.iload_n 3, 1) := by decide +kernel
theorem dX0_isRoundedAway_53 : decode cX0_isRoundedAway 53 = .ok (.ifCond .eq 7, 3) := by decide +kernel
theorem dX0_isRoundedAway_56 : decode cX0_isRoundedAway 56 = .ok (.iconst 1, 1) := by decide +kernel
theorem dX0_isRoundedAway_57 : decode cX0_isRoundedAway 57 = .ok (.goto 4, 3) := by decide +kernel
theorem dX0_isRoundedAway_60 : decode cX0_isRoundedAway 60 = .ok (.iconst 0, 1) := by decide +kernel
theorem dX0_isRoundedAway_61 : decode cX0_isRoundedAway 61 = .ok (.ireturn, 1) := by decide +kernel
theorem dX0_isRoundedAway_62 : decode cX0_isRoundedAway 62 = .ok (.aload_n 0, 1) := by decide +kernel
theorem dX0_isRoundedAway_63 : decode cX0_isRoundedAway 63 = .ok (.getfield 12, 3) := by decide +kernel
theorem dX0_isRoundedAway_66 : decode cX0_isRoundedAway 66 = .ok (.invokevirtual 51, 3) := by decide +kernel
theorem dX0_isRoundedAway_69 : decode cX0_isRoundedAway 69 = .ok (.ifCond .ne 7, 3) := by decide +kernel
theorem dX0_isRoundedAway_72 : decode cX0_isRoundedAway 72 = .ok (.iconst 1, 1) := by decide +kernel
theorem dX0_isRoundedAway_73 : decode cX0_isRoundedAway 73 = .ok (.goto 4, 3) := by decide +kernel
theorem dX0_isRoundedAway_76 : decode cX0_isRoundedAway 76 = .ok (.iconst 0, 1) := by decide +kernel
theorem dX0_isRoundedAway_77 : decode cX0_isRoundedAway 77 = .ok (.ireturn, 1) := by decide +kernel
theorem dX0_reduce_0 : decode cX0_reduce 0 = .ok (.aload_n 0, 1) := by decide +kernel
theorem dX0_reduce_1 : decode cX0_reduce 1 = .ok (.getfield 12, 3) := by decide +kernel
theorem dX0_reduce_4 : decode cX0_reduce 4 = .ok (.invokevirtual 51, 3) := by decide +kernel
theorem dX0_reduce_7 : decode cX0_reduce 7 = .ok (.istore_n 2, 1) := by decide +kernel
theorem dX0_reduce_8 : decode cX0_reduce 8 = .ok (.iload_n 2, 1) := by decide +kernel
theorem dX0_reduce_9 : decode cX0_reduce 9 = .ok (.ifCond .eq 13, 3) := by decide +kernel
theorem dX0_reduce_12 : decode cX0_reduce 12 = .ok (.aload_n 0, 1) := by decide +kernel
theorem dX0_reduce_13 : decode cX0_reduce 13 = .ok (.getfield 12, 3) := by decide +kernel
theorem dX0_reduce_16 : decode cX0_reduce 16 = .ok (.ldc2_w 62, 3) := by decide +kernel
theorem dX0_reduce_19 : decode cX0_reduce 19 = .ok (.invokevirtual 35, 3) := by decide +kernel
theorem dX0_reduce_22 : decode cX0_reduce 22 = .ok (.aload_n 0, 1) := by decide +kernel
theorem dX0_reduce_23 : decode cX0_reduce 23 = .ok (.getfield 18, 3) := by decide +kernel
theorem dX0_reduce_26 : decode cX0_reduce 26 = .ok (.iconst 0, 1) := by decide +kernel
theorem dX0_reduce_27 : decode cX0_reduce 27 = .ok (.invokevirtual 77, 3) := by decide +kernel
theorem dX0_reduce_30 : decode cX0_reduce 30 = .ok (.lstore_n 3, 1) := by decide +kernel
theorem dX0_reduce_31 : decode cX0_reduce 31 = .ok (.aload_n 1, 1) := by decide +kernel
theorem dX0_reduce_32 : decode cX0_reduce 32 = .ok (.aload_n 0, 1) := by decide +kernel
theorem dX0_reduce_33 : decode cX0_reduce 33 = .ok (.getfield 12, 3) := by decide +kernel
theorem dX0_reduce_36 : decode cX0_reduce 36 = .ok (.invokevirtual 81, 3) := by decide +kernel
theorem dX0_reduce_39 : decode cX0_reduce 39 = .ok (.lload_n 3, 1) := by decide +kernel
theorem dX0_reduce_40 : decode cX0_reduce 40 = .ok (.aload_n 1, 1) := by decide +kernel
theorem dX0_reduce_41 : decode cX0_reduce 41 = .ok (.lload_n 3, 1) := by decide +kernel
theorem dX0_reduce_42 : decode cX0_reduce 42 = .ok (.invokevirtual 84, 3) := by decide +kernel
theorem dX0_reduce_45 : decode cX0_reduce 45 = .ok (.invokestatic 87, 3) := by decide +kernel
theorem dX0_reduce_48 : decode cX0_reduce 48 = .ok (.lstore 5, 2) := by decide +kernel
theorem dX0_reduce_50 : decode cX0_reduce 50 = .ok (.lload 5, 2) := by decide +kernel
theorem dX0_reduce_52 : decode cX0_reduce 52 = .ok (.lconst 1, 1) := by decide +kernel
theorem dX0_reduce_53 : decode cX0_reduce 53 = .ok (.lcmp, 1) := by decide +kernel
theorem dX0_reduce_54 : decode cX0_reduce 54 = .ok (.ifCond .le 23, 3) := by decide +kernel
theorem dX0_reduce_57 : decode cX0_reduce 57 = .ok (.aload_n 0, 1) := by decide +kernel
theorem dX0_reduce_58 : decode cX0_reduce 58 = .ok (.getfield 12, 3) := by decide +kernel
theorem dX0_reduce_61 : decode cX0_reduce 61 = .ok (.lload 5, 2) := by decide +kernel
theorem dX0_reduce_63 : decode cX0_reduce 63 = .ok (.invokevirtual 84, 3) := by decide +kernel
theorem dX0_reduce_66 : decode cX0_reduce 66 = .ok (.pop2, 1) := by decide +kernel
theorem dX0_reduce_67 : decode cX0_reduce 67 = .ok (.aload_n 0, 1) := by decide +kernel
theorem dX0_reduce_68 : decode cX0_reduce 68 = .ok (.getfield 18, 3) := by decide +kernel
theorem dX0_reduce_71 : decode cX0_reduce 71 = .ok (.lload 5, 2) := by decide +kernel
theorem dX0_reduce_73 : decode cX0_reduce 73 = .ok (.invokevirtual 84, 3) := by decide +kernel
theorem dX0_reduce_76 : decode cX0_reduce 76 = .ok (.pop2, 1) := by decide +kernel
theorem dX0_reduce_77 : decode cX0_reduce 77 = .ok (.iload_n 2, 1) := by decide +kernel
theorem dX0_reduce_78 : decode cX0_reduce 78 = .ok (.ifCond .eq 13, 3) := by decide +kernel
theorem dX0_reduce_81 : decode cX0_reduce 81 = .ok (.aload_n 0, 1) := by decide +kernel
theorem dX0_reduce_82 : decode cX0_reduce 82 = .ok (.getfield 12, 3) := by decide +kernel
theorem dX0_reduce_85 : decode cX0_reduce 85 = .ok (.ldc2_w 62, 3) := by decide +kernel
theorem dX0_reduce_88 : decode cX0_reduce 88 = .ok (.invokevirtual 35, 3) := by decide +kernel
theorem dX0_reduce_91 : decode cX0_reduce 91 = .ok (.return_, 1) := by decide +kernel
theorem dX0_commonDivisor_0 : decode cX0_commonDivisor 0 = .ok (.lload_n 0, 1) := by decide +kernel
theorem dX0_commonDivisor_1 : decode cX0_commonDivisor 1 = .ok (.lstore 4, 2) := by decide +kernel
theorem dX0_commonDivisor_3 : decode cX0_commonDivisor 3 = .ok (.lload_n 2, 1) := by decide +kernel
theorem dX0_commonDivisor_4 : decode cX0_commonDivisor 4 = .ok (.lstore 6, 2) := by decide +kernel
theorem dX0_commonDivisor_6 : decode cX0_commonDivisor 6 = .ok (.iconst 0, 1) := by decide +kernel
theorem dX0_commonDivisor_7 : decode cX0_commonDivisor 7 = .ok (.istore 8, 2) := by decide +kernel
theorem dX0_commonDivisor_9 : decode cX0_commonDivisor 9 = .ok (.iload 8, 2) := by decide +kernel
theorem dX0_commonDivisor_11 : decode cX0_commonDivisor 11 = .ok (.bipush 64, 2) := by decide +kernel
theorem dX0_commonDivisor_13 : decode cX0_commonDivisor 13 = .ok (.if_icmp .ge 31, 3) := by decide +kernel
theorem dX0_commonDivisor_16 : decode cX0_commonDivisor 16 = .ok (.lload 6, 2) := by decide +kernel
theorem dX0_commonDivisor_18 : decode cX0_commonDivisor 18 = .ok (.lconst 0, 1) := by decide +kernel
theorem dX0_commonDivisor_19 : decode cX0_commonDivisor 19 = .ok (.lcmp, 1) := by decide +kernel
theorem dX0_commonDivisor_20 : decode cX0_commonDivisor 20 = .ok (.ifCond .eq 24, 3) := by decide +kernel
theorem dX0_commonDivisor_23 : decode cX0_commonDivisor 23 = .ok (.lload 4, 2) := by decide +kernel
theorem dX0_commonDivisor_25 : decode cX0_commonDivisor 25 = .ok (.lload 6, 2) := by decide +kernel
theorem dX0_commonDivisor_27 : decode cX0_commonDivisor 27 = .ok (.lrem, 1) := by decide +kernel
theorem dX0_commonDivisor_28 : decode cX0_commonDivisor 28 = .ok (.lstore 9, 2) := by decide +kernel
theorem dX0_commonDivisor_30 : decode cX0_commonDivisor 30 = .ok (.lload 6, 2) := by decide +kernel
theorem dX0_commonDivisor_32 : decode cX0_commonDivisor 32 = .ok (.lstore 4, 2) := by decide +kernel
theorem dX0_commonDivisor_34 : decode cX0_commonDivisor 34 = .ok (.lload 9, 2) := by decide +kernel
theorem dX0_commonDivisor_36 : decode cX0_commonDivisor 36 = .ok (.lstore 6, 2) := by decide +kernel
theorem dX0_commonDivisor_38 : decode cX0_commonDivisor 38 = .ok (.iinc 8 1, 3) := by decide +kernel
theorem dX0_commonDivisor_41 : decode cX0_commonDivisor 41 = .ok (.goto (-32), 3) := by decide +kernel
theorem dX0_commonDivisor_44 : decode cX0_commonDivisor 44 = .ok (.lload 4, 2) := by decide +kernel
theorem dX0_commonDivisor_46 : decode cX0_commonDivisor 46 = .ok (.lreturn, 1) := by decide +kernel
theorem dX0_toMillionths_0 : decode cX0_toMillionths 0 = .ok (.aload_n 0, 1) := by decide +kernel
theorem dX0_toMillionths_1 : decode cX0_toMillionths 1 = .ok (.getfield 12, 3) := by decide +kernel
theorem dX0_toMillionths_4 : decode cX0_toMillionths 4 = .ok (.invokevirtual 51, 3) := by decide +kernel
theorem dX0_toMillionths_7 : decode cX0_toMillionths 7 = .ok (.ifCond .eq 13, 3) := by decide +kernel
theorem dX0_toMillionths_10 : decode cX0_toMillionths 10 = .ok (.aload_n 0, 1) := by decide +kernel
theorem dX0_toMillionths_11 : decode cX0_toMillionths 11 = .ok (.getfield 12, 3) := by decide +kernel
theorem dX0_toMillionths_14 : decode cX0_toMillionths 14 = .ok (.ldc2_w 62, 3) := by decide +kernel
theorem dX0_toMillionths_17 : decode cX0_toMillionths 17 = .ok (.invokevirtual 35, 3) := by decide +kernel
theorem dX0_toMillionths_20 : decode cX0_toMillionths 20 = .ok (.aload_n 0, 1) := by decide +kernel
theorem dX0_toMillionths_21 : decode cX0_toMillionths 21 = .ok (.getfield 18, 3) := by decide +kernel
theorem dX0_toMillionths_24 : decode cX0_toMillionths 24 = .ok (.iconst 0, 1) := by decide +kernel
theorem dX0_toMillionths_25 : decode cX0_toMillionths 25 = .ok (.invokevirtual 77, 3) := by decide +kernel
theorem dX0_toMillionths_28 : decode cX0_toMillionths 28 = .ok (.lstore_n 1, 1) := by decide +kernel
theorem dX0_toMillionths_29 : decode cX0_toMillionths 29 = .ok (.aload_n 0, 1) := by decide +kernel
theorem dX0_toMillionths_30 : decode cX0_toMillionths 30 = .ok (.getfield 12, 3) := by decide +kernel
theorem dX0_toMillionths_33 : decode cX0_toMillionths 33 = .ok (.ldc2_w 91, 3) := by decide +kernel
theorem dX0_toMillionths_36 : decode cX0_toMillionths 36 = .ok (.invokevirtual 35, 3) := by decide +kernel
theorem dX0_toMillionths_39 : decode cX0_toMillionths 39 = .ok (.aload_n 0, 1) := by decide +kernel
theorem dX0_toMillionths_40 : decode cX0_toMillionths 40 = .ok (.getfield 12, 3) := by decide +kernel
theorem dX0_toMillionths_43 : decode cX0_toMillionths 43 = .ok (.lload_n 1, 1) := by decide +kernel
theorem dX0_toMillionths_44 : decode cX0_toMillionths 44 = .ok (.invokevirtual 44, 3) := by decide +kernel
theorem dX0_toMillionths_47 : decode cX0_toMillionths 47 = .ok (.aload_n 0, 1) := by decide +kernel
theorem dX0_toMillionths_48 : decode cX0_toMillionths 48 = .ok (.getfield 12, 3) := by decide +kernel
theorem dX0_toMillionths_51 : decode cX0_toMillionths 51 = .ok (.ldc2_w 75, 3) := by decide +kernel
theorem dX0_toMillionths_54 : decode cX0_toMillionths 54 = .ok (.lload_n 1, 1) := by decide +kernel
theorem dX0_toMillionths_55 : decode cX0_toMillionths 55 = .ok (.lmul, 1) := by decide +kernel
theorem dX0_toMillionths_56 : decode cX0_toMillionths 56 = .ok (.invokevirtual 84, 3) := by decide +kernel
theorem dX0_toMillionths_59 : decode cX0_toMillionths 59 = .ok (.pop2, 1) := by decide +kernel
theorem dX0_toMillionths_60 : decode cX0_toMillionths 60 = .ok (.aload_n 0, 1) := by decide +kernel
theorem dX0_toMillionths_61 : decode cX0_toMillionths 61 = .ok (.getfield 12, 3) := by decide +kernel
theorem dX0_toMillionths_64 : decode cX0_toMillionths 64 = .ok (.areturn, 1) := by decide +kernel
end
section
set_option maxRecDepth 20000 in
theorem ggX0_init_X2_init : GoodIn wsX0_init wsX2_init := goodIn_r _ [10, 11, 2, 3, 12, 13, 14] (by decide +kernel) (by decide +kernel)
set_option maxRecDepth 20000 in
theorem gX0_init_X2_init_n11 : GoodIn wsX0_init (wsX2_init) := ggX0_init_X2_init
set_option maxRecDepth 20000 in
theorem ggX0_take_X1_broughtIn : GoodIn wsX0_take wsX1_broughtIn := goodIn_r _ [6, 7, 8, 23, 24, 25, 26, 27, 28, 29] (by decide +kernel) (by decide +kernel)
set_option maxRecDepth 20000 in
theorem gX0_take_X1_broughtIn_n21 : GoodIn wsX0_take (wsX1_broughtIn) := ggX0_take_X1_broughtIn
set_option maxRecDepth 20000 in
theorem ggX0_take_X2_setTo : GoodIn wsX0_take wsX2_setTo := goodIn_r _ [12, 13, 14, 30] (by decide +kernel) (by decide +kernel)
set_option maxRecDepth 20000 in
theorem gX0_take_X2_setTo_n27 : GoodIn wsX0_take (wsX2_setTo) := ggX0_take_X2_setTo
set_option maxRecDepth 20000 in
theorem ggX0_take_X2_scale : GoodIn wsX0_take wsX2_scale := goodIn_r _ [17, 13, 14, 30] (by decide +kernel) (by decide +kernel)
set_option maxRecDepth 20000 in
theorem gX0_take_X2_scale_n35 : GoodIn wsX0_take (wsX2_scale) := ggX0_take_X2_scale
set_option maxRecDepth 20000 in
theorem ggX0_take_X2_grow : GoodIn wsX0_take wsX2_grow := goodIn_r _ [20, 13, 14, 30] (by decide +kernel) (by decide +kernel)
set_option maxRecDepth 20000 in
theorem gX0_take_X2_grow_n44 : GoodIn wsX0_take (wsX2_grow) := ggX0_take_X2_grow
set_option maxRecDepth 20000 in
theorem ggX0_sign_X2_isZero : GoodIn wsX0_sign wsX2_isZero := goodIn_r _ [5, 6, 7, 8, 3, 9, 10, 16] (by decide +kernel) (by decide +kernel)
set_option maxRecDepth 20000 in
theorem gX0_sign_X2_isZero_n47 : GoodIn wsX0_sign (wsX2_isZero) := ggX0_sign_X2_isZero
set_option maxRecDepth 20000 in
theorem ggX0_sign_X2_isNegative : GoodIn wsX0_sign wsX2_isNegative := goodIn_r _ [13, 10, 16] (by decide +kernel) (by decide +kernel)
set_option maxRecDepth 20000 in
theorem gX0_sign_X2_isNegative_n51 : GoodIn wsX0_sign (wsX2_isNegative) := ggX0_sign_X2_isNegative
set_option maxRecDepth 20000 in
theorem ggX0_add_X2_multiply : GoodIn wsX0_add wsX2_multiply := goodIn_r _ [6, 7, 8, 9, 10, 4, 11, 12, 26] (by decide +kernel) (by decide +kernel)
set_option maxRecDepth 20000 in
theorem gX0_add_X2_multiply_n54 : GoodIn wsX0_add (wsX2_multiply) := ggX0_add_X2_multiply
set_option maxRecDepth 20000 in
theorem ggX0_add_X2_addTimes : GoodIn wsX0_add wsX2_addTimes := goodIn_r _ [15, 16, 17, 18, 4, 19, 7, 12, 20, 21, 22, 23, 26] (by decide +kernel) (by decide +kernel)
set_option maxRecDepth 20000 in
theorem gX0_add_X2_addTimes_n58 : GoodIn wsX0_add (wsX2_addTimes) := ggX0_add_X2_addTimes
set_option maxRecDepth 20000 in
theorem ggX0_multiply_X2_multiply : GoodIn wsX0_multiply wsX2_multiply := goodIn_r _ [6, 7, 8, 9, 10, 4, 11, 12, 15] (by decide +kernel) (by decide +kernel)
set_option maxRecDepth 20000 in
theorem gX0_multiply_X2_multiply_n54 : GoodIn wsX0_multiply (wsX2_multiply) := ggX0_multiply_X2_multiply
set_option maxRecDepth 20000 in
theorem ggX0_divide_X2_multiply : GoodIn wsX0_divide wsX2_multiply := goodIn_r _ [7, 8, 9, 10, 11, 5, 12, 13, 22] (by decide +kernel) (by decide +kernel)
set_option maxRecDepth 20000 in
theorem gX0_divide_X2_multiply_n54 : GoodIn wsX0_divide (wsX2_multiply) := ggX0_divide_X2_multiply
set_option maxRecDepth 20000 in
theorem ggX0_divide_X2_isNegative : GoodIn wsX0_divide wsX2_isNegative := goodIn_r _ [16, 8, 22] (by decide +kernel) (by decide +kernel)
set_option maxRecDepth 20000 in
theorem gX0_divide_X2_isNegative_n51 : GoodIn wsX0_divide (wsX2_isNegative) := ggX0_divide_X2_isNegative
set_option maxRecDepth 20000 in
theorem ggX0_divide_X2_scale : GoodIn wsX0_divide wsX2_scale := goodIn_r _ [19, 8, 13, 22] (by decide +kernel) (by decide +kernel)
set_option maxRecDepth 20000 in
theorem gX0_divide_X2_scale_n35 : GoodIn wsX0_divide (wsX2_scale) := ggX0_divide_X2_scale
set_option maxRecDepth 20000 in
theorem ggX0_toRawScale_X2_addTimes : GoodIn wsX0_toRawScale wsX2_addTimes := goodIn_r _ [6, 7, 8, 9, 4, 10, 11, 12, 13, 14, 15, 16, 29] (by decide +kernel) (by decide +kernel)
set_option maxRecDepth 20000 in
theorem gX0_toRawScale_X2_addTimes_n58 : GoodIn wsX0_toRawScale (wsX2_addTimes) := ggX0_toRawScale_X2_addTimes
set_option maxRecDepth 20000 in
theorem ggX0_toRawScale_X2_scale : GoodIn wsX0_toRawScale wsX2_scale := goodIn_r _ [19, 11, 12, 29] (by decide +kernel) (by decide +kernel)
set_option maxRecDepth 20000 in
theorem gX0_toRawScale_X2_scale_n35 : GoodIn wsX0_toRawScale (wsX2_scale) := ggX0_toRawScale_X2_scale
set_option maxRecDepth 20000 in
theorem ggX0_round_X2_isNegative : GoodIn wsX0_round wsX2_isNegative := goodIn_r _ [7, 8, 56] (by decide +kernel) (by decide +kernel)
set_option maxRecDepth 20000 in
theorem gX0_round_X2_isNegative_n51 : GoodIn wsX0_round (wsX2_isNegative) := ggX0_round_X2_isNegative
set_option maxRecDepth 20000 in
theorem ggX0_round_X2_scale : GoodIn wsX0_round wsX2_scale := goodIn_r _ [11, 8, 12, 56] (by decide +kernel) (by decide +kernel)
set_option maxRecDepth 20000 in
theorem gX0_round_X2_scale_n35 : GoodIn wsX0_round (wsX2_scale) := ggX0_round_X2_scale
set_option maxRecDepth 20000 in
theorem ggX0_round_X2_divide : GoodIn wsX0_round wsX2_divide := goodIn_r _ [15, 8, 16, 17, 18, 5, 19, 12, 20, 21, 22, 23, 24, 25, 26, 27, 28, 29, 30, 31, 32, 33, 34, 35, 56] (by decide +kernel) (by decide +kernel)
set_option maxRecDepth 20000 in
theorem gX0_round_X2_divide_n64 : GoodIn wsX0_round (wsX2_divide) := ggX0_round_X2_divide
set_option maxRecDepth 20000 in
theorem ggX0_round_X2_isZero : GoodIn wsX0_round wsX2_isZero := goodIn_r _ [38, 20, 21, 22, 5, 23, 8, 56] (by decide +kernel) (by decide +kernel)
set_option maxRecDepth 20000 in
theorem gX0_round_X2_isZero_n47 : GoodIn wsX0_round (wsX2_isZero) := ggX0_round_X2_isZero
set_option maxRecDepth 20000 in
theorem ggX0_round_X2_isOdd : GoodIn wsX0_round wsX2_isOdd := goodIn_r _ [41, 8, 56] (by decide +kernel) (by decide +kernel)
set_option maxRecDepth 20000 in
theorem gX0_round_X2_isOdd_n68 : GoodIn wsX0_round (wsX2_isOdd) := ggX0_round_X2_isOdd
set_option maxRecDepth 20000 in
theorem ggX0_round_X0_isRoundedAway : GoodIn wsX0_round wsX0_isRoundedAway := goodIn_r _ [46, 1, 47, 3, 2, 9, 5, 10, 11, 8, 12, 48, 49, 50, 32, 33, 34, 35, 28, 29, 30, 31, 36, 37, 38, 20, 21, 22, 23, 4, 6, 7, 54, 55, 56] (by decide +kernel) (by decide +kernel)
set_option maxRecDepth 20000 in
theorem gX0_round_X0_isRoundedAway : GoodIn wsX0_round (wsV RX0 71 RX0 yX0_isRoundedAway wsX0_isRoundedAway) := goodIn_app (goodIn_of _ (by decide +kernel)) ggX0_round_X0_isRoundedAway
set_option maxRecDepth 20000 in
theorem ggX0_round_X2_grow : GoodIn wsX0_round wsX2_grow := goodIn_r _ [53, 8, 12, 56] (by decide +kernel) (by decide +kernel)
set_option maxRecDepth 20000 in
theorem gX0_round_X2_grow_n44 : GoodIn wsX0_round (wsX2_grow) := ggX0_round_X2_grow
set_option maxRecDepth 20000 in
theorem ggX0_isRoundedAway_X2_scale : GoodIn wsX0_isRoundedAway wsX2_scale := goodIn_r _ [8, 9, 10, 34] (by decide +kernel) (by decide +kernel)
set_option maxRecDepth 20000 in
theorem gX0_isRoundedAway_X2_scale_n35 : GoodIn wsX0_isRoundedAway (wsX2_scale) := ggX0_isRoundedAway_X2_scale
set_option maxRecDepth 20000 in
theorem ggX0_isRoundedAway_X2_addTimes : GoodIn wsX0_isRoundedAway wsX2_addTimes := goodIn_r _ [13, 14, 15, 16, 6, 17, 9, 10, 18, 19, 20, 21, 34] (by decide +kernel) (by decide +kernel)
set_option maxRecDepth 20000 in
theorem gX0_isRoundedAway_X2_addTimes_n58 : GoodIn wsX0_isRoundedAway (wsX2_addTimes) := ggX0_isRoundedAway_X2_addTimes
set_option maxRecDepth 20000 in
theorem ggX0_isRoundedAway_X2_isZero : GoodIn wsX0_isRoundedAway wsX2_isZero := goodIn_r _ [24, 25, 26, 27, 6, 28, 9, 34] (by decide +kernel) (by decide +kernel)
set_option maxRecDepth 20000 in
theorem gX0_isRoundedAway_X2_isZero_n47 : GoodIn wsX0_isRoundedAway (wsX2_isZero) := ggX0_isRoundedAway_X2_isZero
set_option maxRecDepth 20000 in
theorem ggX0_isRoundedAway_X2_isNegative : GoodIn wsX0_isRoundedAway wsX2_isNegative := goodIn_r _ [31, 9, 34] (by decide +kernel) (by decide +kernel)
set_option maxRecDepth 20000 in
theorem gX0_isRoundedAway_X2_isNegative_n51 : GoodIn wsX0_isRoundedAway (wsX2_isNegative) := ggX0_isRoundedAway_X2_isNegative
set_option maxRecDepth 20000 in
theorem ggX0_reduce_X2_isNegative : GoodIn wsX0_reduce wsX2_isNegative := goodIn_r _ [7, 8, 32] (by decide +kernel) (by decide +kernel)
set_option maxRecDepth 20000 in
theorem gX0_reduce_X2_isNegative_n51 : GoodIn wsX0_reduce (wsX2_isNegative) := ggX0_reduce_X2_isNegative
set_option maxRecDepth 20000 in
theorem ggX0_reduce_X2_scale : GoodIn wsX0_reduce wsX2_scale := goodIn_r _ [11, 8, 12, 32] (by decide +kernel) (by decide +kernel)
set_option maxRecDepth 20000 in
theorem gX0_reduce_X2_scale_n35 : GoodIn wsX0_reduce (wsX2_scale) := ggX0_reduce_X2_scale
set_option maxRecDepth 20000 in
theorem ggX0_reduce_X2_bitsFrom : GoodIn wsX0_reduce wsX2_bitsFrom := goodIn_r _ [15, 16, 17, 18, 5, 19, 8, 32] (by decide +kernel) (by decide +kernel)
set_option maxRecDepth 20000 in
theorem gX0_reduce_X2_bitsFrom_n77 : GoodIn wsX0_reduce (wsX2_bitsFrom) := ggX0_reduce_X2_bitsFrom
set_option maxRecDepth 20000 in
theorem ggX0_reduce_X2_copy : GoodIn wsX0_reduce wsX2_copy := goodIn_r _ [22, 8, 32] (by decide +kernel) (by decide +kernel)
set_option maxRecDepth 20000 in
theorem gX0_reduce_X2_copy_n81 : GoodIn wsX0_reduce (wsX2_copy) := ggX0_reduce_X2_copy
set_option maxRecDepth 20000 in
theorem ggX0_reduce_X2_shorten : GoodIn wsX0_reduce wsX2_shorten := goodIn_r _ [25, 8, 32] (by decide +kernel) (by decide +kernel)
set_option maxRecDepth 20000 in
theorem gX0_reduce_X2_shorten_n84 : GoodIn wsX0_reduce (wsX2_shorten) := ggX0_reduce_X2_shorten
set_option maxRecDepth 20000 in
theorem ggX0_reduce_X0_commonDivisor : GoodIn wsX0_reduce wsX0_commonDivisor := goodIn_r _ [29] (by decide +kernel) (by decide +kernel)
set_option maxRecDepth 20000 in
theorem gX0_reduce_X0_commonDivisor : GoodIn wsX0_reduce (va_wsS RX0 87 yX0_commonDivisor wsX0_commonDivisor) := goodIn_app (goodIn_of _ (by decide +kernel)) ggX0_reduce_X0_commonDivisor
set_option maxRecDepth 20000 in
theorem ggX0_toMillionths_X2_isNegative : GoodIn wsX0_toMillionths wsX2_isNegative := goodIn_r _ [9, 10, 30] (by decide +kernel) (by decide +kernel)
set_option maxRecDepth 20000 in
theorem gX0_toMillionths_X2_isNegative_n51 : GoodIn wsX0_toMillionths (wsX2_isNegative) := ggX0_toMillionths_X2_isNegative
set_option maxRecDepth 20000 in
theorem ggX0_toMillionths_X2_scale : GoodIn wsX0_toMillionths wsX2_scale := goodIn_r _ [13, 10, 14, 30] (by decide +kernel) (by decide +kernel)
set_option maxRecDepth 20000 in
theorem gX0_toMillionths_X2_scale_n35 : GoodIn wsX0_toMillionths (wsX2_scale) := ggX0_toMillionths_X2_scale
set_option maxRecDepth 20000 in
theorem ggX0_toMillionths_X2_bitsFrom : GoodIn wsX0_toMillionths wsX2_bitsFrom := goodIn_r _ [17, 18, 19, 20, 7, 21, 10, 30] (by decide +kernel) (by decide +kernel)
set_option maxRecDepth 20000 in
theorem gX0_toMillionths_X2_bitsFrom_n77 : GoodIn wsX0_toMillionths (wsX2_bitsFrom) := ggX0_toMillionths_X2_bitsFrom
set_option maxRecDepth 20000 in
theorem ggX0_toMillionths_X2_grow : GoodIn wsX0_toMillionths wsX2_grow := goodIn_r _ [24, 10, 14, 30] (by decide +kernel) (by decide +kernel)
set_option maxRecDepth 20000 in
theorem gX0_toMillionths_X2_grow_n44 : GoodIn wsX0_toMillionths (wsX2_grow) := ggX0_toMillionths_X2_grow
set_option maxRecDepth 20000 in
theorem ggX0_toMillionths_X2_shorten : GoodIn wsX0_toMillionths wsX2_shorten := goodIn_r _ [27, 10, 30] (by decide +kernel) (by decide +kernel)
set_option maxRecDepth 20000 in
theorem gX0_toMillionths_X2_shorten_n84 : GoodIn wsX0_toMillionths (wsX2_shorten) := ggX0_toMillionths_X2_shorten
end
section
/-! Fractions: a kind's value, rounding; the cells of a FixedKinds. -/
theorem fk_R_T {x : Int} {f : Nat → Int64} (h : fk_R x f) : fk_T (fk_I f) 12 % 65536 ^ 12 = x % 65536 ^ 12 := by
  rw [h.2, Int.emod_emod_of_dvd _ (Int.dvd_refl _)]
theorem fk_R_F {x : Int} {f : Nat → Int64} (h : fk_R x f) : ∀ i, i < 12 → 0 ≤ (f i).toInt ∧ (f i).toInt < 1099511627776 := fun i hi => by
  have q := h.1 i hi
  rw [fk_I_def] at q
  omega
/-- a kind's numbers are such as the document allows -/
def fk_kd (w : Nat) (sg : Int32) (up dn of : Int64) : Prop := fk_wd w sg ∧ (1 ≤ up.toInt ∧ up.toInt ≤ 1000) ∧ (1 ≤ dn.toInt ∧ dn.toInt ≤ 1000) ∧ (-1000000 ≤ of.toInt ∧ of.toInt ≤ 1000000)
/-- a value's numerator, over the kind's 'down' -/
def fk_vn (w : Nat) (sg : Int32) (up dn of v : Int64) : Int := fk_bring w sg v.toInt * up.toInt + of.toInt * dn.toInt
theorem fk_pbd {a b A B : Int} (h1 : -A ≤ a) (h2 : a ≤ A) (h3 : -B ≤ b) (h4 : b ≤ B) (hA : 0 ≤ A) : -(A * B) ≤ a * b ∧ a * b ≤ A * B := by
  have hB : 0 ≤ B := by omega
  rcases Int.le_total 0 a with q | q
  · have a1 : a * b ≤ a * B := Int.mul_le_mul_of_nonneg_left h4 q
    have a2 : a * B ≤ A * B := Int.mul_le_mul_of_nonneg_right h2 hB
    have a3 : a * (-B) ≤ a * b := Int.mul_le_mul_of_nonneg_left h3 q
    have a4 : a * (-B) = -(a * B) := Int.mul_neg _ _
    omega
  · have a1 : (-a) * b ≤ (-a) * B := Int.mul_le_mul_of_nonneg_left h4 (by omega)
    have a2 : (-a) * B ≤ A * B := Int.mul_le_mul_of_nonneg_right (by omega) hB
    have a3 : (-a) * (-B) ≤ (-a) * b := Int.mul_le_mul_of_nonneg_left h3 (by omega)
    have a4 : (-a) * (-B) = -((-a) * B) := Int.mul_neg _ _
    have a5 : (-a) * b = -(a * b) := Int.neg_mul _ _
    omega
theorem fk_vn_bd {w : Nat} {sg : Int32} {up dn of : Int64} (h : fk_kd w sg up dn of) (v : Int64) : -18889465931478580854784 ≤ fk_vn w sg up dn of v ∧ fk_vn w sg up dn of v ≤ 18889465931478580854784 := by
  obtain ⟨hw, hu, hd, ho⟩ := h
  have b1 := fk_bring_bd hw v.toInt
  have b2 := fk_lm hw
  have c1 := fk_pbd (a := fk_bring w sg v.toInt) (b := up.toInt) (A := 9223372036854775808) (B := 1000) (by omega) (by omega) (by omega) (by omega) (by omega)
  have c2 := fk_pbd (a := of.toInt) (b := dn.toInt) (A := 1000000) (B := 1000) (by omega) (by omega) (by omega) (by omega) (by omega)
  rw [fk_vn]
  omega
def fk_abs (a : Int) : Int := if a < 0 then -a else a
/-- whether what remains takes a number one step away from 0: 0 or 1 -/
def fk_aw (rd neg od : Int32) (r b : Int) : Int32 := if rd = 0 then 0 else if rd = 1 then neg else if 2 * r - b = 0 then (if rd = 2 ∨ od ≠ 0 then 1 else 0) else if 2 * r - b < 0 then 0 else 1
def fk_up (rd : Int32) (a b : Int) : Int32 := if a % b = 0 then 0 else fk_aw rd (if a < 0 then 1 else 0) (if fk_abs a / b % 2 = 0 then 0 else 1) (fk_abs a % b) b
/-- a / b rounded to a whole number by rule rd -/
def fk_round (rd : Int32) (a b : Int) : Int := (fk_abs a / b + (fk_up rd a b).toInt) * (if a < 0 then -1 else 1)
theorem fk_abs_mod (a : Int) {b : Int} (hb : 0 < b) : fk_abs a % b = 0 ↔ a % b = 0 := by
  rw [fk_abs]
  split
  · rw [← Int.dvd_iff_emod_eq_zero, ← Int.dvd_iff_emod_eq_zero, Int.dvd_neg]
  · exact Iff.rfl
/-- the cells of a FixedKinds, in the order in which its constructor makes them -/
abbrev fk_wx (cJ cC cK : ClassId) (ad : Nat → Nat) (kd : Nat → Option Nat) (kc lo : Int32) (ch : Nat → Int32) (ts : Int32) (f1 f2 f3 f4 f5 : Nat → Int64) : va_W :=
  [(ad 0, .inr (4, [.ref (ad 1), .int kc, .int lo, .ref (ad 2), .int ts, .ref (ad 3), .ref (ad 8), .ref (ad 13)])), (ad 1, .inl (cK, 40, .inr (.inr (.inr (.inr kd))))), (ad 2, .inl (cC, 40, .inl ch)),
   (ad 3, .inr (1, [.ref (ad 4), .ref (ad 6)])), (ad 4, .inr (3, [.ref (ad 5)])), (ad 5, .inl (cJ, 12, .inr (.inl f1))), (ad 6, .inr (3, [.ref (ad 7)])), (ad 7, .inl (cJ, 12, .inr (.inl f2))),
   (ad 8, .inr (1, [.ref (ad 9), .ref (ad 11)])), (ad 9, .inr (3, [.ref (ad 10)])), (ad 10, .inl (cJ, 12, .inr (.inl f3))), (ad 11, .inr (3, [.ref (ad 12)])), (ad 12, .inl (cJ, 12, .inr (.inl f4))),
   (ad 13, .inr (3, [.ref (ad 14)])), (ad 14, .inl (cJ, 12, .inr (.inl f5)))]
end
section
/-! Fraction: take, sign, by program -/
abbrev rmX0_take : Room := { frames := 1, cells := 0, slots := 0, locals := 25 }
set_option maxHeartbeats 4000000 in
set_option maxRecDepth 100000 in
/-- Fraction.take -/
theorem kX0_take {l : Launch} {D : va_G} {cJ cC cI cZ cK : ClassId} (sz : Nat) (ws : va_W) (h0 h1 h2 h3 h4 q0 q1 q2 q3 q4 : Nat) (fa fb : Nat → Int64) (hk qk w : Nat) (sg ov rd : Int32) (up dn of : Int64) (v : Int64) (hq0 : ws[q0]? = some (h0, .inr (1, [.ref h1, .ref h3]))) (hq1 : ws[q1]? = some (h1, .inr (3, [.ref h2]))) (hq2 : ws[q2]? = some (h2, .inl (cJ, 12, .inr (.inl fa)))) (hq3 : ws[q3]? = some (h3, .inr (3, [.ref h4]))) (hq4 : ws[q4]? = some (h4, .inl (cJ, 12, .inr (.inl fb)))) (hqk : ws[qk]? = some (hk, .inr (2, [.int (nI w), .int sg, .long up, .long dn, .long of, .int ov, .int rd]))) (hkd : fk_kd w sg up dn of) (hn_q2_q4 : q2 ≠ q4) : Met l yX0_take wsX0_take rmX0_take (va_Pc [.ref h0, .ref hk, .long v] (fk_pre D (fk_ty cJ cC cI cZ cK) ws sz)) (va_Qv (fun u : (Nat → Int64) × (Nat → Int64) => fk_R (fk_vn w sg up dn of v) u.1 ∧ fk_R dn.toInt u.2) (fk_Bd D (fk_ty cJ cC cI cZ cK) (va_A ws sz) (fun u : (Nat → Int64) × (Nat → Int64) => (ws.set q2 (h2, .inl (cJ, 12, .inr (.inl u.1)))).set q4 (h4, .inl (cJ, 12, .inr (.inl u.2))))) (va_A ws sz)) 0 0 (va_A ws sz) := by
  refine fk_ofW cX0_take 4 none (fun A => va_Qv (fun u : (Nat → Int64) × (Nat → Int64) => fk_R (fk_vn w sg up dn of v) u.1 ∧ fk_R dn.toInt u.2) (fk_Bd D (fk_ty cJ cC cI cZ cK) A (fun u : (Nat → Int64) × (Nat → Int64) => (ws.set q2 (h2, .inl (cJ, 12, .inr (.inl u.1)))).set q4 (h4, .inl (cJ, 12, .inr (.inl u.2))))) A) rfl (by decide) (Nat.le_of_ble_eq_true rfl) ?_
  intro p e s m below meth c A ls args QQ hQQ hAt hP hK hN hD hA hS hl
  obtain ⟨⟨hx, hb, hml, hown, hts⟩, hr, hlocks, hin⟩ := hAt
  have hl : lv_has ls 4 [(0, .ref h0), (1, .ref hk), (2, .long v)] := hl
  have k1 := hts (.fieldLink RX0 12 "FixedKinds$Fraction" "above" "LFixedKinds$Whole;") (by decide +kernel)
  have k2 := (by decide +kernel : ∀ w ∈ u_ws RX0 TX0 2, w ∈ wsX0_take)
  have k3 := hN _ fkn_X0_21
  have k4 := hts (.initialized RX1) (by decide +kernel)
  have k5 := hts (.instanceMethod yX1_broughtIn) (by decide +kernel)
  have k6 := hts (.selects RX1 yX1_broughtIn yX1_broughtIn) (by decide +kernel)
  have k7 := hN _ fkn_X0_27
  have k8 := hts (.initialized RX2) (by decide +kernel)
  have k9 := hts (.instanceMethod yX2_setTo) (by decide +kernel)
  have k10 := hts (.selects RX2 yX2_setTo yX2_setTo) (by decide +kernel)
  have k11 := hN _ fkn_X0_31
  have k12 := (by decide +kernel : ∀ w ∈ u_ws RX1 TX1 7, w ∈ wsX0_take)
  have k13 := hN _ fkn_X0_35
  have k14 := hts (.instanceMethod yX2_scale) (by decide +kernel)
  have k15 := hts (.selects RX2 yX2_scale yX2_scale) (by decide +kernel)
  have k16 := hN _ fkn_X0_38
  have k17 := hN _ fkn_X0_41
  have k18 := hN _ fkn_X0_44
  have k19 := hts (.instanceMethod yX2_grow) (by decide +kernel)
  have k20 := hts (.selects RX2 yX2_grow yX2_grow) (by decide +kernel)
  have k21 := hts (.fieldLink RX0 18 "FixedKinds$Fraction" "below" "LFixedKinds$Whole;") (by decide +kernel)
  have hn_q2_q0 : q2 ≠ q0 := fk_neA hq0 hq2
  have hn_q4_q0 : q4 ≠ q0 := fk_neA hq0 hq4
  have hn_q2_q1 : q2 ≠ q1 := fk_neA hq1 hq2
  have hn_q4_q1 : q4 ≠ q1 := fk_neA hq1 hq4
  have hn_q2_q3 : q2 ≠ q3 := fk_neA hq3 hq2
  have hn_q4_q3 : q4 ≠ q3 := fk_neA hq3 hq4
  have hn_q2_qk : q2 ≠ qk := fk_neA hqk hq2
  have hn_q4_qk : q4 ≠ qk := fk_neA hqk hq4
  have hn_q4_q2 : q4 ≠ q2 := Ne.symm hn_q2_q4
  obtain ⟨hwd, hu0, hd0, ho0⟩ := id hkd
  have hw0 : ws = ((ws.set q2 (h2, .inl (cJ, 12, .inr (.inl fa)))).set q4 (h4, .inl (cJ, 12, .inr (.inl fb)))) := by rw [fk_s0 hq2, fk_s0 hq4]
  rw [hw0] at hP hD
  refine lv_aload_n hx hb dX0_take_0 rfl (lv_at hl 0 rfl) ?_
  refine va_get (D := D) (ci := 1) (v := .ref h1) (C := RX0) (T := TX0) (N := 2) hx hb hts k2 hown hK hP q0 (fk_sn (fk_sn hq0 hn_q2_q0) hn_q4_q0) rfl 0 (by decide) k1 (fun _ h9 => h9) rfl dX0_take_1 ?_
  refine lv_aload_n hx hb dX0_take_4 rfl (lv_at hl 1 rfl) ?_
  refine lv_lload_n hx hb dX0_take_5 rfl (lv_at hl 2 rfl) ?_
  refine fk_cl hD hS hA (va_runVN (As := [.long v]) (rest := [.ref h1]) ⟨hx, hb, hml, hown, hts⟩ (kX1_broughtIn _ _ hk qk w sg ov rd up dn of v (fk_sn (fk_sn hqk hn_q2_qk) hn_q4_qk) hkd.1) ⟨va_cnB 1 hts gX0_take_X1_broughtIn_n21 rfl rfl rfl k3 k4 (by decide +kernel) ⟨Nat.le_of_ble_eq_true rfl, Nat.le_of_ble_eq_true rfl⟩, k5, k6⟩ (fk_preV qk 2 hK hN hP hD rfl (fk_sn (fk_sn hqk hn_q2_qk) hn_q4_qk)) rfl rfl hl.1 rfl (lv_room (Nat.le_of_ble_eq_true rfl)) dX0_take_6 ⟨Nat.le_of_ble_eq_true rfl, Nat.le_of_ble_eq_true rfl⟩) (fun r1 u H locs hw hP hD hS => ?_)
  have hP : va_P D vwCl ((ws.set q2 (h2, .inl (cJ, 12, .inr (.inl fa)))).set q4 (h4, .inl (cJ, 12, .inr (.inl fb)))) H := hP
  have hD : va_D A ((ws.set q2 (h2, .inl (cJ, 12, .inr (.inl fa)))).set q4 (h4, .inl (cJ, 12, .inr (.inl fb)))) := hD
  have hbr := hw
  refine fk_cv hD hS hA (va_runVN (As := [.long r1]) (rest := []) ⟨hx, hb, hml, hown, hts⟩ (kX2_setTo _ _ h1 h2 q1 q2 fa r1 (fk_sn (fk_sn hq1 hn_q2_q1) hn_q4_q1) (fk_sn (fk_ss hq2) hn_q4_q2)) ⟨va_cnB 1 hts gX0_take_X2_setTo_n27 rfl rfl rfl k7 k8 (by decide +kernel) ⟨Nat.le_of_ble_eq_true rfl, Nat.le_of_ble_eq_true rfl⟩, k9, k10⟩ (fk_preV q1 3 hK hN hP hD rfl (fk_sn (fk_sn hq1 hn_q2_q1) hn_q4_q1)) rfl rfl hl.1 rfl (lv_room (Nat.le_of_ble_eq_true rfl)) dX0_take_9 ⟨Nat.le_of_ble_eq_true rfl, Nat.le_of_ble_eq_true rfl⟩) (fun g1 H locs hw hP hD hS => ?_)
  rw [fk_s3 hn_q2_q4] at hP hD
  have hP : va_P D vwCl ((ws.set q2 (h2, .inl (cJ, 12, .inr (.inl g1)))).set q4 (h4, .inl (cJ, 12, .inr (.inl fb)))) H := hP
  have hD : va_D A ((ws.set q2 (h2, .inl (cJ, 12, .inr (.inl g1)))).set q4 (h4, .inl (cJ, 12, .inr (.inl fb)))) := hD
  rw [hbr] at hw
  have hR1 := hw
  refine lv_aload_n hx hb dX0_take_12 rfl (lv_at hl 0 rfl) ?_
  refine va_get (D := D) (ci := 1) (v := .ref h1) (C := RX0) (T := TX0) (N := 2) hx hb hts k2 hown hK hP q0 (fk_sn (fk_sn hq0 hn_q2_q0) hn_q4_q0) rfl 0 (by decide) k1 (fun _ h9 => h9) rfl dX0_take_13 ?_
  refine lv_aload_n hx hb dX0_take_16 rfl (lv_at hl 1 rfl) ?_
  refine va_getN (D := D) (ci := 2) (v := .long up) (C := RX1) (T := TX1) (N := 7) hx hb hts k12 hown hK hP qk (fk_sn (fk_sn hqk hn_q2_qk) hn_q4_qk) rfl 2 (by decide) (va_Nw.use rfl k11) (fun _ h9 => h9) rfl dX0_take_17 ?_
  refine fk_cv hD hS hA (va_runVN (As := [.long up]) (rest := []) ⟨hx, hb, hml, hown, hts⟩ (kX2_scale _ _ h1 h2 q1 q2 g1 up _ (fk_sn (fk_sn hq1 hn_q2_q1) hn_q4_q1) (fk_sn (fk_ss hq2) hn_q4_q2) hR1 (by omega)) ⟨va_cnB 1 hts gX0_take_X2_scale_n35 rfl rfl rfl k13 k8 (by decide +kernel) ⟨Nat.le_of_ble_eq_true rfl, Nat.le_of_ble_eq_true rfl⟩, k14, k15⟩ (fk_preV q1 3 hK hN hP hD rfl (fk_sn (fk_sn hq1 hn_q2_q1) hn_q4_q1)) rfl rfl hl.1 rfl (lv_room (Nat.le_of_ble_eq_true rfl)) dX0_take_20 ⟨Nat.le_of_ble_eq_true rfl, Nat.le_of_ble_eq_true rfl⟩) (fun g2 H locs hw hP hD hS => ?_)
  rw [fk_s3 hn_q2_q4] at hP hD
  have hP : va_P D vwCl ((ws.set q2 (h2, .inl (cJ, 12, .inr (.inl g2)))).set q4 (h4, .inl (cJ, 12, .inr (.inl fb)))) H := hP
  have hD : va_D A ((ws.set q2 (h2, .inl (cJ, 12, .inr (.inl g2)))).set q4 (h4, .inl (cJ, 12, .inr (.inl fb)))) := hD
  have hR2 := hw
  refine lv_aload_n hx hb dX0_take_23 rfl (lv_at hl 0 rfl) ?_
  refine va_get (D := D) (ci := 1) (v := .ref h1) (C := RX0) (T := TX0) (N := 2) hx hb hts k2 hown hK hP q0 (fk_sn (fk_sn hq0 hn_q2_q0) hn_q4_q0) rfl 0 (by decide) k1 (fun _ h9 => h9) rfl dX0_take_24 ?_
  refine lv_aload_n hx hb dX0_take_27 rfl (lv_at hl 1 rfl) ?_
  refine va_getN (D := D) (ci := 2) (v := .long of) (C := RX1) (T := TX1) (N := 7) hx hb hts k12 hown hK hP qk (fk_sn (fk_sn hqk hn_q2_qk) hn_q4_qk) rfl 4 (by decide) (va_Nw.use rfl k16) (fun _ h9 => h9) rfl dX0_take_28 ?_
  refine lv_aload_n hx hb dX0_take_31 rfl (lv_at hl 1 rfl) ?_
  refine va_getN (D := D) (ci := 2) (v := .long dn) (C := RX1) (T := TX1) (N := 7) hx hb hts k12 hown hK hP qk (fk_sn (fk_sn hqk hn_q2_qk) hn_q4_qk) rfl 3 (by decide) (va_Nw.use rfl k17) (fun _ h9 => h9) rfl dX0_take_32 ?_
  refine lv_lmul hx hb dX0_take_35 ?_
  refine lv_topl (fun x4 ex4 => ?_)
  have hm := fk_pbd (a := of.toInt) (b := dn.toInt) (A := 1000000) (B := 1000) (by omega) (by omega) (by omega) (by omega) (by omega)
  have hof : x4.toInt = of.toInt * dn.toInt := by rw [ex4]; exact fk_mul (by omega) (by omega)
  refine fk_cv hD hS hA (va_runVN (As := [.long x4]) (rest := []) ⟨hx, hb, hml, hown, hts⟩ (kX2_grow _ _ h1 h2 q1 q2 g2 x4 _ (fk_sn (fk_sn hq1 hn_q2_q1) hn_q4_q1) (fk_sn (fk_ss hq2) hn_q4_q2) (fk_R_F hR2) (fk_R_T hR2) (by omega)) ⟨va_cnB 1 hts gX0_take_X2_grow_n44 rfl rfl rfl k18 k8 (by decide +kernel) ⟨Nat.le_of_ble_eq_true rfl, Nat.le_of_ble_eq_true rfl⟩, k19, k20⟩ (fk_preV q1 3 hK hN hP hD rfl (fk_sn (fk_sn hq1 hn_q2_q1) hn_q4_q1)) rfl rfl hl.1 rfl (lv_room (Nat.le_of_ble_eq_true rfl)) dX0_take_36 ⟨Nat.le_of_ble_eq_true rfl, Nat.le_of_ble_eq_true rfl⟩) (fun g3 H locs hw hP hD hS => ?_)
  rw [fk_s3 hn_q2_q4] at hP hD
  have hP : va_P D vwCl ((ws.set q2 (h2, .inl (cJ, 12, .inr (.inl g3)))).set q4 (h4, .inl (cJ, 12, .inr (.inl fb)))) H := hP
  have hD : va_D A ((ws.set q2 (h2, .inl (cJ, 12, .inr (.inl g3)))).set q4 (h4, .inl (cJ, 12, .inr (.inl fb)))) := hD
  rw [hof] at hw
  have hR3 := hw
  refine lv_aload_n hx hb dX0_take_39 rfl (lv_at hl 0 rfl) ?_
  refine va_get (D := D) (ci := 1) (v := .ref h3) (C := RX0) (T := TX0) (N := 2) hx hb hts k2 hown hK hP q0 (fk_sn (fk_sn hq0 hn_q2_q0) hn_q4_q0) rfl 1 (by decide) k21 (fun _ h9 => h9) rfl dX0_take_40 ?_
  refine lv_aload_n hx hb dX0_take_43 rfl (lv_at hl 1 rfl) ?_
  refine va_getN (D := D) (ci := 2) (v := .long dn) (C := RX1) (T := TX1) (N := 7) hx hb hts k12 hown hK hP qk (fk_sn (fk_sn hqk hn_q2_qk) hn_q4_qk) rfl 3 (by decide) (va_Nw.use rfl k17) (fun _ h9 => h9) rfl dX0_take_44 ?_
  refine fk_cv hD hS hA (va_runVN (As := [.long dn]) (rest := []) ⟨hx, hb, hml, hown, hts⟩ (kX2_setTo _ _ h3 h4 q3 q4 fb dn (fk_sn (fk_sn hq3 hn_q2_q3) hn_q4_q3) (fk_ss (fk_sn hq4 hn_q2_q4))) ⟨va_cnB 1 hts gX0_take_X2_setTo_n27 rfl rfl rfl k7 k8 (by decide +kernel) ⟨Nat.le_of_ble_eq_true rfl, Nat.le_of_ble_eq_true rfl⟩, k9, k10⟩ (fk_preV q3 3 hK hN hP hD rfl (fk_sn (fk_sn hq3 hn_q2_q3) hn_q4_q3)) rfl rfl hl.1 rfl (lv_room (Nat.le_of_ble_eq_true rfl)) dX0_take_47 ⟨Nat.le_of_ble_eq_true rfl, Nat.le_of_ble_eq_true rfl⟩) (fun g4 H locs hw hP hD hS => ?_)
  rw [fk_s2] at hP hD
  have hP : va_P D vwCl ((ws.set q2 (h2, .inl (cJ, 12, .inr (.inl g3)))).set q4 (h4, .inl (cJ, 12, .inr (.inl g4)))) H := hP
  have hD : va_D A ((ws.set q2 (h2, .inl (cJ, 12, .inr (.inl g3)))).set q4 (h4, .inl (cJ, 12, .inr (.inl g4)))) := hD
  have hR4 := hw
  rw [hQQ]
  exact W.vret hx hb hr (fun t ht hW => ⟨⟨(g3, g4), rfl, ⟨hR3, hR4⟩, by rw [ht]; exact hP, va_K.moved hW.alike hK, hD⟩, hS.F ht⟩) hS.2.2 dX0_take_50
abbrev rmX0_sign : Room := { frames := 2, cells := 0, slots := 0, locals := 41 }
set_option maxHeartbeats 4000000 in
set_option maxRecDepth 100000 in
/-- Fraction.sign -/
theorem kX0_sign {l : Launch} {D : va_G} {cJ cC cI cZ cK : ClassId} (sz : Nat) (ws : va_W) (h0 h1 h2 h3 h4 q0 q1 q2 q3 q4 : Nat) (fa fb : Nat → Int64) (a : Int) (hq0 : ws[q0]? = some (h0, .inr (1, [.ref h1, .ref h3]))) (hq1 : ws[q1]? = some (h1, .inr (3, [.ref h2]))) (hq2 : ws[q2]? = some (h2, .inl (cJ, 12, .inr (.inl fa)))) (hR : fk_R a fa) (hI : fk_In a) : Met l yX0_sign wsX0_sign rmX0_sign (va_Pc [.ref h0] (fk_pre D (fk_ty cJ cC cI cZ cK) ws sz)) (va_Qi (fun (r : Int32) (_ : Unit) => r = if a = 0 then 0 else if a < 0 then -1 else 1) (fk_Bd D (fk_ty cJ cC cI cZ cK) (va_A ws sz) (fun _ : Unit => ws)) (va_A ws sz)) 0 0 (va_A ws sz) := by
  refine fk_ofW cX0_sign 1 (some .int) (fun A => va_Qi (fun (r : Int32) (_ : Unit) => r = if a = 0 then 0 else if a < 0 then -1 else 1) (fk_Bd D (fk_ty cJ cC cI cZ cK) A (fun _ : Unit => ws)) A) rfl (by decide) (Nat.le_of_ble_eq_true rfl) ?_
  intro p e s m below meth c A ls args QQ hQQ hAt hP hK hN hD hA hS hl
  obtain ⟨⟨hx, hb, hml, hown, hts⟩, hr, hlocks, hin⟩ := hAt
  have hl : lv_has ls 1 [(0, .ref h0)] := hl
  have k1 := hts (.fieldLink RX0 12 "FixedKinds$Fraction" "above" "LFixedKinds$Whole;") (by decide +kernel)
  have k2 := (by decide +kernel : ∀ w ∈ u_ws RX0 TX0 2, w ∈ wsX0_sign)
  have k3 := hN _ fkn_X0_47
  have k4 := hts (.initialized RX2) (by decide +kernel)
  have k5 := hts (.instanceMethod yX2_isZero) (by decide +kernel)
  have k6 := hts (.selects RX2 yX2_isZero yX2_isZero) (by decide +kernel)
  have k7 := hN _ fkn_X0_51
  have k8 := hts (.instanceMethod yX2_isNegative) (by decide +kernel)
  have k9 := hts (.selects RX2 yX2_isNegative yX2_isNegative) (by decide +kernel)
  refine lv_aload_n hx hb dX0_sign_0 rfl (lv_at hl 0 rfl) ?_
  refine va_get (D := D) (ci := 1) (v := .ref h1) (C := RX0) (T := TX0) (N := 2) hx hb hts k2 hown hK hP q0 hq0 rfl 0 (by decide) k1 (fun _ h9 => h9) rfl dX0_sign_1 ?_
  refine fk_ci hD hS hA (va_runVN (As := []) (rest := []) ⟨hx, hb, hml, hown, hts⟩ (kX2_isZero _ _ h1 h2 q1 q2 fa a hq1 hq2 hR hI) ⟨va_cnB 0 hts gX0_sign_X2_isZero_n47 rfl rfl rfl k3 k4 (by decide +kernel) ⟨Nat.le_of_ble_eq_true rfl, Nat.le_of_ble_eq_true rfl⟩, k5, k6⟩ (fk_preV q1 3 hK hN hP hD rfl hq1) rfl rfl hl.1 rfl (lv_room (Nat.le_of_ble_eq_true rfl)) dX0_sign_4 ⟨Nat.le_of_ble_eq_true rfl, Nat.le_of_ble_eq_true rfl⟩) (fun r1 u H locs hw hP hD hS => ?_)
  have hP : va_P D vwCl ws H := hP
  have hD : va_D A ws := hD
  have z1 := hw
  refine lv_if_eq (tgt := 12) hx hb dX0_sign_7 (by decide) (fun c_7 => ?_) (fun c_7 => ?_)
  · have a0 : ¬ a = 0 := by intro q; rw [z1, if_pos q] at c_7; exact absurd c_7 (by decide)
    refine lv_aload_n hx hb dX0_sign_12 rfl (lv_at hl 0 rfl) ?_
    refine va_get (D := D) (ci := 1) (v := .ref h1) (C := RX0) (T := TX0) (N := 2) hx hb hts k2 hown hK hP q0 hq0 rfl 0 (by decide) k1 (fun _ h9 => h9) rfl dX0_sign_13 ?_
    refine fk_ci hD hS hA (va_runVN (As := []) (rest := []) ⟨hx, hb, hml, hown, hts⟩ (kX2_isNegative _ _ h1 h2 q1 q2 fa a hq1 hq2 hR hI) ⟨va_cnB 0 hts gX0_sign_X2_isNegative_n51 rfl rfl rfl k7 k4 (by decide +kernel) ⟨Nat.le_of_ble_eq_true rfl, Nat.le_of_ble_eq_true rfl⟩, k8, k9⟩ (fk_preV q1 3 hK hN hP hD rfl hq1) rfl rfl hl.1 rfl (lv_room (Nat.le_of_ble_eq_true rfl)) dX0_sign_16 ⟨Nat.le_of_ble_eq_true rfl, Nat.le_of_ble_eq_true rfl⟩) (fun r2 u H locs hw hP hD hS => ?_)
    have hP : va_P D vwCl ws H := hP
    have hD : va_D A ws := hD
    have z2 := hw
    refine lv_if_eq (tgt := 26) hx hb dX0_sign_19 (by decide) (fun c_19 => ?_) (fun c_19 => ?_)
    · have a1 : ¬ a < 0 := by intro q; rw [z2, if_pos q] at c_19; exact absurd c_19 (by decide)
      refine lv_iconst (v := 1) hx hb dX0_sign_26 (by decide) ?_
      rw [hQQ]
      exact W.iret (v := 1) hx hb hr (fun t ht hW => ⟨⟨1, (), rfl, (by rw [if_neg a0, if_neg a1]), by rw [ht]; exact hP, va_K.moved hW.alike hK, hD⟩, hS.F ht⟩) hS.2.2 dX0_sign_27
    · have a1 : a < 0 := by by_cases q : a < 0; exact q; rw [z2, if_neg q] at c_19; exact absurd rfl c_19
      refine lv_iconst (v := (-1)) hx hb dX0_sign_22 (by decide) ?_
      refine lv_goto (tgt := 27) hx hb dX0_sign_23 (by decide) ?_
      rw [hQQ]
      exact W.iret (v := (-1)) hx hb hr (fun t ht hW => ⟨⟨(-1), (), rfl, (by rw [if_neg a0, if_pos a1]), by rw [ht]; exact hP, va_K.moved hW.alike hK, hD⟩, hS.F ht⟩) hS.2.2 dX0_sign_27
  · have a0 : a = 0 := by by_cases q : a = 0; exact q; rw [z1, if_neg q] at c_7; exact absurd rfl c_7
    refine lv_iconst (v := 0) hx hb dX0_sign_10 (by decide) ?_
    rw [hQQ]
    exact W.iret (v := 0) hx hb hr (fun t ht hW => ⟨⟨0, (), rfl, (by rw [if_pos a0]), by rw [ht]; exact hP, va_K.moved hW.alike hK, hD⟩, hS.F ht⟩) hS.2.2 dX0_sign_11
end
section
/-! Fraction: add, multiply, divide, toRawScale, by program -/
theorem fk_tl {cJ cC cK : ClassId} {ad : Nat → Nat} {tl : va_W} {kd : Nat → Option Nat} {kc lo : Int32} {ch : Nat → Int32} {ts : Int32} {f1 f2 f3 f4 f5 : Nat → Int64} {j : Nat} {c : Nat × va_E} (h : tl[j]? = some c) : (fk_wx cJ cC cK ad kd kc lo ch ts f1 f2 f3 f4 f5 ++ tl)[j + 15]? = some c := h
abbrev rmX0_add : Room := { frames := 3, cells := 0, slots := 0, locals := 72 }
set_option maxHeartbeats 4000000 in
set_option maxRecDepth 100000 in
/-- Fraction.add -/
theorem kX0_add {l : Launch} {D : va_G} {cJ cC cI cZ cK : ClassId} (sz : Nat) (ad : Nat → Nat) (tl : va_W) (kd : Nat → Option Nat) (kc lo : Int32) (ch : Nat → Int32) (ts : Int32) (f1 f2 f3 f4 f5 : Nat → Int64) (t : Int64) (a b c0 d : Int) (hRa : fk_R a f1) (hRb : fk_R b f2) (hRc : fk_R c0 f3) (hRd : fk_R d f4) (ht : -1 ≤ t.toInt ∧ t.toInt ≤ 1) : Met l yX0_add wsX0_add rmX0_add (va_Pc [.ref (ad 3), .ref (ad 8), .long t] (fk_pre D (fk_ty cJ cC cI cZ cK) (fk_wx cJ cC cK ad kd kc lo ch ts f1 f2 f3 f4 f5 ++ tl) sz)) (va_Qv (fun u : (Nat → Int64) × (Nat → Int64) × (Nat → Int64) => fk_R (a * d + c0 * b * t.toInt) u.1 ∧ fk_R (b * d) u.2.1) (fk_Bd D (fk_ty cJ cC cI cZ cK) (va_A (fk_wx cJ cC cK ad kd kc lo ch ts f1 f2 f3 f4 f5 ++ tl) sz) (fun u : (Nat → Int64) × (Nat → Int64) × (Nat → Int64) => fk_wx cJ cC cK ad kd kc lo ch ts u.1 u.2.1 u.2.2 f4 f5 ++ tl)) (va_A (fk_wx cJ cC cK ad kd kc lo ch ts f1 f2 f3 f4 f5 ++ tl) sz)) 0 0 (va_A (fk_wx cJ cC cK ad kd kc lo ch ts f1 f2 f3 f4 f5 ++ tl) sz) := by
  refine fk_ofW cX0_add 4 none (fun A => va_Qv (fun u : (Nat → Int64) × (Nat → Int64) × (Nat → Int64) => fk_R (a * d + c0 * b * t.toInt) u.1 ∧ fk_R (b * d) u.2.1) (fk_Bd D (fk_ty cJ cC cI cZ cK) A (fun u : (Nat → Int64) × (Nat → Int64) × (Nat → Int64) => fk_wx cJ cC cK ad kd kc lo ch ts u.1 u.2.1 u.2.2 f4 f5 ++ tl)) A) rfl (by decide) (Nat.le_of_ble_eq_true rfl) ?_
  intro p e s m below meth c A ls args QQ hQQ hAt hP hK hN hD hA hS hl
  obtain ⟨⟨hx, hb, hml, hown, hts⟩, hr, hlocks, hin⟩ := hAt
  have hl : lv_has ls 4 [(0, .ref (ad 3)), (1, .ref (ad 8)), (2, .long t)] := hl
  have k1 := hts (.fieldLink RX0 12 "FixedKinds$Fraction" "above" "LFixedKinds$Whole;") (by decide +kernel)
  have k2 := (by decide +kernel : ∀ w ∈ u_ws RX0 TX0 2, w ∈ wsX0_add)
  have k3 := hts (.fieldLink RX0 18 "FixedKinds$Fraction" "below" "LFixedKinds$Whole;") (by decide +kernel)
  have k4 := hN _ fkn_X0_54
  have k5 := hts (.initialized RX2) (by decide +kernel)
  have k6 := hts (.instanceMethod yX2_multiply) (by decide +kernel)
  have k7 := hts (.selects RX2 yX2_multiply yX2_multiply) (by decide +kernel)
  have k8 := hN _ fkn_X0_58
  have k9 := hts (.instanceMethod yX2_addTimes) (by decide +kernel)
  have k10 := hts (.selects RX2 yX2_addTimes yX2_addTimes) (by decide +kernel)
  refine lv_aload_n hx hb dX0_add_0 rfl (lv_at hl 0 rfl) ?_
  refine va_get (D := D) (ci := 1) (v := .ref (ad 4)) (C := RX0) (T := TX0) (N := 2) hx hb hts k2 hown hK hP 3 rfl rfl 0 (by decide) k1 (fun _ h9 => h9) rfl dX0_add_1 ?_
  refine lv_aload_n hx hb dX0_add_4 rfl (lv_at hl 1 rfl) ?_
  refine va_get (D := D) (ci := 1) (v := .ref (ad 11)) (C := RX0) (T := TX0) (N := 2) hx hb hts k2 hown hK hP 8 rfl rfl 1 (by decide) k3 (fun _ h9 => h9) rfl dX0_add_5 ?_
  refine fk_cv hD hS hA (va_runVN (As := [.ref (ad 11)]) (rest := []) ⟨hx, hb, hml, hown, hts⟩ (kX2_multiply _ _ (ad 4) (ad 5) (ad 11) (ad 12) 4 5 11 12 f1 f4 (a) (d) rfl rfl rfl rfl (by decide) hRa hRd) ⟨va_cnB 1 hts gX0_add_X2_multiply_n54 rfl rfl rfl k4 k5 (by decide +kernel) ⟨Nat.le_of_ble_eq_true rfl, Nat.le_of_ble_eq_true rfl⟩, k6, k7⟩ (fk_preV 4 3 hK hN hP hD rfl rfl) rfl rfl hl.1 rfl (lv_room (Nat.le_of_ble_eq_true rfl)) dX0_add_8 ⟨Nat.le_of_ble_eq_true rfl, Nat.le_of_ble_eq_true rfl⟩) (fun g1 H locs hw hP hD hS => ?_)
  have hP : va_P D vwCl (fk_wx cJ cC cK ad kd kc lo ch ts g1 f2 f3 f4 f5 ++ tl) H := hP
  have hD : va_D A (fk_wx cJ cC cK ad kd kc lo ch ts g1 f2 f3 f4 f5 ++ tl) := hD
  have hRg1 := hw
  refine lv_aload_n hx hb dX0_add_11 rfl (lv_at hl 1 rfl) ?_
  refine va_get (D := D) (ci := 1) (v := .ref (ad 9)) (C := RX0) (T := TX0) (N := 2) hx hb hts k2 hown hK hP 8 rfl rfl 0 (by decide) k1 (fun _ h9 => h9) rfl dX0_add_12 ?_
  refine lv_aload_n hx hb dX0_add_15 rfl (lv_at hl 0 rfl) ?_
  refine va_get (D := D) (ci := 1) (v := .ref (ad 6)) (C := RX0) (T := TX0) (N := 2) hx hb hts k2 hown hK hP 3 rfl rfl 1 (by decide) k3 (fun _ h9 => h9) rfl dX0_add_16 ?_
  refine fk_cv hD hS hA (va_runVN (As := [.ref (ad 6)]) (rest := []) ⟨hx, hb, hml, hown, hts⟩ (kX2_multiply _ _ (ad 9) (ad 10) (ad 6) (ad 7) 9 10 6 7 f3 f2 (c0) (b) rfl rfl rfl rfl (by decide) hRc hRb) ⟨va_cnB 1 hts gX0_add_X2_multiply_n54 rfl rfl rfl k4 k5 (by decide +kernel) ⟨Nat.le_of_ble_eq_true rfl, Nat.le_of_ble_eq_true rfl⟩, k6, k7⟩ (fk_preV 9 3 hK hN hP hD rfl rfl) rfl rfl hl.1 rfl (lv_room (Nat.le_of_ble_eq_true rfl)) dX0_add_19 ⟨Nat.le_of_ble_eq_true rfl, Nat.le_of_ble_eq_true rfl⟩) (fun g3 H locs hw hP hD hS => ?_)
  have hP : va_P D vwCl (fk_wx cJ cC cK ad kd kc lo ch ts g1 f2 g3 f4 f5 ++ tl) H := hP
  have hD : va_D A (fk_wx cJ cC cK ad kd kc lo ch ts g1 f2 g3 f4 f5 ++ tl) := hD
  have hRg3 := hw
  refine lv_aload_n hx hb dX0_add_22 rfl (lv_at hl 0 rfl) ?_
  refine va_get (D := D) (ci := 1) (v := .ref (ad 4)) (C := RX0) (T := TX0) (N := 2) hx hb hts k2 hown hK hP 3 rfl rfl 0 (by decide) k1 (fun _ h9 => h9) rfl dX0_add_23 ?_
  refine lv_aload_n hx hb dX0_add_26 rfl (lv_at hl 1 rfl) ?_
  refine va_get (D := D) (ci := 1) (v := .ref (ad 9)) (C := RX0) (T := TX0) (N := 2) hx hb hts k2 hown hK hP 8 rfl rfl 0 (by decide) k1 (fun _ h9 => h9) rfl dX0_add_27 ?_
  refine lv_lload_n hx hb dX0_add_30 rfl (lv_at hl 2 rfl) ?_
  refine fk_cv hD hS hA (va_runVN (As := [.ref (ad 9), .long t]) (rest := []) ⟨hx, hb, hml, hown, hts⟩ (kX2_addTimes _ _ (ad 4) (ad 5) (ad 9) (ad 10) 4 5 9 10 g1 g3 t ((a) * (d)) ((c0) * (b)) rfl rfl rfl rfl (by decide) hRg1 hRg3 (by omega)) ⟨va_cnB 2 hts gX0_add_X2_addTimes_n58 rfl rfl rfl k8 k5 (by decide +kernel) ⟨Nat.le_of_ble_eq_true rfl, Nat.le_of_ble_eq_true rfl⟩, k9, k10⟩ (fk_preV 4 3 hK hN hP hD rfl rfl) rfl rfl hl.1 rfl (lv_room (Nat.le_of_ble_eq_true rfl)) dX0_add_31 ⟨Nat.le_of_ble_eq_true rfl, Nat.le_of_ble_eq_true rfl⟩) (fun g5 H locs hw hP hD hS => ?_)
  have hP : va_P D vwCl (fk_wx cJ cC cK ad kd kc lo ch ts g5 f2 g3 f4 f5 ++ tl) H := hP
  have hD : va_D A (fk_wx cJ cC cK ad kd kc lo ch ts g5 f2 g3 f4 f5 ++ tl) := hD
  have hRg5 := hw
  refine lv_aload_n hx hb dX0_add_34 rfl (lv_at hl 0 rfl) ?_
  refine va_get (D := D) (ci := 1) (v := .ref (ad 6)) (C := RX0) (T := TX0) (N := 2) hx hb hts k2 hown hK hP 3 rfl rfl 1 (by decide) k3 (fun _ h9 => h9) rfl dX0_add_35 ?_
  refine lv_aload_n hx hb dX0_add_38 rfl (lv_at hl 1 rfl) ?_
  refine va_get (D := D) (ci := 1) (v := .ref (ad 11)) (C := RX0) (T := TX0) (N := 2) hx hb hts k2 hown hK hP 8 rfl rfl 1 (by decide) k3 (fun _ h9 => h9) rfl dX0_add_39 ?_
  refine fk_cv hD hS hA (va_runVN (As := [.ref (ad 11)]) (rest := []) ⟨hx, hb, hml, hown, hts⟩ (kX2_multiply _ _ (ad 6) (ad 7) (ad 11) (ad 12) 6 7 11 12 f2 f4 (b) (d) rfl rfl rfl rfl (by decide) hRb hRd) ⟨va_cnB 1 hts gX0_add_X2_multiply_n54 rfl rfl rfl k4 k5 (by decide +kernel) ⟨Nat.le_of_ble_eq_true rfl, Nat.le_of_ble_eq_true rfl⟩, k6, k7⟩ (fk_preV 6 3 hK hN hP hD rfl rfl) rfl rfl hl.1 rfl (lv_room (Nat.le_of_ble_eq_true rfl)) dX0_add_42 ⟨Nat.le_of_ble_eq_true rfl, Nat.le_of_ble_eq_true rfl⟩) (fun g7 H locs hw hP hD hS => ?_)
  have hP : va_P D vwCl (fk_wx cJ cC cK ad kd kc lo ch ts g5 g7 g3 f4 f5 ++ tl) H := hP
  have hD : va_D A (fk_wx cJ cC cK ad kd kc lo ch ts g5 g7 g3 f4 f5 ++ tl) := hD
  have hRg7 := hw
  rw [hQQ]
  exact W.vret hx hb hr (fun t ht hW => ⟨⟨(g5, g7, g3), rfl, ⟨hRg5, hRg7⟩, by rw [ht]; exact hP, va_K.moved hW.alike hK, hD⟩, hS.F ht⟩) hS.2.2 dX0_add_45
abbrev rmX0_multiply : Room := { frames := 2, cells := 0, slots := 0, locals := 50 }
set_option maxHeartbeats 4000000 in
set_option maxRecDepth 100000 in
/-- Fraction.multiply -/
theorem kX0_multiply {l : Launch} {D : va_G} {cJ cC cI cZ cK : ClassId} (sz : Nat) (ad : Nat → Nat) (tl : va_W) (kd : Nat → Option Nat) (kc lo : Int32) (ch : Nat → Int32) (ts : Int32) (f1 f2 f3 f4 f5 : Nat → Int64) (a b c0 d : Int) (hRa : fk_R a f1) (hRb : fk_R b f2) (hRc : fk_R c0 f3) (hRd : fk_R d f4) : Met l yX0_multiply wsX0_multiply rmX0_multiply (va_Pc [.ref (ad 3), .ref (ad 8)] (fk_pre D (fk_ty cJ cC cI cZ cK) (fk_wx cJ cC cK ad kd kc lo ch ts f1 f2 f3 f4 f5 ++ tl) sz)) (va_Qv (fun u : (Nat → Int64) × (Nat → Int64) => fk_R (a * c0) u.1 ∧ fk_R (b * d) u.2) (fk_Bd D (fk_ty cJ cC cI cZ cK) (va_A (fk_wx cJ cC cK ad kd kc lo ch ts f1 f2 f3 f4 f5 ++ tl) sz) (fun u : (Nat → Int64) × (Nat → Int64) => fk_wx cJ cC cK ad kd kc lo ch ts u.1 u.2 f3 f4 f5 ++ tl)) (va_A (fk_wx cJ cC cK ad kd kc lo ch ts f1 f2 f3 f4 f5 ++ tl) sz)) 0 0 (va_A (fk_wx cJ cC cK ad kd kc lo ch ts f1 f2 f3 f4 f5 ++ tl) sz) := by
  refine fk_ofW cX0_multiply 2 none (fun A => va_Qv (fun u : (Nat → Int64) × (Nat → Int64) => fk_R (a * c0) u.1 ∧ fk_R (b * d) u.2) (fk_Bd D (fk_ty cJ cC cI cZ cK) A (fun u : (Nat → Int64) × (Nat → Int64) => fk_wx cJ cC cK ad kd kc lo ch ts u.1 u.2 f3 f4 f5 ++ tl)) A) rfl (by decide) (Nat.le_of_ble_eq_true rfl) ?_
  intro p e s m below meth c A ls args QQ hQQ hAt hP hK hN hD hA hS hl
  obtain ⟨⟨hx, hb, hml, hown, hts⟩, hr, hlocks, hin⟩ := hAt
  have hl : lv_has ls 2 [(0, .ref (ad 3)), (1, .ref (ad 8))] := hl
  have k1 := hts (.fieldLink RX0 12 "FixedKinds$Fraction" "above" "LFixedKinds$Whole;") (by decide +kernel)
  have k2 := (by decide +kernel : ∀ w ∈ u_ws RX0 TX0 2, w ∈ wsX0_multiply)
  have k3 := hN _ fkn_X0_54
  have k4 := hts (.initialized RX2) (by decide +kernel)
  have k5 := hts (.instanceMethod yX2_multiply) (by decide +kernel)
  have k6 := hts (.selects RX2 yX2_multiply yX2_multiply) (by decide +kernel)
  have k7 := hts (.fieldLink RX0 18 "FixedKinds$Fraction" "below" "LFixedKinds$Whole;") (by decide +kernel)
  refine lv_aload_n hx hb dX0_multiply_0 rfl (lv_at hl 0 rfl) ?_
  refine va_get (D := D) (ci := 1) (v := .ref (ad 4)) (C := RX0) (T := TX0) (N := 2) hx hb hts k2 hown hK hP 3 rfl rfl 0 (by decide) k1 (fun _ h9 => h9) rfl dX0_multiply_1 ?_
  refine lv_aload_n hx hb dX0_multiply_4 rfl (lv_at hl 1 rfl) ?_
  refine va_get (D := D) (ci := 1) (v := .ref (ad 9)) (C := RX0) (T := TX0) (N := 2) hx hb hts k2 hown hK hP 8 rfl rfl 0 (by decide) k1 (fun _ h9 => h9) rfl dX0_multiply_5 ?_
  refine fk_cv hD hS hA (va_runVN (As := [.ref (ad 9)]) (rest := []) ⟨hx, hb, hml, hown, hts⟩ (kX2_multiply _ _ (ad 4) (ad 5) (ad 9) (ad 10) 4 5 9 10 f1 f3 (a) (c0) rfl rfl rfl rfl (by decide) hRa hRc) ⟨va_cnB 1 hts gX0_multiply_X2_multiply_n54 rfl rfl rfl k3 k4 (by decide +kernel) ⟨Nat.le_of_ble_eq_true rfl, Nat.le_of_ble_eq_true rfl⟩, k5, k6⟩ (fk_preV 4 3 hK hN hP hD rfl rfl) rfl rfl hl.1 rfl (lv_room (Nat.le_of_ble_eq_true rfl)) dX0_multiply_8 ⟨Nat.le_of_ble_eq_true rfl, Nat.le_of_ble_eq_true rfl⟩) (fun g1 H locs hw hP hD hS => ?_)
  have hP : va_P D vwCl (fk_wx cJ cC cK ad kd kc lo ch ts g1 f2 f3 f4 f5 ++ tl) H := hP
  have hD : va_D A (fk_wx cJ cC cK ad kd kc lo ch ts g1 f2 f3 f4 f5 ++ tl) := hD
  have hRg1 := hw
  refine lv_aload_n hx hb dX0_multiply_11 rfl (lv_at hl 0 rfl) ?_
  refine va_get (D := D) (ci := 1) (v := .ref (ad 6)) (C := RX0) (T := TX0) (N := 2) hx hb hts k2 hown hK hP 3 rfl rfl 1 (by decide) k7 (fun _ h9 => h9) rfl dX0_multiply_12 ?_
  refine lv_aload_n hx hb dX0_multiply_15 rfl (lv_at hl 1 rfl) ?_
  refine va_get (D := D) (ci := 1) (v := .ref (ad 11)) (C := RX0) (T := TX0) (N := 2) hx hb hts k2 hown hK hP 8 rfl rfl 1 (by decide) k7 (fun _ h9 => h9) rfl dX0_multiply_16 ?_
  refine fk_cv hD hS hA (va_runVN (As := [.ref (ad 11)]) (rest := []) ⟨hx, hb, hml, hown, hts⟩ (kX2_multiply _ _ (ad 6) (ad 7) (ad 11) (ad 12) 6 7 11 12 f2 f4 (b) (d) rfl rfl rfl rfl (by decide) hRb hRd) ⟨va_cnB 1 hts gX0_multiply_X2_multiply_n54 rfl rfl rfl k3 k4 (by decide +kernel) ⟨Nat.le_of_ble_eq_true rfl, Nat.le_of_ble_eq_true rfl⟩, k5, k6⟩ (fk_preV 6 3 hK hN hP hD rfl rfl) rfl rfl hl.1 rfl (lv_room (Nat.le_of_ble_eq_true rfl)) dX0_multiply_19 ⟨Nat.le_of_ble_eq_true rfl, Nat.le_of_ble_eq_true rfl⟩) (fun g3 H locs hw hP hD hS => ?_)
  have hP : va_P D vwCl (fk_wx cJ cC cK ad kd kc lo ch ts g1 g3 f3 f4 f5 ++ tl) H := hP
  have hD : va_D A (fk_wx cJ cC cK ad kd kc lo ch ts g1 g3 f3 f4 f5 ++ tl) := hD
  have hRg3 := hw
  rw [hQQ]
  exact W.vret hx hb hr (fun t ht hW => ⟨⟨(g1, g3), rfl, ⟨hRg1, hRg3⟩, by rw [ht]; exact hP, va_K.moved hW.alike hK, hD⟩, hS.F ht⟩) hS.2.2 dX0_multiply_22
abbrev rmX0_divide : Room := { frames := 2, cells := 0, slots := 0, locals := 50 }
set_option maxHeartbeats 4000000 in
set_option maxRecDepth 100000 in
/-- Fraction.divide -/
theorem kX0_divide {l : Launch} {D : va_G} {cJ cC cI cZ cK : ClassId} (sz : Nat) (ad : Nat → Nat) (tl : va_W) (kd : Nat → Option Nat) (kc lo : Int32) (ch : Nat → Int32) (ts : Int32) (f1 f2 f3 f4 f5 : Nat → Int64) (a b c0 d : Int) (hRa : fk_R a f1) (hRb : fk_R b f2) (hRc : fk_R c0 f3) (hRd : fk_R d f4) (hI : fk_In (b * c0)) : Met l yX0_divide wsX0_divide rmX0_divide (va_Pc [.ref (ad 3), .ref (ad 8)] (fk_pre D (fk_ty cJ cC cI cZ cK) (fk_wx cJ cC cK ad kd kc lo ch ts f1 f2 f3 f4 f5 ++ tl) sz)) (va_Qv (fun u : (Nat → Int64) × (Nat → Int64) => fk_R (a * d * (if b * c0 < 0 then -1 else 1)) u.1 ∧ fk_R (b * c0 * (if b * c0 < 0 then -1 else 1)) u.2) (fk_Bd D (fk_ty cJ cC cI cZ cK) (va_A (fk_wx cJ cC cK ad kd kc lo ch ts f1 f2 f3 f4 f5 ++ tl) sz) (fun u : (Nat → Int64) × (Nat → Int64) => fk_wx cJ cC cK ad kd kc lo ch ts u.1 u.2 f3 f4 f5 ++ tl)) (va_A (fk_wx cJ cC cK ad kd kc lo ch ts f1 f2 f3 f4 f5 ++ tl) sz)) 0 0 (va_A (fk_wx cJ cC cK ad kd kc lo ch ts f1 f2 f3 f4 f5 ++ tl) sz) := by
  refine fk_ofW cX0_divide 2 none (fun A => va_Qv (fun u : (Nat → Int64) × (Nat → Int64) => fk_R (a * d * (if b * c0 < 0 then -1 else 1)) u.1 ∧ fk_R (b * c0 * (if b * c0 < 0 then -1 else 1)) u.2) (fk_Bd D (fk_ty cJ cC cI cZ cK) A (fun u : (Nat → Int64) × (Nat → Int64) => fk_wx cJ cC cK ad kd kc lo ch ts u.1 u.2 f3 f4 f5 ++ tl)) A) rfl (by decide) (Nat.le_of_ble_eq_true rfl) ?_
  intro p e s m below meth c A ls args QQ hQQ hAt hP hK hN hD hA hS hl
  obtain ⟨⟨hx, hb, hml, hown, hts⟩, hr, hlocks, hin⟩ := hAt
  have hl : lv_has ls 2 [(0, .ref (ad 3)), (1, .ref (ad 8))] := hl
  have k1 := hts (.fieldLink RX0 12 "FixedKinds$Fraction" "above" "LFixedKinds$Whole;") (by decide +kernel)
  have k2 := (by decide +kernel : ∀ w ∈ u_ws RX0 TX0 2, w ∈ wsX0_divide)
  have k3 := hts (.fieldLink RX0 18 "FixedKinds$Fraction" "below" "LFixedKinds$Whole;") (by decide +kernel)
  have k4 := hN _ fkn_X0_54
  have k5 := hts (.initialized RX2) (by decide +kernel)
  have k6 := hts (.instanceMethod yX2_multiply) (by decide +kernel)
  have k7 := hts (.selects RX2 yX2_multiply yX2_multiply) (by decide +kernel)
  have k8 := hN _ fkn_X0_51
  have k9 := hts (.instanceMethod yX2_isNegative) (by decide +kernel)
  have k10 := hts (.selects RX2 yX2_isNegative yX2_isNegative) (by decide +kernel)
  have k11 := hts (.constantLong RX0 62 (-1)) (by decide +kernel)
  have k12 := hN _ fkn_X0_35
  have k13 := hts (.instanceMethod yX2_scale) (by decide +kernel)
  have k14 := hts (.selects RX2 yX2_scale yX2_scale) (by decide +kernel)
  refine lv_aload_n hx hb dX0_divide_0 rfl (lv_at hl 0 rfl) ?_
  refine va_get (D := D) (ci := 1) (v := .ref (ad 4)) (C := RX0) (T := TX0) (N := 2) hx hb hts k2 hown hK hP 3 rfl rfl 0 (by decide) k1 (fun _ h9 => h9) rfl dX0_divide_1 ?_
  refine lv_aload_n hx hb dX0_divide_4 rfl (lv_at hl 1 rfl) ?_
  refine va_get (D := D) (ci := 1) (v := .ref (ad 11)) (C := RX0) (T := TX0) (N := 2) hx hb hts k2 hown hK hP 8 rfl rfl 1 (by decide) k3 (fun _ h9 => h9) rfl dX0_divide_5 ?_
  refine fk_cv hD hS hA (va_runVN (As := [.ref (ad 11)]) (rest := []) ⟨hx, hb, hml, hown, hts⟩ (kX2_multiply _ _ (ad 4) (ad 5) (ad 11) (ad 12) 4 5 11 12 f1 f4 (a) (d) rfl rfl rfl rfl (by decide) hRa hRd) ⟨va_cnB 1 hts gX0_divide_X2_multiply_n54 rfl rfl rfl k4 k5 (by decide +kernel) ⟨Nat.le_of_ble_eq_true rfl, Nat.le_of_ble_eq_true rfl⟩, k6, k7⟩ (fk_preV 4 3 hK hN hP hD rfl rfl) rfl rfl hl.1 rfl (lv_room (Nat.le_of_ble_eq_true rfl)) dX0_divide_8 ⟨Nat.le_of_ble_eq_true rfl, Nat.le_of_ble_eq_true rfl⟩) (fun g1 H locs hw hP hD hS => ?_)
  have hP : va_P D vwCl (fk_wx cJ cC cK ad kd kc lo ch ts g1 f2 f3 f4 f5 ++ tl) H := hP
  have hD : va_D A (fk_wx cJ cC cK ad kd kc lo ch ts g1 f2 f3 f4 f5 ++ tl) := hD
  have hRg1 := hw
  refine lv_aload_n hx hb dX0_divide_11 rfl (lv_at hl 0 rfl) ?_
  refine va_get (D := D) (ci := 1) (v := .ref (ad 6)) (C := RX0) (T := TX0) (N := 2) hx hb hts k2 hown hK hP 3 rfl rfl 1 (by decide) k3 (fun _ h9 => h9) rfl dX0_divide_12 ?_
  refine lv_aload_n hx hb dX0_divide_15 rfl (lv_at hl 1 rfl) ?_
  refine va_get (D := D) (ci := 1) (v := .ref (ad 9)) (C := RX0) (T := TX0) (N := 2) hx hb hts k2 hown hK hP 8 rfl rfl 0 (by decide) k1 (fun _ h9 => h9) rfl dX0_divide_16 ?_
  refine fk_cv hD hS hA (va_runVN (As := [.ref (ad 9)]) (rest := []) ⟨hx, hb, hml, hown, hts⟩ (kX2_multiply _ _ (ad 6) (ad 7) (ad 9) (ad 10) 6 7 9 10 f2 f3 (b) (c0) rfl rfl rfl rfl (by decide) hRb hRc) ⟨va_cnB 1 hts gX0_divide_X2_multiply_n54 rfl rfl rfl k4 k5 (by decide +kernel) ⟨Nat.le_of_ble_eq_true rfl, Nat.le_of_ble_eq_true rfl⟩, k6, k7⟩ (fk_preV 6 3 hK hN hP hD rfl rfl) rfl rfl hl.1 rfl (lv_room (Nat.le_of_ble_eq_true rfl)) dX0_divide_19 ⟨Nat.le_of_ble_eq_true rfl, Nat.le_of_ble_eq_true rfl⟩) (fun g3 H locs hw hP hD hS => ?_)
  have hP : va_P D vwCl (fk_wx cJ cC cK ad kd kc lo ch ts g1 g3 f3 f4 f5 ++ tl) H := hP
  have hD : va_D A (fk_wx cJ cC cK ad kd kc lo ch ts g1 g3 f3 f4 f5 ++ tl) := hD
  have hRg3 := hw
  refine lv_aload_n hx hb dX0_divide_22 rfl (lv_at hl 0 rfl) ?_
  refine va_get (D := D) (ci := 1) (v := .ref (ad 6)) (C := RX0) (T := TX0) (N := 2) hx hb hts k2 hown hK hP 3 rfl rfl 1 (by decide) k3 (fun _ h9 => h9) rfl dX0_divide_23 ?_
  refine fk_ci hD hS hA (va_runVN (As := []) (rest := []) ⟨hx, hb, hml, hown, hts⟩ (kX2_isNegative _ _ (ad 6) (ad 7) 6 7 g3 ((b) * (c0)) rfl rfl hRg3 hI) ⟨va_cnB 0 hts gX0_divide_X2_isNegative_n51 rfl rfl rfl k8 k5 (by decide +kernel) ⟨Nat.le_of_ble_eq_true rfl, Nat.le_of_ble_eq_true rfl⟩, k9, k10⟩ (fk_preV 6 3 hK hN hP hD rfl rfl) rfl rfl hl.1 rfl (lv_room (Nat.le_of_ble_eq_true rfl)) dX0_divide_26 ⟨Nat.le_of_ble_eq_true rfl, Nat.le_of_ble_eq_true rfl⟩) (fun r5 u H locs hw hP hD hS => ?_)
  have hP : va_P D vwCl (fk_wx cJ cC cK ad kd kc lo ch ts g1 g3 f3 f4 f5 ++ tl) H := hP
  have hD : va_D A (fk_wx cJ cC cK ad kd kc lo ch ts g1 g3 f3 f4 f5 ++ tl) := hD
  have z := hw
  refine lv_if_eq (tgt := 52) hx hb dX0_divide_29 (by decide) (fun c_29 => ?_) (fun c_29 => ?_)
  · have p_c_29 : ¬ (b) * (c0) < 0 := by intro q; rw [z, if_pos q] at c_29; exact absurd c_29 (by decide)
    rw [hQQ]
    exact W.vret hx hb hr (fun t ht hW => ⟨⟨(g1, g3), rfl, (by rw [if_neg p_c_29, Int.mul_one, Int.mul_one]; exact ⟨hRg1, hRg3⟩), by rw [ht]; exact hP, va_K.moved hW.alike hK, hD⟩, hS.F ht⟩) hS.2.2 dX0_divide_52
  · have p_c_29 : (b) * (c0) < 0 := by by_cases q : (b) * (c0) < 0; exact q; rw [z, if_neg q] at c_29; exact absurd rfl c_29
    refine lv_aload_n hx hb dX0_divide_32 rfl (lv_at hl 0 rfl) ?_
    refine va_get (D := D) (ci := 1) (v := .ref (ad 4)) (C := RX0) (T := TX0) (N := 2) hx hb hts k2 hown hK hP 3 rfl rfl 0 (by decide) k1 (fun _ h9 => h9) rfl dX0_divide_33 ?_
    refine lv_ldc2 (v := (-1)) hx hb hown k11 dX0_divide_36 ?_
    refine fk_cv hD hS hA (va_runVN (As := [.long (-1)]) (rest := []) ⟨hx, hb, hml, hown, hts⟩ (kX2_scale _ _ (ad 4) (ad 5) 4 5 g1 (-1) ((a) * (d)) rfl rfl hRg1 (by decide)) ⟨va_cnB 1 hts gX0_divide_X2_scale_n35 rfl rfl rfl k12 k5 (by decide +kernel) ⟨Nat.le_of_ble_eq_true rfl, Nat.le_of_ble_eq_true rfl⟩, k13, k14⟩ (fk_preV 4 3 hK hN hP hD rfl rfl) rfl rfl hl.1 rfl (lv_room (Nat.le_of_ble_eq_true rfl)) dX0_divide_39 ⟨Nat.le_of_ble_eq_true rfl, Nat.le_of_ble_eq_true rfl⟩) (fun g6 H locs hw hP hD hS => ?_)
    have hP : va_P D vwCl (fk_wx cJ cC cK ad kd kc lo ch ts g6 g3 f3 f4 f5 ++ tl) H := hP
    have hD : va_D A (fk_wx cJ cC cK ad kd kc lo ch ts g6 g3 f3 f4 f5 ++ tl) := hD
    rw [show ((-1) : Int64).toInt = (-1) by decide] at hw
    have hRg6 := hw
    refine lv_aload_n hx hb dX0_divide_42 rfl (lv_at hl 0 rfl) ?_
    refine va_get (D := D) (ci := 1) (v := .ref (ad 6)) (C := RX0) (T := TX0) (N := 2) hx hb hts k2 hown hK hP 3 rfl rfl 1 (by decide) k3 (fun _ h9 => h9) rfl dX0_divide_43 ?_
    refine lv_ldc2 (v := (-1)) hx hb hown k11 dX0_divide_46 ?_
    refine fk_cv hD hS hA (va_runVN (As := [.long (-1)]) (rest := []) ⟨hx, hb, hml, hown, hts⟩ (kX2_scale _ _ (ad 6) (ad 7) 6 7 g3 (-1) ((b) * (c0)) rfl rfl hRg3 (by decide)) ⟨va_cnB 1 hts gX0_divide_X2_scale_n35 rfl rfl rfl k12 k5 (by decide +kernel) ⟨Nat.le_of_ble_eq_true rfl, Nat.le_of_ble_eq_true rfl⟩, k13, k14⟩ (fk_preV 6 3 hK hN hP hD rfl rfl) rfl rfl hl.1 rfl (lv_room (Nat.le_of_ble_eq_true rfl)) dX0_divide_49 ⟨Nat.le_of_ble_eq_true rfl, Nat.le_of_ble_eq_true rfl⟩) (fun g8 H locs hw hP hD hS => ?_)
    have hP : va_P D vwCl (fk_wx cJ cC cK ad kd kc lo ch ts g6 g8 f3 f4 f5 ++ tl) H := hP
    have hD : va_D A (fk_wx cJ cC cK ad kd kc lo ch ts g6 g8 f3 f4 f5 ++ tl) := hD
    rw [show ((-1) : Int64).toInt = (-1) by decide] at hw
    have hRg8 := hw
    rw [hQQ]
    exact W.vret hx hb hr (fun t ht hW => ⟨⟨(g6, g8), rfl, (by rw [if_pos p_c_29]; exact ⟨hRg6, hRg8⟩), by rw [ht]; exact hP, va_K.moved hW.alike hK, hD⟩, hS.F ht⟩) hS.2.2 dX0_divide_52
abbrev rmX0_toRawScale : Room := { frames := 3, cells := 0, slots := 0, locals := 72 }
set_option maxHeartbeats 4000000 in
set_option maxRecDepth 100000 in
/-- Fraction.toRawScale -/
theorem kX0_toRawScale {l : Launch} {D : va_G} {cJ cC cI cZ cK : ClassId} (sz : Nat) (ad : Nat → Nat) (tl : va_W) (kd : Nat → Option Nat) (kc lo : Int32) (ch : Nat → Int32) (ts : Int32) (f1 f2 f3 f4 f5 : Nat → Int64) (hk jk w : Nat) (sg ov rd : Int32) (up dn of : Int64) (a b : Int) (hqk : tl[jk]? = some (hk, .inr (2, [.int (nI w), .int sg, .long up, .long dn, .long of, .int ov, .int rd]))) (hkd : fk_kd w sg up dn of) (hRa : fk_R a f1) (hRb : fk_R b f2) : Met l yX0_toRawScale wsX0_toRawScale rmX0_toRawScale (va_Pc [.ref (ad 3), .ref hk] (fk_pre D (fk_ty cJ cC cI cZ cK) (fk_wx cJ cC cK ad kd kc lo ch ts f1 f2 f3 f4 f5 ++ tl) sz)) (va_Qv (fun u : (Nat → Int64) × (Nat → Int64) => fk_R ((a + b * (-of.toInt)) * dn.toInt) u.1 ∧ fk_R (b * up.toInt) u.2) (fk_Bd D (fk_ty cJ cC cI cZ cK) (va_A (fk_wx cJ cC cK ad kd kc lo ch ts f1 f2 f3 f4 f5 ++ tl) sz) (fun u : (Nat → Int64) × (Nat → Int64) => fk_wx cJ cC cK ad kd kc lo ch ts u.1 u.2 f3 f4 f5 ++ tl)) (va_A (fk_wx cJ cC cK ad kd kc lo ch ts f1 f2 f3 f4 f5 ++ tl) sz)) 0 0 (va_A (fk_wx cJ cC cK ad kd kc lo ch ts f1 f2 f3 f4 f5 ++ tl) sz) := by
  refine fk_ofW cX0_toRawScale 2 none (fun A => va_Qv (fun u : (Nat → Int64) × (Nat → Int64) => fk_R ((a + b * (-of.toInt)) * dn.toInt) u.1 ∧ fk_R (b * up.toInt) u.2) (fk_Bd D (fk_ty cJ cC cI cZ cK) A (fun u : (Nat → Int64) × (Nat → Int64) => fk_wx cJ cC cK ad kd kc lo ch ts u.1 u.2 f3 f4 f5 ++ tl)) A) rfl (by decide) (Nat.le_of_ble_eq_true rfl) ?_
  intro p e s m below meth c A ls args QQ hQQ hAt hP hK hN hD hA hS hl
  obtain ⟨⟨hx, hb, hml, hown, hts⟩, hr, hlocks, hin⟩ := hAt
  have hl : lv_has ls 2 [(0, .ref (ad 3)), (1, .ref hk)] := hl
  have k1 := hts (.fieldLink RX0 12 "FixedKinds$Fraction" "above" "LFixedKinds$Whole;") (by decide +kernel)
  have k2 := (by decide +kernel : ∀ w ∈ u_ws RX0 TX0 2, w ∈ wsX0_toRawScale)
  have k3 := hts (.fieldLink RX0 18 "FixedKinds$Fraction" "below" "LFixedKinds$Whole;") (by decide +kernel)
  have k4 := hN _ fkn_X0_38
  have k5 := (by decide +kernel : ∀ w ∈ u_ws RX1 TX1 7, w ∈ wsX0_toRawScale)
  have k6 := hN _ fkn_X0_58
  have k7 := hts (.initialized RX2) (by decide +kernel)
  have k8 := hts (.instanceMethod yX2_addTimes) (by decide +kernel)
  have k9 := hts (.selects RX2 yX2_addTimes yX2_addTimes) (by decide +kernel)
  have k10 := hN _ fkn_X0_41
  have k11 := hN _ fkn_X0_35
  have k12 := hts (.instanceMethod yX2_scale) (by decide +kernel)
  have k13 := hts (.selects RX2 yX2_scale yX2_scale) (by decide +kernel)
  have k14 := hN _ fkn_X0_31
  obtain ⟨hwd, hu0, hd0, ho0⟩ := id hkd
  refine lv_aload_n hx hb dX0_toRawScale_0 rfl (lv_at hl 0 rfl) ?_
  refine va_get (D := D) (ci := 1) (v := .ref (ad 4)) (C := RX0) (T := TX0) (N := 2) hx hb hts k2 hown hK hP 3 rfl rfl 0 (by decide) k1 (fun _ h9 => h9) rfl dX0_toRawScale_1 ?_
  refine lv_aload_n hx hb dX0_toRawScale_4 rfl (lv_at hl 0 rfl) ?_
  refine va_get (D := D) (ci := 1) (v := .ref (ad 6)) (C := RX0) (T := TX0) (N := 2) hx hb hts k2 hown hK hP 3 rfl rfl 1 (by decide) k3 (fun _ h9 => h9) rfl dX0_toRawScale_5 ?_
  refine lv_aload_n hx hb dX0_toRawScale_8 rfl (lv_at hl 1 rfl) ?_
  refine va_getN (D := D) (ci := 2) (v := .long of) (C := RX1) (T := TX1) (N := 7) hx hb hts k5 hown hK hP (jk + 15) (fk_tl hqk) rfl 4 (by decide) (va_Nw.use rfl k4) (fun _ h9 => h9) rfl dX0_toRawScale_9 ?_
  refine lv_lneg hx hb dX0_toRawScale_12 ?_
  refine lv_topl (fun x1 ex1 => ?_)
  have hno : x1.toInt = -of.toInt := by rw [ex1]; exact fk_neg (by omega)
  refine fk_cv hD hS hA (va_runVN (As := [.ref (ad 6), .long x1]) (rest := []) ⟨hx, hb, hml, hown, hts⟩ (kX2_addTimes _ _ (ad 4) (ad 5) (ad 6) (ad 7) 4 5 6 7 f1 f2 x1 (a) (b) rfl rfl rfl rfl (by decide) hRa hRb (by rw [hno]; omega)) ⟨va_cnB 2 hts gX0_toRawScale_X2_addTimes_n58 rfl rfl rfl k6 k7 (by decide +kernel) ⟨Nat.le_of_ble_eq_true rfl, Nat.le_of_ble_eq_true rfl⟩, k8, k9⟩ (fk_preV 4 3 hK hN hP hD rfl rfl) rfl rfl hl.1 rfl (lv_room (Nat.le_of_ble_eq_true rfl)) dX0_toRawScale_13 ⟨Nat.le_of_ble_eq_true rfl, Nat.le_of_ble_eq_true rfl⟩) (fun g2 H locs hw hP hD hS => ?_)
  have hP : va_P D vwCl (fk_wx cJ cC cK ad kd kc lo ch ts g2 f2 f3 f4 f5 ++ tl) H := hP
  have hD : va_D A (fk_wx cJ cC cK ad kd kc lo ch ts g2 f2 f3 f4 f5 ++ tl) := hD
  have hRg2 := hw
  rw [hno] at hRg2
  refine lv_aload_n hx hb dX0_toRawScale_16 rfl (lv_at hl 0 rfl) ?_
  refine va_get (D := D) (ci := 1) (v := .ref (ad 4)) (C := RX0) (T := TX0) (N := 2) hx hb hts k2 hown hK hP 3 rfl rfl 0 (by decide) k1 (fun _ h9 => h9) rfl dX0_toRawScale_17 ?_
  refine lv_aload_n hx hb dX0_toRawScale_20 rfl (lv_at hl 1 rfl) ?_
  refine va_getN (D := D) (ci := 2) (v := .long dn) (C := RX1) (T := TX1) (N := 7) hx hb hts k5 hown hK hP (jk + 15) (fk_tl hqk) rfl 3 (by decide) (va_Nw.use rfl k10) (fun _ h9 => h9) rfl dX0_toRawScale_21 ?_
  refine fk_cv hD hS hA (va_runVN (As := [.long dn]) (rest := []) ⟨hx, hb, hml, hown, hts⟩ (kX2_scale _ _ (ad 4) (ad 5) 4 5 g2 dn ((a) + (b) * (-of.toInt)) rfl rfl hRg2 (by omega)) ⟨va_cnB 1 hts gX0_toRawScale_X2_scale_n35 rfl rfl rfl k11 k7 (by decide +kernel) ⟨Nat.le_of_ble_eq_true rfl, Nat.le_of_ble_eq_true rfl⟩, k12, k13⟩ (fk_preV 4 3 hK hN hP hD rfl rfl) rfl rfl hl.1 rfl (lv_room (Nat.le_of_ble_eq_true rfl)) dX0_toRawScale_24 ⟨Nat.le_of_ble_eq_true rfl, Nat.le_of_ble_eq_true rfl⟩) (fun g4 H locs hw hP hD hS => ?_)
  have hP : va_P D vwCl (fk_wx cJ cC cK ad kd kc lo ch ts g4 f2 f3 f4 f5 ++ tl) H := hP
  have hD : va_D A (fk_wx cJ cC cK ad kd kc lo ch ts g4 f2 f3 f4 f5 ++ tl) := hD
  have hRg4 := hw
  refine lv_aload_n hx hb dX0_toRawScale_27 rfl (lv_at hl 0 rfl) ?_
  refine va_get (D := D) (ci := 1) (v := .ref (ad 6)) (C := RX0) (T := TX0) (N := 2) hx hb hts k2 hown hK hP 3 rfl rfl 1 (by decide) k3 (fun _ h9 => h9) rfl dX0_toRawScale_28 ?_
  refine lv_aload_n hx hb dX0_toRawScale_31 rfl (lv_at hl 1 rfl) ?_
  refine va_getN (D := D) (ci := 2) (v := .long up) (C := RX1) (T := TX1) (N := 7) hx hb hts k5 hown hK hP (jk + 15) (fk_tl hqk) rfl 2 (by decide) (va_Nw.use rfl k14) (fun _ h9 => h9) rfl dX0_toRawScale_32 ?_
  refine fk_cv hD hS hA (va_runVN (As := [.long up]) (rest := []) ⟨hx, hb, hml, hown, hts⟩ (kX2_scale _ _ (ad 6) (ad 7) 6 7 f2 up (b) rfl rfl hRb (by omega)) ⟨va_cnB 1 hts gX0_toRawScale_X2_scale_n35 rfl rfl rfl k11 k7 (by decide +kernel) ⟨Nat.le_of_ble_eq_true rfl, Nat.le_of_ble_eq_true rfl⟩, k12, k13⟩ (fk_preV 6 3 hK hN hP hD rfl rfl) rfl rfl hl.1 rfl (lv_room (Nat.le_of_ble_eq_true rfl)) dX0_toRawScale_35 ⟨Nat.le_of_ble_eq_true rfl, Nat.le_of_ble_eq_true rfl⟩) (fun g6 H locs hw hP hD hS => ?_)
  have hP : va_P D vwCl (fk_wx cJ cC cK ad kd kc lo ch ts g4 g6 f3 f4 f5 ++ tl) H := hP
  have hD : va_D A (fk_wx cJ cC cK ad kd kc lo ch ts g4 g6 f3 f4 f5 ++ tl) := hD
  have hRg6 := hw
  rw [hQQ]
  exact W.vret hx hb hr (fun t ht hW => ⟨⟨(g4, g6), rfl, ⟨hRg4, hRg6⟩, by rw [ht]; exact hP, va_K.moved hW.alike hK, hD⟩, hS.F ht⟩) hS.2.2 dX0_toRawScale_38
end
section
/-! Fraction: isRoundedAway, round, by program -/
abbrev rmX0_isRoundedAway : Room := { frames := 3, cells := 0, slots := 0, locals := 72 }
set_option maxHeartbeats 4000000 in
set_option maxRecDepth 100000 in
/-- Fraction.isRoundedAway -/
theorem kX0_isRoundedAway {l : Launch} {D : va_G} {cJ cC cI cZ cK : ClassId} (sz : Nat) (ad : Nat → Nat) (tl : va_W) (kd : Nat → Option Nat) (kc lo : Int32) (ch : Nat → Int32) (ts : Int32) (f1 f2 f3 f4 f5 : Nat → Int64) (r0 ng od : Int32) (a b : Int) (hRa : fk_R a f1) (hRb : fk_R b f2) (hI : fk_In (a * 2 + b * (-1))) (hng : ng = 0 ∨ ng = 1) : Met l yX0_isRoundedAway wsX0_isRoundedAway rmX0_isRoundedAway (va_Pc [.ref (ad 3), .int r0, .int ng, .int od] (fk_pre D (fk_ty cJ cC cI cZ cK) (fk_wx cJ cC cK ad kd kc lo ch ts f1 f2 f3 f4 f5 ++ tl) sz)) (va_Qi (fun (r : Int32) (_ : Nat → Int64) => r = fk_aw r0 ng od a b) (fk_Bd D (fk_ty cJ cC cI cZ cK) (va_A (fk_wx cJ cC cK ad kd kc lo ch ts f1 f2 f3 f4 f5 ++ tl) sz) (fun u : (Nat → Int64) => fk_wx cJ cC cK ad kd kc lo ch ts u f2 f3 f4 f5 ++ tl)) (va_A (fk_wx cJ cC cK ad kd kc lo ch ts f1 f2 f3 f4 f5 ++ tl) sz)) 0 0 (va_A (fk_wx cJ cC cK ad kd kc lo ch ts f1 f2 f3 f4 f5 ++ tl) sz) := by
  refine fk_ofW cX0_isRoundedAway 4 (some .boolean) (fun A => va_Qi (fun (r : Int32) (_ : Nat → Int64) => r = fk_aw r0 ng od a b) (fk_Bd D (fk_ty cJ cC cI cZ cK) A (fun u : (Nat → Int64) => fk_wx cJ cC cK ad kd kc lo ch ts u f2 f3 f4 f5 ++ tl)) A) rfl (by decide) (Nat.le_of_ble_eq_true rfl) ?_
  intro p e s m below meth c A ls args QQ hQQ hAt hP hK hN hD hA hS hl
  obtain ⟨⟨hx, hb, hml, hown, hts⟩, hr, hlocks, hin⟩ := hAt
  have hl : lv_has ls 4 [(0, .ref (ad 3)), (1, .int r0), (2, .int ng), (3, .int od)] := hl
  have k1 := hts (.fieldLink RX0 12 "FixedKinds$Fraction" "above" "LFixedKinds$Whole;") (by decide +kernel)
  have k2 := (by decide +kernel : ∀ w ∈ u_ws RX0 TX0 2, w ∈ wsX0_isRoundedAway)
  have k3 := hts (.constantLong RX0 75 2) (by decide +kernel)
  have k4 := hN _ fkn_X0_35
  have k5 := hts (.initialized RX2) (by decide +kernel)
  have k6 := hts (.instanceMethod yX2_scale) (by decide +kernel)
  have k7 := hts (.selects RX2 yX2_scale yX2_scale) (by decide +kernel)
  have k8 := hts (.fieldLink RX0 18 "FixedKinds$Fraction" "below" "LFixedKinds$Whole;") (by decide +kernel)
  have k9 := hts (.constantLong RX0 62 (-1)) (by decide +kernel)
  have k10 := hN _ fkn_X0_58
  have k11 := hts (.instanceMethod yX2_addTimes) (by decide +kernel)
  have k12 := hts (.selects RX2 yX2_addTimes yX2_addTimes) (by decide +kernel)
  have k13 := hN _ fkn_X0_47
  have k14 := hts (.instanceMethod yX2_isZero) (by decide +kernel)
  have k15 := hts (.selects RX2 yX2_isZero yX2_isZero) (by decide +kernel)
  have k16 := hN _ fkn_X0_51
  have k17 := hts (.instanceMethod yX2_isNegative) (by decide +kernel)
  have k18 := hts (.selects RX2 yX2_isNegative yX2_isNegative) (by decide +kernel)
  refine lv_iload_n hx hb dX0_isRoundedAway_0 rfl (lv_at hl 1 rfl) ?_
  refine lv_if_ne (tgt := 6) hx hb dX0_isRoundedAway_1 (by decide) (fun c_1 => ?_) (fun c_1 => ?_)
  · refine lv_iload_n hx hb dX0_isRoundedAway_6 rfl (lv_at hl 1 rfl) ?_
    refine lv_iconst (v := 1) hx hb dX0_isRoundedAway_7 (by decide) ?_
    refine lv_icmp_ne (tgt := 13) hx hb dX0_isRoundedAway_8 (by decide) (fun c_8 => ?_) (fun c_8 => ?_)
    · refine lv_aload_n hx hb dX0_isRoundedAway_13 rfl (lv_at hl 0 rfl) ?_
      refine va_get (D := D) (ci := 1) (v := .ref (ad 4)) (C := RX0) (T := TX0) (N := 2) hx hb hts k2 hown hK hP 3 rfl rfl 0 (by decide) k1 (fun _ h9 => h9) rfl dX0_isRoundedAway_14 ?_
      refine lv_ldc2 (v := 2) hx hb hown k3 dX0_isRoundedAway_17 ?_
      refine fk_cv hD hS hA (va_runVN (As := [.long 2]) (rest := []) ⟨hx, hb, hml, hown, hts⟩ (kX2_scale _ _ (ad 4) (ad 5) 4 5 f1 2 (a) rfl rfl hRa (by decide)) ⟨va_cnB 1 hts gX0_isRoundedAway_X2_scale_n35 rfl rfl rfl k4 k5 (by decide +kernel) ⟨Nat.le_of_ble_eq_true rfl, Nat.le_of_ble_eq_true rfl⟩, k6, k7⟩ (fk_preV 4 3 hK hN hP hD rfl rfl) rfl rfl hl.1 rfl (lv_room (Nat.le_of_ble_eq_true rfl)) dX0_isRoundedAway_20 ⟨Nat.le_of_ble_eq_true rfl, Nat.le_of_ble_eq_true rfl⟩) (fun g1 H locs hw hP hD hS => ?_)
      have hP : va_P D vwCl (fk_wx cJ cC cK ad kd kc lo ch ts g1 f2 f3 f4 f5 ++ tl) H := hP
      have hD : va_D A (fk_wx cJ cC cK ad kd kc lo ch ts g1 f2 f3 f4 f5 ++ tl) := hD
      rw [show (2 : Int64).toInt = 2 by decide] at hw
      have hRg1 := hw
      refine lv_aload_n hx hb dX0_isRoundedAway_23 rfl (lv_at hl 0 rfl) ?_
      refine va_get (D := D) (ci := 1) (v := .ref (ad 4)) (C := RX0) (T := TX0) (N := 2) hx hb hts k2 hown hK hP 3 rfl rfl 0 (by decide) k1 (fun _ h9 => h9) rfl dX0_isRoundedAway_24 ?_
      refine lv_aload_n hx hb dX0_isRoundedAway_27 rfl (lv_at hl 0 rfl) ?_
      refine va_get (D := D) (ci := 1) (v := .ref (ad 6)) (C := RX0) (T := TX0) (N := 2) hx hb hts k2 hown hK hP 3 rfl rfl 1 (by decide) k8 (fun _ h9 => h9) rfl dX0_isRoundedAway_28 ?_
      refine lv_ldc2 (v := (-1)) hx hb hown k9 dX0_isRoundedAway_31 ?_
      refine fk_cv hD hS hA (va_runVN (As := [.ref (ad 6), .long (-1)]) (rest := []) ⟨hx, hb, hml, hown, hts⟩ (kX2_addTimes _ _ (ad 4) (ad 5) (ad 6) (ad 7) 4 5 6 7 g1 f2 (-1) ((a) * 2) (b) rfl rfl rfl rfl (by decide) hRg1 hRb (by decide)) ⟨va_cnB 2 hts gX0_isRoundedAway_X2_addTimes_n58 rfl rfl rfl k10 k5 (by decide +kernel) ⟨Nat.le_of_ble_eq_true rfl, Nat.le_of_ble_eq_true rfl⟩, k11, k12⟩ (fk_preV 4 3 hK hN hP hD rfl rfl) rfl rfl hl.1 rfl (lv_room (Nat.le_of_ble_eq_true rfl)) dX0_isRoundedAway_34 ⟨Nat.le_of_ble_eq_true rfl, Nat.le_of_ble_eq_true rfl⟩) (fun g3 H locs hw hP hD hS => ?_)
      have hP : va_P D vwCl (fk_wx cJ cC cK ad kd kc lo ch ts g3 f2 f3 f4 f5 ++ tl) H := hP
      have hD : va_D A (fk_wx cJ cC cK ad kd kc lo ch ts g3 f2 f3 f4 f5 ++ tl) := hD
      rw [show ((-1) : Int64).toInt = (-1) by decide] at hw
      have hRg3 := hw
      refine lv_aload_n hx hb dX0_isRoundedAway_37 rfl (lv_at hl 0 rfl) ?_
      refine va_get (D := D) (ci := 1) (v := .ref (ad 4)) (C := RX0) (T := TX0) (N := 2) hx hb hts k2 hown hK hP 3 rfl rfl 0 (by decide) k1 (fun _ h9 => h9) rfl dX0_isRoundedAway_38 ?_
      refine fk_ci hD hS hA (va_runVN (As := []) (rest := []) ⟨hx, hb, hml, hown, hts⟩ (kX2_isZero _ _ (ad 4) (ad 5) 4 5 g3 (((a) * 2) + (b) * (-1)) rfl rfl hRg3 hI) ⟨va_cnB 0 hts gX0_isRoundedAway_X2_isZero_n47 rfl rfl rfl k13 k5 (by decide +kernel) ⟨Nat.le_of_ble_eq_true rfl, Nat.le_of_ble_eq_true rfl⟩, k14, k15⟩ (fk_preV 4 3 hK hN hP hD rfl rfl) rfl rfl hl.1 rfl (lv_room (Nat.le_of_ble_eq_true rfl)) dX0_isRoundedAway_41 ⟨Nat.le_of_ble_eq_true rfl, Nat.le_of_ble_eq_true rfl⟩) (fun r5 u H locs hw hP hD hS => ?_)
      have hP : va_P D vwCl (fk_wx cJ cC cK ad kd kc lo ch ts g3 f2 f3 f4 f5 ++ tl) H := hP
      have hD : va_D A (fk_wx cJ cC cK ad kd kc lo ch ts g3 f2 f3 f4 f5 ++ tl) := hD
      have z := hw
      refine lv_if_eq (tgt := 62) hx hb dX0_isRoundedAway_44 (by decide) (fun c_44 => ?_) (fun c_44 => ?_)
      · have p_c_44 : ¬ ((a) * 2) + (b) * (-1) = 0 := by intro q; rw [z, if_pos q] at c_44; exact absurd c_44 (by decide)
        refine lv_aload_n hx hb dX0_isRoundedAway_62 rfl (lv_at hl 0 rfl) ?_
        refine va_get (D := D) (ci := 1) (v := .ref (ad 4)) (C := RX0) (T := TX0) (N := 2) hx hb hts k2 hown hK hP 3 rfl rfl 0 (by decide) k1 (fun _ h9 => h9) rfl dX0_isRoundedAway_63 ?_
        refine fk_ci hD hS hA (va_runVN (As := []) (rest := []) ⟨hx, hb, hml, hown, hts⟩ (kX2_isNegative _ _ (ad 4) (ad 5) 4 5 g3 (((a) * 2) + (b) * (-1)) rfl rfl hRg3 hI) ⟨va_cnB 0 hts gX0_isRoundedAway_X2_isNegative_n51 rfl rfl rfl k16 k5 (by decide +kernel) ⟨Nat.le_of_ble_eq_true rfl, Nat.le_of_ble_eq_true rfl⟩, k17, k18⟩ (fk_preV 4 3 hK hN hP hD rfl rfl) rfl rfl hl.1 rfl (lv_room (Nat.le_of_ble_eq_true rfl)) dX0_isRoundedAway_66 ⟨Nat.le_of_ble_eq_true rfl, Nat.le_of_ble_eq_true rfl⟩) (fun r6 u H locs hw hP hD hS => ?_)
        have hP : va_P D vwCl (fk_wx cJ cC cK ad kd kc lo ch ts g3 f2 f3 f4 f5 ++ tl) H := hP
        have hD : va_D A (fk_wx cJ cC cK ad kd kc lo ch ts g3 f2 f3 f4 f5 ++ tl) := hD
        have z2 := hw
        refine lv_if_ne (tgt := 76) hx hb dX0_isRoundedAway_69 (by decide) (fun c_69 => ?_) (fun c_69 => ?_)
        · have p_c_69 : ((a) * 2) + (b) * (-1) < 0 := by by_cases q : ((a) * 2) + (b) * (-1) < 0; exact q; rw [z2, if_neg q] at c_69; exact absurd rfl c_69
          refine lv_iconst (v := 0) hx hb dX0_isRoundedAway_76 (by decide) ?_
          rw [hQQ]
          exact W.zret (v := 0) hx hb hr rfl (fun t ht hW => ⟨⟨0, g3, rfl, (by rw [fk_aw, if_neg c_1, if_neg c_8, if_neg (by omega), if_pos (by omega)]), by rw [ht]; exact hP, va_K.moved hW.alike hK, hD⟩, hS.F ht⟩) hS.2.2 dX0_isRoundedAway_77
        · have p_c_69 : ¬ ((a) * 2) + (b) * (-1) < 0 := by intro q; rw [z2, if_pos q] at c_69; exact absurd c_69 (by decide)
          refine lv_iconst (v := 1) hx hb dX0_isRoundedAway_72 (by decide) ?_
          refine lv_goto (tgt := 77) hx hb dX0_isRoundedAway_73 (by decide) ?_
          rw [hQQ]
          exact W.zret (v := 1) hx hb hr rfl (fun t ht hW => ⟨⟨1, g3, rfl, (by rw [fk_aw, if_neg c_1, if_neg c_8, if_neg (by omega), if_neg (by omega)]), by rw [ht]; exact hP, va_K.moved hW.alike hK, hD⟩, hS.F ht⟩) hS.2.2 dX0_isRoundedAway_77
      · have p_c_44 : ((a) * 2) + (b) * (-1) = 0 := by by_cases q : ((a) * 2) + (b) * (-1) = 0; exact q; rw [z, if_neg q] at c_44; exact absurd rfl c_44
        refine lv_iload_n hx hb dX0_isRoundedAway_47 rfl (lv_at hl 1 rfl) ?_
        refine lv_iconst (v := 2) hx hb dX0_isRoundedAway_48 (by decide) ?_
        refine lv_icmp_eq (tgt := 56) hx hb dX0_isRoundedAway_49 (by decide) (fun c_49 => ?_) (fun c_49 => ?_)
        · refine lv_iconst (v := 1) hx hb dX0_isRoundedAway_56 (by decide) ?_
          refine lv_goto (tgt := 61) hx hb dX0_isRoundedAway_57 (by decide) ?_
          rw [hQQ]
          exact W.zret (v := 1) hx hb hr rfl (fun t ht hW => ⟨⟨1, g3, rfl, (by rw [fk_aw, if_neg c_1, if_neg c_8, if_pos (by omega), if_pos (Or.inl c_49)]), by rw [ht]; exact hP, va_K.moved hW.alike hK, hD⟩, hS.F ht⟩) hS.2.2 dX0_isRoundedAway_61
        · refine lv_iload_n hx hb dX0_isRoundedAway_52 rfl (lv_at hl 3 rfl) ?_
          refine lv_if_eq (tgt := 60) hx hb dX0_isRoundedAway_53 (by decide) (fun c_53 => ?_) (fun c_53 => ?_)
          · refine lv_iconst (v := 0) hx hb dX0_isRoundedAway_60 (by decide) ?_
            rw [hQQ]
            exact W.zret (v := 0) hx hb hr rfl (fun t ht hW => ⟨⟨0, g3, rfl, (by rw [fk_aw, if_neg c_1, if_neg c_8, if_pos (by omega), if_neg (fun q => q.elim c_49 (fun z => z c_53))]), by rw [ht]; exact hP, va_K.moved hW.alike hK, hD⟩, hS.F ht⟩) hS.2.2 dX0_isRoundedAway_61
          · refine lv_iconst (v := 1) hx hb dX0_isRoundedAway_56 (by decide) ?_
            refine lv_goto (tgt := 61) hx hb dX0_isRoundedAway_57 (by decide) ?_
            rw [hQQ]
            exact W.zret (v := 1) hx hb hr rfl (fun t ht hW => ⟨⟨1, g3, rfl, (by rw [fk_aw, if_neg c_1, if_neg c_8, if_pos (by omega), if_pos (Or.inr c_53)]), by rw [ht]; exact hP, va_K.moved hW.alike hK, hD⟩, hS.F ht⟩) hS.2.2 dX0_isRoundedAway_61
    · refine lv_iload_n hx hb dX0_isRoundedAway_11 rfl (lv_at hl 2 rfl) ?_
      rw [hQQ]
      exact W.zret (v := ng) hx hb hr (by rcases hng with q | q <;> rw [q] <;> rfl) (fun t ht hW => ⟨⟨ng, f1, rfl, (by rw [fk_aw, if_neg c_1, if_pos c_8]), by rw [ht]; exact hP, va_K.moved hW.alike hK, hD⟩, hS.F ht⟩) hS.2.2 dX0_isRoundedAway_12
  · refine lv_iconst (v := 0) hx hb dX0_isRoundedAway_4 (by decide) ?_
    rw [hQQ]
    exact W.zret (v := 0) hx hb hr rfl (fun t ht hW => ⟨⟨0, f1, rfl, (by rw [fk_aw, if_pos c_1]), by rw [ht]; exact hP, va_K.moved hW.alike hK, hD⟩, hS.F ht⟩) hS.2.2 dX0_isRoundedAway_5
theorem fk_up01 (rd : Int32) (a b : Int) : fk_up rd a b = 0 ∨ fk_up rd a b = 1 := by
  rw [fk_up, fk_aw]
  repeat' split
  all_goals first | exact Or.inl rfl | exact Or.inr rfl
abbrev rmX0_round : Room := { frames := 4, cells := 0, slots := 0, locals := 95 }
set_option maxHeartbeats 4000000 in
set_option maxRecDepth 100000 in
/-- Fraction.round -/
theorem kX0_round {l : Launch} {D : va_G} {cJ cC cI cZ cK : ClassId} (sz : Nat) (ad : Nat → Nat) (tl : va_W) (kd : Nat → Option Nat) (kc lo : Int32) (ch : Nat → Int32) (ts : Int32) (f1 f2 f3 f4 f5 : Nat → Int64) (rd : Int32) (a b : Int) (hRa : fk_R a f1) (hRb : fk_R b f2) (hI : fk_In a ∧ fk_In (-a)) (hb0 : 0 < b) (hIb : fk_In b) (hIb2 : fk_In (2 * b)) : Met l yX0_round wsX0_round rmX0_round (va_Pc [.ref (ad 3), .int rd, .ref (ad 13)] (fk_pre D (fk_ty cJ cC cI cZ cK) (fk_wx cJ cC cK ad kd kc lo ch ts f1 f2 f3 f4 f5 ++ tl) sz)) (va_Qi (fun (r : Int32) (u : (Nat → Int64) × (Nat → Int64)) => r = (if a % b = 0 then 1 else 0) ∧ fk_R (fk_round rd a b) u.2) (fk_Bd D (fk_ty cJ cC cI cZ cK) (va_A (fk_wx cJ cC cK ad kd kc lo ch ts f1 f2 f3 f4 f5 ++ tl) sz) (fun u : (Nat → Int64) × (Nat → Int64) => fk_wx cJ cC cK ad kd kc lo ch ts u.1 f2 f3 f4 u.2 ++ tl)) (va_A (fk_wx cJ cC cK ad kd kc lo ch ts f1 f2 f3 f4 f5 ++ tl) sz)) 0 0 (va_A (fk_wx cJ cC cK ad kd kc lo ch ts f1 f2 f3 f4 f5 ++ tl) sz) := by
  refine fk_ofW cX0_round 5 (some .boolean) (fun A => va_Qi (fun (r : Int32) (u : (Nat → Int64) × (Nat → Int64)) => r = (if a % b = 0 then 1 else 0) ∧ fk_R (fk_round rd a b) u.2) (fk_Bd D (fk_ty cJ cC cI cZ cK) A (fun u : (Nat → Int64) × (Nat → Int64) => fk_wx cJ cC cK ad kd kc lo ch ts u.1 f2 f3 f4 u.2 ++ tl)) A) rfl (by decide) (Nat.le_of_ble_eq_true rfl) ?_
  intro p e s m below meth c A ls args QQ hQQ hAt hP hK hN hD hA hS hl
  obtain ⟨⟨hx, hb, hml, hown, hts⟩, hr, hlocks, hin⟩ := hAt
  have hl : lv_has ls 5 [(0, .ref (ad 3)), (1, .int rd), (2, .ref (ad 13))] := hl
  have k1 := hts (.fieldLink RX0 12 "FixedKinds$Fraction" "above" "LFixedKinds$Whole;") (by decide +kernel)
  have k2 := (by decide +kernel : ∀ w ∈ u_ws RX0 TX0 2, w ∈ wsX0_round)
  have k3 := hN _ fkn_X0_51
  have k4 := hts (.initialized RX2) (by decide +kernel)
  have k5 := hts (.instanceMethod yX2_isNegative) (by decide +kernel)
  have k6 := hts (.selects RX2 yX2_isNegative yX2_isNegative) (by decide +kernel)
  have k7 := hts (.fieldLink RX0 18 "FixedKinds$Fraction" "below" "LFixedKinds$Whole;") (by decide +kernel)
  have k8 := hN _ fkn_X0_64
  have k9 := hts (.instanceMethod yX2_divide) (by decide +kernel)
  have k10 := hts (.selects RX2 yX2_divide yX2_divide) (by decide +kernel)
  have k11 := hN _ fkn_X0_47
  have k12 := hts (.instanceMethod yX2_isZero) (by decide +kernel)
  have k13 := hts (.selects RX2 yX2_isZero yX2_isZero) (by decide +kernel)
  have k14 := hts (.constantLong RX0 62 (-1)) (by decide +kernel)
  have k15 := hN _ fkn_X0_35
  have k16 := hts (.instanceMethod yX2_scale) (by decide +kernel)
  have k17 := hts (.selects RX2 yX2_scale yX2_scale) (by decide +kernel)
  have k18 := hN _ fkn_X0_68
  have k19 := hts (.instanceMethod yX2_isOdd) (by decide +kernel)
  have k20 := hts (.selects RX2 yX2_isOdd yX2_isOdd) (by decide +kernel)
  have k21 := hN _ fkn_X0_44
  have k22 := hts (.instanceMethod yX2_grow) (by decide +kernel)
  have k23 := hts (.selects RX2 yX2_grow yX2_grow) (by decide +kernel)
  obtain ⟨hI, hIn⟩ := hI
  obtain ⟨hIa1, hIa2⟩ := id hI
  obtain ⟨hIn1, hIn2⟩ := id hIn
  refine lv_aload_n hx hb dX0_round_0 rfl (lv_at hl 0 rfl) ?_
  refine va_get (D := D) (ci := 1) (v := .ref (ad 4)) (C := RX0) (T := TX0) (N := 2) hx hb hts k2 hown hK hP 3 rfl rfl 0 (by decide) k1 (fun _ h9 => h9) rfl dX0_round_1 ?_
  refine fk_ci hD hS hA (va_runVN (As := []) (rest := []) ⟨hx, hb, hml, hown, hts⟩ (kX2_isNegative _ _ (ad 4) (ad 5) 4 5 f1 (a) rfl rfl hRa hI) ⟨va_cnB 0 hts gX0_round_X2_isNegative_n51 rfl rfl rfl k3 k4 (by decide +kernel) ⟨Nat.le_of_ble_eq_true rfl, Nat.le_of_ble_eq_true rfl⟩, k5, k6⟩ (fk_preV 4 3 hK hN hP hD rfl rfl) rfl rfl hl.1 rfl (lv_room (Nat.le_of_ble_eq_true rfl)) dX0_round_4 ⟨Nat.le_of_ble_eq_true rfl, Nat.le_of_ble_eq_true rfl⟩) (fun r1 u H locs hw hP hD hS => ?_)
  have hP : va_P D vwCl (fk_wx cJ cC cK ad kd kc lo ch ts f1 f2 f3 f4 f5 ++ tl) H := hP
  have hD : va_D A (fk_wx cJ cC cK ad kd kc lo ch ts f1 f2 f3 f4 f5 ++ tl) := hD
  have z0 := hw
  refine lv_istore_n (lv' := [(3, .int r1), (0, .ref (ad 3)), (1, .int rd), (2, .ref (ad 13))]) hx hb dX0_round_7 rfl hl (by decide) rfl (fun ls hl => ?_)
  refine lv_iload_n hx hb dX0_round_8 rfl (lv_at hl 0 rfl) ?_
  refine lv_if_eq (tgt := 22) hx hb dX0_round_9 (by decide) (fun c_9 => ?_) (fun c_9 => ?_)
  · have p_c_9 : ¬ (a < 0) := by intro q; rw [z0, if_pos q] at c_9; exact absurd c_9 (by decide)
    have hAe : fk_abs a = a := by rw [fk_abs, if_neg p_c_9]
    have hA0 : 0 ≤ fk_abs a := by rw [hAe]; omega
    have hAI : fk_In (fk_abs a) := by rw [hAe]; exact ⟨by omega, by omega⟩
    rw [← hAe] at hRa
    refine lv_aload_n hx hb dX0_round_22 rfl (lv_at hl 1 rfl) ?_
    refine va_get (D := D) (ci := 1) (v := .ref (ad 4)) (C := RX0) (T := TX0) (N := 2) hx hb hts k2 hown hK hP 3 rfl rfl 0 (by decide) k1 (fun _ h9 => h9) rfl dX0_round_23 ?_
    refine lv_aload_n hx hb dX0_round_26 rfl (lv_at hl 1 rfl) ?_
    refine va_get (D := D) (ci := 1) (v := .ref (ad 6)) (C := RX0) (T := TX0) (N := 2) hx hb hts k2 hown hK hP 3 rfl rfl 1 (by decide) k7 (fun _ h9 => h9) rfl dX0_round_27 ?_
    refine lv_aload_n hx hb dX0_round_30 rfl (lv_at hl 3 rfl) ?_
    refine fk_cv hD hS hA (va_runVN (As := [.ref (ad 6), .ref (ad 13)]) (rest := []) ⟨hx, hb, hml, hown, hts⟩ (kX2_divide _ _ (ad 4) (ad 5) (ad 6) (ad 7) (ad 13) (ad 14) 4 5 6 7 13 14 f1 f2 f5 (fk_abs a) b rfl rfl rfl rfl rfl rfl (by decide) (by decide) (by decide) hRa hAI hA0 hRb hb0 hIb) ⟨va_cnB 2 hts gX0_round_X2_divide_n64 rfl rfl rfl k8 k4 (by decide +kernel) ⟨Nat.le_of_ble_eq_true rfl, Nat.le_of_ble_eq_true rfl⟩, k9, k10⟩ (fk_preV 4 3 hK hN hP hD rfl rfl) rfl rfl hl.1 rfl (lv_room (Nat.le_of_ble_eq_true rfl)) dX0_round_31 ⟨Nat.le_of_ble_eq_true rfl, Nat.le_of_ble_eq_true rfl⟩) (fun u4 H locs hw hP hD hS => ?_)
    have hP : va_P D vwCl (fk_wx cJ cC cK ad kd kc lo ch ts u4.1 f2 f3 f4 u4.2 ++ tl) H := hP
    have hD : va_D A (fk_wx cJ cC cK ad kd kc lo ch ts u4.1 f2 f3 f4 u4.2 ++ tl) := hD
    obtain ⟨hrem, hquo⟩ := hw
    have hm0 := Int.emod_nonneg (fk_abs a) (show b ≠ 0 by omega)
    have hm1 := Int.emod_lt_of_pos (fk_abs a) hb0
    have hmI : fk_In (fk_abs a % b) := ⟨by omega, by have := hIb.2; omega⟩
    have hq0 : 0 ≤ fk_abs a / b := Int.ediv_nonneg hA0 (by omega)
    refine lv_aload_n hx hb dX0_round_34 rfl (lv_at hl 1 rfl) ?_
    refine va_get (D := D) (ci := 1) (v := .ref (ad 4)) (C := RX0) (T := TX0) (N := 2) hx hb hts k2 hown hK hP 3 rfl rfl 0 (by decide) k1 (fun _ h9 => h9) rfl dX0_round_35 ?_
    refine fk_ci hD hS hA (va_runVN (As := []) (rest := []) ⟨hx, hb, hml, hown, hts⟩ (kX2_isZero _ _ (ad 4) (ad 5) 4 5 u4.1 (fk_abs a % b) rfl rfl hrem hmI) ⟨va_cnB 0 hts gX0_round_X2_isZero_n47 rfl rfl rfl k11 k4 (by decide +kernel) ⟨Nat.le_of_ble_eq_true rfl, Nat.le_of_ble_eq_true rfl⟩, k12, k13⟩ (fk_preV 4 3 hK hN hP hD rfl rfl) rfl rfl hl.1 rfl (lv_room (Nat.le_of_ble_eq_true rfl)) dX0_round_38 ⟨Nat.le_of_ble_eq_true rfl, Nat.le_of_ble_eq_true rfl⟩) (fun r6 u H locs hw hP hD hS => ?_)
    have hP : va_P D vwCl (fk_wx cJ cC cK ad kd kc lo ch ts u4.1 f2 f3 f4 u4.2 ++ tl) H := hP
    have hD : va_D A (fk_wx cJ cC cK ad kd kc lo ch ts u4.1 f2 f3 f4 u4.2 ++ tl) := hD
    have z1 := hw
    refine lv_istore (lv' := [(4, .int r6), (3, .int r1), (0, .ref (ad 3)), (1, .int rd), (2, .ref (ad 13))]) hx hb dX0_round_41 hl (by decide) rfl (fun ls hl => ?_)
    refine lv_iload hx hb dX0_round_43 (lv_at hl 0 rfl) ?_
    refine lv_if_ne (tgt := 66) hx hb dX0_round_45 (by decide) (fun c_45 => ?_) (fun c_45 => ?_)
    · have p_c_45 : fk_abs a % b = 0 := by by_cases q : fk_abs a % b = 0; exact q; rw [z1, if_neg q] at c_45; exact absurd rfl c_45
      have hex : a % b = 0 := (fk_abs_mod a hb0).mp p_c_45
      have hup : fk_up rd a b = 0 := by rw [fk_up, if_pos hex]
      have hv : fk_R (fk_abs a / b + (fk_up rd a b).toInt) u4.2 := by rw [hup, show (0 : Int32).toInt = 0 by decide]; simpa using hquo
      refine lv_iload_n hx hb dX0_round_66 rfl (lv_at hl 1 rfl) ?_
      refine lv_if_eq (tgt := 77) hx hb dX0_round_67 (by decide) (fun c_67 => ?_) (fun c_67 => ?_)
      · have p_c_67 : ¬ (a < 0) := by intro q; rw [z0, if_pos q] at c_67; exact absurd c_67 (by decide)
        refine lv_iload hx hb dX0_round_77 (lv_at hl 0 rfl) ?_
        rw [hQQ]
        exact W.zret (v := r6) hx hb hr (by rw [z1]; split <;> rfl) (fun t ht hW => ⟨⟨r6, (u4.1, u4.2), rfl, ⟨(by rw [z1]; by_cases q : a % b = 0; rw [if_pos q, if_pos ((fk_abs_mod a hb0).mpr q)]; rw [if_neg q, if_neg (fun z => q ((fk_abs_mod a hb0).mp z))]), (by rw [fk_round, if_neg p_c_67]; simpa using hv)⟩, by rw [ht]; exact hP, va_K.moved hW.alike hK, hD⟩, hS.F ht⟩) hS.2.2 dX0_round_79
      · have p_c_67 : a < 0 := by by_cases q : a < 0; exact q; rw [z0, if_neg q] at c_67; exact absurd rfl c_67
        refine lv_aload_n hx hb dX0_round_70 rfl (lv_at hl 4 rfl) ?_
        refine lv_ldc2 (v := (-1)) hx hb hown k14 dX0_round_71 ?_
        refine fk_cv hD hS hA (va_runVN (As := [.long (-1)]) (rest := []) ⟨hx, hb, hml, hown, hts⟩ (kX2_scale _ _ (ad 13) (ad 14) 13 14 u4.2 (-1) (fk_abs a / b + (fk_up rd a b).toInt) rfl rfl hv (by decide)) ⟨va_cnB 1 hts gX0_round_X2_scale_n35 rfl rfl rfl k15 k4 (by decide +kernel) ⟨Nat.le_of_ble_eq_true rfl, Nat.le_of_ble_eq_true rfl⟩, k16, k17⟩ (fk_preV 13 3 hK hN hP hD rfl rfl) rfl rfl hl.1 rfl (lv_room (Nat.le_of_ble_eq_true rfl)) dX0_round_74 ⟨Nat.le_of_ble_eq_true rfl, Nat.le_of_ble_eq_true rfl⟩) (fun g7 H locs hw hP hD hS => ?_)
        have hP : va_P D vwCl (fk_wx cJ cC cK ad kd kc lo ch ts u4.1 f2 f3 f4 g7 ++ tl) H := hP
        have hD : va_D A (fk_wx cJ cC cK ad kd kc lo ch ts u4.1 f2 f3 f4 g7 ++ tl) := hD
        rw [show ((-1) : Int64).toInt = (-1) by decide] at hw
        have hRg7 := hw
        refine lv_iload hx hb dX0_round_77 (lv_at hl 0 rfl) ?_
        rw [hQQ]
        exact W.zret (v := r6) hx hb hr (by rw [z1]; split <;> rfl) (fun t ht hW => ⟨⟨r6, (u4.1, g7), rfl, ⟨(by rw [z1]; by_cases q : a % b = 0; rw [if_pos q, if_pos ((fk_abs_mod a hb0).mpr q)]; rw [if_neg q, if_neg (fun z => q ((fk_abs_mod a hb0).mp z))]), (by rw [fk_round, if_pos p_c_67]; exact hRg7)⟩, by rw [ht]; exact hP, va_K.moved hW.alike hK, hD⟩, hS.F ht⟩) hS.2.2 dX0_round_79
    · have p_c_45 : ¬ (fk_abs a % b = 0) := by intro q; rw [z1, if_pos q] at c_45; exact absurd c_45 (by decide)
      have hex : ¬ a % b = 0 := fun q => p_c_45 ((fk_abs_mod a hb0).mpr q)
      refine lv_aload_n hx hb dX0_round_48 rfl (lv_at hl 2 rfl) ?_
      refine lv_iload_n hx hb dX0_round_49 rfl (lv_at hl 3 rfl) ?_
      refine lv_iload_n hx hb dX0_round_50 rfl (lv_at hl 1 rfl) ?_
      refine lv_aload_n hx hb dX0_round_51 rfl (lv_at hl 4 rfl) ?_
      refine fk_ci hD hS hA (va_runVN (As := []) (rest := [.int r1, .int rd, .ref (ad 3)]) ⟨hx, hb, hml, hown, hts⟩ (kX2_isOdd _ _ (ad 13) (ad 14) 13 14 u4.2 (fk_abs a / b) rfl rfl hquo ) ⟨va_cnB 0 hts gX0_round_X2_isOdd_n68 rfl rfl rfl k18 k4 (by decide +kernel) ⟨Nat.le_of_ble_eq_true rfl, Nat.le_of_ble_eq_true rfl⟩, k19, k20⟩ (fk_preV 13 3 hK hN hP hD rfl rfl) rfl rfl hl.1 rfl (lv_room (Nat.le_of_ble_eq_true rfl)) dX0_round_52 ⟨Nat.le_of_ble_eq_true rfl, Nat.le_of_ble_eq_true rfl⟩) (fun r9 u H locs hw hP hD hS => ?_)
      have hP : va_P D vwCl (fk_wx cJ cC cK ad kd kc lo ch ts u4.1 f2 f3 f4 u4.2 ++ tl) H := hP
      have hD : va_D A (fk_wx cJ cC cK ad kd kc lo ch ts u4.1 f2 f3 f4 u4.2 ++ tl) := hD
      have z3 := hw
      refine fk_ci hD hS hA (va_runV (As := [.int rd, .int r1, .int r9]) (rest := []) ⟨hx, hb, hml, hown, hts⟩ (kX0_isRoundedAway _ ad tl kd kc lo ch ts u4.1 f2 f3 f4 u4.2 rd r1 r9 _ b hrem hRb ⟨by have := hIb2.1; have := hIb2.2; omega, by have := hIb2.1; have := hIb2.2; omega⟩ (by rw [z0]; split <;> first | exact Or.inr rfl | exact Or.inl rfl)) (cwV 3 hts gX0_round_X0_isRoundedAway rfl rfl rfl (by decide +kernel) ⟨Nat.le_of_ble_eq_true rfl, Nat.le_of_ble_eq_true rfl⟩) (fk_preV 3 1 hK hN hP hD rfl rfl) rfl rfl hl.1 rfl (lv_room (Nat.le_of_ble_eq_true rfl)) dX0_round_55 ⟨Nat.le_of_ble_eq_true rfl, Nat.le_of_ble_eq_true rfl⟩) (fun r11 g10 H locs hw hP hD hS => ?_)
      have hP : va_P D vwCl (fk_wx cJ cC cK ad kd kc lo ch ts g10 f2 f3 f4 u4.2 ++ tl) H := hP
      have hD : va_D A (fk_wx cJ cC cK ad kd kc lo ch ts g10 f2 f3 f4 u4.2 ++ tl) := hD
      have hup : r11 = fk_up rd a b := by rw [hw, fk_up, if_neg hex, z0, z3]
      refine lv_if_eq (tgt := 66) hx hb dX0_round_58 (by decide) (fun c_58 => ?_) (fun c_58 => ?_)
      · have hup0 : fk_up rd a b = 0 := by rw [← hup]; exact c_58
        have hv : fk_R (fk_abs a / b + (fk_up rd a b).toInt) u4.2 := by rw [hup0, show (0 : Int32).toInt = 0 by decide]; simpa using hquo
        refine lv_iload_n hx hb dX0_round_66 rfl (lv_at hl 1 rfl) ?_
        refine lv_if_eq (tgt := 77) hx hb dX0_round_67 (by decide) (fun c_67 => ?_) (fun c_67 => ?_)
        · have p_c_67 : ¬ (a < 0) := by intro q; rw [z0, if_pos q] at c_67; exact absurd c_67 (by decide)
          refine lv_iload hx hb dX0_round_77 (lv_at hl 0 rfl) ?_
          rw [hQQ]
          exact W.zret (v := r6) hx hb hr (by rw [z1]; split <;> rfl) (fun t ht hW => ⟨⟨r6, (g10, u4.2), rfl, ⟨(by rw [z1]; by_cases q : a % b = 0; rw [if_pos q, if_pos ((fk_abs_mod a hb0).mpr q)]; rw [if_neg q, if_neg (fun z => q ((fk_abs_mod a hb0).mp z))]), (by rw [fk_round, if_neg p_c_67]; simpa using hv)⟩, by rw [ht]; exact hP, va_K.moved hW.alike hK, hD⟩, hS.F ht⟩) hS.2.2 dX0_round_79
        · have p_c_67 : a < 0 := by by_cases q : a < 0; exact q; rw [z0, if_neg q] at c_67; exact absurd rfl c_67
          refine lv_aload_n hx hb dX0_round_70 rfl (lv_at hl 4 rfl) ?_
          refine lv_ldc2 (v := (-1)) hx hb hown k14 dX0_round_71 ?_
          refine fk_cv hD hS hA (va_runVN (As := [.long (-1)]) (rest := []) ⟨hx, hb, hml, hown, hts⟩ (kX2_scale _ _ (ad 13) (ad 14) 13 14 u4.2 (-1) (fk_abs a / b + (fk_up rd a b).toInt) rfl rfl hv (by decide)) ⟨va_cnB 1 hts gX0_round_X2_scale_n35 rfl rfl rfl k15 k4 (by decide +kernel) ⟨Nat.le_of_ble_eq_true rfl, Nat.le_of_ble_eq_true rfl⟩, k16, k17⟩ (fk_preV 13 3 hK hN hP hD rfl rfl) rfl rfl hl.1 rfl (lv_room (Nat.le_of_ble_eq_true rfl)) dX0_round_74 ⟨Nat.le_of_ble_eq_true rfl, Nat.le_of_ble_eq_true rfl⟩) (fun g12 H locs hw hP hD hS => ?_)
          have hP : va_P D vwCl (fk_wx cJ cC cK ad kd kc lo ch ts g10 f2 f3 f4 g12 ++ tl) H := hP
          have hD : va_D A (fk_wx cJ cC cK ad kd kc lo ch ts g10 f2 f3 f4 g12 ++ tl) := hD
          rw [show ((-1) : Int64).toInt = (-1) by decide] at hw
          have hRg12 := hw
          refine lv_iload hx hb dX0_round_77 (lv_at hl 0 rfl) ?_
          rw [hQQ]
          exact W.zret (v := r6) hx hb hr (by rw [z1]; split <;> rfl) (fun t ht hW => ⟨⟨r6, (g10, g12), rfl, ⟨(by rw [z1]; by_cases q : a % b = 0; rw [if_pos q, if_pos ((fk_abs_mod a hb0).mpr q)]; rw [if_neg q, if_neg (fun z => q ((fk_abs_mod a hb0).mp z))]), (by rw [fk_round, if_pos p_c_67]; exact hRg12)⟩, by rw [ht]; exact hP, va_K.moved hW.alike hK, hD⟩, hS.F ht⟩) hS.2.2 dX0_round_79
      · have hup1 : fk_up rd a b = 1 := by
          have q : fk_up rd a b = 0 ∨ fk_up rd a b = 1 := fk_up01 rd a b
          rcases q with q | q
          · rw [q] at hup; exact absurd hup c_58
          · exact q
        refine lv_aload_n hx hb dX0_round_61 rfl (lv_at hl 4 rfl) ?_
        refine lv_lconst (v := 1) hx hb dX0_round_62 (by decide) ?_
        refine fk_cv hD hS hA (va_runVN (As := [.long 1]) (rest := []) ⟨hx, hb, hml, hown, hts⟩ (kX2_grow _ _ (ad 13) (ad 14) 13 14 u4.2 1 (fk_abs a / b) rfl rfl (fk_R_F hquo) (fk_R_T hquo) (by decide)) ⟨va_cnB 1 hts gX0_round_X2_grow_n44 rfl rfl rfl k21 k4 (by decide +kernel) ⟨Nat.le_of_ble_eq_true rfl, Nat.le_of_ble_eq_true rfl⟩, k22, k23⟩ (fk_preV 13 3 hK hN hP hD rfl rfl) rfl rfl hl.1 rfl (lv_room (Nat.le_of_ble_eq_true rfl)) dX0_round_63 ⟨Nat.le_of_ble_eq_true rfl, Nat.le_of_ble_eq_true rfl⟩) (fun g14 H locs hw hP hD hS => ?_)
        have hP : va_P D vwCl (fk_wx cJ cC cK ad kd kc lo ch ts g10 f2 f3 f4 g14 ++ tl) H := hP
        have hD : va_D A (fk_wx cJ cC cK ad kd kc lo ch ts g10 f2 f3 f4 g14 ++ tl) := hD
        rw [show (1 : Int64).toInt = 1 by decide] at hw
        have hRg14 := hw
        have hv : fk_R (fk_abs a / b + (fk_up rd a b).toInt) g14 := by rw [hup1, show (1 : Int32).toInt = 1 by decide]; exact hRg14
        refine lv_iload_n hx hb dX0_round_66 rfl (lv_at hl 1 rfl) ?_
        refine lv_if_eq (tgt := 77) hx hb dX0_round_67 (by decide) (fun c_67 => ?_) (fun c_67 => ?_)
        · have p_c_67 : ¬ (a < 0) := by intro q; rw [z0, if_pos q] at c_67; exact absurd c_67 (by decide)
          refine lv_iload hx hb dX0_round_77 (lv_at hl 0 rfl) ?_
          rw [hQQ]
          exact W.zret (v := r6) hx hb hr (by rw [z1]; split <;> rfl) (fun t ht hW => ⟨⟨r6, (g10, g14), rfl, ⟨(by rw [z1]; by_cases q : a % b = 0; rw [if_pos q, if_pos ((fk_abs_mod a hb0).mpr q)]; rw [if_neg q, if_neg (fun z => q ((fk_abs_mod a hb0).mp z))]), (by rw [fk_round, if_neg p_c_67]; simpa using hv)⟩, by rw [ht]; exact hP, va_K.moved hW.alike hK, hD⟩, hS.F ht⟩) hS.2.2 dX0_round_79
        · have p_c_67 : a < 0 := by by_cases q : a < 0; exact q; rw [z0, if_neg q] at c_67; exact absurd rfl c_67
          refine lv_aload_n hx hb dX0_round_70 rfl (lv_at hl 4 rfl) ?_
          refine lv_ldc2 (v := (-1)) hx hb hown k14 dX0_round_71 ?_
          refine fk_cv hD hS hA (va_runVN (As := [.long (-1)]) (rest := []) ⟨hx, hb, hml, hown, hts⟩ (kX2_scale _ _ (ad 13) (ad 14) 13 14 g14 (-1) (fk_abs a / b + (fk_up rd a b).toInt) rfl rfl hv (by decide)) ⟨va_cnB 1 hts gX0_round_X2_scale_n35 rfl rfl rfl k15 k4 (by decide +kernel) ⟨Nat.le_of_ble_eq_true rfl, Nat.le_of_ble_eq_true rfl⟩, k16, k17⟩ (fk_preV 13 3 hK hN hP hD rfl rfl) rfl rfl hl.1 rfl (lv_room (Nat.le_of_ble_eq_true rfl)) dX0_round_74 ⟨Nat.le_of_ble_eq_true rfl, Nat.le_of_ble_eq_true rfl⟩) (fun g16 H locs hw hP hD hS => ?_)
          have hP : va_P D vwCl (fk_wx cJ cC cK ad kd kc lo ch ts g10 f2 f3 f4 g16 ++ tl) H := hP
          have hD : va_D A (fk_wx cJ cC cK ad kd kc lo ch ts g10 f2 f3 f4 g16 ++ tl) := hD
          rw [show ((-1) : Int64).toInt = (-1) by decide] at hw
          have hRg16 := hw
          refine lv_iload hx hb dX0_round_77 (lv_at hl 0 rfl) ?_
          rw [hQQ]
          exact W.zret (v := r6) hx hb hr (by rw [z1]; split <;> rfl) (fun t ht hW => ⟨⟨r6, (g10, g16), rfl, ⟨(by rw [z1]; by_cases q : a % b = 0; rw [if_pos q, if_pos ((fk_abs_mod a hb0).mpr q)]; rw [if_neg q, if_neg (fun z => q ((fk_abs_mod a hb0).mp z))]), (by rw [fk_round, if_pos p_c_67]; exact hRg16)⟩, by rw [ht]; exact hP, va_K.moved hW.alike hK, hD⟩, hS.F ht⟩) hS.2.2 dX0_round_79
  · have p_c_9 : a < 0 := by by_cases q : a < 0; exact q; rw [z0, if_neg q] at c_9; exact absurd rfl c_9
    refine lv_aload_n hx hb dX0_round_12 rfl (lv_at hl 1 rfl) ?_
    refine va_get (D := D) (ci := 1) (v := .ref (ad 4)) (C := RX0) (T := TX0) (N := 2) hx hb hts k2 hown hK hP 3 rfl rfl 0 (by decide) k1 (fun _ h9 => h9) rfl dX0_round_13 ?_
    refine lv_ldc2 (v := (-1)) hx hb hown k14 dX0_round_16 ?_
    refine fk_cv hD hS hA (va_runVN (As := [.long (-1)]) (rest := []) ⟨hx, hb, hml, hown, hts⟩ (kX2_scale _ _ (ad 4) (ad 5) 4 5 f1 (-1) (a) rfl rfl hRa (by decide)) ⟨va_cnB 1 hts gX0_round_X2_scale_n35 rfl rfl rfl k15 k4 (by decide +kernel) ⟨Nat.le_of_ble_eq_true rfl, Nat.le_of_ble_eq_true rfl⟩, k16, k17⟩ (fk_preV 4 3 hK hN hP hD rfl rfl) rfl rfl hl.1 rfl (lv_room (Nat.le_of_ble_eq_true rfl)) dX0_round_19 ⟨Nat.le_of_ble_eq_true rfl, Nat.le_of_ble_eq_true rfl⟩) (fun g18 H locs hw hP hD hS => ?_)
    have hP : va_P D vwCl (fk_wx cJ cC cK ad kd kc lo ch ts g18 f2 f3 f4 f5 ++ tl) H := hP
    have hD : va_D A (fk_wx cJ cC cK ad kd kc lo ch ts g18 f2 f3 f4 f5 ++ tl) := hD
    rw [show ((-1) : Int64).toInt = (-1) by decide] at hw
    have hRg18 := hw
    have hAe : fk_abs a = a * -1 := by rw [fk_abs, if_pos p_c_9]; omega
    have hA0 : 0 ≤ fk_abs a := by rw [hAe]; omega
    have hAI : fk_In (fk_abs a) := by rw [hAe]; exact ⟨by omega, by omega⟩
    rw [← hAe] at hRg18
    refine lv_aload_n hx hb dX0_round_22 rfl (lv_at hl 1 rfl) ?_
    refine va_get (D := D) (ci := 1) (v := .ref (ad 4)) (C := RX0) (T := TX0) (N := 2) hx hb hts k2 hown hK hP 3 rfl rfl 0 (by decide) k1 (fun _ h9 => h9) rfl dX0_round_23 ?_
    refine lv_aload_n hx hb dX0_round_26 rfl (lv_at hl 1 rfl) ?_
    refine va_get (D := D) (ci := 1) (v := .ref (ad 6)) (C := RX0) (T := TX0) (N := 2) hx hb hts k2 hown hK hP 3 rfl rfl 1 (by decide) k7 (fun _ h9 => h9) rfl dX0_round_27 ?_
    refine lv_aload_n hx hb dX0_round_30 rfl (lv_at hl 3 rfl) ?_
    refine fk_cv hD hS hA (va_runVN (As := [.ref (ad 6), .ref (ad 13)]) (rest := []) ⟨hx, hb, hml, hown, hts⟩ (kX2_divide _ _ (ad 4) (ad 5) (ad 6) (ad 7) (ad 13) (ad 14) 4 5 6 7 13 14 g18 f2 f5 (fk_abs a) b rfl rfl rfl rfl rfl rfl (by decide) (by decide) (by decide) hRg18 hAI hA0 hRb hb0 hIb) ⟨va_cnB 2 hts gX0_round_X2_divide_n64 rfl rfl rfl k8 k4 (by decide +kernel) ⟨Nat.le_of_ble_eq_true rfl, Nat.le_of_ble_eq_true rfl⟩, k9, k10⟩ (fk_preV 4 3 hK hN hP hD rfl rfl) rfl rfl hl.1 rfl (lv_room (Nat.le_of_ble_eq_true rfl)) dX0_round_31 ⟨Nat.le_of_ble_eq_true rfl, Nat.le_of_ble_eq_true rfl⟩) (fun u22 H locs hw hP hD hS => ?_)
    have hP : va_P D vwCl (fk_wx cJ cC cK ad kd kc lo ch ts u22.1 f2 f3 f4 u22.2 ++ tl) H := hP
    have hD : va_D A (fk_wx cJ cC cK ad kd kc lo ch ts u22.1 f2 f3 f4 u22.2 ++ tl) := hD
    obtain ⟨hrem, hquo⟩ := hw
    have hm0 := Int.emod_nonneg (fk_abs a) (show b ≠ 0 by omega)
    have hm1 := Int.emod_lt_of_pos (fk_abs a) hb0
    have hmI : fk_In (fk_abs a % b) := ⟨by omega, by have := hIb.2; omega⟩
    have hq0 : 0 ≤ fk_abs a / b := Int.ediv_nonneg hA0 (by omega)
    refine lv_aload_n hx hb dX0_round_34 rfl (lv_at hl 1 rfl) ?_
    refine va_get (D := D) (ci := 1) (v := .ref (ad 4)) (C := RX0) (T := TX0) (N := 2) hx hb hts k2 hown hK hP 3 rfl rfl 0 (by decide) k1 (fun _ h9 => h9) rfl dX0_round_35 ?_
    refine fk_ci hD hS hA (va_runVN (As := []) (rest := []) ⟨hx, hb, hml, hown, hts⟩ (kX2_isZero _ _ (ad 4) (ad 5) 4 5 u22.1 (fk_abs a % b) rfl rfl hrem hmI) ⟨va_cnB 0 hts gX0_round_X2_isZero_n47 rfl rfl rfl k11 k4 (by decide +kernel) ⟨Nat.le_of_ble_eq_true rfl, Nat.le_of_ble_eq_true rfl⟩, k12, k13⟩ (fk_preV 4 3 hK hN hP hD rfl rfl) rfl rfl hl.1 rfl (lv_room (Nat.le_of_ble_eq_true rfl)) dX0_round_38 ⟨Nat.le_of_ble_eq_true rfl, Nat.le_of_ble_eq_true rfl⟩) (fun r24 u H locs hw hP hD hS => ?_)
    have hP : va_P D vwCl (fk_wx cJ cC cK ad kd kc lo ch ts u22.1 f2 f3 f4 u22.2 ++ tl) H := hP
    have hD : va_D A (fk_wx cJ cC cK ad kd kc lo ch ts u22.1 f2 f3 f4 u22.2 ++ tl) := hD
    have z1 := hw
    refine lv_istore (lv' := [(4, .int r24), (3, .int r1), (0, .ref (ad 3)), (1, .int rd), (2, .ref (ad 13))]) hx hb dX0_round_41 hl (by decide) rfl (fun ls hl => ?_)
    refine lv_iload hx hb dX0_round_43 (lv_at hl 0 rfl) ?_
    refine lv_if_ne (tgt := 66) hx hb dX0_round_45 (by decide) (fun c_45 => ?_) (fun c_45 => ?_)
    · have p_c_45 : fk_abs a % b = 0 := by by_cases q : fk_abs a % b = 0; exact q; rw [z1, if_neg q] at c_45; exact absurd rfl c_45
      have hex : a % b = 0 := (fk_abs_mod a hb0).mp p_c_45
      have hup : fk_up rd a b = 0 := by rw [fk_up, if_pos hex]
      have hv : fk_R (fk_abs a / b + (fk_up rd a b).toInt) u22.2 := by rw [hup, show (0 : Int32).toInt = 0 by decide]; simpa using hquo
      refine lv_iload_n hx hb dX0_round_66 rfl (lv_at hl 1 rfl) ?_
      refine lv_if_eq (tgt := 77) hx hb dX0_round_67 (by decide) (fun c_67 => ?_) (fun c_67 => ?_)
      · have p_c_67 : ¬ (a < 0) := by intro q; rw [z0, if_pos q] at c_67; exact absurd c_67 (by decide)
        refine lv_iload hx hb dX0_round_77 (lv_at hl 0 rfl) ?_
        rw [hQQ]
        exact W.zret (v := r24) hx hb hr (by rw [z1]; split <;> rfl) (fun t ht hW => ⟨⟨r24, (u22.1, u22.2), rfl, ⟨(by rw [z1]; by_cases q : a % b = 0; rw [if_pos q, if_pos ((fk_abs_mod a hb0).mpr q)]; rw [if_neg q, if_neg (fun z => q ((fk_abs_mod a hb0).mp z))]), (by rw [fk_round, if_neg p_c_67]; simpa using hv)⟩, by rw [ht]; exact hP, va_K.moved hW.alike hK, hD⟩, hS.F ht⟩) hS.2.2 dX0_round_79
      · have p_c_67 : a < 0 := by by_cases q : a < 0; exact q; rw [z0, if_neg q] at c_67; exact absurd rfl c_67
        refine lv_aload_n hx hb dX0_round_70 rfl (lv_at hl 4 rfl) ?_
        refine lv_ldc2 (v := (-1)) hx hb hown k14 dX0_round_71 ?_
        refine fk_cv hD hS hA (va_runVN (As := [.long (-1)]) (rest := []) ⟨hx, hb, hml, hown, hts⟩ (kX2_scale _ _ (ad 13) (ad 14) 13 14 u22.2 (-1) (fk_abs a / b + (fk_up rd a b).toInt) rfl rfl hv (by decide)) ⟨va_cnB 1 hts gX0_round_X2_scale_n35 rfl rfl rfl k15 k4 (by decide +kernel) ⟨Nat.le_of_ble_eq_true rfl, Nat.le_of_ble_eq_true rfl⟩, k16, k17⟩ (fk_preV 13 3 hK hN hP hD rfl rfl) rfl rfl hl.1 rfl (lv_room (Nat.le_of_ble_eq_true rfl)) dX0_round_74 ⟨Nat.le_of_ble_eq_true rfl, Nat.le_of_ble_eq_true rfl⟩) (fun g25 H locs hw hP hD hS => ?_)
        have hP : va_P D vwCl (fk_wx cJ cC cK ad kd kc lo ch ts u22.1 f2 f3 f4 g25 ++ tl) H := hP
        have hD : va_D A (fk_wx cJ cC cK ad kd kc lo ch ts u22.1 f2 f3 f4 g25 ++ tl) := hD
        rw [show ((-1) : Int64).toInt = (-1) by decide] at hw
        have hRg25 := hw
        refine lv_iload hx hb dX0_round_77 (lv_at hl 0 rfl) ?_
        rw [hQQ]
        exact W.zret (v := r24) hx hb hr (by rw [z1]; split <;> rfl) (fun t ht hW => ⟨⟨r24, (u22.1, g25), rfl, ⟨(by rw [z1]; by_cases q : a % b = 0; rw [if_pos q, if_pos ((fk_abs_mod a hb0).mpr q)]; rw [if_neg q, if_neg (fun z => q ((fk_abs_mod a hb0).mp z))]), (by rw [fk_round, if_pos p_c_67]; exact hRg25)⟩, by rw [ht]; exact hP, va_K.moved hW.alike hK, hD⟩, hS.F ht⟩) hS.2.2 dX0_round_79
    · have p_c_45 : ¬ (fk_abs a % b = 0) := by intro q; rw [z1, if_pos q] at c_45; exact absurd c_45 (by decide)
      have hex : ¬ a % b = 0 := fun q => p_c_45 ((fk_abs_mod a hb0).mpr q)
      refine lv_aload_n hx hb dX0_round_48 rfl (lv_at hl 2 rfl) ?_
      refine lv_iload_n hx hb dX0_round_49 rfl (lv_at hl 3 rfl) ?_
      refine lv_iload_n hx hb dX0_round_50 rfl (lv_at hl 1 rfl) ?_
      refine lv_aload_n hx hb dX0_round_51 rfl (lv_at hl 4 rfl) ?_
      refine fk_ci hD hS hA (va_runVN (As := []) (rest := [.int r1, .int rd, .ref (ad 3)]) ⟨hx, hb, hml, hown, hts⟩ (kX2_isOdd _ _ (ad 13) (ad 14) 13 14 u22.2 (fk_abs a / b) rfl rfl hquo ) ⟨va_cnB 0 hts gX0_round_X2_isOdd_n68 rfl rfl rfl k18 k4 (by decide +kernel) ⟨Nat.le_of_ble_eq_true rfl, Nat.le_of_ble_eq_true rfl⟩, k19, k20⟩ (fk_preV 13 3 hK hN hP hD rfl rfl) rfl rfl hl.1 rfl (lv_room (Nat.le_of_ble_eq_true rfl)) dX0_round_52 ⟨Nat.le_of_ble_eq_true rfl, Nat.le_of_ble_eq_true rfl⟩) (fun r27 u H locs hw hP hD hS => ?_)
      have hP : va_P D vwCl (fk_wx cJ cC cK ad kd kc lo ch ts u22.1 f2 f3 f4 u22.2 ++ tl) H := hP
      have hD : va_D A (fk_wx cJ cC cK ad kd kc lo ch ts u22.1 f2 f3 f4 u22.2 ++ tl) := hD
      have z3 := hw
      refine fk_ci hD hS hA (va_runV (As := [.int rd, .int r1, .int r27]) (rest := []) ⟨hx, hb, hml, hown, hts⟩ (kX0_isRoundedAway _ ad tl kd kc lo ch ts u22.1 f2 f3 f4 u22.2 rd r1 r27 _ b hrem hRb ⟨by have := hIb2.1; have := hIb2.2; omega, by have := hIb2.1; have := hIb2.2; omega⟩ (by rw [z0]; split <;> first | exact Or.inr rfl | exact Or.inl rfl)) (cwV 3 hts gX0_round_X0_isRoundedAway rfl rfl rfl (by decide +kernel) ⟨Nat.le_of_ble_eq_true rfl, Nat.le_of_ble_eq_true rfl⟩) (fk_preV 3 1 hK hN hP hD rfl rfl) rfl rfl hl.1 rfl (lv_room (Nat.le_of_ble_eq_true rfl)) dX0_round_55 ⟨Nat.le_of_ble_eq_true rfl, Nat.le_of_ble_eq_true rfl⟩) (fun r29 g28 H locs hw hP hD hS => ?_)
      have hP : va_P D vwCl (fk_wx cJ cC cK ad kd kc lo ch ts g28 f2 f3 f4 u22.2 ++ tl) H := hP
      have hD : va_D A (fk_wx cJ cC cK ad kd kc lo ch ts g28 f2 f3 f4 u22.2 ++ tl) := hD
      have hup : r29 = fk_up rd a b := by rw [hw, fk_up, if_neg hex, z0, z3]
      refine lv_if_eq (tgt := 66) hx hb dX0_round_58 (by decide) (fun c_58 => ?_) (fun c_58 => ?_)
      · have hup0 : fk_up rd a b = 0 := by rw [← hup]; exact c_58
        have hv : fk_R (fk_abs a / b + (fk_up rd a b).toInt) u22.2 := by rw [hup0, show (0 : Int32).toInt = 0 by decide]; simpa using hquo
        refine lv_iload_n hx hb dX0_round_66 rfl (lv_at hl 1 rfl) ?_
        refine lv_if_eq (tgt := 77) hx hb dX0_round_67 (by decide) (fun c_67 => ?_) (fun c_67 => ?_)
        · have p_c_67 : ¬ (a < 0) := by intro q; rw [z0, if_pos q] at c_67; exact absurd c_67 (by decide)
          refine lv_iload hx hb dX0_round_77 (lv_at hl 0 rfl) ?_
          rw [hQQ]
          exact W.zret (v := r24) hx hb hr (by rw [z1]; split <;> rfl) (fun t ht hW => ⟨⟨r24, (g28, u22.2), rfl, ⟨(by rw [z1]; by_cases q : a % b = 0; rw [if_pos q, if_pos ((fk_abs_mod a hb0).mpr q)]; rw [if_neg q, if_neg (fun z => q ((fk_abs_mod a hb0).mp z))]), (by rw [fk_round, if_neg p_c_67]; simpa using hv)⟩, by rw [ht]; exact hP, va_K.moved hW.alike hK, hD⟩, hS.F ht⟩) hS.2.2 dX0_round_79
        · have p_c_67 : a < 0 := by by_cases q : a < 0; exact q; rw [z0, if_neg q] at c_67; exact absurd rfl c_67
          refine lv_aload_n hx hb dX0_round_70 rfl (lv_at hl 4 rfl) ?_
          refine lv_ldc2 (v := (-1)) hx hb hown k14 dX0_round_71 ?_
          refine fk_cv hD hS hA (va_runVN (As := [.long (-1)]) (rest := []) ⟨hx, hb, hml, hown, hts⟩ (kX2_scale _ _ (ad 13) (ad 14) 13 14 u22.2 (-1) (fk_abs a / b + (fk_up rd a b).toInt) rfl rfl hv (by decide)) ⟨va_cnB 1 hts gX0_round_X2_scale_n35 rfl rfl rfl k15 k4 (by decide +kernel) ⟨Nat.le_of_ble_eq_true rfl, Nat.le_of_ble_eq_true rfl⟩, k16, k17⟩ (fk_preV 13 3 hK hN hP hD rfl rfl) rfl rfl hl.1 rfl (lv_room (Nat.le_of_ble_eq_true rfl)) dX0_round_74 ⟨Nat.le_of_ble_eq_true rfl, Nat.le_of_ble_eq_true rfl⟩) (fun g30 H locs hw hP hD hS => ?_)
          have hP : va_P D vwCl (fk_wx cJ cC cK ad kd kc lo ch ts g28 f2 f3 f4 g30 ++ tl) H := hP
          have hD : va_D A (fk_wx cJ cC cK ad kd kc lo ch ts g28 f2 f3 f4 g30 ++ tl) := hD
          rw [show ((-1) : Int64).toInt = (-1) by decide] at hw
          have hRg30 := hw
          refine lv_iload hx hb dX0_round_77 (lv_at hl 0 rfl) ?_
          rw [hQQ]
          exact W.zret (v := r24) hx hb hr (by rw [z1]; split <;> rfl) (fun t ht hW => ⟨⟨r24, (g28, g30), rfl, ⟨(by rw [z1]; by_cases q : a % b = 0; rw [if_pos q, if_pos ((fk_abs_mod a hb0).mpr q)]; rw [if_neg q, if_neg (fun z => q ((fk_abs_mod a hb0).mp z))]), (by rw [fk_round, if_pos p_c_67]; exact hRg30)⟩, by rw [ht]; exact hP, va_K.moved hW.alike hK, hD⟩, hS.F ht⟩) hS.2.2 dX0_round_79
      · have hup1 : fk_up rd a b = 1 := by
          have q : fk_up rd a b = 0 ∨ fk_up rd a b = 1 := fk_up01 rd a b
          rcases q with q | q
          · rw [q] at hup; exact absurd hup c_58
          · exact q
        refine lv_aload_n hx hb dX0_round_61 rfl (lv_at hl 4 rfl) ?_
        refine lv_lconst (v := 1) hx hb dX0_round_62 (by decide) ?_
        refine fk_cv hD hS hA (va_runVN (As := [.long 1]) (rest := []) ⟨hx, hb, hml, hown, hts⟩ (kX2_grow _ _ (ad 13) (ad 14) 13 14 u22.2 1 (fk_abs a / b) rfl rfl (fk_R_F hquo) (fk_R_T hquo) (by decide)) ⟨va_cnB 1 hts gX0_round_X2_grow_n44 rfl rfl rfl k21 k4 (by decide +kernel) ⟨Nat.le_of_ble_eq_true rfl, Nat.le_of_ble_eq_true rfl⟩, k22, k23⟩ (fk_preV 13 3 hK hN hP hD rfl rfl) rfl rfl hl.1 rfl (lv_room (Nat.le_of_ble_eq_true rfl)) dX0_round_63 ⟨Nat.le_of_ble_eq_true rfl, Nat.le_of_ble_eq_true rfl⟩) (fun g32 H locs hw hP hD hS => ?_)
        have hP : va_P D vwCl (fk_wx cJ cC cK ad kd kc lo ch ts g28 f2 f3 f4 g32 ++ tl) H := hP
        have hD : va_D A (fk_wx cJ cC cK ad kd kc lo ch ts g28 f2 f3 f4 g32 ++ tl) := hD
        rw [show (1 : Int64).toInt = 1 by decide] at hw
        have hRg32 := hw
        have hv : fk_R (fk_abs a / b + (fk_up rd a b).toInt) g32 := by rw [hup1, show (1 : Int32).toInt = 1 by decide]; exact hRg32
        refine lv_iload_n hx hb dX0_round_66 rfl (lv_at hl 1 rfl) ?_
        refine lv_if_eq (tgt := 77) hx hb dX0_round_67 (by decide) (fun c_67 => ?_) (fun c_67 => ?_)
        · have p_c_67 : ¬ (a < 0) := by intro q; rw [z0, if_pos q] at c_67; exact absurd c_67 (by decide)
          refine lv_iload hx hb dX0_round_77 (lv_at hl 0 rfl) ?_
          rw [hQQ]
          exact W.zret (v := r24) hx hb hr (by rw [z1]; split <;> rfl) (fun t ht hW => ⟨⟨r24, (g28, g32), rfl, ⟨(by rw [z1]; by_cases q : a % b = 0; rw [if_pos q, if_pos ((fk_abs_mod a hb0).mpr q)]; rw [if_neg q, if_neg (fun z => q ((fk_abs_mod a hb0).mp z))]), (by rw [fk_round, if_neg p_c_67]; simpa using hv)⟩, by rw [ht]; exact hP, va_K.moved hW.alike hK, hD⟩, hS.F ht⟩) hS.2.2 dX0_round_79
        · have p_c_67 : a < 0 := by by_cases q : a < 0; exact q; rw [z0, if_neg q] at c_67; exact absurd rfl c_67
          refine lv_aload_n hx hb dX0_round_70 rfl (lv_at hl 4 rfl) ?_
          refine lv_ldc2 (v := (-1)) hx hb hown k14 dX0_round_71 ?_
          refine fk_cv hD hS hA (va_runVN (As := [.long (-1)]) (rest := []) ⟨hx, hb, hml, hown, hts⟩ (kX2_scale _ _ (ad 13) (ad 14) 13 14 g32 (-1) (fk_abs a / b + (fk_up rd a b).toInt) rfl rfl hv (by decide)) ⟨va_cnB 1 hts gX0_round_X2_scale_n35 rfl rfl rfl k15 k4 (by decide +kernel) ⟨Nat.le_of_ble_eq_true rfl, Nat.le_of_ble_eq_true rfl⟩, k16, k17⟩ (fk_preV 13 3 hK hN hP hD rfl rfl) rfl rfl hl.1 rfl (lv_room (Nat.le_of_ble_eq_true rfl)) dX0_round_74 ⟨Nat.le_of_ble_eq_true rfl, Nat.le_of_ble_eq_true rfl⟩) (fun g34 H locs hw hP hD hS => ?_)
          have hP : va_P D vwCl (fk_wx cJ cC cK ad kd kc lo ch ts g28 f2 f3 f4 g34 ++ tl) H := hP
          have hD : va_D A (fk_wx cJ cC cK ad kd kc lo ch ts g28 f2 f3 f4 g34 ++ tl) := hD
          rw [show ((-1) : Int64).toInt = (-1) by decide] at hw
          have hRg34 := hw
          refine lv_iload hx hb dX0_round_77 (lv_at hl 0 rfl) ?_
          rw [hQQ]
          exact W.zret (v := r24) hx hb hr (by rw [z1]; split <;> rfl) (fun t ht hW => ⟨⟨r24, (g28, g34), rfl, ⟨(by rw [z1]; by_cases q : a % b = 0; rw [if_pos q, if_pos ((fk_abs_mod a hb0).mpr q)]; rw [if_neg q, if_neg (fun z => q ((fk_abs_mod a hb0).mp z))]), (by rw [fk_round, if_pos p_c_67]; exact hRg34)⟩, by rw [ht]; exact hP, va_K.moved hW.alike hK, hD⟩, hS.F ht⟩) hS.2.2 dX0_round_79
end
section
/-! Common divisors and lowest terms. -/
theorem fk_lrem {a b : Nat} (ha : a < 9223372036854775808) (h0 : 0 < b) (hb : b < 9223372036854775808) : lN a - lN a / lN b * lN b = lN (a % b) := pk_lRem (by omega) h0 (by omega)
theorem fk_eu {g l s : Nat} (hl : 0 < l) (hlg : l < g) (h : g * l * 2 ^ s ≤ 1000000) : l * (g % l) * 2 ^ (s + 1) ≤ 1000000 := by
  have h1 := Nat.mod_lt g hl
  have h2 : 2 * (g % l) ≤ g := by
    have := Nat.div_add_mod g l
    have h3 : 1 ≤ g / l := (Nat.one_le_div_iff hl).mpr (by omega)
    have : l * 1 ≤ l * (g / l) := Nat.mul_le_mul_left l h3
    omega
  have h4 : l * (g % l) * 2 ^ (s + 1) = l * (2 * (g % l)) * 2 ^ s := by rw [Nat.pow_succ]; grind
  rw [h4]
  have h5 : l * (2 * (g % l)) ≤ l * g := Nat.mul_le_mul_left l h2
  have h6 : l * (2 * (g % l)) * 2 ^ s ≤ l * g * 2 ^ s := Nat.mul_le_mul_right _ h5
  rw [Nat.mul_comm l g] at h6
  omega
theorem fk_eu64 {g l : Nat} (hl : 0 < l) (hlg : l < g) (h : g * l * 2 ^ 64 ≤ 1000000) : False := by
  have : 1 * 1 ≤ g * l := Nat.mul_le_mul (by omega) (by omega)
  omega
/-- the greatest common divisor of a numerator and a denominator above 0 -/
def fk_gc (a b : Int) : Int := ((Nat.gcd b.toNat (fk_abs a % b).toNat : Nat) : Int)
theorem fk_gc_bd (a : Int) {b : Int} (hb : 0 < b) : 1 ≤ fk_gc a b ∧ fk_gc a b ≤ b := by
  have h1 : 0 < Nat.gcd b.toNat (fk_abs a % b).toNat := Nat.gcd_pos_of_pos_left _ (by omega)
  have h2 : Nat.gcd b.toNat (fk_abs a % b).toNat ≤ b.toNat := Nat.gcd_le_left _ (by omega)
  rw [fk_gc]
  omega
theorem fk_abs_bd {a A : Int} (h1 : -A ≤ a) (h2 : a ≤ A) : 0 ≤ fk_abs a ∧ fk_abs a ≤ A := by
  rw [fk_abs]; split <;> omega
end
section
/-! Fraction: commonDivisor, reduce, toMillionths, by program -/
abbrev rmX0_commonDivisor : Room := { frames := 0, cells := 0, slots := 0, locals := 0 }
set_option maxHeartbeats 4000000 in
set_option maxRecDepth 100000 in
/-- Fraction.commonDivisor -/
theorem kX0_commonDivisor {l : Launch} {D : va_G} {cJ cC cI cZ cK : ClassId} (sz : Nat) (ws : va_W) (a0 b0 : Nat) (hab : b0 < a0) (ha : a0 ≤ 1000) : Met l yX0_commonDivisor wsX0_commonDivisor rmX0_commonDivisor (va_Pc [.long (lN a0), .long (lN b0)] (fk_pre D (fk_ty cJ cC cI cZ cK) ws sz)) (va_Ql (fun (r : Int64) (_ : Unit) => r = lN (Nat.gcd a0 b0)) (fk_Bd D (fk_ty cJ cC cI cZ cK) (va_A ws sz) (fun _ : Unit => ws)) (va_A ws sz)) 0 0 (va_A ws sz) := by
  refine fk_ofW cX0_commonDivisor 11 (some .long) (fun A => va_Ql (fun (r : Int64) (_ : Unit) => r = lN (Nat.gcd a0 b0)) (fk_Bd D (fk_ty cJ cC cI cZ cK) A (fun _ : Unit => ws)) A) rfl (by decide) (Nat.le_of_ble_eq_true rfl) ?_
  intro p e s m below meth c A ls args QQ hQQ hAt hP hK hN hD hA hS hl
  obtain ⟨⟨hx, hb, hml, hown, hts⟩, hr, hlocks, hin⟩ := hAt
  have hl : lv_has ls 11 [(0, .long (lN a0)), (2, .long (lN b0))] := hl
  refine lv_lload_n hx hb dX0_commonDivisor_0 rfl (lv_at hl 0 rfl) ?_
  refine lv_lstore (lv' := [(4, .long (lN a0)), (0, .long (lN a0)), (2, .long (lN b0))]) hx hb dX0_commonDivisor_1 hl (by decide) rfl (fun ls hl => ?_)
  refine lv_lload_n hx hb dX0_commonDivisor_3 rfl (lv_at hl 2 rfl) ?_
  refine lv_lstore (lv' := [(6, .long (lN b0)), (4, .long (lN a0)), (0, .long (lN a0)), (2, .long (lN b0))]) hx hb dX0_commonDivisor_4 hl (by decide) rfl (fun ls hl => ?_)
  refine lv_iconst (v := 0) hx hb dX0_commonDivisor_6 (by decide) ?_
  refine lv_istore (lv' := [(8, .int 0), (6, .long (lN b0)), (4, .long (lN a0)), (0, .long (lN a0)), (2, .long (lN b0))]) hx hb dX0_commonDivisor_7 hl (by decide) rfl (fun ls hl => ?_)
  have L9 : ∀ (fu9 : Nat) (sp : Nat) (g0 : Nat) (l0 : Nat), 64 - sp < fu9 → (sp ≤ 64) → (l0 < g0) → (g0 ≤ 1000) → (g0 * l0 * 2 ^ sp ≤ 1000000) → (Nat.gcd g0 l0 = Nat.gcd a0 b0) → ∀ (H : Heap) (locs : List Loc) (ls : Array Slot), va_P D vwCl ws H → va_D A ws → va_S A s.heap H locs → lv_has ls 11 [(0, .long (lN a0)), (2, .long (lN b0)), (4, .long (lN g0)), (6, .long (lN l0)), (8, .int (nI sp))] → W p l e rmX0_commonDivisor s m args below meth c H locs 0 0 QQ (F0 m 9 ls []) := by
    intro fu9
    induction fu9 with
    | zero => intro sp g0 l0 hfu; exact absurd hfu (Nat.not_lt_zero _)
    | succ fu9 ih9 =>
      intro sp g0 l0 hfu9 hsp hlg hg hp hgc H locs ls hP hD hS hl
      refine lv_iload hx hb dX0_commonDivisor_9 (lv_at hl 4 rfl) ?_
      refine lv_bipush (v := 64) hx hb dX0_commonDivisor_11 (by decide) ?_
      refine lv_icmp_ge (tgt := 44) hx hb dX0_commonDivisor_13 (by decide) (fun c_13 => ?_) (fun c_13 => ?_)
      · have h64 : sp = 64 := by have q := (nI_leI (a := 64) (b := sp) (by omega) (by omega)).mp c_13; omega
        subst h64
        have hl0 : l0 = 0 := by rcases Nat.eq_zero_or_pos l0 with q | q; exact q; exact (fk_eu64 q hlg hp).elim
        refine lv_lload hx hb dX0_commonDivisor_44 (lv_at hl 2 rfl) ?_
        rw [hQQ]
        exact W.lret (v := (lN g0)) hx hb hr (fun t ht hW => ⟨⟨(lN g0), (), rfl, (by rw [← hgc, hl0, Nat.gcd_zero_right]), by rw [ht]; exact hP, va_K.moved hW.alike hK, hD⟩, hS.F ht⟩) hS.2.2 dX0_commonDivisor_46
      · have h64 : sp < 64 := by rcases Nat.lt_or_ge sp 64 with q | q; exact q; exact absurd ((nI_leI (a := 64) (b := sp) (by omega) (by omega)).mpr q) c_13
        refine lv_lload hx hb dX0_commonDivisor_16 (lv_at hl 3 rfl) ?_
        refine lv_lconst (v := 0) hx hb dX0_commonDivisor_18 (by decide) ?_
        refine W.lcmp hx hb dX0_commonDivisor_19 ?_
        refine lv_if_eq (tgt := 44) hx hb dX0_commonDivisor_20 (by decide) (fun c_20 => ?_) (fun c_20 => ?_)
        · rw [lg_cmp_eq] at c_20
          have hl0 : l0 = 0 := (lN_eq (a := l0) (b := 0) (by omega) (by omega)).mp c_20
          refine lv_lload hx hb dX0_commonDivisor_44 (lv_at hl 2 rfl) ?_
          rw [hQQ]
          exact W.lret (v := (lN g0)) hx hb hr (fun t ht hW => ⟨⟨(lN g0), (), rfl, (by rw [← hgc, hl0, Nat.gcd_zero_right]), by rw [ht]; exact hP, va_K.moved hW.alike hK, hD⟩, hS.F ht⟩) hS.2.2 dX0_commonDivisor_46
        · rw [lg_cmp_eq] at c_20
          have hl1 : 0 < l0 := by rcases Nat.eq_zero_or_pos l0 with q | q; exact absurd (by rw [q]; rfl) c_20; exact q
          have a1 : g0 % l0 < l0 := Nat.mod_lt _ hl1
          have a2 : l0 ≤ 1000 := by omega
          have a3 := fk_eu hl1 hlg hp
          have a4 : Nat.gcd l0 (g0 % l0) = Nat.gcd a0 b0 := by rw [← hgc, Nat.gcd_comm l0, ← Nat.gcd_rec, Nat.gcd_comm]
          refine lv_lload hx hb dX0_commonDivisor_23 (lv_at hl 2 rfl) ?_
          refine lv_lload hx hb dX0_commonDivisor_25 (lv_at hl 3 rfl) ?_
          refine lv_lrem hx hb dX0_commonDivisor_27 (fun q => c_20 q) ?_
          refine lv_topl (fun x1 ex1 => ?_)
          have ex1q : x1 = lN (g0 % l0) := by
            rw [ex1]; exact fk_lrem (by omega) hl1 (by omega)
          subst ex1q
          refine lv_lstore (lv' := [(9, .long (lN (g0 % l0))), (0, .long (lN a0)), (2, .long (lN b0)), (4, .long (lN g0)), (6, .long (lN l0)), (8, .int (nI sp))]) hx hb dX0_commonDivisor_28 hl (by decide) rfl (fun ls hl => ?_)
          refine lv_lload hx hb dX0_commonDivisor_30 (lv_at hl 4 rfl) ?_
          refine lv_lstore (lv' := [(4, .long (lN l0)), (9, .long (lN (g0 % l0))), (0, .long (lN a0)), (2, .long (lN b0)), (6, .long (lN l0)), (8, .int (nI sp))]) hx hb dX0_commonDivisor_32 hl (by decide) rfl (fun ls hl => ?_)
          refine lv_lload hx hb dX0_commonDivisor_34 (lv_at hl 1 rfl) ?_
          refine lv_lstore (lv' := [(6, .long (lN (g0 % l0))), (4, .long (lN l0)), (9, .long (lN (g0 % l0))), (0, .long (lN a0)), (2, .long (lN b0)), (8, .int (nI sp))]) hx hb dX0_commonDivisor_36 hl (by decide) rfl (fun ls hl => ?_)
          refine lv_iinc (v := nI (sp + 1)) (lv' := [(8, .int (nI (sp + 1))), (6, .long (lN (g0 % l0))), (4, .long (lN l0)), (9, .long (lN (g0 % l0))), (0, .long (lN a0)), (2, .long (lN b0))]) hx hb dX0_commonDivisor_38 hl (k := 5) rfl (by exact nI_1 sp) (by decide) rfl (fun ls hl => ?_)
          refine lv_goto (tgt := 9) hx hb dX0_commonDivisor_41 (by decide) ?_
          exact ih9 (sp + 1) l0 (g0 % l0) (by omega) (by omega) a1 a2 a3 a4 _ _ _ hP hD hS (lv_sub hl [4, 5, 2, 1, 0] rfl)
  exact L9 65 0 a0 b0 (by omega) (by omega) hab ha (by have := Nat.mul_le_mul ha (show b0 ≤ 1000 by omega); omega) rfl _ _ _ hP hD hS (lv_sub hl [3, 4, 2, 1, 0] rfl)
abbrev rmX0_reduce : Room := { frames := 2, cells := 0, slots := 0, locals := 45 }
set_option maxHeartbeats 4000000 in
set_option maxRecDepth 100000 in
/-- Fraction.reduce -/
theorem kX0_reduce {l : Launch} {D : va_G} {cJ cC cI cZ cK : ClassId} (sz : Nat) (ad : Nat → Nat) (tl : va_W) (kd : Nat → Option Nat) (kc lo : Int32) (ch : Nat → Int32) (ts : Int32) (f1 f2 f3 f4 f5 : Nat → Int64) (a b : Int) (hRa : fk_R a f1) (hRb : fk_R b f2) (hab : -18889465931478580854784 ≤ a ∧ a ≤ 18889465931478580854784) (hbb : 1 ≤ b ∧ b ≤ 1000) : Met l yX0_reduce wsX0_reduce rmX0_reduce (va_Pc [.ref (ad 3), .ref (ad 9)] (fk_pre D (fk_ty cJ cC cI cZ cK) (fk_wx cJ cC cK ad kd kc lo ch ts f1 f2 f3 f4 f5 ++ tl) sz)) (va_Qv (fun u : (Nat → Int64) × (Nat → Int64) × (Nat → Int64) => fk_R (fk_abs a / fk_gc a b * (if a < 0 then -1 else 1)) u.1 ∧ fk_R (b / fk_gc a b) u.2.1) (fk_Bd D (fk_ty cJ cC cI cZ cK) (va_A (fk_wx cJ cC cK ad kd kc lo ch ts f1 f2 f3 f4 f5 ++ tl) sz) (fun u : (Nat → Int64) × (Nat → Int64) × (Nat → Int64) => fk_wx cJ cC cK ad kd kc lo ch ts u.1 u.2.1 u.2.2 f4 f5 ++ tl)) (va_A (fk_wx cJ cC cK ad kd kc lo ch ts f1 f2 f3 f4 f5 ++ tl) sz)) 0 0 (va_A (fk_wx cJ cC cK ad kd kc lo ch ts f1 f2 f3 f4 f5 ++ tl) sz) := by
  refine fk_ofW cX0_reduce 7 none (fun A => va_Qv (fun u : (Nat → Int64) × (Nat → Int64) × (Nat → Int64) => fk_R (fk_abs a / fk_gc a b * (if a < 0 then -1 else 1)) u.1 ∧ fk_R (b / fk_gc a b) u.2.1) (fk_Bd D (fk_ty cJ cC cI cZ cK) A (fun u : (Nat → Int64) × (Nat → Int64) × (Nat → Int64) => fk_wx cJ cC cK ad kd kc lo ch ts u.1 u.2.1 u.2.2 f4 f5 ++ tl)) A) rfl (by decide) (Nat.le_of_ble_eq_true rfl) ?_
  intro p e s m below meth c A ls args QQ hQQ hAt hP hK hN hD hA hS hl
  obtain ⟨⟨hx, hb, hml, hown, hts⟩, hr, hlocks, hin⟩ := hAt
  have hl : lv_has ls 7 [(0, .ref (ad 3)), (1, .ref (ad 9))] := hl
  have k1 := hts (.fieldLink RX0 12 "FixedKinds$Fraction" "above" "LFixedKinds$Whole;") (by decide +kernel)
  have k2 := (by decide +kernel : ∀ w ∈ u_ws RX0 TX0 2, w ∈ wsX0_reduce)
  have k3 := hN _ fkn_X0_51
  have k4 := hts (.initialized RX2) (by decide +kernel)
  have k5 := hts (.instanceMethod yX2_isNegative) (by decide +kernel)
  have k6 := hts (.selects RX2 yX2_isNegative yX2_isNegative) (by decide +kernel)
  have k7 := hts (.fieldLink RX0 18 "FixedKinds$Fraction" "below" "LFixedKinds$Whole;") (by decide +kernel)
  have k8 := hN _ fkn_X0_77
  have k9 := hts (.instanceMethod yX2_bitsFrom) (by decide +kernel)
  have k10 := hts (.selects RX2 yX2_bitsFrom yX2_bitsFrom) (by decide +kernel)
  have k11 := hN _ fkn_X0_81
  have k12 := hts (.instanceMethod yX2_copy) (by decide +kernel)
  have k13 := hts (.selects RX2 yX2_copy yX2_copy) (by decide +kernel)
  have k14 := hN _ fkn_X0_84
  have k15 := hts (.instanceMethod yX2_shorten) (by decide +kernel)
  have k16 := hts (.selects RX2 yX2_shorten yX2_shorten) (by decide +kernel)
  have k17 := hts (.constantLong RX0 62 (-1)) (by decide +kernel)
  have k18 := hN _ fkn_X0_35
  have k19 := hts (.instanceMethod yX2_scale) (by decide +kernel)
  have k20 := hts (.selects RX2 yX2_scale yX2_scale) (by decide +kernel)
  refine lv_aload_n hx hb dX0_reduce_0 rfl (lv_at hl 0 rfl) ?_
  refine va_get (D := D) (ci := 1) (v := .ref (ad 4)) (C := RX0) (T := TX0) (N := 2) hx hb hts k2 hown hK hP 3 rfl rfl 0 (by decide) k1 (fun _ h9 => h9) rfl dX0_reduce_1 ?_
  refine fk_ci hD hS hA (va_runVN (As := []) (rest := []) ⟨hx, hb, hml, hown, hts⟩ (kX2_isNegative _ _ (ad 4) (ad 5) 4 5 f1 (a) rfl rfl hRa ⟨by omega, by omega⟩) ⟨va_cnB 0 hts gX0_reduce_X2_isNegative_n51 rfl rfl rfl k3 k4 (by decide +kernel) ⟨Nat.le_of_ble_eq_true rfl, Nat.le_of_ble_eq_true rfl⟩, k5, k6⟩ (fk_preV 4 3 hK hN hP hD rfl rfl) rfl rfl hl.1 rfl (lv_room (Nat.le_of_ble_eq_true rfl)) dX0_reduce_4 ⟨Nat.le_of_ble_eq_true rfl, Nat.le_of_ble_eq_true rfl⟩) (fun r1 u H locs hw hP hD hS => ?_)
  have hP : va_P D vwCl (fk_wx cJ cC cK ad kd kc lo ch ts f1 f2 f3 f4 f5 ++ tl) H := hP
  have hD : va_D A (fk_wx cJ cC cK ad kd kc lo ch ts f1 f2 f3 f4 f5 ++ tl) := hD
  have z0 := hw
  refine lv_istore_n (lv' := [(2, .int r1), (0, .ref (ad 3)), (1, .ref (ad 9))]) hx hb dX0_reduce_7 rfl hl (by decide) rfl (fun ls hl => ?_)
  refine lv_iload_n hx hb dX0_reduce_8 rfl (lv_at hl 0 rfl) ?_
  refine lv_if_eq (tgt := 22) hx hb dX0_reduce_9 (by decide) (fun c_9 => ?_) (fun c_9 => ?_)
  · have p_c_9 : ¬ (a < 0) := by intro q; rw [z0, if_pos q] at c_9; exact absurd c_9 (by decide)
    have hAe : fk_abs a = a := by rw [fk_abs, if_neg p_c_9]
    have hA0 := fk_abs_bd hab.1 hab.2
    have hAI : fk_In (fk_abs a) := ⟨by omega, by omega⟩
    rw [← hAe] at hRa
    refine lv_aload_n hx hb dX0_reduce_22 rfl (lv_at hl 1 rfl) ?_
    refine va_get (D := D) (ci := 1) (v := .ref (ad 6)) (C := RX0) (T := TX0) (N := 2) hx hb hts k2 hown hK hP 3 rfl rfl 1 (by decide) k7 (fun _ h9 => h9) rfl dX0_reduce_23 ?_
    refine lv_iconst (v := 0) hx hb dX0_reduce_26 (by decide) ?_
    refine fk_cl hD hS hA (va_runVN (As := [.int 0]) (rest := []) ⟨hx, hb, hml, hown, hts⟩ (kX2_bitsFrom _ _ (ad 6) (ad 7) 6 7 f2 0 (b) rfl rfl hRb (by omega)) ⟨va_cnB 1 hts gX0_reduce_X2_bitsFrom_n77 rfl rfl rfl k8 k4 (by decide +kernel) ⟨Nat.le_of_ble_eq_true rfl, Nat.le_of_ble_eq_true rfl⟩, k9, k10⟩ (fk_preV 6 3 hK hN hP hD rfl rfl) rfl rfl hl.1 rfl (lv_room (Nat.le_of_ble_eq_true rfl)) dX0_reduce_27 ⟨Nat.le_of_ble_eq_true rfl, Nat.le_of_ble_eq_true rfl⟩) (fun r2 u H locs hw hP hD hS => ?_)
    have hP : va_P D vwCl (fk_wx cJ cC cK ad kd kc lo ch ts f1 f2 f3 f4 f5 ++ tl) H := hP
    have hD : va_D A (fk_wx cJ cC cK ad kd kc lo ch ts f1 f2 f3 f4 f5 ++ tl) := hD
    have zb := hw
    have hdn : r2 = lN b.toNat := by
      rw [zb]; apply Int64.toInt_inj.mp; rw [pk_lT (by omega)]; simp only [Int.pow_zero, Int.ediv_one]; rw [Int64.toInt_ofInt_of_le (by omega) (by omega)]; omega
    have hdt : (r2).toInt = b := by rw [hdn, pk_lT (by omega)]; omega
    refine lv_lstore_n (lv' := [(3, .long r2), (2, .int r1), (0, .ref (ad 3)), (1, .ref (ad 9))]) hx hb dX0_reduce_30 rfl hl (by decide) rfl (fun ls hl => ?_)
    refine lv_aload_n hx hb dX0_reduce_31 rfl (lv_at hl 3 rfl) ?_
    refine lv_aload_n hx hb dX0_reduce_32 rfl (lv_at hl 2 rfl) ?_
    refine va_get (D := D) (ci := 1) (v := .ref (ad 4)) (C := RX0) (T := TX0) (N := 2) hx hb hts k2 hown hK hP 3 rfl rfl 0 (by decide) k1 (fun _ h9 => h9) rfl dX0_reduce_33 ?_
    refine fk_cv hD hS hA (va_runVN (As := [.ref (ad 4)]) (rest := []) ⟨hx, hb, hml, hown, hts⟩ (kX2_copy _ _ (ad 9) (ad 10) (ad 4) (ad 5) 9 10 4 5 f3 f1 (fk_abs a) rfl rfl rfl rfl (by decide) hRa) ⟨va_cnB 1 hts gX0_reduce_X2_copy_n81 rfl rfl rfl k11 k4 (by decide +kernel) ⟨Nat.le_of_ble_eq_true rfl, Nat.le_of_ble_eq_true rfl⟩, k12, k13⟩ (fk_preV 9 3 hK hN hP hD rfl rfl) rfl rfl hl.1 rfl (lv_room (Nat.le_of_ble_eq_true rfl)) dX0_reduce_36 ⟨Nat.le_of_ble_eq_true rfl, Nat.le_of_ble_eq_true rfl⟩) (fun g3 H locs hw hP hD hS => ?_)
    have hP : va_P D vwCl (fk_wx cJ cC cK ad kd kc lo ch ts f1 f2 g3 f4 f5 ++ tl) H := hP
    have hD : va_D A (fk_wx cJ cC cK ad kd kc lo ch ts f1 f2 g3 f4 f5 ++ tl) := hD
    have hRg3 := hw
    refine lv_lload_n hx hb dX0_reduce_39 rfl (lv_at hl 0 rfl) ?_
    refine lv_aload_n hx hb dX0_reduce_40 rfl (lv_at hl 3 rfl) ?_
    refine lv_lload_n hx hb dX0_reduce_41 rfl (lv_at hl 0 rfl) ?_
    refine fk_cl hD hS hA (va_runVN (As := [.long r2]) (rest := [.long r2]) ⟨hx, hb, hml, hown, hts⟩ (kX2_shorten _ _ (ad 9) (ad 10) 9 10 g3 r2 (fk_abs a) rfl rfl hRg3 hAI hA0.1 (by omega)) ⟨va_cnB 1 hts gX0_reduce_X2_shorten_n84 rfl rfl rfl k14 k4 (by decide +kernel) ⟨Nat.le_of_ble_eq_true rfl, Nat.le_of_ble_eq_true rfl⟩, k15, k16⟩ (fk_preV 9 3 hK hN hP hD rfl rfl) rfl rfl hl.1 rfl (lv_room (Nat.le_of_ble_eq_true rfl)) dX0_reduce_42 ⟨Nat.le_of_ble_eq_true rfl, Nat.le_of_ble_eq_true rfl⟩) (fun r6 g5 H locs hw hP hD hS => ?_)
    have hP : va_P D vwCl (fk_wx cJ cC cK ad kd kc lo ch ts f1 f2 g5 f4 f5 ++ tl) H := hP
    have hD : va_D A (fk_wx cJ cC cK ad kd kc lo ch ts f1 f2 g5 f4 f5 ++ tl) := hD
    obtain ⟨hqg5, hRg5⟩ := hw
    rw [hdt] at hqg5
    have hsp : r6 = lN (fk_abs a % b).toNat := by
      have q1 := Int.emod_nonneg (fk_abs a) (show b ≠ 0 by omega)
      have q2 := Int.emod_lt_of_pos (fk_abs a) (show 0 < b by omega)
      apply Int64.toInt_inj.mp; rw [pk_lT (by omega), hqg5]; omega
    have q2 := Int.emod_lt_of_pos (fk_abs a) (show 0 < b by omega)
    have q1 := Int.emod_nonneg (fk_abs a) (show b ≠ 0 by omega)
    subst hdn
    subst hsp
    refine fk_cl hD hS hA (va_runS (As := [.long (lN b.toNat), .long (lN (fk_abs a % b).toNat)]) (rest := []) ⟨hx, hb, hml, hown, hts⟩ (kX0_commonDivisor _ _ b.toNat (fk_abs a % b).toNat (by omega) (by omega)) (va_cwS 2 hts gX0_reduce_X0_commonDivisor rfl rfl rfl (by decide +kernel) ⟨Nat.le_of_ble_eq_true rfl, Nat.le_of_ble_eq_true rfl⟩) (fk_preS hK hN hP hD) rfl rfl hl.1 rfl (lv_room (Nat.le_of_ble_eq_true rfl)) dX0_reduce_45 ⟨Nat.le_of_ble_eq_true rfl, Nat.le_of_ble_eq_true rfl⟩) (fun r7 u H locs hw hP hD hS => ?_)
    have hP : va_P D vwCl (fk_wx cJ cC cK ad kd kc lo ch ts f1 f2 g5 f4 f5 ++ tl) H := hP
    have hD : va_D A (fk_wx cJ cC cK ad kd kc lo ch ts f1 f2 g5 f4 f5 ++ tl) := hD
    have hgb := fk_gc_bd a (show 0 < b by omega)
    have hgt : (r7).toInt = fk_gc a b := by rw [hw, fk_gc]; exact pk_lT (by rw [fk_gc] at hgb; omega)
    refine lv_lstore (lv' := [(5, .long r7), (3, .long (lN b.toNat)), (2, .int r1), (0, .ref (ad 3)), (1, .ref (ad 9))]) hx hb dX0_reduce_48 hl (by decide) rfl (fun ls hl => ?_)
    refine lv_lload hx hb dX0_reduce_50 (lv_at hl 0 rfl) ?_
    refine lv_lconst (v := 1) hx hb dX0_reduce_52 (by decide) ?_
    refine W.lcmp hx hb dX0_reduce_53 ?_
    refine lv_if_le (tgt := 77) hx hb dX0_reduce_54 (by decide) (fun c_54 => ?_) (fun c_54 => ?_)
    · rw [lg_cmp_le] at c_54
      rw [Int64.le_iff_toInt_le, hgt, show (1 : Int64).toInt = 1 by decide] at c_54
      have hg1 : fk_gc a b = 1 := by omega
      have hv1 : fk_R (fk_abs a / fk_gc a b) f1 := by rw [hg1, Int.ediv_one]; exact hRa
      have hv2 : fk_R (b / fk_gc a b) f2 := by rw [hg1, Int.ediv_one]; exact hRb
      refine lv_iload_n hx hb dX0_reduce_77 rfl (lv_at hl 2 rfl) ?_
      refine lv_if_eq (tgt := 91) hx hb dX0_reduce_78 (by decide) (fun c_78 => ?_) (fun c_78 => ?_)
      · have p_c_78 : ¬ (a < 0) := by intro q; rw [z0, if_pos q] at c_78; exact absurd c_78 (by decide)
        rw [hQQ]
        exact W.vret hx hb hr (fun t ht hW => ⟨⟨(f1, f2, g5), rfl, ⟨(by rw [if_neg p_c_78, Int.mul_one]; exact hv1), hv2⟩, by rw [ht]; exact hP, va_K.moved hW.alike hK, hD⟩, hS.F ht⟩) hS.2.2 dX0_reduce_91
      · have p_c_78 : a < 0 := by by_cases q : a < 0; exact q; rw [z0, if_neg q] at c_78; exact absurd rfl c_78
        refine lv_aload_n hx hb dX0_reduce_81 rfl (lv_at hl 3 rfl) ?_
        refine va_get (D := D) (ci := 1) (v := .ref (ad 4)) (C := RX0) (T := TX0) (N := 2) hx hb hts k2 hown hK hP 3 rfl rfl 0 (by decide) k1 (fun _ h9 => h9) rfl dX0_reduce_82 ?_
        refine lv_ldc2 (v := (-1)) hx hb hown k17 dX0_reduce_85 ?_
        refine fk_cv hD hS hA (va_runVN (As := [.long (-1)]) (rest := []) ⟨hx, hb, hml, hown, hts⟩ (kX2_scale _ _ (ad 4) (ad 5) 4 5 f1 (-1) (fk_abs a / fk_gc a b) rfl rfl hv1 (by decide)) ⟨va_cnB 1 hts gX0_reduce_X2_scale_n35 rfl rfl rfl k18 k4 (by decide +kernel) ⟨Nat.le_of_ble_eq_true rfl, Nat.le_of_ble_eq_true rfl⟩, k19, k20⟩ (fk_preV 4 3 hK hN hP hD rfl rfl) rfl rfl hl.1 rfl (lv_room (Nat.le_of_ble_eq_true rfl)) dX0_reduce_88 ⟨Nat.le_of_ble_eq_true rfl, Nat.le_of_ble_eq_true rfl⟩) (fun g8 H locs hw hP hD hS => ?_)
        have hP : va_P D vwCl (fk_wx cJ cC cK ad kd kc lo ch ts g8 f2 g5 f4 f5 ++ tl) H := hP
        have hD : va_D A (fk_wx cJ cC cK ad kd kc lo ch ts g8 f2 g5 f4 f5 ++ tl) := hD
        rw [show ((-1) : Int64).toInt = (-1) by decide] at hw
        have hRg8 := hw
        rw [hQQ]
        exact W.vret hx hb hr (fun t ht hW => ⟨⟨(g8, f2, g5), rfl, ⟨(by rw [if_pos p_c_78]; exact hRg8), hv2⟩, by rw [ht]; exact hP, va_K.moved hW.alike hK, hD⟩, hS.F ht⟩) hS.2.2 dX0_reduce_91
    · rw [lg_cmp_le] at c_54
      rw [Int64.le_iff_toInt_le, hgt, show (1 : Int64).toInt = 1 by decide] at c_54
      refine lv_aload_n hx hb dX0_reduce_57 rfl (lv_at hl 3 rfl) ?_
      refine va_get (D := D) (ci := 1) (v := .ref (ad 4)) (C := RX0) (T := TX0) (N := 2) hx hb hts k2 hown hK hP 3 rfl rfl 0 (by decide) k1 (fun _ h9 => h9) rfl dX0_reduce_58 ?_
      refine lv_lload hx hb dX0_reduce_61 (lv_at hl 0 rfl) ?_
      refine fk_cl hD hS hA (va_runVN (As := [.long r7]) (rest := []) ⟨hx, hb, hml, hown, hts⟩ (kX2_shorten _ _ (ad 4) (ad 5) 4 5 f1 r7 (fk_abs a) rfl rfl hRa hAI hA0.1 (by omega)) ⟨va_cnB 1 hts gX0_reduce_X2_shorten_n84 rfl rfl rfl k14 k4 (by decide +kernel) ⟨Nat.le_of_ble_eq_true rfl, Nat.le_of_ble_eq_true rfl⟩, k15, k16⟩ (fk_preV 4 3 hK hN hP hD rfl rfl) rfl rfl hl.1 rfl (lv_room (Nat.le_of_ble_eq_true rfl)) dX0_reduce_63 ⟨Nat.le_of_ble_eq_true rfl, Nat.le_of_ble_eq_true rfl⟩) (fun r11 g10 H locs hw hP hD hS => ?_)
      have hP : va_P D vwCl (fk_wx cJ cC cK ad kd kc lo ch ts g10 f2 g5 f4 f5 ++ tl) H := hP
      have hD : va_D A (fk_wx cJ cC cK ad kd kc lo ch ts g10 f2 g5 f4 f5 ++ tl) := hD
      obtain ⟨hqg10, hRg10⟩ := hw
      rw [hgt] at hRg10
      refine lv_pop2_2 hx hb dX0_reduce_66 rfl ?_
      refine lv_aload_n hx hb dX0_reduce_67 rfl (lv_at hl 3 rfl) ?_
      refine va_get (D := D) (ci := 1) (v := .ref (ad 6)) (C := RX0) (T := TX0) (N := 2) hx hb hts k2 hown hK hP 3 rfl rfl 1 (by decide) k7 (fun _ h9 => h9) rfl dX0_reduce_68 ?_
      refine lv_lload hx hb dX0_reduce_71 (lv_at hl 0 rfl) ?_
      refine fk_cl hD hS hA (va_runVN (As := [.long r7]) (rest := []) ⟨hx, hb, hml, hown, hts⟩ (kX2_shorten _ _ (ad 6) (ad 7) 6 7 f2 r7 (b) rfl rfl hRb ⟨by omega, by omega⟩ (by omega) (by omega)) ⟨va_cnB 1 hts gX0_reduce_X2_shorten_n84 rfl rfl rfl k14 k4 (by decide +kernel) ⟨Nat.le_of_ble_eq_true rfl, Nat.le_of_ble_eq_true rfl⟩, k15, k16⟩ (fk_preV 6 3 hK hN hP hD rfl rfl) rfl rfl hl.1 rfl (lv_room (Nat.le_of_ble_eq_true rfl)) dX0_reduce_73 ⟨Nat.le_of_ble_eq_true rfl, Nat.le_of_ble_eq_true rfl⟩) (fun r13 g12 H locs hw hP hD hS => ?_)
      have hP : va_P D vwCl (fk_wx cJ cC cK ad kd kc lo ch ts g10 g12 g5 f4 f5 ++ tl) H := hP
      have hD : va_D A (fk_wx cJ cC cK ad kd kc lo ch ts g10 g12 g5 f4 f5 ++ tl) := hD
      obtain ⟨hqg12, hRg12⟩ := hw
      rw [hgt] at hRg12
      refine lv_pop2_2 hx hb dX0_reduce_76 rfl ?_
      have hv1 := hRg10
      have hv2 := hRg12
      refine lv_iload_n hx hb dX0_reduce_77 rfl (lv_at hl 2 rfl) ?_
      refine lv_if_eq (tgt := 91) hx hb dX0_reduce_78 (by decide) (fun c_78 => ?_) (fun c_78 => ?_)
      · have p_c_78 : ¬ (a < 0) := by intro q; rw [z0, if_pos q] at c_78; exact absurd c_78 (by decide)
        rw [hQQ]
        exact W.vret hx hb hr (fun t ht hW => ⟨⟨(g10, g12, g5), rfl, ⟨(by rw [if_neg p_c_78, Int.mul_one]; exact hv1), hv2⟩, by rw [ht]; exact hP, va_K.moved hW.alike hK, hD⟩, hS.F ht⟩) hS.2.2 dX0_reduce_91
      · have p_c_78 : a < 0 := by by_cases q : a < 0; exact q; rw [z0, if_neg q] at c_78; exact absurd rfl c_78
        refine lv_aload_n hx hb dX0_reduce_81 rfl (lv_at hl 3 rfl) ?_
        refine va_get (D := D) (ci := 1) (v := .ref (ad 4)) (C := RX0) (T := TX0) (N := 2) hx hb hts k2 hown hK hP 3 rfl rfl 0 (by decide) k1 (fun _ h9 => h9) rfl dX0_reduce_82 ?_
        refine lv_ldc2 (v := (-1)) hx hb hown k17 dX0_reduce_85 ?_
        refine fk_cv hD hS hA (va_runVN (As := [.long (-1)]) (rest := []) ⟨hx, hb, hml, hown, hts⟩ (kX2_scale _ _ (ad 4) (ad 5) 4 5 g10 (-1) (fk_abs a / fk_gc a b) rfl rfl hv1 (by decide)) ⟨va_cnB 1 hts gX0_reduce_X2_scale_n35 rfl rfl rfl k18 k4 (by decide +kernel) ⟨Nat.le_of_ble_eq_true rfl, Nat.le_of_ble_eq_true rfl⟩, k19, k20⟩ (fk_preV 4 3 hK hN hP hD rfl rfl) rfl rfl hl.1 rfl (lv_room (Nat.le_of_ble_eq_true rfl)) dX0_reduce_88 ⟨Nat.le_of_ble_eq_true rfl, Nat.le_of_ble_eq_true rfl⟩) (fun g14 H locs hw hP hD hS => ?_)
        have hP : va_P D vwCl (fk_wx cJ cC cK ad kd kc lo ch ts g14 g12 g5 f4 f5 ++ tl) H := hP
        have hD : va_D A (fk_wx cJ cC cK ad kd kc lo ch ts g14 g12 g5 f4 f5 ++ tl) := hD
        rw [show ((-1) : Int64).toInt = (-1) by decide] at hw
        have hRg14 := hw
        rw [hQQ]
        exact W.vret hx hb hr (fun t ht hW => ⟨⟨(g14, g12, g5), rfl, ⟨(by rw [if_pos p_c_78]; exact hRg14), hv2⟩, by rw [ht]; exact hP, va_K.moved hW.alike hK, hD⟩, hS.F ht⟩) hS.2.2 dX0_reduce_91
  · have p_c_9 : a < 0 := by by_cases q : a < 0; exact q; rw [z0, if_neg q] at c_9; exact absurd rfl c_9
    refine lv_aload_n hx hb dX0_reduce_12 rfl (lv_at hl 1 rfl) ?_
    refine va_get (D := D) (ci := 1) (v := .ref (ad 4)) (C := RX0) (T := TX0) (N := 2) hx hb hts k2 hown hK hP 3 rfl rfl 0 (by decide) k1 (fun _ h9 => h9) rfl dX0_reduce_13 ?_
    refine lv_ldc2 (v := (-1)) hx hb hown k17 dX0_reduce_16 ?_
    refine fk_cv hD hS hA (va_runVN (As := [.long (-1)]) (rest := []) ⟨hx, hb, hml, hown, hts⟩ (kX2_scale _ _ (ad 4) (ad 5) 4 5 f1 (-1) (a) rfl rfl hRa (by decide)) ⟨va_cnB 1 hts gX0_reduce_X2_scale_n35 rfl rfl rfl k18 k4 (by decide +kernel) ⟨Nat.le_of_ble_eq_true rfl, Nat.le_of_ble_eq_true rfl⟩, k19, k20⟩ (fk_preV 4 3 hK hN hP hD rfl rfl) rfl rfl hl.1 rfl (lv_room (Nat.le_of_ble_eq_true rfl)) dX0_reduce_19 ⟨Nat.le_of_ble_eq_true rfl, Nat.le_of_ble_eq_true rfl⟩) (fun g16 H locs hw hP hD hS => ?_)
    have hP : va_P D vwCl (fk_wx cJ cC cK ad kd kc lo ch ts g16 f2 f3 f4 f5 ++ tl) H := hP
    have hD : va_D A (fk_wx cJ cC cK ad kd kc lo ch ts g16 f2 f3 f4 f5 ++ tl) := hD
    rw [show ((-1) : Int64).toInt = (-1) by decide] at hw
    have hRg16 := hw
    have hAe : fk_abs a = a * -1 := by rw [fk_abs, if_pos p_c_9]; omega
    have hA0 := fk_abs_bd hab.1 hab.2
    have hAI : fk_In (fk_abs a) := ⟨by omega, by omega⟩
    rw [← hAe] at hRg16
    refine lv_aload_n hx hb dX0_reduce_22 rfl (lv_at hl 1 rfl) ?_
    refine va_get (D := D) (ci := 1) (v := .ref (ad 6)) (C := RX0) (T := TX0) (N := 2) hx hb hts k2 hown hK hP 3 rfl rfl 1 (by decide) k7 (fun _ h9 => h9) rfl dX0_reduce_23 ?_
    refine lv_iconst (v := 0) hx hb dX0_reduce_26 (by decide) ?_
    refine fk_cl hD hS hA (va_runVN (As := [.int 0]) (rest := []) ⟨hx, hb, hml, hown, hts⟩ (kX2_bitsFrom _ _ (ad 6) (ad 7) 6 7 f2 0 (b) rfl rfl hRb (by omega)) ⟨va_cnB 1 hts gX0_reduce_X2_bitsFrom_n77 rfl rfl rfl k8 k4 (by decide +kernel) ⟨Nat.le_of_ble_eq_true rfl, Nat.le_of_ble_eq_true rfl⟩, k9, k10⟩ (fk_preV 6 3 hK hN hP hD rfl rfl) rfl rfl hl.1 rfl (lv_room (Nat.le_of_ble_eq_true rfl)) dX0_reduce_27 ⟨Nat.le_of_ble_eq_true rfl, Nat.le_of_ble_eq_true rfl⟩) (fun r18 u H locs hw hP hD hS => ?_)
    have hP : va_P D vwCl (fk_wx cJ cC cK ad kd kc lo ch ts g16 f2 f3 f4 f5 ++ tl) H := hP
    have hD : va_D A (fk_wx cJ cC cK ad kd kc lo ch ts g16 f2 f3 f4 f5 ++ tl) := hD
    have zb := hw
    have hdn : r18 = lN b.toNat := by
      rw [zb]; apply Int64.toInt_inj.mp; rw [pk_lT (by omega)]; simp only [Int.pow_zero, Int.ediv_one]; rw [Int64.toInt_ofInt_of_le (by omega) (by omega)]; omega
    have hdt : (r18).toInt = b := by rw [hdn, pk_lT (by omega)]; omega
    refine lv_lstore_n (lv' := [(3, .long r18), (2, .int r1), (0, .ref (ad 3)), (1, .ref (ad 9))]) hx hb dX0_reduce_30 rfl hl (by decide) rfl (fun ls hl => ?_)
    refine lv_aload_n hx hb dX0_reduce_31 rfl (lv_at hl 3 rfl) ?_
    refine lv_aload_n hx hb dX0_reduce_32 rfl (lv_at hl 2 rfl) ?_
    refine va_get (D := D) (ci := 1) (v := .ref (ad 4)) (C := RX0) (T := TX0) (N := 2) hx hb hts k2 hown hK hP 3 rfl rfl 0 (by decide) k1 (fun _ h9 => h9) rfl dX0_reduce_33 ?_
    refine fk_cv hD hS hA (va_runVN (As := [.ref (ad 4)]) (rest := []) ⟨hx, hb, hml, hown, hts⟩ (kX2_copy _ _ (ad 9) (ad 10) (ad 4) (ad 5) 9 10 4 5 f3 g16 (fk_abs a) rfl rfl rfl rfl (by decide) hRg16) ⟨va_cnB 1 hts gX0_reduce_X2_copy_n81 rfl rfl rfl k11 k4 (by decide +kernel) ⟨Nat.le_of_ble_eq_true rfl, Nat.le_of_ble_eq_true rfl⟩, k12, k13⟩ (fk_preV 9 3 hK hN hP hD rfl rfl) rfl rfl hl.1 rfl (lv_room (Nat.le_of_ble_eq_true rfl)) dX0_reduce_36 ⟨Nat.le_of_ble_eq_true rfl, Nat.le_of_ble_eq_true rfl⟩) (fun g19 H locs hw hP hD hS => ?_)
    have hP : va_P D vwCl (fk_wx cJ cC cK ad kd kc lo ch ts g16 f2 g19 f4 f5 ++ tl) H := hP
    have hD : va_D A (fk_wx cJ cC cK ad kd kc lo ch ts g16 f2 g19 f4 f5 ++ tl) := hD
    have hRg19 := hw
    refine lv_lload_n hx hb dX0_reduce_39 rfl (lv_at hl 0 rfl) ?_
    refine lv_aload_n hx hb dX0_reduce_40 rfl (lv_at hl 3 rfl) ?_
    refine lv_lload_n hx hb dX0_reduce_41 rfl (lv_at hl 0 rfl) ?_
    refine fk_cl hD hS hA (va_runVN (As := [.long r18]) (rest := [.long r18]) ⟨hx, hb, hml, hown, hts⟩ (kX2_shorten _ _ (ad 9) (ad 10) 9 10 g19 r18 (fk_abs a) rfl rfl hRg19 hAI hA0.1 (by omega)) ⟨va_cnB 1 hts gX0_reduce_X2_shorten_n84 rfl rfl rfl k14 k4 (by decide +kernel) ⟨Nat.le_of_ble_eq_true rfl, Nat.le_of_ble_eq_true rfl⟩, k15, k16⟩ (fk_preV 9 3 hK hN hP hD rfl rfl) rfl rfl hl.1 rfl (lv_room (Nat.le_of_ble_eq_true rfl)) dX0_reduce_42 ⟨Nat.le_of_ble_eq_true rfl, Nat.le_of_ble_eq_true rfl⟩) (fun r22 g21 H locs hw hP hD hS => ?_)
    have hP : va_P D vwCl (fk_wx cJ cC cK ad kd kc lo ch ts g16 f2 g21 f4 f5 ++ tl) H := hP
    have hD : va_D A (fk_wx cJ cC cK ad kd kc lo ch ts g16 f2 g21 f4 f5 ++ tl) := hD
    obtain ⟨hqg21, hRg21⟩ := hw
    rw [hdt] at hqg21
    have hsp : r22 = lN (fk_abs a % b).toNat := by
      have q1 := Int.emod_nonneg (fk_abs a) (show b ≠ 0 by omega)
      have q2 := Int.emod_lt_of_pos (fk_abs a) (show 0 < b by omega)
      apply Int64.toInt_inj.mp; rw [pk_lT (by omega), hqg21]; omega
    have q2 := Int.emod_lt_of_pos (fk_abs a) (show 0 < b by omega)
    have q1 := Int.emod_nonneg (fk_abs a) (show b ≠ 0 by omega)
    subst hdn
    subst hsp
    refine fk_cl hD hS hA (va_runS (As := [.long (lN b.toNat), .long (lN (fk_abs a % b).toNat)]) (rest := []) ⟨hx, hb, hml, hown, hts⟩ (kX0_commonDivisor _ _ b.toNat (fk_abs a % b).toNat (by omega) (by omega)) (va_cwS 2 hts gX0_reduce_X0_commonDivisor rfl rfl rfl (by decide +kernel) ⟨Nat.le_of_ble_eq_true rfl, Nat.le_of_ble_eq_true rfl⟩) (fk_preS hK hN hP hD) rfl rfl hl.1 rfl (lv_room (Nat.le_of_ble_eq_true rfl)) dX0_reduce_45 ⟨Nat.le_of_ble_eq_true rfl, Nat.le_of_ble_eq_true rfl⟩) (fun r23 u H locs hw hP hD hS => ?_)
    have hP : va_P D vwCl (fk_wx cJ cC cK ad kd kc lo ch ts g16 f2 g21 f4 f5 ++ tl) H := hP
    have hD : va_D A (fk_wx cJ cC cK ad kd kc lo ch ts g16 f2 g21 f4 f5 ++ tl) := hD
    have hgb := fk_gc_bd a (show 0 < b by omega)
    have hgt : (r23).toInt = fk_gc a b := by rw [hw, fk_gc]; exact pk_lT (by rw [fk_gc] at hgb; omega)
    refine lv_lstore (lv' := [(5, .long r23), (3, .long (lN b.toNat)), (2, .int r1), (0, .ref (ad 3)), (1, .ref (ad 9))]) hx hb dX0_reduce_48 hl (by decide) rfl (fun ls hl => ?_)
    refine lv_lload hx hb dX0_reduce_50 (lv_at hl 0 rfl) ?_
    refine lv_lconst (v := 1) hx hb dX0_reduce_52 (by decide) ?_
    refine W.lcmp hx hb dX0_reduce_53 ?_
    refine lv_if_le (tgt := 77) hx hb dX0_reduce_54 (by decide) (fun c_54 => ?_) (fun c_54 => ?_)
    · rw [lg_cmp_le] at c_54
      rw [Int64.le_iff_toInt_le, hgt, show (1 : Int64).toInt = 1 by decide] at c_54
      have hg1 : fk_gc a b = 1 := by omega
      have hv1 : fk_R (fk_abs a / fk_gc a b) g16 := by rw [hg1, Int.ediv_one]; exact hRg16
      have hv2 : fk_R (b / fk_gc a b) f2 := by rw [hg1, Int.ediv_one]; exact hRb
      refine lv_iload_n hx hb dX0_reduce_77 rfl (lv_at hl 2 rfl) ?_
      refine lv_if_eq (tgt := 91) hx hb dX0_reduce_78 (by decide) (fun c_78 => ?_) (fun c_78 => ?_)
      · have p_c_78 : ¬ (a < 0) := by intro q; rw [z0, if_pos q] at c_78; exact absurd c_78 (by decide)
        rw [hQQ]
        exact W.vret hx hb hr (fun t ht hW => ⟨⟨(g16, f2, g21), rfl, ⟨(by rw [if_neg p_c_78, Int.mul_one]; exact hv1), hv2⟩, by rw [ht]; exact hP, va_K.moved hW.alike hK, hD⟩, hS.F ht⟩) hS.2.2 dX0_reduce_91
      · have p_c_78 : a < 0 := by by_cases q : a < 0; exact q; rw [z0, if_neg q] at c_78; exact absurd rfl c_78
        refine lv_aload_n hx hb dX0_reduce_81 rfl (lv_at hl 3 rfl) ?_
        refine va_get (D := D) (ci := 1) (v := .ref (ad 4)) (C := RX0) (T := TX0) (N := 2) hx hb hts k2 hown hK hP 3 rfl rfl 0 (by decide) k1 (fun _ h9 => h9) rfl dX0_reduce_82 ?_
        refine lv_ldc2 (v := (-1)) hx hb hown k17 dX0_reduce_85 ?_
        refine fk_cv hD hS hA (va_runVN (As := [.long (-1)]) (rest := []) ⟨hx, hb, hml, hown, hts⟩ (kX2_scale _ _ (ad 4) (ad 5) 4 5 g16 (-1) (fk_abs a / fk_gc a b) rfl rfl hv1 (by decide)) ⟨va_cnB 1 hts gX0_reduce_X2_scale_n35 rfl rfl rfl k18 k4 (by decide +kernel) ⟨Nat.le_of_ble_eq_true rfl, Nat.le_of_ble_eq_true rfl⟩, k19, k20⟩ (fk_preV 4 3 hK hN hP hD rfl rfl) rfl rfl hl.1 rfl (lv_room (Nat.le_of_ble_eq_true rfl)) dX0_reduce_88 ⟨Nat.le_of_ble_eq_true rfl, Nat.le_of_ble_eq_true rfl⟩) (fun g24 H locs hw hP hD hS => ?_)
        have hP : va_P D vwCl (fk_wx cJ cC cK ad kd kc lo ch ts g24 f2 g21 f4 f5 ++ tl) H := hP
        have hD : va_D A (fk_wx cJ cC cK ad kd kc lo ch ts g24 f2 g21 f4 f5 ++ tl) := hD
        rw [show ((-1) : Int64).toInt = (-1) by decide] at hw
        have hRg24 := hw
        rw [hQQ]
        exact W.vret hx hb hr (fun t ht hW => ⟨⟨(g24, f2, g21), rfl, ⟨(by rw [if_pos p_c_78]; exact hRg24), hv2⟩, by rw [ht]; exact hP, va_K.moved hW.alike hK, hD⟩, hS.F ht⟩) hS.2.2 dX0_reduce_91
    · rw [lg_cmp_le] at c_54
      rw [Int64.le_iff_toInt_le, hgt, show (1 : Int64).toInt = 1 by decide] at c_54
      refine lv_aload_n hx hb dX0_reduce_57 rfl (lv_at hl 3 rfl) ?_
      refine va_get (D := D) (ci := 1) (v := .ref (ad 4)) (C := RX0) (T := TX0) (N := 2) hx hb hts k2 hown hK hP 3 rfl rfl 0 (by decide) k1 (fun _ h9 => h9) rfl dX0_reduce_58 ?_
      refine lv_lload hx hb dX0_reduce_61 (lv_at hl 0 rfl) ?_
      refine fk_cl hD hS hA (va_runVN (As := [.long r23]) (rest := []) ⟨hx, hb, hml, hown, hts⟩ (kX2_shorten _ _ (ad 4) (ad 5) 4 5 g16 r23 (fk_abs a) rfl rfl hRg16 hAI hA0.1 (by omega)) ⟨va_cnB 1 hts gX0_reduce_X2_shorten_n84 rfl rfl rfl k14 k4 (by decide +kernel) ⟨Nat.le_of_ble_eq_true rfl, Nat.le_of_ble_eq_true rfl⟩, k15, k16⟩ (fk_preV 4 3 hK hN hP hD rfl rfl) rfl rfl hl.1 rfl (lv_room (Nat.le_of_ble_eq_true rfl)) dX0_reduce_63 ⟨Nat.le_of_ble_eq_true rfl, Nat.le_of_ble_eq_true rfl⟩) (fun r27 g26 H locs hw hP hD hS => ?_)
      have hP : va_P D vwCl (fk_wx cJ cC cK ad kd kc lo ch ts g26 f2 g21 f4 f5 ++ tl) H := hP
      have hD : va_D A (fk_wx cJ cC cK ad kd kc lo ch ts g26 f2 g21 f4 f5 ++ tl) := hD
      obtain ⟨hqg26, hRg26⟩ := hw
      rw [hgt] at hRg26
      refine lv_pop2_2 hx hb dX0_reduce_66 rfl ?_
      refine lv_aload_n hx hb dX0_reduce_67 rfl (lv_at hl 3 rfl) ?_
      refine va_get (D := D) (ci := 1) (v := .ref (ad 6)) (C := RX0) (T := TX0) (N := 2) hx hb hts k2 hown hK hP 3 rfl rfl 1 (by decide) k7 (fun _ h9 => h9) rfl dX0_reduce_68 ?_
      refine lv_lload hx hb dX0_reduce_71 (lv_at hl 0 rfl) ?_
      refine fk_cl hD hS hA (va_runVN (As := [.long r23]) (rest := []) ⟨hx, hb, hml, hown, hts⟩ (kX2_shorten _ _ (ad 6) (ad 7) 6 7 f2 r23 (b) rfl rfl hRb ⟨by omega, by omega⟩ (by omega) (by omega)) ⟨va_cnB 1 hts gX0_reduce_X2_shorten_n84 rfl rfl rfl k14 k4 (by decide +kernel) ⟨Nat.le_of_ble_eq_true rfl, Nat.le_of_ble_eq_true rfl⟩, k15, k16⟩ (fk_preV 6 3 hK hN hP hD rfl rfl) rfl rfl hl.1 rfl (lv_room (Nat.le_of_ble_eq_true rfl)) dX0_reduce_73 ⟨Nat.le_of_ble_eq_true rfl, Nat.le_of_ble_eq_true rfl⟩) (fun r29 g28 H locs hw hP hD hS => ?_)
      have hP : va_P D vwCl (fk_wx cJ cC cK ad kd kc lo ch ts g26 g28 g21 f4 f5 ++ tl) H := hP
      have hD : va_D A (fk_wx cJ cC cK ad kd kc lo ch ts g26 g28 g21 f4 f5 ++ tl) := hD
      obtain ⟨hqg28, hRg28⟩ := hw
      rw [hgt] at hRg28
      refine lv_pop2_2 hx hb dX0_reduce_76 rfl ?_
      have hv1 := hRg26
      have hv2 := hRg28
      refine lv_iload_n hx hb dX0_reduce_77 rfl (lv_at hl 2 rfl) ?_
      refine lv_if_eq (tgt := 91) hx hb dX0_reduce_78 (by decide) (fun c_78 => ?_) (fun c_78 => ?_)
      · have p_c_78 : ¬ (a < 0) := by intro q; rw [z0, if_pos q] at c_78; exact absurd c_78 (by decide)
        rw [hQQ]
        exact W.vret hx hb hr (fun t ht hW => ⟨⟨(g26, g28, g21), rfl, ⟨(by rw [if_neg p_c_78, Int.mul_one]; exact hv1), hv2⟩, by rw [ht]; exact hP, va_K.moved hW.alike hK, hD⟩, hS.F ht⟩) hS.2.2 dX0_reduce_91
      · have p_c_78 : a < 0 := by by_cases q : a < 0; exact q; rw [z0, if_neg q] at c_78; exact absurd rfl c_78
        refine lv_aload_n hx hb dX0_reduce_81 rfl (lv_at hl 3 rfl) ?_
        refine va_get (D := D) (ci := 1) (v := .ref (ad 4)) (C := RX0) (T := TX0) (N := 2) hx hb hts k2 hown hK hP 3 rfl rfl 0 (by decide) k1 (fun _ h9 => h9) rfl dX0_reduce_82 ?_
        refine lv_ldc2 (v := (-1)) hx hb hown k17 dX0_reduce_85 ?_
        refine fk_cv hD hS hA (va_runVN (As := [.long (-1)]) (rest := []) ⟨hx, hb, hml, hown, hts⟩ (kX2_scale _ _ (ad 4) (ad 5) 4 5 g26 (-1) (fk_abs a / fk_gc a b) rfl rfl hv1 (by decide)) ⟨va_cnB 1 hts gX0_reduce_X2_scale_n35 rfl rfl rfl k18 k4 (by decide +kernel) ⟨Nat.le_of_ble_eq_true rfl, Nat.le_of_ble_eq_true rfl⟩, k19, k20⟩ (fk_preV 4 3 hK hN hP hD rfl rfl) rfl rfl hl.1 rfl (lv_room (Nat.le_of_ble_eq_true rfl)) dX0_reduce_88 ⟨Nat.le_of_ble_eq_true rfl, Nat.le_of_ble_eq_true rfl⟩) (fun g30 H locs hw hP hD hS => ?_)
        have hP : va_P D vwCl (fk_wx cJ cC cK ad kd kc lo ch ts g30 g28 g21 f4 f5 ++ tl) H := hP
        have hD : va_D A (fk_wx cJ cC cK ad kd kc lo ch ts g30 g28 g21 f4 f5 ++ tl) := hD
        rw [show ((-1) : Int64).toInt = (-1) by decide] at hw
        have hRg30 := hw
        rw [hQQ]
        exact W.vret hx hb hr (fun t ht hW => ⟨⟨(g30, g28, g21), rfl, ⟨(by rw [if_pos p_c_78]; exact hRg30), hv2⟩, by rw [ht]; exact hP, va_K.moved hW.alike hK, hD⟩, hS.F ht⟩) hS.2.2 dX0_reduce_91
abbrev rmX0_toMillionths : Room := { frames := 2, cells := 0, slots := 0, locals := 45 }
set_option maxHeartbeats 4000000 in
set_option maxRecDepth 100000 in
/-- Fraction.toMillionths -/
theorem kX0_toMillionths {l : Launch} {D : va_G} {cJ cC cI cZ cK : ClassId} (sz : Nat) (ad : Nat → Nat) (tl : va_W) (kd : Nat → Option Nat) (kc lo : Int32) (ch : Nat → Int32) (ts : Int32) (f1 f2 f3 f4 f5 : Nat → Int64) (a b : Int) (hRa : fk_R a f1) (hRb : fk_R b f2) (hab : -18889465931478580854784 ≤ a ∧ a ≤ 18889465931478580854784) (hbb : 1 ≤ b ∧ b ≤ 1000) : Met l yX0_toMillionths wsX0_toMillionths rmX0_toMillionths (va_Pc [.ref (ad 3)] (fk_pre D (fk_ty cJ cC cI cZ cK) (fk_wx cJ cC cK ad kd kc lo ch ts f1 f2 f3 f4 f5 ++ tl) sz)) (va_Qq (fun (r : Option Nat) (u : Nat → Int64) => r = some (ad 4) ∧ fk_R ((fk_abs a * 2000000 + b) / (2 * b)) u) (fk_Bd D (fk_ty cJ cC cI cZ cK) (va_A (fk_wx cJ cC cK ad kd kc lo ch ts f1 f2 f3 f4 f5 ++ tl) sz) (fun u : (Nat → Int64) => fk_wx cJ cC cK ad kd kc lo ch ts u f2 f3 f4 f5 ++ tl)) (va_A (fk_wx cJ cC cK ad kd kc lo ch ts f1 f2 f3 f4 f5 ++ tl) sz)) 0 0 (va_A (fk_wx cJ cC cK ad kd kc lo ch ts f1 f2 f3 f4 f5 ++ tl) sz) := by
  refine fk_ofW cX0_toMillionths 3 (some (.object "FixedKinds$Whole")) (fun A => va_Qq (fun (r : Option Nat) (u : Nat → Int64) => r = some (ad 4) ∧ fk_R ((fk_abs a * 2000000 + b) / (2 * b)) u) (fk_Bd D (fk_ty cJ cC cI cZ cK) A (fun u : (Nat → Int64) => fk_wx cJ cC cK ad kd kc lo ch ts u f2 f3 f4 f5 ++ tl)) A) rfl (by decide) (Nat.le_of_ble_eq_true rfl) ?_
  intro p e s m below meth c A ls args QQ hQQ hAt hP hK hN hD hA hS hl
  obtain ⟨⟨hx, hb, hml, hown, hts⟩, hr, hlocks, hin⟩ := hAt
  have hl : lv_has ls 3 [(0, .ref (ad 3))] := hl
  have k1 := hts (.fieldLink RX0 12 "FixedKinds$Fraction" "above" "LFixedKinds$Whole;") (by decide +kernel)
  have k2 := (by decide +kernel : ∀ w ∈ u_ws RX0 TX0 2, w ∈ wsX0_toMillionths)
  have k3 := hN _ fkn_X0_51
  have k4 := hts (.initialized RX2) (by decide +kernel)
  have k5 := hts (.instanceMethod yX2_isNegative) (by decide +kernel)
  have k6 := hts (.selects RX2 yX2_isNegative yX2_isNegative) (by decide +kernel)
  have k7 := hts (.fieldLink RX0 18 "FixedKinds$Fraction" "below" "LFixedKinds$Whole;") (by decide +kernel)
  have k8 := hN _ fkn_X0_77
  have k9 := hts (.instanceMethod yX2_bitsFrom) (by decide +kernel)
  have k10 := hts (.selects RX2 yX2_bitsFrom yX2_bitsFrom) (by decide +kernel)
  have k11 := hts (.constantLong RX0 91 2000000) (by decide +kernel)
  have k12 := hN _ fkn_X0_35
  have k13 := hts (.instanceMethod yX2_scale) (by decide +kernel)
  have k14 := hts (.selects RX2 yX2_scale yX2_scale) (by decide +kernel)
  have k15 := hN _ fkn_X0_44
  have k16 := hts (.instanceMethod yX2_grow) (by decide +kernel)
  have k17 := hts (.selects RX2 yX2_grow yX2_grow) (by decide +kernel)
  have k18 := hts (.constantLong RX0 75 2) (by decide +kernel)
  have k19 := hN _ fkn_X0_84
  have k20 := hts (.instanceMethod yX2_shorten) (by decide +kernel)
  have k21 := hts (.selects RX2 yX2_shorten yX2_shorten) (by decide +kernel)
  have k22 := hts (.constantLong RX0 62 (-1)) (by decide +kernel)
  refine lv_aload_n hx hb dX0_toMillionths_0 rfl (lv_at hl 0 rfl) ?_
  refine va_get (D := D) (ci := 1) (v := .ref (ad 4)) (C := RX0) (T := TX0) (N := 2) hx hb hts k2 hown hK hP 3 rfl rfl 0 (by decide) k1 (fun _ h9 => h9) rfl dX0_toMillionths_1 ?_
  refine fk_ci hD hS hA (va_runVN (As := []) (rest := []) ⟨hx, hb, hml, hown, hts⟩ (kX2_isNegative _ _ (ad 4) (ad 5) 4 5 f1 (a) rfl rfl hRa ⟨by omega, by omega⟩) ⟨va_cnB 0 hts gX0_toMillionths_X2_isNegative_n51 rfl rfl rfl k3 k4 (by decide +kernel) ⟨Nat.le_of_ble_eq_true rfl, Nat.le_of_ble_eq_true rfl⟩, k5, k6⟩ (fk_preV 4 3 hK hN hP hD rfl rfl) rfl rfl hl.1 rfl (lv_room (Nat.le_of_ble_eq_true rfl)) dX0_toMillionths_4 ⟨Nat.le_of_ble_eq_true rfl, Nat.le_of_ble_eq_true rfl⟩) (fun r1 u H locs hw hP hD hS => ?_)
  have hP : va_P D vwCl (fk_wx cJ cC cK ad kd kc lo ch ts f1 f2 f3 f4 f5 ++ tl) H := hP
  have hD : va_D A (fk_wx cJ cC cK ad kd kc lo ch ts f1 f2 f3 f4 f5 ++ tl) := hD
  have z0 := hw
  refine lv_if_eq (tgt := 20) hx hb dX0_toMillionths_7 (by decide) (fun c_7 => ?_) (fun c_7 => ?_)
  · have p_c_7 : ¬ (a < 0) := by intro q; rw [z0, if_pos q] at c_7; exact absurd c_7 (by decide)
    have hAe : fk_abs a = a := by rw [fk_abs, if_neg p_c_7]
    have hA0 := fk_abs_bd hab.1 hab.2
    have hAI : fk_In (fk_abs a) := ⟨by omega, by omega⟩
    rw [← hAe] at hRa
    refine lv_aload_n hx hb dX0_toMillionths_20 rfl (lv_at hl 0 rfl) ?_
    refine va_get (D := D) (ci := 1) (v := .ref (ad 6)) (C := RX0) (T := TX0) (N := 2) hx hb hts k2 hown hK hP 3 rfl rfl 1 (by decide) k7 (fun _ h9 => h9) rfl dX0_toMillionths_21 ?_
    refine lv_iconst (v := 0) hx hb dX0_toMillionths_24 (by decide) ?_
    refine fk_cl hD hS hA (va_runVN (As := [.int 0]) (rest := []) ⟨hx, hb, hml, hown, hts⟩ (kX2_bitsFrom _ _ (ad 6) (ad 7) 6 7 f2 0 (b) rfl rfl hRb (by omega)) ⟨va_cnB 1 hts gX0_toMillionths_X2_bitsFrom_n77 rfl rfl rfl k8 k4 (by decide +kernel) ⟨Nat.le_of_ble_eq_true rfl, Nat.le_of_ble_eq_true rfl⟩, k9, k10⟩ (fk_preV 6 3 hK hN hP hD rfl rfl) rfl rfl hl.1 rfl (lv_room (Nat.le_of_ble_eq_true rfl)) dX0_toMillionths_25 ⟨Nat.le_of_ble_eq_true rfl, Nat.le_of_ble_eq_true rfl⟩) (fun r2 u H locs hw hP hD hS => ?_)
    have hP : va_P D vwCl (fk_wx cJ cC cK ad kd kc lo ch ts f1 f2 f3 f4 f5 ++ tl) H := hP
    have hD : va_D A (fk_wx cJ cC cK ad kd kc lo ch ts f1 f2 f3 f4 f5 ++ tl) := hD
    have zb := hw
    have hdt : (r2).toInt = b := by rw [zb]; simp only [Int.pow_zero, Int.ediv_one]; exact Int64.toInt_ofInt_of_le (by omega) (by omega)
    refine lv_lstore_n (lv' := [(1, .long r2), (0, .ref (ad 3))]) hx hb dX0_toMillionths_28 rfl hl (by decide) rfl (fun ls hl => ?_)
    refine lv_aload_n hx hb dX0_toMillionths_29 rfl (lv_at hl 1 rfl) ?_
    refine va_get (D := D) (ci := 1) (v := .ref (ad 4)) (C := RX0) (T := TX0) (N := 2) hx hb hts k2 hown hK hP 3 rfl rfl 0 (by decide) k1 (fun _ h9 => h9) rfl dX0_toMillionths_30 ?_
    refine lv_ldc2 (v := 2000000) hx hb hown k11 dX0_toMillionths_33 ?_
    refine fk_cv hD hS hA (va_runVN (As := [.long 2000000]) (rest := []) ⟨hx, hb, hml, hown, hts⟩ (kX2_scale _ _ (ad 4) (ad 5) 4 5 f1 2000000 (fk_abs a) rfl rfl hRa (by decide)) ⟨va_cnB 1 hts gX0_toMillionths_X2_scale_n35 rfl rfl rfl k12 k4 (by decide +kernel) ⟨Nat.le_of_ble_eq_true rfl, Nat.le_of_ble_eq_true rfl⟩, k13, k14⟩ (fk_preV 4 3 hK hN hP hD rfl rfl) rfl rfl hl.1 rfl (lv_room (Nat.le_of_ble_eq_true rfl)) dX0_toMillionths_36 ⟨Nat.le_of_ble_eq_true rfl, Nat.le_of_ble_eq_true rfl⟩) (fun g3 H locs hw hP hD hS => ?_)
    have hP : va_P D vwCl (fk_wx cJ cC cK ad kd kc lo ch ts g3 f2 f3 f4 f5 ++ tl) H := hP
    have hD : va_D A (fk_wx cJ cC cK ad kd kc lo ch ts g3 f2 f3 f4 f5 ++ tl) := hD
    rw [show (2000000 : Int64).toInt = 2000000 by decide] at hw
    have hRg3 := hw
    refine lv_aload_n hx hb dX0_toMillionths_39 rfl (lv_at hl 1 rfl) ?_
    refine va_get (D := D) (ci := 1) (v := .ref (ad 4)) (C := RX0) (T := TX0) (N := 2) hx hb hts k2 hown hK hP 3 rfl rfl 0 (by decide) k1 (fun _ h9 => h9) rfl dX0_toMillionths_40 ?_
    refine lv_lload_n hx hb dX0_toMillionths_43 rfl (lv_at hl 0 rfl) ?_
    refine fk_cv hD hS hA (va_runVN (As := [.long r2]) (rest := []) ⟨hx, hb, hml, hown, hts⟩ (kX2_grow _ _ (ad 4) (ad 5) 4 5 g3 r2 ((fk_abs a) * 2000000) rfl rfl (fk_R_F hRg3) (fk_R_T hRg3) (by omega)) ⟨va_cnB 1 hts gX0_toMillionths_X2_grow_n44 rfl rfl rfl k15 k4 (by decide +kernel) ⟨Nat.le_of_ble_eq_true rfl, Nat.le_of_ble_eq_true rfl⟩, k16, k17⟩ (fk_preV 4 3 hK hN hP hD rfl rfl) rfl rfl hl.1 rfl (lv_room (Nat.le_of_ble_eq_true rfl)) dX0_toMillionths_44 ⟨Nat.le_of_ble_eq_true rfl, Nat.le_of_ble_eq_true rfl⟩) (fun g5 H locs hw hP hD hS => ?_)
    have hP : va_P D vwCl (fk_wx cJ cC cK ad kd kc lo ch ts g5 f2 f3 f4 f5 ++ tl) H := hP
    have hD : va_D A (fk_wx cJ cC cK ad kd kc lo ch ts g5 f2 f3 f4 f5 ++ tl) := hD
    rw [hdt] at hw
    have hRg5 := hw
    refine lv_aload_n hx hb dX0_toMillionths_47 rfl (lv_at hl 1 rfl) ?_
    refine va_get (D := D) (ci := 1) (v := .ref (ad 4)) (C := RX0) (T := TX0) (N := 2) hx hb hts k2 hown hK hP 3 rfl rfl 0 (by decide) k1 (fun _ h9 => h9) rfl dX0_toMillionths_48 ?_
    refine lv_ldc2 (v := 2) hx hb hown k18 dX0_toMillionths_51 ?_
    refine lv_lload_n hx hb dX0_toMillionths_54 rfl (lv_at hl 0 rfl) ?_
    refine lv_lmul hx hb dX0_toMillionths_55 ?_
    refine lv_topl (fun x7 ex7 => ?_)
    have h2d : x7.toInt = 2 * b := by rw [ex7, ← hdt, show (2 : Int64) * r2 = r2 + r2 from by rw [Int64.two_mul], fk_add (by omega) (by omega)]; omega
    refine fk_cl hD hS hA (va_runVN (As := [.long x7]) (rest := []) ⟨hx, hb, hml, hown, hts⟩ (kX2_shorten _ _ (ad 4) (ad 5) 4 5 g5 x7 (((fk_abs a) * 2000000) + b) rfl rfl hRg5 ⟨by omega, by omega⟩ (by omega) (by omega)) ⟨va_cnB 1 hts gX0_toMillionths_X2_shorten_n84 rfl rfl rfl k19 k4 (by decide +kernel) ⟨Nat.le_of_ble_eq_true rfl, Nat.le_of_ble_eq_true rfl⟩, k20, k21⟩ (fk_preV 4 3 hK hN hP hD rfl rfl) rfl rfl hl.1 rfl (lv_room (Nat.le_of_ble_eq_true rfl)) dX0_toMillionths_56 ⟨Nat.le_of_ble_eq_true rfl, Nat.le_of_ble_eq_true rfl⟩) (fun r9 g8 H locs hw hP hD hS => ?_)
    have hP : va_P D vwCl (fk_wx cJ cC cK ad kd kc lo ch ts g8 f2 f3 f4 f5 ++ tl) H := hP
    have hD : va_D A (fk_wx cJ cC cK ad kd kc lo ch ts g8 f2 f3 f4 f5 ++ tl) := hD
    obtain ⟨hqg8, hRg8⟩ := hw
    rw [h2d] at hRg8
    refine lv_pop2_2 hx hb dX0_toMillionths_59 rfl ?_
    refine lv_aload_n hx hb dX0_toMillionths_60 rfl (lv_at hl 1 rfl) ?_
    refine va_get (D := D) (ci := 1) (v := .ref (ad 4)) (C := RX0) (T := TX0) (N := 2) hx hb hts k2 hown hK hP 3 rfl rfl 0 (by decide) k1 (fun _ h9 => h9) rfl dX0_toMillionths_61 ?_
    rw [hQQ]
    exact W.aret (v := va_rf (some (ad 4))) hx hb hr (Or.inl ⟨_, rfl⟩) (va_rf_or (some (ad 4))) (fun t ht hW => ⟨⟨(some (ad 4)), g8, rfl, ⟨rfl, hRg8⟩, by rw [ht]; exact hP, va_K.moved hW.alike hK, hD⟩, hS.F ht⟩) hS.2.2 dX0_toMillionths_64
  · have p_c_7 : a < 0 := by by_cases q : a < 0; exact q; rw [z0, if_neg q] at c_7; exact absurd rfl c_7
    refine lv_aload_n hx hb dX0_toMillionths_10 rfl (lv_at hl 0 rfl) ?_
    refine va_get (D := D) (ci := 1) (v := .ref (ad 4)) (C := RX0) (T := TX0) (N := 2) hx hb hts k2 hown hK hP 3 rfl rfl 0 (by decide) k1 (fun _ h9 => h9) rfl dX0_toMillionths_11 ?_
    refine lv_ldc2 (v := (-1)) hx hb hown k22 dX0_toMillionths_14 ?_
    refine fk_cv hD hS hA (va_runVN (As := [.long (-1)]) (rest := []) ⟨hx, hb, hml, hown, hts⟩ (kX2_scale _ _ (ad 4) (ad 5) 4 5 f1 (-1) (a) rfl rfl hRa (by decide)) ⟨va_cnB 1 hts gX0_toMillionths_X2_scale_n35 rfl rfl rfl k12 k4 (by decide +kernel) ⟨Nat.le_of_ble_eq_true rfl, Nat.le_of_ble_eq_true rfl⟩, k13, k14⟩ (fk_preV 4 3 hK hN hP hD rfl rfl) rfl rfl hl.1 rfl (lv_room (Nat.le_of_ble_eq_true rfl)) dX0_toMillionths_17 ⟨Nat.le_of_ble_eq_true rfl, Nat.le_of_ble_eq_true rfl⟩) (fun g10 H locs hw hP hD hS => ?_)
    have hP : va_P D vwCl (fk_wx cJ cC cK ad kd kc lo ch ts g10 f2 f3 f4 f5 ++ tl) H := hP
    have hD : va_D A (fk_wx cJ cC cK ad kd kc lo ch ts g10 f2 f3 f4 f5 ++ tl) := hD
    rw [show ((-1) : Int64).toInt = (-1) by decide] at hw
    have hRg10 := hw
    have hAe : fk_abs a = a * -1 := by rw [fk_abs, if_pos p_c_7]; omega
    have hA0 := fk_abs_bd hab.1 hab.2
    have hAI : fk_In (fk_abs a) := ⟨by omega, by omega⟩
    rw [← hAe] at hRg10
    refine lv_aload_n hx hb dX0_toMillionths_20 rfl (lv_at hl 0 rfl) ?_
    refine va_get (D := D) (ci := 1) (v := .ref (ad 6)) (C := RX0) (T := TX0) (N := 2) hx hb hts k2 hown hK hP 3 rfl rfl 1 (by decide) k7 (fun _ h9 => h9) rfl dX0_toMillionths_21 ?_
    refine lv_iconst (v := 0) hx hb dX0_toMillionths_24 (by decide) ?_
    refine fk_cl hD hS hA (va_runVN (As := [.int 0]) (rest := []) ⟨hx, hb, hml, hown, hts⟩ (kX2_bitsFrom _ _ (ad 6) (ad 7) 6 7 f2 0 (b) rfl rfl hRb (by omega)) ⟨va_cnB 1 hts gX0_toMillionths_X2_bitsFrom_n77 rfl rfl rfl k8 k4 (by decide +kernel) ⟨Nat.le_of_ble_eq_true rfl, Nat.le_of_ble_eq_true rfl⟩, k9, k10⟩ (fk_preV 6 3 hK hN hP hD rfl rfl) rfl rfl hl.1 rfl (lv_room (Nat.le_of_ble_eq_true rfl)) dX0_toMillionths_25 ⟨Nat.le_of_ble_eq_true rfl, Nat.le_of_ble_eq_true rfl⟩) (fun r12 u H locs hw hP hD hS => ?_)
    have hP : va_P D vwCl (fk_wx cJ cC cK ad kd kc lo ch ts g10 f2 f3 f4 f5 ++ tl) H := hP
    have hD : va_D A (fk_wx cJ cC cK ad kd kc lo ch ts g10 f2 f3 f4 f5 ++ tl) := hD
    have zb := hw
    have hdt : (r12).toInt = b := by rw [zb]; simp only [Int.pow_zero, Int.ediv_one]; exact Int64.toInt_ofInt_of_le (by omega) (by omega)
    refine lv_lstore_n (lv' := [(1, .long r12), (0, .ref (ad 3))]) hx hb dX0_toMillionths_28 rfl hl (by decide) rfl (fun ls hl => ?_)
    refine lv_aload_n hx hb dX0_toMillionths_29 rfl (lv_at hl 1 rfl) ?_
    refine va_get (D := D) (ci := 1) (v := .ref (ad 4)) (C := RX0) (T := TX0) (N := 2) hx hb hts k2 hown hK hP 3 rfl rfl 0 (by decide) k1 (fun _ h9 => h9) rfl dX0_toMillionths_30 ?_
    refine lv_ldc2 (v := 2000000) hx hb hown k11 dX0_toMillionths_33 ?_
    refine fk_cv hD hS hA (va_runVN (As := [.long 2000000]) (rest := []) ⟨hx, hb, hml, hown, hts⟩ (kX2_scale _ _ (ad 4) (ad 5) 4 5 g10 2000000 (fk_abs a) rfl rfl hRg10 (by decide)) ⟨va_cnB 1 hts gX0_toMillionths_X2_scale_n35 rfl rfl rfl k12 k4 (by decide +kernel) ⟨Nat.le_of_ble_eq_true rfl, Nat.le_of_ble_eq_true rfl⟩, k13, k14⟩ (fk_preV 4 3 hK hN hP hD rfl rfl) rfl rfl hl.1 rfl (lv_room (Nat.le_of_ble_eq_true rfl)) dX0_toMillionths_36 ⟨Nat.le_of_ble_eq_true rfl, Nat.le_of_ble_eq_true rfl⟩) (fun g13 H locs hw hP hD hS => ?_)
    have hP : va_P D vwCl (fk_wx cJ cC cK ad kd kc lo ch ts g13 f2 f3 f4 f5 ++ tl) H := hP
    have hD : va_D A (fk_wx cJ cC cK ad kd kc lo ch ts g13 f2 f3 f4 f5 ++ tl) := hD
    rw [show (2000000 : Int64).toInt = 2000000 by decide] at hw
    have hRg13 := hw
    refine lv_aload_n hx hb dX0_toMillionths_39 rfl (lv_at hl 1 rfl) ?_
    refine va_get (D := D) (ci := 1) (v := .ref (ad 4)) (C := RX0) (T := TX0) (N := 2) hx hb hts k2 hown hK hP 3 rfl rfl 0 (by decide) k1 (fun _ h9 => h9) rfl dX0_toMillionths_40 ?_
    refine lv_lload_n hx hb dX0_toMillionths_43 rfl (lv_at hl 0 rfl) ?_
    refine fk_cv hD hS hA (va_runVN (As := [.long r12]) (rest := []) ⟨hx, hb, hml, hown, hts⟩ (kX2_grow _ _ (ad 4) (ad 5) 4 5 g13 r12 ((fk_abs a) * 2000000) rfl rfl (fk_R_F hRg13) (fk_R_T hRg13) (by omega)) ⟨va_cnB 1 hts gX0_toMillionths_X2_grow_n44 rfl rfl rfl k15 k4 (by decide +kernel) ⟨Nat.le_of_ble_eq_true rfl, Nat.le_of_ble_eq_true rfl⟩, k16, k17⟩ (fk_preV 4 3 hK hN hP hD rfl rfl) rfl rfl hl.1 rfl (lv_room (Nat.le_of_ble_eq_true rfl)) dX0_toMillionths_44 ⟨Nat.le_of_ble_eq_true rfl, Nat.le_of_ble_eq_true rfl⟩) (fun g15 H locs hw hP hD hS => ?_)
    have hP : va_P D vwCl (fk_wx cJ cC cK ad kd kc lo ch ts g15 f2 f3 f4 f5 ++ tl) H := hP
    have hD : va_D A (fk_wx cJ cC cK ad kd kc lo ch ts g15 f2 f3 f4 f5 ++ tl) := hD
    rw [hdt] at hw
    have hRg15 := hw
    refine lv_aload_n hx hb dX0_toMillionths_47 rfl (lv_at hl 1 rfl) ?_
    refine va_get (D := D) (ci := 1) (v := .ref (ad 4)) (C := RX0) (T := TX0) (N := 2) hx hb hts k2 hown hK hP 3 rfl rfl 0 (by decide) k1 (fun _ h9 => h9) rfl dX0_toMillionths_48 ?_
    refine lv_ldc2 (v := 2) hx hb hown k18 dX0_toMillionths_51 ?_
    refine lv_lload_n hx hb dX0_toMillionths_54 rfl (lv_at hl 0 rfl) ?_
    refine lv_lmul hx hb dX0_toMillionths_55 ?_
    refine lv_topl (fun x17 ex17 => ?_)
    have h2d : x17.toInt = 2 * b := by rw [ex17, ← hdt, show (2 : Int64) * r12 = r12 + r12 from by rw [Int64.two_mul], fk_add (by omega) (by omega)]; omega
    refine fk_cl hD hS hA (va_runVN (As := [.long x17]) (rest := []) ⟨hx, hb, hml, hown, hts⟩ (kX2_shorten _ _ (ad 4) (ad 5) 4 5 g15 x17 (((fk_abs a) * 2000000) + b) rfl rfl hRg15 ⟨by omega, by omega⟩ (by omega) (by omega)) ⟨va_cnB 1 hts gX0_toMillionths_X2_shorten_n84 rfl rfl rfl k19 k4 (by decide +kernel) ⟨Nat.le_of_ble_eq_true rfl, Nat.le_of_ble_eq_true rfl⟩, k20, k21⟩ (fk_preV 4 3 hK hN hP hD rfl rfl) rfl rfl hl.1 rfl (lv_room (Nat.le_of_ble_eq_true rfl)) dX0_toMillionths_56 ⟨Nat.le_of_ble_eq_true rfl, Nat.le_of_ble_eq_true rfl⟩) (fun r19 g18 H locs hw hP hD hS => ?_)
    have hP : va_P D vwCl (fk_wx cJ cC cK ad kd kc lo ch ts g18 f2 f3 f4 f5 ++ tl) H := hP
    have hD : va_D A (fk_wx cJ cC cK ad kd kc lo ch ts g18 f2 f3 f4 f5 ++ tl) := hD
    obtain ⟨hqg18, hRg18⟩ := hw
    rw [h2d] at hRg18
    refine lv_pop2_2 hx hb dX0_toMillionths_59 rfl ?_
    refine lv_aload_n hx hb dX0_toMillionths_60 rfl (lv_at hl 1 rfl) ?_
    refine va_get (D := D) (ci := 1) (v := .ref (ad 4)) (C := RX0) (T := TX0) (N := 2) hx hb hts k2 hown hK hP 3 rfl rfl 0 (by decide) k1 (fun _ h9 => h9) rfl dX0_toMillionths_61 ?_
    rw [hQQ]
    exact W.aret (v := va_rf (some (ad 4))) hx hb hr (Or.inl ⟨_, rfl⟩) (va_rf_or (some (ad 4))) (fun t ht hW => ⟨⟨(some (ad 4)), g18, rfl, ⟨rfl, hRg18⟩, by rw [ht]; exact hP, va_K.moved hW.alike hK, hD⟩, hS.F ht⟩) hS.2.2 dX0_toMillionths_64
end
section
theorem dX3_init_0 : decode cX3_init 0 = .ok (.aload_n 0, 1) := by decide +kernel
theorem dX3_init_1 : decode cX3_init 1 = .ok (.invokespecial 1, 3) := by decide +kernel
theorem dX3_init_4 : decode cX3_init 4 = .ok (.aload_n 0, 1) := by decide +kernel
theorem dX3_init_5 : decode cX3_init 5 = .ok (.bipush 40, 2) := by decide +kernel
theorem dX3_init_7 : decode cX3_init 7 = .ok (.anewarray 9, 3) := by decide +kernel
theorem dX3_init_10 : decode cX3_init 10 = .ok (.putfield 11, 3) := by decide +kernel
theorem dX3_init_13 : decode cX3_init 13 = .ok (.aload_n 0, 1) := by decide +kernel
theorem dX3_init_14 : decode cX3_init 14 = .ok (.iconst 0, 1) := by decide +kernel
theorem dX3_init_15 : decode cX3_init 15 = .ok (.putfield 15, 3) := by decide +kernel
theorem dX3_init_18 : decode cX3_init 18 = .ok (.aload_n 0, 1) := by decide +kernel
theorem dX3_init_19 : decode cX3_init 19 = .ok (.iconst 0, 1) := by decide +kernel
theorem dX3_init_20 : decode cX3_init 20 = .ok (.putfield 19, 3) := by decide +kernel
theorem dX3_init_23 : decode cX3_init 23 = .ok (.aload_n 0, 1) := by decide +kernel
theorem dX3_init_24 : decode cX3_init 24 = .ok (.bipush 40, 2) := by decide +kernel
theorem dX3_init_26 : decode cX3_init 26 = .ok (.newarray .char, 2) := by decide +kernel
theorem dX3_init_28 : decode cX3_init 28 = .ok (.putfield 23, 3) := by decide +kernel
theorem dX3_init_31 : decode cX3_init 31 = .ok (.aload_n 0, 1) := by decide +kernel
theorem dX3_init_32 : decode cX3_init 32 = .ok (.bipush 40, 2) := by decide +kernel
theorem dX3_init_34 : decode cX3_init 34 = .ok (.putfield 27, 3) := by decide +kernel
theorem dX3_init_37 : decode cX3_init 37 = .ok (.aload_n 0, 1) := by decide +kernel
theorem dX3_init_38 : decode cX3_init 38 = .ok (.new 30, 3) := by decide +kernel
theorem dX3_init_41 : decode cX3_init 41 = .ok (.dup, 1) := by decide +kernel
theorem dX3_init_42 : decode cX3_init 42 = .ok (.invokespecial 32, 3) := by decide +kernel
theorem dX3_init_45 : decode cX3_init 45 = .ok (.putfield 33, 3) := by decide +kernel
theorem dX3_init_48 : decode cX3_init 48 = .ok (.aload_n 0, 1) := by decide +kernel
theorem dX3_init_49 : decode cX3_init 49 = .ok (.new 30, 3) := by decide +kernel
theorem dX3_init_52 : decode cX3_init 52 = .ok (.dup, 1) := by decide +kernel
theorem dX3_init_53 : decode cX3_init 53 = .ok (.invokespecial 32, 3) := by decide +kernel
theorem dX3_init_56 : decode cX3_init 56 = .ok (.putfield 37, 3) := by decide +kernel
theorem dX3_init_59 : decode cX3_init 59 = .ok (.aload_n 0, 1) := by decide +kernel
theorem dX3_init_60 : decode cX3_init 60 = .ok (.new 40, 3) := by decide +kernel
theorem dX3_init_63 : decode cX3_init 63 = .ok (.dup, 1) := by decide +kernel
theorem dX3_init_64 : decode cX3_init 64 = .ok (.invokespecial 42, 3) := by decide +kernel
theorem dX3_init_67 : decode cX3_init 67 = .ok (.putfield 43, 3) := by decide +kernel
theorem dX3_init_70 : decode cX3_init 70 = .ok (.return_, 1) := by decide +kernel
theorem dX3_kind_0 : decode cX3_kind 0 = .ok (.iload_n 1, 1) := by decide +kernel
theorem dX3_kind_1 : decode cX3_kind 1 = .ok (.iload_n 2, 1) := by decide +kernel
theorem dX3_kind_2 : decode cX3_kind 2 = .ok (.invokestatic 47, 3) := by decide +kernel
theorem dX3_kind_5 : decode cX3_kind 5 = .ok (.ifCond .eq 20, 3) := by decide +kernel
theorem dX3_kind_8 : decode cX3_kind 8 = .ok (.lload_n 3, 1) := by decide +kernel
theorem dX3_kind_9 : decode cX3_kind 9 = .ok (.lload 5, 2) := by decide +kernel
theorem dX3_kind_11 : decode cX3_kind 11 = .ok (.invokestatic 51, 3) := by decide +kernel
theorem dX3_kind_14 : decode cX3_kind 14 = .ok (.ifCond .eq 11, 3) := by decide +kernel
theorem dX3_kind_17 : decode cX3_kind 17 = .ok (.lload 7, 2) := by decide +kernel
theorem dX3_kind_19 : decode cX3_kind 19 = .ok (.invokestatic 55, 3) := by decide +kernel
theorem dX3_kind_22 : decode cX3_kind 22 = .ok (.ifCond .ne 6, 3) := by decide +kernel
theorem dX3_kind_25 : decode cX3_kind 25 = .ok (.bipush (-2), 2) := by decide +kernel
theorem dX3_kind_27 : decode cX3_kind 27 = .ok (.ireturn, 1) := by decide +kernel
theorem dX3_kind_28 : decode cX3_kind 28 = .ok (.aload_n 0, 1) := by decide +kernel
theorem dX3_kind_29 : decode cX3_kind 29 = .ok (.getfield 15, 3) := by decide +kernel
theorem dX3_kind_32 : decode cX3_kind 32 = .ok (.ifCond .lt 12, 3) := by decide +kernel
theorem dX3_kind_35 : decode cX3_kind 35 = .ok (.aload_n 0, 1) := by decide +kernel
theorem dX3_kind_36 : decode cX3_kind 36 = .ok (.getfield 15, 3) := by decide +kernel
theorem dX3_kind_39 : decode cX3_kind 39 = .ok (.bipush 40, 2) := by decide +kernel
theorem dX3_kind_41 : decode cX3_kind 41 = .ok (.if_icmp .lt 6, 3) := by decide +kernel
theorem dX3_kind_44 : decode cX3_kind 44 = .ok (.bipush (-4), 2) := by decide +kernel
theorem dX3_kind_46 : decode cX3_kind 46 = .ok (.ireturn, 1) := by decide +kernel
theorem dX3_kind_47 : decode cX3_kind 47 = .ok (.lload_n 3, 1) := by decide +kernel
theorem dX3_kind_48 : decode cX3_kind 48 = .ok (.lconst 0, 1) := by decide +kernel
theorem dX3_kind_49 : decode cX3_kind 49 = .ok (.lcmp, 1) := by decide +kernel
theorem dX3_kind_50 : decode cX3_kind 50 = .ok (.ifCond .ne 5, 3) := by decide +kernel
theorem dX3_kind_53 : decode cX3_kind 53 = .ok (.iconst 0, 1) := by decide +kernel
theorem dX3_kind_54 : decode cX3_kind 54 = .ok (.ireturn, 1) := by decide +kernel
theorem dX3_kind_55 : decode cX3_kind 55 = .ok (.aload_n 0, 1) := by decide +kernel
theorem dX3_kind_56 : decode cX3_kind 56 = .ok (.getfield 11, 3) := by decide +kernel
theorem dX3_kind_59 : decode cX3_kind 59 = .ok (.aload_n 0, 1) := by decide +kernel
theorem dX3_kind_60 : decode cX3_kind 60 = .ok (.getfield 15, 3) := by decide +kernel
theorem dX3_kind_63 : decode cX3_kind 63 = .ok (.new 9, 3) := by decide +kernel
theorem dX3_kind_66 : decode cX3_kind 66 = .ok (.dup, 1) := by decide +kernel
theorem dX3_kind_67 : decode cX3_kind 67 = .ok (.iload_n 1, 1) := by decide +kernel
theorem dX3_kind_68 : decode cX3_kind 68 = .ok (.iload_n 2, 1) := by decide +kernel
theorem dX3_kind_69 : decode cX3_kind 69 = .ok (.lload_n 3, 1) := by decide +kernel
theorem dX3_kind_70 : decode cX3_kind 70 = .ok (.lload 5, 2) := by decide +kernel
theorem dX3_kind_72 : decode cX3_kind 72 = .ok (.lload 7, 2) := by decide +kernel
theorem dX3_kind_74 : decode cX3_kind 74 = .ok (.invokespecial 59, 3) := by decide +kernel
theorem dX3_kind_77 : decode cX3_kind 77 = .ok (.aastore, 1) := by decide +kernel
theorem dX3_kind_78 : decode cX3_kind 78 = .ok (.aload_n 0, 1) := by decide +kernel
theorem dX3_kind_79 : decode cX3_kind 79 = .ok (.dup, 1) := by decide +kernel
theorem dX3_kind_80 : decode cX3_kind 80 = .ok (.getfield 15, 3) := by decide +kernel
theorem dX3_kind_83 : decode cX3_kind 83 = .ok (.iconst 1, 1) := by decide +kernel
theorem dX3_kind_84 : decode cX3_kind 84 = .ok (.iadd, 1) := by decide +kernel
theorem dX3_kind_85 : decode cX3_kind 85 = .ok (.putfield 15, 3) := by decide +kernel
theorem dX3_kind_88 : decode cX3_kind 88 = .ok (.aload_n 0, 1) := by decide +kernel
theorem dX3_kind_89 : decode cX3_kind 89 = .ok (.getfield 15, 3) := by decide +kernel
theorem dX3_kind_92 : decode cX3_kind 92 = .ok (.ireturn, 1) := by decide +kernel
theorem dX3_rule_0 : decode cX3_rule 0 = .ok (.aload_n 0, 1) := by decide +kernel
theorem dX3_rule_1 : decode cX3_rule 1 = .ok (.iload_n 1, 1) := by decide +kernel
theorem dX3_rule_2 : decode cX3_rule 2 = .ok (.invokevirtual 62, 3) := by decide +kernel
theorem dX3_rule_5 : decode cX3_rule 5 = .ok (.astore 4, 2) := by decide +kernel
theorem dX3_rule_7 : decode cX3_rule 7 = .ok (.aload 4, 2) := by decide +kernel
theorem dX3_rule_9 : decode cX3_rule 9 = .ok (.ifnonnull 5, 3) := by decide +kernel
theorem dX3_rule_12 : decode cX3_rule 12 = .ok (.iconst (-1), 1) := by decide +kernel
theorem dX3_rule_13 : decode cX3_rule 13 = .ok (.ireturn, 1) := by decide +kernel
theorem dX3_rule_14 : decode cX3_rule 14 = .ok (.iload_n 2, 1) := by decide +kernel
theorem dX3_rule_15 : decode cX3_rule 15 = .ok (.ifCond .lt 17, 3) := by decide +kernel
theorem dX3_rule_18 : decode cX3_rule 18 = .ok (.iload_n 2, 1) := by decide +kernel
theorem dX3_rule_19 : decode cX3_rule 19 = .ok (.iconst 2, 1) := by decide +kernel
theorem dX3_rule_20 : decode cX3_rule 20 = .ok (.if_icmp .gt 12, 3) := by decide +kernel
theorem dX3_rule_23 : decode cX3_rule 23 = .ok (.iload_n 3, 1) := by decide +kernel
theorem dX3_rule_24 : decode cX3_rule 24 = .ok (.ifCond .lt 8, 3) := by decide +kernel
theorem dX3_rule_27 : decode cX3_rule 27 = .ok (.iload_n 3, 1) := by decide +kernel
theorem dX3_rule_28 : decode cX3_rule 28 = .ok (.iconst 3, 1) := by decide +kernel
theorem dX3_rule_29 : decode cX3_rule 29 = .ok (.if_icmp .le 6, 3) := by decide +kernel
theorem dX3_rule_32 : decode cX3_rule 32 = .ok (.bipush (-2), 2) := by decide +kernel
theorem dX3_rule_34 : decode cX3_rule 34 = .ok (.ireturn, 1) := by decide +kernel
theorem dX3_rule_35 : decode cX3_rule 35 = .ok (.aload 4, 2) := by decide +kernel
theorem dX3_rule_37 : decode cX3_rule 37 = .ok (.iload_n 2, 1) := by decide +kernel
theorem dX3_rule_38 : decode cX3_rule 38 = .ok (.putfield 66, 3) := by decide +kernel
theorem dX3_rule_41 : decode cX3_rule 41 = .ok (.aload 4, 2) := by decide +kernel
theorem dX3_rule_43 : decode cX3_rule 43 = .ok (.iload_n 3, 1) := by decide +kernel
theorem dX3_rule_44 : decode cX3_rule 44 = .ok (.putfield 69, 3) := by decide +kernel
theorem dX3_rule_47 : decode cX3_rule 47 = .ok (.iconst 1, 1) := by decide +kernel
theorem dX3_rule_48 : decode cX3_rule 48 = .ok (.ireturn, 1) := by decide +kernel
theorem dX3_apply_0 : decode cX3_apply 0 = .ok (.aload_n 0, 1) := by decide +kernel
theorem dX3_apply_1 : decode cX3_apply 1 = .ok (.iload_n 2, 1) := by decide +kernel
theorem dX3_apply_2 : decode cX3_apply 2 = .ok (.invokevirtual 62, 3) := by decide +kernel
theorem dX3_apply_5 : decode cX3_apply 5 = .ok (.astore 8, 2) := by decide +kernel
theorem dX3_apply_7 : decode cX3_apply 7 = .ok (.aload_n 0, 1) := by decide +kernel
theorem dX3_apply_8 : decode cX3_apply 8 = .ok (.iload 5, 2) := by decide +kernel
theorem dX3_apply_10 : decode cX3_apply 10 = .ok (.invokevirtual 62, 3) := by decide +kernel
theorem dX3_apply_13 : decode cX3_apply 13 = .ok (.astore 9, 2) := by decide +kernel
theorem dX3_apply_15 : decode cX3_apply 15 = .ok (.aload 8, 2) := by decide +kernel
theorem dX3_apply_17 : decode cX3_apply 17 = .ok (.ifnull 17, 3) := by decide +kernel
theorem dX3_apply_20 : decode cX3_apply 20 = .ok (.aload 9, 2) := by decide +kernel
theorem dX3_apply_22 : decode cX3_apply 22 = .ok (.ifnull 12, 3) := by decide +kernel
theorem dX3_apply_25 : decode cX3_apply 25 = .ok (.iload_n 1, 1) := by decide +kernel
theorem dX3_apply_26 : decode cX3_apply 26 = .ok (.ifCond .lt 8, 3) := by decide +kernel
theorem dX3_apply_29 : decode cX3_apply 29 = .ok (.iload_n 1, 1) := by decide +kernel
theorem dX3_apply_30 : decode cX3_apply 30 = .ok (.iconst 3, 1) := by decide +kernel
theorem dX3_apply_31 : decode cX3_apply 31 = .ok (.if_icmp .le 5, 3) := by decide +kernel
theorem dX3_apply_34 : decode cX3_apply 34 = .ok (.lconst 0, 1) := by decide +kernel
theorem dX3_apply_35 : decode cX3_apply 35 = .ok (.lreturn, 1) := by decide +kernel
theorem dX3_apply_36 : decode cX3_apply 36 = .ok (.aload_n 0, 1) := by decide +kernel
theorem dX3_apply_37 : decode cX3_apply 37 = .ok (.getfield 33, 3) := by decide +kernel
theorem dX3_apply_40 : decode cX3_apply 40 = .ok (.aload 8, 2) := by decide +kernel
theorem dX3_apply_42 : decode cX3_apply 42 = .ok (.lload_n 3, 1) := by decide +kernel
theorem dX3_apply_43 : decode cX3_apply 43 = .ok (.invokevirtual 72, 3) := by decide +kernel
theorem dX3_apply_46 : decode cX3_apply 46 = .ok (.aload_n 0, 1) := by decide +kernel
theorem dX3_apply_47 : decode cX3_apply 47 = .ok (.getfield 37, 3) := by decide +kernel
theorem dX3_apply_50 : decode cX3_apply 50 = .ok (.aload 9, 2) := by decide +kernel
theorem dX3_apply_52 : decode cX3_apply 52 = .ok (.lload 6, 2) := by decide +kernel
theorem dX3_apply_54 : decode cX3_apply 54 = .ok (.invokevirtual 72, 3) := by decide +kernel
theorem dX3_apply_57 : decode cX3_apply 57 = .ok (.iload_n 1, 1) := by decide +kernel
theorem dX3_apply_58 : decode cX3_apply 58 = .ok (.iconst 3, 1) := by decide +kernel
theorem dX3_apply_59 : decode cX3_apply 59 = .ok (.if_icmp .ne 38, 3) := by decide +kernel
theorem dX3_apply_62 : decode cX3_apply 62 = .ok (.aload_n 0, 1) := by decide +kernel
theorem dX3_apply_63 : decode cX3_apply 63 = .ok (.getfield 37, 3) := by decide +kernel
theorem dX3_apply_66 : decode cX3_apply 66 = .ok (.invokevirtual 76, 3) := by decide +kernel
theorem dX3_apply_69 : decode cX3_apply 69 = .ok (.ifCond .ne 28, 3) := by decide +kernel
theorem dX3_apply_72 : decode cX3_apply 72 = .ok (.aload 8, 2) := by decide +kernel
theorem dX3_apply_74 : decode cX3_apply 74 = .ok (.getfield 66, 3) := by decide +kernel
theorem dX3_apply_77 : decode cX3_apply 77 = .ok (.ifCond .eq 13, 3) := by decide +kernel
theorem dX3_apply_80 : decode cX3_apply 80 = .ok (.new 80, 3) := by decide +kernel
theorem dX3_apply_83 : decode cX3_apply 83 = .ok (.dup, 1) := by decide +kernel
theorem dX3_apply_84 : decode cX3_apply 84 = .ok (.ldc 82, 2) := by decide +kernel
theorem dX3_apply_86 : decode cX3_apply 86 = .ok (.invokespecial 84, 3) := by decide +kernel
theorem dX3_apply_89 : decode cX3_apply 89 = .ok (.athrow, 1) := by decide +kernel
theorem dX3_apply_90 : decode cX3_apply 90 = .ok (.aload_n 0, 1) := by decide +kernel
theorem dX3_apply_91 : decode cX3_apply 91 = .ok (.aload 8, 2) := by decide +kernel
theorem dX3_apply_93 : decode cX3_apply 93 = .ok (.invokevirtual 87, 3) := by decide +kernel
theorem dX3_apply_96 : decode cX3_apply 96 = .ok (.lreturn, 1) := by decide +kernel
theorem dX3_apply_97 : decode cX3_apply 97 = .ok (.aload_n 0, 1) := by decide +kernel
theorem dX3_apply_98 : decode cX3_apply 98 = .ok (.iload_n 1, 1) := by decide +kernel
theorem dX3_apply_99 : decode cX3_apply 99 = .ok (.invokevirtual 91, 3) := by decide +kernel
theorem dX3_apply_102 : decode cX3_apply 102 = .ok (.aload_n 0, 1) := by decide +kernel
theorem dX3_apply_103 : decode cX3_apply 103 = .ok (.aload 8, 2) := by decide +kernel
theorem dX3_apply_105 : decode cX3_apply 105 = .ok (.invokevirtual 95, 3) := by decide +kernel
theorem dX3_apply_108 : decode cX3_apply 108 = .ok (.lreturn, 1) := by decide +kernel
theorem dX3_convert_0 : decode cX3_convert 0 = .ok (.aload_n 0, 1) := by decide +kernel
theorem dX3_convert_1 : decode cX3_convert 1 = .ok (.iload_n 1, 1) := by decide +kernel
theorem dX3_convert_2 : decode cX3_convert 2 = .ok (.invokevirtual 62, 3) := by decide +kernel
theorem dX3_convert_5 : decode cX3_convert 5 = .ok (.astore 5, 2) := by decide +kernel
theorem dX3_convert_7 : decode cX3_convert 7 = .ok (.aload_n 0, 1) := by decide +kernel
theorem dX3_convert_8 : decode cX3_convert 8 = .ok (.iload 4, 2) := by decide +kernel
theorem dX3_convert_10 : decode cX3_convert 10 = .ok (.invokevirtual 62, 3) := by decide +kernel
theorem dX3_convert_13 : decode cX3_convert 13 = .ok (.astore 6, 2) := by decide +kernel
theorem dX3_convert_15 : decode cX3_convert 15 = .ok (.aload 5, 2) := by decide +kernel
theorem dX3_convert_17 : decode cX3_convert 17 = .ok (.ifnull 8, 3) := by decide +kernel
theorem dX3_convert_20 : decode cX3_convert 20 = .ok (.aload 6, 2) := by decide +kernel
theorem dX3_convert_22 : decode cX3_convert 22 = .ok (.ifnonnull 5, 3) := by decide +kernel
theorem dX3_convert_25 : decode cX3_convert 25 = .ok (.lconst 0, 1) := by decide +kernel
theorem dX3_convert_26 : decode cX3_convert 26 = .ok (.lreturn, 1) := by decide +kernel
theorem dX3_convert_27 : decode cX3_convert 27 = .ok (.aload_n 0, 1) := by decide +kernel
theorem dX3_convert_28 : decode cX3_convert 28 = .ok (.getfield 33, 3) := by decide +kernel
theorem dX3_convert_31 : decode cX3_convert 31 = .ok (.aload 5, 2) := by decide +kernel
theorem dX3_convert_33 : decode cX3_convert 33 = .ok (.lload_n 2, 1) := by decide +kernel
theorem dX3_convert_34 : decode cX3_convert 34 = .ok (.invokevirtual 72, 3) := by decide +kernel
theorem dX3_convert_37 : decode cX3_convert 37 = .ok (.aload_n 0, 1) := by decide +kernel
theorem dX3_convert_38 : decode cX3_convert 38 = .ok (.aload 6, 2) := by decide +kernel
theorem dX3_convert_40 : decode cX3_convert 40 = .ok (.invokevirtual 95, 3) := by decide +kernel
theorem dX3_convert_43 : decode cX3_convert 43 = .ok (.lreturn, 1) := by decide +kernel
theorem dX3_lost_0 : decode cX3_lost 0 = .ok (.aload_n 0, 1) := by decide +kernel
theorem dX3_lost_1 : decode cX3_lost 1 = .ok (.getfield 19, 3) := by decide +kernel
theorem dX3_lost_4 : decode cX3_lost 4 = .ok (.ireturn, 1) := by decide +kernel
theorem dX3_physical_0 : decode cX3_physical 0 = .ok (.aload_n 0, 1) := by decide +kernel
theorem dX3_physical_1 : decode cX3_physical 1 = .ok (.iload_n 1, 1) := by decide +kernel
theorem dX3_physical_2 : decode cX3_physical 2 = .ok (.invokevirtual 62, 3) := by decide +kernel
theorem dX3_physical_5 : decode cX3_physical 5 = .ok (.astore 5, 2) := by decide +kernel
theorem dX3_physical_7 : decode cX3_physical 7 = .ok (.aload 5, 2) := by decide +kernel
theorem dX3_physical_9 : decode cX3_physical 9 = .ok (.ifnull 14, 3) := by decide +kernel
theorem dX3_physical_12 : decode cX3_physical 12 = .ok (.iload 4, 2) := by decide +kernel
theorem dX3_physical_14 : decode cX3_physical 14 = .ok (.ifCond .lt 9, 3) := by decide +kernel
theorem dX3_physical_17 : decode cX3_physical 17 = .ok (.iload 4, 2) := by decide +kernel
theorem dX3_physical_19 : decode cX3_physical 19 = .ok (.iconst 3, 1) := by decide +kernel
theorem dX3_physical_20 : decode cX3_physical 20 = .ok (.if_icmp .le 5, 3) := by decide +kernel
theorem dX3_physical_23 : decode cX3_physical 23 = .ok (.lconst 0, 1) := by decide +kernel
theorem dX3_physical_24 : decode cX3_physical 24 = .ok (.lreturn, 1) := by decide +kernel
theorem dX3_physical_25 : decode cX3_physical 25 = .ok (.aload_n 0, 1) := by decide +kernel
theorem dX3_physical_26 : decode cX3_physical 26 = .ok (.getfield 33, 3) := by decide +kernel
theorem dX3_physical_29 : decode cX3_physical 29 = .ok (.aload 5, 2) := by decide +kernel
theorem dX3_physical_31 : decode cX3_physical 31 = .ok (.lload_n 2, 1) := by decide +kernel
theorem dX3_physical_32 : decode cX3_physical 32 = .ok (.invokevirtual 72, 3) := by decide +kernel
theorem dX3_physical_35 : decode cX3_physical 35 = .ok (.aload_n 0, 1) := by decide +kernel
theorem dX3_physical_36 : decode cX3_physical 36 = .ok (.getfield 33, 3) := by decide +kernel
theorem dX3_physical_39 : decode cX3_physical 39 = .ok (.aload_n 0, 1) := by decide +kernel
theorem dX3_physical_40 : decode cX3_physical 40 = .ok (.getfield 37, 3) := by decide +kernel
theorem dX3_physical_43 : decode cX3_physical 43 = .ok (.getfield 98, 3) := by decide +kernel
theorem dX3_physical_46 : decode cX3_physical 46 = .ok (.invokevirtual 101, 3) := by decide +kernel
theorem dX3_physical_49 : decode cX3_physical 49 = .ok (.iload 4, 2) := by decide +kernel
theorem dX3_physical_51 : decode cX3_physical 51 = .ok (.tableswitch 69 0 2 #[25, 37, 53], 25) := by decide +kernel
theorem dX3_physical_76 : decode cX3_physical 76 = .ok (.aload_n 0, 1) := by decide +kernel
theorem dX3_physical_77 : decode cX3_physical 77 = .ok (.getfield 33, 3) := by decide +kernel
theorem dX3_physical_80 : decode cX3_physical 80 = .ok (.getfield 105, 3) := by decide +kernel
theorem dX3_physical_83 : decode cX3_physical 83 = .ok (.iconst 0, 1) := by decide +kernel
theorem dX3_physical_84 : decode cX3_physical 84 = .ok (.invokevirtual 108, 3) := by decide +kernel
theorem dX3_physical_87 : decode cX3_physical 87 = .ok (.lreturn, 1) := by decide +kernel
theorem dX3_physical_88 : decode cX3_physical 88 = .ok (.aload_n 0, 1) := by decide +kernel
theorem dX3_physical_89 : decode cX3_physical 89 = .ok (.getfield 33, 3) := by decide +kernel
theorem dX3_physical_92 : decode cX3_physical 92 = .ok (.getfield 98, 3) := by decide +kernel
theorem dX3_physical_95 : decode cX3_physical 95 = .ok (.iconst 0, 1) := by decide +kernel
theorem dX3_physical_96 : decode cX3_physical 96 = .ok (.invokevirtual 108, 3) := by decide +kernel
theorem dX3_physical_99 : decode cX3_physical 99 = .ok (.ldc2_w 112, 3) := by decide +kernel
theorem dX3_physical_102 : decode cX3_physical 102 = .ok (.land, 1) := by decide +kernel
theorem dX3_physical_103 : decode cX3_physical 103 = .ok (.lreturn, 1) := by decide +kernel
theorem dX3_physical_104 : decode cX3_physical 104 = .ok (.aload_n 0, 1) := by decide +kernel
theorem dX3_physical_105 : decode cX3_physical 105 = .ok (.getfield 33, 3) := by decide +kernel
theorem dX3_physical_108 : decode cX3_physical 108 = .ok (.getfield 98, 3) := by decide +kernel
theorem dX3_physical_111 : decode cX3_physical 111 = .ok (.iconst 2, 1) := by decide +kernel
theorem dX3_physical_112 : decode cX3_physical 112 = .ok (.invokevirtual 108, 3) := by decide +kernel
theorem dX3_physical_115 : decode cX3_physical 115 = .ok (.ldc2_w 112, 3) := by decide +kernel
theorem dX3_physical_118 : decode cX3_physical 118 = .ok (.land, 1) := by decide +kernel
theorem dX3_physical_119 : decode cX3_physical 119 = .ok (.lreturn, 1) := by decide +kernel
theorem dX3_physical_120 : decode cX3_physical 120 = .ok (.aload_n 0, 1) := by decide +kernel
theorem dX3_physical_121 : decode cX3_physical 121 = .ok (.getfield 33, 3) := by decide +kernel
theorem dX3_physical_124 : decode cX3_physical 124 = .ok (.getfield 98, 3) := by decide +kernel
theorem dX3_physical_127 : decode cX3_physical 127 = .ok (.iconst 4, 1) := by decide +kernel
theorem dX3_physical_128 : decode cX3_physical 128 = .ok (.invokevirtual 108, 3) := by decide +kernel
theorem dX3_physical_131 : decode cX3_physical 131 = .ok (.lreturn, 1) := by decide +kernel
theorem dX3_text_0 : decode cX3_text 0 = .ok (.aload_n 0, 1) := by decide +kernel
theorem dX3_text_1 : decode cX3_text 1 = .ok (.iload_n 1, 1) := by decide +kernel
theorem dX3_text_2 : decode cX3_text 2 = .ok (.invokevirtual 62, 3) := by decide +kernel
theorem dX3_text_5 : decode cX3_text 5 = .ok (.astore 4, 2) := by decide +kernel
theorem dX3_text_7 : decode cX3_text 7 = .ok (.aload 4, 2) := by decide +kernel
theorem dX3_text_9 : decode cX3_text 9 = .ok (.ifnonnull 5, 3) := by decide +kernel
theorem dX3_text_12 : decode cX3_text 12 = .ok (.iconst (-1), 1) := by decide +kernel
theorem dX3_text_13 : decode cX3_text 13 = .ok (.ireturn, 1) := by decide +kernel
theorem dX3_text_14 : decode cX3_text 14 = .ok (.aload_n 0, 1) := by decide +kernel
theorem dX3_text_15 : decode cX3_text 15 = .ok (.getfield 33, 3) := by decide +kernel
theorem dX3_text_18 : decode cX3_text 18 = .ok (.aload 4, 2) := by decide +kernel
theorem dX3_text_20 : decode cX3_text 20 = .ok (.lload_n 2, 1) := by decide +kernel
theorem dX3_text_21 : decode cX3_text 21 = .ok (.invokevirtual 72, 3) := by decide +kernel
theorem dX3_text_24 : decode cX3_text 24 = .ok (.aload_n 0, 1) := by decide +kernel
theorem dX3_text_25 : decode cX3_text 25 = .ok (.getfield 33, 3) := by decide +kernel
theorem dX3_text_28 : decode cX3_text 28 = .ok (.getfield 98, 3) := by decide +kernel
theorem dX3_text_31 : decode cX3_text 31 = .ok (.invokevirtual 114, 3) := by decide +kernel
theorem dX3_text_34 : decode cX3_text 34 = .ok (.istore 5, 2) := by decide +kernel
theorem dX3_text_36 : decode cX3_text 36 = .ok (.aload_n 0, 1) := by decide +kernel
theorem dX3_text_37 : decode cX3_text 37 = .ok (.getfield 33, 3) := by decide +kernel
theorem dX3_text_40 : decode cX3_text 40 = .ok (.invokevirtual 118, 3) := by decide +kernel
theorem dX3_text_43 : decode cX3_text 43 = .ok (.astore 6, 2) := by decide +kernel
theorem dX3_text_45 : decode cX3_text 45 = .ok (.iload 5, 2) := by decide +kernel
theorem dX3_text_47 : decode cX3_text 47 = .ok (.ifCond .eq 15, 3) := by decide +kernel
theorem dX3_text_50 : decode cX3_text 50 = .ok (.aload 6, 2) := by decide +kernel
theorem dX3_text_52 : decode cX3_text 52 = .ok (.invokevirtual 122, 3) := by decide +kernel
theorem dX3_text_55 : decode cX3_text 55 = .ok (.ifCond .ne 7, 3) := by decide +kernel
theorem dX3_text_58 : decode cX3_text 58 = .ok (.iconst 1, 1) := by decide +kernel
theorem dX3_text_59 : decode cX3_text 59 = .ok (.goto 4, 3) := by decide +kernel
theorem dX3_text_62 : decode cX3_text 62 = .ok (.iconst 0, 1) := by decide +kernel
theorem dX3_text_63 : decode cX3_text 63 = .ok (.istore 7, 2) := by decide +kernel
theorem dX3_text_65 : decode cX3_text 65 = .ok (.aload_n 0, 1) := by decide +kernel
theorem dX3_text_66 : decode cX3_text 66 = .ok (.bipush 40, 2) := by decide +kernel
theorem dX3_text_68 : decode cX3_text 68 = .ok (.putfield 27, 3) := by decide +kernel
theorem dX3_text_71 : decode cX3_text 71 = .ok (.aload_n 0, 1) := by decide +kernel
theorem dX3_text_72 : decode cX3_text 72 = .ok (.aload 6, 2) := by decide +kernel
theorem dX3_text_74 : decode cX3_text 74 = .ok (.invokevirtual 125, 3) := by decide +kernel
theorem dX3_text_77 : decode cX3_text 77 = .ok (.aload_n 0, 1) := by decide +kernel
theorem dX3_text_78 : decode cX3_text 78 = .ok (.aload 6, 2) := by decide +kernel
theorem dX3_text_80 : decode cX3_text 80 = .ok (.invokevirtual 128, 3) := by decide +kernel
theorem dX3_text_83 : decode cX3_text 83 = .ok (.iload 7, 2) := by decide +kernel
theorem dX3_text_85 : decode cX3_text 85 = .ok (.ifCond .eq 9, 3) := by decide +kernel
theorem dX3_text_88 : decode cX3_text 88 = .ok (.aload_n 0, 1) := by decide +kernel
theorem dX3_text_89 : decode cX3_text 89 = .ok (.bipush 45, 2) := by decide +kernel
theorem dX3_text_91 : decode cX3_text 91 = .ok (.invokevirtual 131, 3) := by decide +kernel
theorem dX3_text_94 : decode cX3_text 94 = .ok (.bipush 40, 2) := by decide +kernel
theorem dX3_text_96 : decode cX3_text 96 = .ok (.aload_n 0, 1) := by decide +kernel
theorem dX3_text_97 : decode cX3_text 97 = .ok (.getfield 27, 3) := by decide +kernel
theorem dX3_text_100 : decode cX3_text 100 = .ok (.isub, 1) := by decide +kernel
theorem dX3_text_101 : decode cX3_text 101 = .ok (.ireturn, 1) := by decide +kernel
theorem dX3_at_0 : decode cX3_at 0 = .ok (.iload_n 1, 1) := by decide +kernel
theorem dX3_at_1 : decode cX3_at 1 = .ok (.ifCond .lt 21, 3) := by decide +kernel
theorem dX3_at_4 : decode cX3_at 4 = .ok (.aload_n 0, 1) := by decide +kernel
theorem dX3_at_5 : decode cX3_at 5 = .ok (.getfield 27, 3) := by decide +kernel
theorem dX3_at_8 : decode cX3_at 8 = .ok (.ifCond .lt 14, 3) := by decide +kernel
theorem dX3_at_11 : decode cX3_at 11 = .ok (.iload_n 1, 1) := by decide +kernel
theorem dX3_at_12 : decode cX3_at 12 = .ok (.bipush 40, 2) := by decide +kernel
theorem dX3_at_14 : decode cX3_at 14 = .ok (.aload_n 0, 1) := by decide +kernel
theorem dX3_at_15 : decode cX3_at 15 = .ok (.getfield 27, 3) := by decide +kernel
theorem dX3_at_18 : decode cX3_at 18 = .ok (.isub, 1) := by decide +kernel
theorem dX3_at_19 : decode cX3_at 19 = .ok (.if_icmp .lt 13, 3) := by decide +kernel
theorem dX3_at_22 : decode cX3_at 22 = .ok (.new 135, 3) := by decide +kernel
theorem dX3_at_25 : decode cX3_at 25 = .ok (.dup, 1) := by decide +kernel
theorem dX3_at_26 : decode cX3_at 26 = .ok (.ldc 137, 2) := by decide +kernel
theorem dX3_at_28 : decode cX3_at 28 = .ok (.invokespecial 139, 3) := by decide +kernel
theorem dX3_at_31 : decode cX3_at 31 = .ok (.athrow, 1) := by decide +kernel
theorem dX3_at_32 : decode cX3_at 32 = .ok (.aload_n 0, 1) := by decide +kernel
theorem dX3_at_33 : decode cX3_at 33 = .ok (.getfield 23, 3) := by decide +kernel
theorem dX3_at_36 : decode cX3_at 36 = .ok (.aload_n 0, 1) := by decide +kernel
theorem dX3_at_37 : decode cX3_at 37 = .ok (.getfield 27, 3) := by decide +kernel
theorem dX3_at_40 : decode cX3_at 40 = .ok (.iload_n 1, 1) := by decide +kernel
theorem dX3_at_41 : decode cX3_at 41 = .ok (.iadd, 1) := by decide +kernel
theorem dX3_at_42 : decode cX3_at 42 = .ok (.caload, 1) := by decide +kernel
theorem dX3_at_43 : decode cX3_at 43 = .ok (.ireturn, 1) := by decide +kernel
theorem dX3_bound_0 : decode cX3_bound 0 = .ok (.aload_n 0, 1) := by decide +kernel
theorem dX3_bound_1 : decode cX3_bound 1 = .ok (.iload_n 1, 1) := by decide +kernel
theorem dX3_bound_2 : decode cX3_bound 2 = .ok (.invokevirtual 62, 3) := by decide +kernel
theorem dX3_bound_5 : decode cX3_bound 5 = .ok (.astore_n 3, 1) := by decide +kernel
theorem dX3_bound_6 : decode cX3_bound 6 = .ok (.aload_n 3, 1) := by decide +kernel
theorem dX3_bound_7 : decode cX3_bound 7 = .ok (.ifnonnull 5, 3) := by decide +kernel
theorem dX3_bound_10 : decode cX3_bound 10 = .ok (.lconst 0, 1) := by decide +kernel
theorem dX3_bound_11 : decode cX3_bound 11 = .ok (.lreturn, 1) := by decide +kernel
theorem dX3_bound_12 : decode cX3_bound 12 = .ok (.iload_n 2, 1) := by decide +kernel
theorem dX3_bound_13 : decode cX3_bound 13 = .ok (.ifCond .ne 10, 3) := by decide +kernel
theorem dX3_bound_16 : decode cX3_bound 16 = .ok (.aload_n 3, 1) := by decide +kernel
theorem dX3_bound_17 : decode cX3_bound 17 = .ok (.invokevirtual 140, 3) := by decide +kernel
theorem dX3_bound_20 : decode cX3_bound 20 = .ok (.goto 7, 3) := by decide +kernel
theorem dX3_bound_23 : decode cX3_bound 23 = .ok (.aload_n 3, 1) := by decide +kernel
theorem dX3_bound_24 : decode cX3_bound 24 = .ok (.invokevirtual 144, 3) := by decide +kernel
theorem dX3_bound_27 : decode cX3_bound 27 = .ok (.lreturn, 1) := by decide +kernel
theorem dX3_compare_0 : decode cX3_compare 0 = .ok (.aload_n 0, 1) := by decide +kernel
theorem dX3_compare_1 : decode cX3_compare 1 = .ok (.iload_n 1, 1) := by decide +kernel
theorem dX3_compare_2 : decode cX3_compare 2 = .ok (.invokevirtual 62, 3) := by decide +kernel
theorem dX3_compare_5 : decode cX3_compare 5 = .ok (.astore 7, 2) := by decide +kernel
theorem dX3_compare_7 : decode cX3_compare 7 = .ok (.aload_n 0, 1) := by decide +kernel
theorem dX3_compare_8 : decode cX3_compare 8 = .ok (.iload 4, 2) := by decide +kernel
theorem dX3_compare_10 : decode cX3_compare 10 = .ok (.invokevirtual 62, 3) := by decide +kernel
theorem dX3_compare_13 : decode cX3_compare 13 = .ok (.astore 8, 2) := by decide +kernel
theorem dX3_compare_15 : decode cX3_compare 15 = .ok (.aload 7, 2) := by decide +kernel
theorem dX3_compare_17 : decode cX3_compare 17 = .ok (.ifnull 8, 3) := by decide +kernel
theorem dX3_compare_20 : decode cX3_compare 20 = .ok (.aload 8, 2) := by decide +kernel
theorem dX3_compare_22 : decode cX3_compare 22 = .ok (.ifnonnull 6, 3) := by decide +kernel
theorem dX3_compare_25 : decode cX3_compare 25 = .ok (.bipush (-2), 2) := by decide +kernel
theorem dX3_compare_27 : decode cX3_compare 27 = .ok (.ireturn, 1) := by decide +kernel
theorem dX3_compare_28 : decode cX3_compare 28 = .ok (.aload_n 0, 1) := by decide +kernel
theorem dX3_compare_29 : decode cX3_compare 29 = .ok (.getfield 33, 3) := by decide +kernel
theorem dX3_compare_32 : decode cX3_compare 32 = .ok (.aload 7, 2) := by decide +kernel
theorem dX3_compare_34 : decode cX3_compare 34 = .ok (.lload_n 2, 1) := by decide +kernel
theorem dX3_compare_35 : decode cX3_compare 35 = .ok (.invokevirtual 72, 3) := by decide +kernel
theorem dX3_compare_38 : decode cX3_compare 38 = .ok (.aload_n 0, 1) := by decide +kernel
theorem dX3_compare_39 : decode cX3_compare 39 = .ok (.getfield 37, 3) := by decide +kernel
theorem dX3_compare_42 : decode cX3_compare 42 = .ok (.aload 8, 2) := by decide +kernel
theorem dX3_compare_44 : decode cX3_compare 44 = .ok (.lload 5, 2) := by decide +kernel
theorem dX3_compare_46 : decode cX3_compare 46 = .ok (.invokevirtual 72, 3) := by decide +kernel
theorem dX3_compare_49 : decode cX3_compare 49 = .ok (.aload_n 0, 1) := by decide +kernel
theorem dX3_compare_50 : decode cX3_compare 50 = .ok (.getfield 33, 3) := by decide +kernel
theorem dX3_compare_53 : decode cX3_compare 53 = .ok (.aload_n 0, 1) := by decide +kernel
theorem dX3_compare_54 : decode cX3_compare 54 = .ok (.getfield 37, 3) := by decide +kernel
theorem dX3_compare_57 : decode cX3_compare 57 = .ok (.ldc2_w 147, 3) := by decide +kernel
theorem dX3_compare_60 : decode cX3_compare 60 = .ok (.invokevirtual 149, 3) := by decide +kernel
theorem dX3_compare_63 : decode cX3_compare 63 = .ok (.aload_n 0, 1) := by decide +kernel
theorem dX3_compare_64 : decode cX3_compare 64 = .ok (.getfield 33, 3) := by decide +kernel
theorem dX3_compare_67 : decode cX3_compare 67 = .ok (.invokevirtual 76, 3) := by decide +kernel
theorem dX3_compare_70 : decode cX3_compare 70 = .ok (.ireturn, 1) := by decide +kernel
theorem dX3_octet_0 : decode cX3_octet 0 = .ok (.aload_n 0, 1) := by decide +kernel
theorem dX3_octet_1 : decode cX3_octet 1 = .ok (.iload_n 1, 1) := by decide +kernel
theorem dX3_octet_2 : decode cX3_octet 2 = .ok (.invokevirtual 62, 3) := by decide +kernel
theorem dX3_octet_5 : decode cX3_octet 5 = .ok (.astore 5, 2) := by decide +kernel
theorem dX3_octet_7 : decode cX3_octet 7 = .ok (.aload 5, 2) := by decide +kernel
theorem dX3_octet_9 : decode cX3_octet 9 = .ok (.ifnull 18, 3) := by decide +kernel
theorem dX3_octet_12 : decode cX3_octet 12 = .ok (.iload 4, 2) := by decide +kernel
theorem dX3_octet_14 : decode cX3_octet 14 = .ok (.ifCond .lt 13, 3) := by decide +kernel
theorem dX3_octet_17 : decode cX3_octet 17 = .ok (.iload 4, 2) := by decide +kernel
theorem dX3_octet_19 : decode cX3_octet 19 = .ok (.aload 5, 2) := by decide +kernel
theorem dX3_octet_21 : decode cX3_octet 21 = .ok (.invokevirtual 153, 3) := by decide +kernel
theorem dX3_octet_24 : decode cX3_octet 24 = .ok (.if_icmp .lt 5, 3) := by decide +kernel
theorem dX3_octet_27 : decode cX3_octet 27 = .ok (.iconst 0, 1) := by decide +kernel
theorem dX3_octet_28 : decode cX3_octet 28 = .ok (.ireturn, 1) := by decide +kernel
theorem dX3_octet_29 : decode cX3_octet 29 = .ok (.aload 5, 2) := by decide +kernel
theorem dX3_octet_31 : decode cX3_octet 31 = .ok (.lload_n 2, 1) := by decide +kernel
theorem dX3_octet_32 : decode cX3_octet 32 = .ok (.invokevirtual 156, 3) := by decide +kernel
theorem dX3_octet_35 : decode cX3_octet 35 = .ok (.bipush 8, 2) := by decide +kernel
theorem dX3_octet_37 : decode cX3_octet 37 = .ok (.iload 4, 2) := by decide +kernel
theorem dX3_octet_39 : decode cX3_octet 39 = .ok (.imul, 1) := by decide +kernel
theorem dX3_octet_40 : decode cX3_octet 40 = .ok (.lushr, 1) := by decide +kernel
theorem dX3_octet_41 : decode cX3_octet 41 = .ok (.l2i, 1) := by decide +kernel
theorem dX3_octet_42 : decode cX3_octet 42 = .ok (.i2b, 1) := by decide +kernel
theorem dX3_octet_43 : decode cX3_octet 43 = .ok (.ireturn, 1) := by decide +kernel
theorem dX3_half_0 : decode cX3_half 0 = .ok (.aload_n 0, 1) := by decide +kernel
theorem dX3_half_1 : decode cX3_half 1 = .ok (.iload_n 1, 1) := by decide +kernel
theorem dX3_half_2 : decode cX3_half 2 = .ok (.invokevirtual 62, 3) := by decide +kernel
theorem dX3_half_5 : decode cX3_half 5 = .ok (.astore 4, 2) := by decide +kernel
theorem dX3_half_7 : decode cX3_half 7 = .ok (.aload 4, 2) := by decide +kernel
theorem dX3_half_9 : decode cX3_half 9 = .ok (.ifnonnull 5, 3) := by decide +kernel
theorem dX3_half_12 : decode cX3_half 12 = .ok (.iconst 0, 1) := by decide +kernel
theorem dX3_half_13 : decode cX3_half 13 = .ok (.ireturn, 1) := by decide +kernel
theorem dX3_half_14 : decode cX3_half 14 = .ok (.aload 4, 2) := by decide +kernel
theorem dX3_half_16 : decode cX3_half 16 = .ok (.getfield 160, 3) := by decide +kernel
theorem dX3_half_19 : decode cX3_half 19 = .ok (.aload 4, 2) := by decide +kernel
theorem dX3_half_21 : decode cX3_half 21 = .ok (.getfield 160, 3) := by decide +kernel
theorem dX3_half_24 : decode cX3_half 24 = .ok (.iconst 2, 1) := by decide +kernel
theorem dX3_half_25 : decode cX3_half 25 = .ok (.idiv, 1) := by decide +kernel
theorem dX3_half_26 : decode cX3_half 26 = .ok (.isub, 1) := by decide +kernel
theorem dX3_half_27 : decode cX3_half 27 = .ok (.istore 5, 2) := by decide +kernel
theorem dX3_half_29 : decode cX3_half 29 = .ok (.aload 4, 2) := by decide +kernel
theorem dX3_half_31 : decode cX3_half 31 = .ok (.lload_n 2, 1) := by decide +kernel
theorem dX3_half_32 : decode cX3_half 32 = .ok (.invokevirtual 156, 3) := by decide +kernel
theorem dX3_half_35 : decode cX3_half 35 = .ok (.iload 5, 2) := by decide +kernel
theorem dX3_half_37 : decode cX3_half 37 = .ok (.lushr, 1) := by decide +kernel
theorem dX3_half_38 : decode cX3_half 38 = .ok (.l2i, 1) := by decide +kernel
theorem dX3_half_39 : decode cX3_half 39 = .ok (.i2s, 1) := by decide +kernel
theorem dX3_half_40 : decode cX3_half 40 = .ok (.ireturn, 1) := by decide +kernel
theorem dX3_isWidth_0 : decode cX3_isWidth 0 = .ok (.iload_n 0, 1) := by decide +kernel
theorem dX3_isWidth_1 : decode cX3_isWidth 1 = .ok (.bipush 8, 2) := by decide +kernel
theorem dX3_isWidth_3 : decode cX3_isWidth 3 = .ok (.if_icmp .lt 22, 3) := by decide +kernel
theorem dX3_isWidth_6 : decode cX3_isWidth 6 = .ok (.iload_n 0, 1) := by decide +kernel
theorem dX3_isWidth_7 : decode cX3_isWidth 7 = .ok (.iload_n 1, 1) := by decide +kernel
theorem dX3_isWidth_8 : decode cX3_isWidth 8 = .ok (.ifCond .eq 8, 3) := by decide +kernel
theorem dX3_isWidth_11 : decode cX3_isWidth 11 = .ok (.bipush 64, 2) := by decide +kernel
theorem dX3_isWidth_13 : decode cX3_isWidth 13 = .ok (.goto 5, 3) := by decide +kernel
theorem dX3_isWidth_16 : decode cX3_isWidth 16 = .ok (.bipush 63, 2) := by decide +kernel
theorem dX3_isWidth_18 : decode cX3_isWidth 18 = .ok (.if_icmp .gt 7, 3) := by decide +kernel
theorem dX3_isWidth_21 : decode cX3_isWidth 21 = .ok (.iconst 1, 1) := by decide +kernel
theorem dX3_isWidth_22 : decode cX3_isWidth 22 = .ok (.goto 4, 3) := by decide +kernel
theorem dX3_isWidth_25 : decode cX3_isWidth 25 = .ok (.iconst 0, 1) := by decide +kernel
theorem dX3_isWidth_26 : decode cX3_isWidth 26 = .ok (.ireturn, 1) := by decide +kernel
theorem dX3_isSlope_0 : decode cX3_isSlope 0 = .ok (.lload_n 0, 1) := by decide +kernel
theorem dX3_isSlope_1 : decode cX3_isSlope 1 = .ok (.lconst 0, 1) := by decide +kernel
theorem dX3_isSlope_2 : decode cX3_isSlope 2 = .ok (.lcmp, 1) := by decide +kernel
theorem dX3_isSlope_3 : decode cX3_isSlope 3 = .ok (.ifCond .lt 29, 3) := by decide +kernel
theorem dX3_isSlope_6 : decode cX3_isSlope 6 = .ok (.lload_n 0, 1) := by decide +kernel
theorem dX3_isSlope_7 : decode cX3_isSlope 7 = .ok (.ldc2_w 163, 3) := by decide +kernel
theorem dX3_isSlope_10 : decode cX3_isSlope 10 = .ok (.lcmp, 1) := by decide +kernel
theorem dX3_isSlope_11 : decode cX3_isSlope 11 = .ok (.ifCond .gt 21, 3) := by decide +kernel
theorem dX3_isSlope_14 : decode cX3_isSlope 14 = .ok (.lload_n 2, 1) := by decide +kernel
theorem dX3_isSlope_15 : decode cX3_isSlope 15 = .ok (.lconst 1, 1) := by decide +kernel
theorem dX3_isSlope_16 : decode cX3_isSlope 16 = .ok (.lcmp, 1) := by decide +kernel
theorem dX3_isSlope_17 : decode cX3_isSlope 17 = .ok (.ifCond .lt 15, 3) := by decide +kernel
theorem dX3_isSlope_20 : decode cX3_isSlope 20 = .ok (.lload_n 2, 1) := by decide +kernel
theorem dX3_isSlope_21 : decode cX3_isSlope 21 = .ok (.ldc2_w 163, 3) := by decide +kernel
theorem dX3_isSlope_24 : decode cX3_isSlope 24 = .ok (.lcmp, 1) := by decide +kernel
theorem dX3_isSlope_25 : decode cX3_isSlope 25 = .ok (.ifCond .gt 7, 3) := by decide +kernel
theorem dX3_isSlope_28 : decode cX3_isSlope 28 = .ok (.iconst 1, 1) := by decide +kernel
theorem dX3_isSlope_29 : decode cX3_isSlope 29 = .ok (.goto 4, 3) := by decide +kernel
theorem dX3_isSlope_32 : decode cX3_isSlope 32 = .ok (.iconst 0, 1) := by decide +kernel
theorem dX3_isSlope_33 : decode cX3_isSlope 33 = .ok (.ireturn, 1) := by decide +kernel
theorem dX3_isOffset_0 : decode cX3_isOffset 0 = .ok (.lload_n 0, 1) := by decide +kernel
theorem dX3_isOffset_1 : decode cX3_isOffset 1 = .ok (.ldc2_w 165, 3) := by decide +kernel
theorem dX3_isOffset_4 : decode cX3_isOffset 4 = .ok (.lcmp, 1) := by decide +kernel
theorem dX3_isOffset_5 : decode cX3_isOffset 5 = .ok (.ifCond .lt 15, 3) := by decide +kernel
theorem dX3_isOffset_8 : decode cX3_isOffset 8 = .ok (.lload_n 0, 1) := by decide +kernel
theorem dX3_isOffset_9 : decode cX3_isOffset 9 = .ok (.ldc2_w 167, 3) := by decide +kernel
theorem dX3_isOffset_12 : decode cX3_isOffset 12 = .ok (.lcmp, 1) := by decide +kernel
theorem dX3_isOffset_13 : decode cX3_isOffset 13 = .ok (.ifCond .gt 7, 3) := by decide +kernel
theorem dX3_isOffset_16 : decode cX3_isOffset 16 = .ok (.iconst 1, 1) := by decide +kernel
theorem dX3_isOffset_17 : decode cX3_isOffset 17 = .ok (.goto 4, 3) := by decide +kernel
theorem dX3_isOffset_20 : decode cX3_isOffset 20 = .ok (.iconst 0, 1) := by decide +kernel
theorem dX3_isOffset_21 : decode cX3_isOffset 21 = .ok (.ireturn, 1) := by decide +kernel
theorem dX3_find_0 : decode cX3_find 0 = .ok (.iload_n 1, 1) := by decide +kernel
theorem dX3_find_1 : decode cX3_find 1 = .ok (.iconst 1, 1) := by decide +kernel
theorem dX3_find_2 : decode cX3_find 2 = .ok (.if_icmp .lt 17, 3) := by decide +kernel
theorem dX3_find_5 : decode cX3_find 5 = .ok (.iload_n 1, 1) := by decide +kernel
theorem dX3_find_6 : decode cX3_find 6 = .ok (.aload_n 0, 1) := by decide +kernel
theorem dX3_find_7 : decode cX3_find 7 = .ok (.getfield 15, 3) := by decide +kernel
theorem dX3_find_10 : decode cX3_find 10 = .ok (.if_icmp .gt 9, 3) := by decide +kernel
theorem dX3_find_13 : decode cX3_find 13 = .ok (.iload_n 1, 1) := by decide +kernel
theorem dX3_find_14 : decode cX3_find 14 = .ok (.bipush 40, 2) := by decide +kernel
theorem dX3_find_16 : decode cX3_find 16 = .ok (.if_icmp .le 5, 3) := by decide +kernel
theorem dX3_find_19 : decode cX3_find 19 = .ok (.aconst_null, 1) := by decide +kernel
theorem dX3_find_20 : decode cX3_find 20 = .ok (.areturn, 1) := by decide +kernel
theorem dX3_find_21 : decode cX3_find 21 = .ok (.aload_n 0, 1) := by decide +kernel
theorem dX3_find_22 : decode cX3_find 22 = .ok (.getfield 11, 3) := by decide +kernel
theorem dX3_find_25 : decode cX3_find 25 = .ok (.iload_n 1, 1) := by decide +kernel
theorem dX3_find_26 : decode cX3_find 26 = .ok (.iconst 1, 1) := by decide +kernel
theorem dX3_find_27 : decode cX3_find 27 = .ok (.isub, 1) := by decide +kernel
theorem dX3_find_28 : decode cX3_find 28 = .ok (.aaload, 1) := by decide +kernel
theorem dX3_find_29 : decode cX3_find 29 = .ok (.areturn, 1) := by decide +kernel
theorem dX3_combine_0 : decode cX3_combine 0 = .ok (.iload_n 1, 1) := by decide +kernel
theorem dX3_combine_1 : decode cX3_combine 1 = .ok (.tableswitch 73 0 2 #[27, 42, 59], 27) := by decide +kernel
theorem dX3_combine_28 : decode cX3_combine 28 = .ok (.aload_n 0, 1) := by decide +kernel
theorem dX3_combine_29 : decode cX3_combine 29 = .ok (.getfield 33, 3) := by decide +kernel
theorem dX3_combine_32 : decode cX3_combine 32 = .ok (.aload_n 0, 1) := by decide +kernel
theorem dX3_combine_33 : decode cX3_combine 33 = .ok (.getfield 37, 3) := by decide +kernel
theorem dX3_combine_36 : decode cX3_combine 36 = .ok (.lconst 1, 1) := by decide +kernel
theorem dX3_combine_37 : decode cX3_combine 37 = .ok (.invokevirtual 149, 3) := by decide +kernel
theorem dX3_combine_40 : decode cX3_combine 40 = .ok (.goto 45, 3) := by decide +kernel
theorem dX3_combine_43 : decode cX3_combine 43 = .ok (.aload_n 0, 1) := by decide +kernel
theorem dX3_combine_44 : decode cX3_combine 44 = .ok (.getfield 33, 3) := by decide +kernel
theorem dX3_combine_47 : decode cX3_combine 47 = .ok (.aload_n 0, 1) := by decide +kernel
theorem dX3_combine_48 : decode cX3_combine 48 = .ok (.getfield 37, 3) := by decide +kernel
theorem dX3_combine_51 : decode cX3_combine 51 = .ok (.ldc2_w 147, 3) := by decide +kernel
theorem dX3_combine_54 : decode cX3_combine 54 = .ok (.invokevirtual 149, 3) := by decide +kernel
theorem dX3_combine_57 : decode cX3_combine 57 = .ok (.goto 28, 3) := by decide +kernel
theorem dX3_combine_60 : decode cX3_combine 60 = .ok (.aload_n 0, 1) := by decide +kernel
theorem dX3_combine_61 : decode cX3_combine 61 = .ok (.getfield 33, 3) := by decide +kernel
theorem dX3_combine_64 : decode cX3_combine 64 = .ok (.aload_n 0, 1) := by decide +kernel
theorem dX3_combine_65 : decode cX3_combine 65 = .ok (.getfield 37, 3) := by decide +kernel
theorem dX3_combine_68 : decode cX3_combine 68 = .ok (.invokevirtual 169, 3) := by decide +kernel
theorem dX3_combine_71 : decode cX3_combine 71 = .ok (.goto 14, 3) := by decide +kernel
theorem dX3_combine_74 : decode cX3_combine 74 = .ok (.aload_n 0, 1) := by decide +kernel
theorem dX3_combine_75 : decode cX3_combine 75 = .ok (.getfield 33, 3) := by decide +kernel
theorem dX3_combine_78 : decode cX3_combine 78 = .ok (.aload_n 0, 1) := by decide +kernel
theorem dX3_combine_79 : decode cX3_combine 79 = .ok (.getfield 37, 3) := by decide +kernel
theorem dX3_combine_82 : decode cX3_combine 82 = .ok (.invokevirtual 173, 3) := by decide +kernel
theorem dX3_combine_85 : decode cX3_combine 85 = .ok (.return_, 1) := by decide +kernel
theorem dX3_putQuotientByZero_0 : decode cX3_putQuotientByZero 0 = .ok (.aload_n 0, 1) := by decide +kernel
theorem dX3_putQuotientByZero_1 : decode cX3_putQuotientByZero 1 = .ok (.getfield 33, 3) := by decide +kernel
theorem dX3_putQuotientByZero_4 : decode cX3_putQuotientByZero 4 = .ok (.invokevirtual 76, 3) := by decide +kernel
theorem dX3_putQuotientByZero_7 : decode cX3_putQuotientByZero 7 = .ok (.istore_n 2, 1) := by decide +kernel
theorem dX3_putQuotientByZero_8 : decode cX3_putQuotientByZero 8 = .ok (.iload_n 2, 1) := by decide +kernel
theorem dX3_putQuotientByZero_9 : decode cX3_putQuotientByZero 9 = .ok (.ifCond .le 10, 3) := by decide +kernel
theorem dX3_putQuotientByZero_12 : decode cX3_putQuotientByZero 12 = .ok (.aload_n 1, 1) := by decide +kernel
theorem dX3_putQuotientByZero_13 : decode cX3_putQuotientByZero 13 = .ok (.invokevirtual 144, 3) := by decide +kernel
theorem dX3_putQuotientByZero_16 : decode cX3_putQuotientByZero 16 = .ok (.goto 7, 3) := by decide +kernel
theorem dX3_putQuotientByZero_19 : decode cX3_putQuotientByZero 19 = .ok (.aload_n 1, 1) := by decide +kernel
theorem dX3_putQuotientByZero_20 : decode cX3_putQuotientByZero 20 = .ok (.invokevirtual 140, 3) := by decide +kernel
theorem dX3_putQuotientByZero_23 : decode cX3_putQuotientByZero 23 = .ok (.lstore_n 3, 1) := by decide +kernel
theorem dX3_putQuotientByZero_24 : decode cX3_putQuotientByZero 24 = .ok (.iload_n 2, 1) := by decide +kernel
theorem dX3_putQuotientByZero_25 : decode cX3_putQuotientByZero 25 = .ok (.ifCond .ne 9, 3) := by decide +kernel
theorem dX3_putQuotientByZero_28 : decode cX3_putQuotientByZero 28 = .ok (.aload_n 0, 1) := by decide +kernel
theorem dX3_putQuotientByZero_29 : decode cX3_putQuotientByZero 29 = .ok (.aload_n 1, 1) := by decide +kernel
theorem dX3_putQuotientByZero_30 : decode cX3_putQuotientByZero 30 = .ok (.invokevirtual 95, 3) := by decide +kernel
theorem dX3_putQuotientByZero_33 : decode cX3_putQuotientByZero 33 = .ok (.lstore_n 3, 1) := by decide +kernel
theorem dX3_putQuotientByZero_34 : decode cX3_putQuotientByZero 34 = .ok (.aload_n 0, 1) := by decide +kernel
theorem dX3_putQuotientByZero_35 : decode cX3_putQuotientByZero 35 = .ok (.iconst 1, 1) := by decide +kernel
theorem dX3_putQuotientByZero_36 : decode cX3_putQuotientByZero 36 = .ok (.putfield 19, 3) := by decide +kernel
theorem dX3_putQuotientByZero_39 : decode cX3_putQuotientByZero 39 = .ok (.lload_n 3, 1) := by decide +kernel
theorem dX3_putQuotientByZero_40 : decode cX3_putQuotientByZero 40 = .ok (.lreturn, 1) := by decide +kernel
theorem dX3_put_0 : decode cX3_put 0 = .ok (.aload_n 0, 1) := by decide +kernel
theorem dX3_put_1 : decode cX3_put 1 = .ok (.getfield 33, 3) := by decide +kernel
theorem dX3_put_4 : decode cX3_put 4 = .ok (.aload_n 1, 1) := by decide +kernel
theorem dX3_put_5 : decode cX3_put 5 = .ok (.invokevirtual 176, 3) := by decide +kernel
theorem dX3_put_8 : decode cX3_put 8 = .ok (.aload_n 0, 1) := by decide +kernel
theorem dX3_put_9 : decode cX3_put 9 = .ok (.getfield 33, 3) := by decide +kernel
theorem dX3_put_12 : decode cX3_put 12 = .ok (.aload_n 1, 1) := by decide +kernel
theorem dX3_put_13 : decode cX3_put 13 = .ok (.getfield 69, 3) := by decide +kernel
theorem dX3_put_16 : decode cX3_put 16 = .ok (.aload_n 0, 1) := by decide +kernel
theorem dX3_put_17 : decode cX3_put 17 = .ok (.getfield 43, 3) := by decide +kernel
theorem dX3_put_20 : decode cX3_put 20 = .ok (.invokevirtual 180, 3) := by decide +kernel
theorem dX3_put_23 : decode cX3_put 23 = .ok (.istore_n 2, 1) := by decide +kernel
theorem dX3_put_24 : decode cX3_put 24 = .ok (.aload_n 0, 1) := by decide +kernel
theorem dX3_put_25 : decode cX3_put 25 = .ok (.getfield 43, 3) := by decide +kernel
theorem dX3_put_28 : decode cX3_put 28 = .ok (.invokevirtual 184, 3) := by decide +kernel
theorem dX3_put_31 : decode cX3_put 31 = .ok (.ifCond .eq 22, 3) := by decide +kernel
theorem dX3_put_34 : decode cX3_put 34 = .ok (.aload_n 1, 1) := by decide +kernel
theorem dX3_put_35 : decode cX3_put 35 = .ok (.aload_n 0, 1) := by decide +kernel
theorem dX3_put_36 : decode cX3_put 36 = .ok (.getfield 43, 3) := by decide +kernel
theorem dX3_put_39 : decode cX3_put 39 = .ok (.iconst 0, 1) := by decide +kernel
theorem dX3_put_40 : decode cX3_put 40 = .ok (.invokevirtual 108, 3) := by decide +kernel
theorem dX3_put_43 : decode cX3_put 43 = .ok (.invokevirtual 187, 3) := by decide +kernel
theorem dX3_put_46 : decode cX3_put 46 = .ok (.ifCond .eq 7, 3) := by decide +kernel
theorem dX3_put_49 : decode cX3_put 49 = .ok (.iconst 1, 1) := by decide +kernel
theorem dX3_put_50 : decode cX3_put 50 = .ok (.goto 4, 3) := by decide +kernel
theorem dX3_put_53 : decode cX3_put 53 = .ok (.iconst 0, 1) := by decide +kernel
theorem dX3_put_54 : decode cX3_put 54 = .ok (.istore_n 3, 1) := by decide +kernel
theorem dX3_put_55 : decode cX3_put 55 = .ok (.aload_n 0, 1) := by decide +kernel
theorem dX3_put_56 : decode cX3_put 56 = .ok (.iload_n 2, 1) := by decide +kernel
theorem dX3_put_57 : decode cX3_put 57 = .ok (.ifCond .eq 7, 3) := by decide +kernel
theorem dX3_put_60 : decode cX3_put 60 = .ok (.iload_n 3, 1) := by decide +kernel
theorem dX3_put_61 : decode cX3_put 61 = .ok (.ifCond .ne 7, 3) := by decide +kernel
theorem dX3_put_64 : decode cX3_put 64 = .ok (.iconst 1, 1) := by decide +kernel
theorem dX3_put_65 : decode cX3_put 65 = .ok (.goto 4, 3) := by decide +kernel
theorem dX3_put_68 : decode cX3_put 68 = .ok (.iconst 0, 1) := by decide +kernel
theorem dX3_put_69 : decode cX3_put 69 = .ok (.putfield 19, 3) := by decide +kernel
theorem dX3_put_72 : decode cX3_put 72 = .ok (.iload_n 3, 1) := by decide +kernel
theorem dX3_put_73 : decode cX3_put 73 = .ok (.ifCond .eq 14, 3) := by decide +kernel
theorem dX3_put_76 : decode cX3_put 76 = .ok (.aload_n 0, 1) := by decide +kernel
theorem dX3_put_77 : decode cX3_put 77 = .ok (.getfield 43, 3) := by decide +kernel
theorem dX3_put_80 : decode cX3_put 80 = .ok (.iconst 0, 1) := by decide +kernel
theorem dX3_put_81 : decode cX3_put 81 = .ok (.invokevirtual 108, 3) := by decide +kernel
theorem dX3_put_84 : decode cX3_put 84 = .ok (.goto 8, 3) := by decide +kernel
theorem dX3_put_87 : decode cX3_put 87 = .ok (.aload_n 0, 1) := by decide +kernel
theorem dX3_put_88 : decode cX3_put 88 = .ok (.aload_n 1, 1) := by decide +kernel
theorem dX3_put_89 : decode cX3_put 89 = .ok (.invokevirtual 190, 3) := by decide +kernel
theorem dX3_put_92 : decode cX3_put 92 = .ok (.lreturn, 1) := by decide +kernel
theorem dX3_beyond_0 : decode cX3_beyond 0 = .ok (.aload_n 1, 1) := by decide +kernel
theorem dX3_beyond_1 : decode cX3_beyond 1 = .ok (.getfield 66, 3) := by decide +kernel
theorem dX3_beyond_4 : decode cX3_beyond 4 = .ok (.lookupswitch 63 #[(0, 28), (1, 50)], 28) := by decide +kernel
theorem dX3_beyond_32 : decode cX3_beyond 32 = .ok (.aload_n 0, 1) := by decide +kernel
theorem dX3_beyond_33 : decode cX3_beyond 33 = .ok (.getfield 43, 3) := by decide +kernel
theorem dX3_beyond_36 : decode cX3_beyond 36 = .ok (.invokevirtual 114, 3) := by decide +kernel
theorem dX3_beyond_39 : decode cX3_beyond 39 = .ok (.ifCond .eq 10, 3) := by decide +kernel
theorem dX3_beyond_42 : decode cX3_beyond 42 = .ok (.aload_n 1, 1) := by decide +kernel
theorem dX3_beyond_43 : decode cX3_beyond 43 = .ok (.invokevirtual 140, 3) := by decide +kernel
theorem dX3_beyond_46 : decode cX3_beyond 46 = .ok (.goto 7, 3) := by decide +kernel
theorem dX3_beyond_49 : decode cX3_beyond 49 = .ok (.aload_n 1, 1) := by decide +kernel
theorem dX3_beyond_50 : decode cX3_beyond 50 = .ok (.invokevirtual 144, 3) := by decide +kernel
theorem dX3_beyond_53 : decode cX3_beyond 53 = .ok (.lreturn, 1) := by decide +kernel
theorem dX3_beyond_54 : decode cX3_beyond 54 = .ok (.aload_n 1, 1) := by decide +kernel
theorem dX3_beyond_55 : decode cX3_beyond 55 = .ok (.aload_n 0, 1) := by decide +kernel
theorem dX3_beyond_56 : decode cX3_beyond 56 = .ok (.getfield 43, 3) := by decide +kernel
theorem dX3_beyond_59 : decode cX3_beyond 59 = .ok (.iconst 0, 1) := by decide +kernel
theorem dX3_beyond_60 : decode cX3_beyond 60 = .ok (.invokevirtual 108, 3) := by decide +kernel
theorem dX3_beyond_63 : decode cX3_beyond 63 = .ok (.invokevirtual 193, 3) := by decide +kernel
theorem dX3_beyond_66 : decode cX3_beyond 66 = .ok (.lreturn, 1) := by decide +kernel
theorem dX3_beyond_67 : decode cX3_beyond 67 = .ok (.lconst 0, 1) := by decide +kernel
theorem dX3_beyond_68 : decode cX3_beyond 68 = .ok (.lreturn, 1) := by decide +kernel
theorem dX3_writeBefore_0 : decode cX3_writeBefore 0 = .ok (.aload_n 0, 1) := by decide +kernel
theorem dX3_writeBefore_1 : decode cX3_writeBefore 1 = .ok (.getfield 27, 3) := by decide +kernel
theorem dX3_writeBefore_4 : decode cX3_writeBefore 4 = .ok (.ifCond .le 32, 3) := by decide +kernel
theorem dX3_writeBefore_7 : decode cX3_writeBefore 7 = .ok (.aload_n 0, 1) := by decide +kernel
theorem dX3_writeBefore_8 : decode cX3_writeBefore 8 = .ok (.getfield 27, 3) := by decide +kernel
theorem dX3_writeBefore_11 : decode cX3_writeBefore 11 = .ok (.bipush 40, 2) := by decide +kernel
theorem dX3_writeBefore_13 : decode cX3_writeBefore 13 = .ok (.if_icmp .gt 23, 3) := by decide +kernel
theorem dX3_writeBefore_16 : decode cX3_writeBefore 16 = .ok (.aload_n 0, 1) := by decide +kernel
theorem dX3_writeBefore_17 : decode cX3_writeBefore 17 = .ok (.dup, 1) := by decide +kernel
theorem dX3_writeBefore_18 : decode cX3_writeBefore 18 = .ok (.getfield 27, 3) := by decide +kernel
theorem dX3_writeBefore_21 : decode cX3_writeBefore 21 = .ok (.iconst 1, 1) := by decide +kernel
theorem dX3_writeBefore_22 : decode cX3_writeBefore 22 = .ok (.isub, 1) := by decide +kernel
theorem dX3_writeBefore_23 : decode cX3_writeBefore 23 = .ok (.putfield 27, 3) := by decide +kernel
theorem dX3_writeBefore_26 : decode cX3_writeBefore 26 = .ok (.aload_n 0, 1) := by decide +kernel
theorem dX3_writeBefore_27 : decode cX3_writeBefore 27 = .ok (.getfield 23, 3) := by decide +kernel
theorem dX3_writeBefore_30 : decode cX3_writeBefore 30 = .ok (.aload_n 0, 1) := by decide +kernel
theorem dX3_writeBefore_31 : decode cX3_writeBefore 31 = .ok (.getfield 27, 3) := by decide +kernel
theorem dX3_writeBefore_34 : decode cX3_writeBefore 34 = .ok (.iload_n 1, 1) := by decide +kernel
theorem dX3_writeBefore_35 : decode cX3_writeBefore 35 = .ok (.castore, 1) := by decide +kernel
theorem dX3_writeBefore_36 : decode cX3_writeBefore 36 = .ok (.return_, 1) := by decide +kernel
theorem dX3_writeDigit_0 : decode cX3_writeDigit 0 = .ok (.aload_n 0, 1) := by decide +kernel
theorem dX3_writeDigit_1 : decode cX3_writeDigit 1 = .ok (.ldc2_w 196, 3) := by decide +kernel
theorem dX3_writeDigit_4 : decode cX3_writeDigit 4 = .ok (.lload_n 1, 1) := by decide +kernel
theorem dX3_writeDigit_5 : decode cX3_writeDigit 5 = .ok (.ladd, 1) := by decide +kernel
theorem dX3_writeDigit_6 : decode cX3_writeDigit 6 = .ok (.l2i, 1) := by decide +kernel
theorem dX3_writeDigit_7 : decode cX3_writeDigit 7 = .ok (.i2c, 1) := by decide +kernel
theorem dX3_writeDigit_8 : decode cX3_writeDigit 8 = .ok (.invokevirtual 131, 3) := by decide +kernel
theorem dX3_writeDigit_11 : decode cX3_writeDigit 11 = .ok (.return_, 1) := by decide +kernel
theorem dX3_writePlaces_0 : decode cX3_writePlaces 0 = .ok (.iconst 0, 1) := by decide +kernel
theorem dX3_writePlaces_1 : decode cX3_writePlaces 1 = .ok (.istore_n 2, 1) := by decide +kernel
theorem dX3_writePlaces_2 : decode cX3_writePlaces 2 = .ok (.iload_n 2, 1) := by decide +kernel
theorem dX3_writePlaces_3 : decode cX3_writePlaces 3 = .ok (.bipush 6, 2) := by decide +kernel
theorem dX3_writePlaces_5 : decode cX3_writePlaces 5 = .ok (.if_icmp .ge 37, 3) := by decide +kernel
theorem dX3_writePlaces_8 : decode cX3_writePlaces 8 = .ok (.aload_n 1, 1) := by decide +kernel
theorem dX3_writePlaces_9 : decode cX3_writePlaces 9 = .ok (.ldc2_w 198, 3) := by decide +kernel
theorem dX3_writePlaces_12 : decode cX3_writePlaces 12 = .ok (.invokevirtual 200, 3) := by decide +kernel
theorem dX3_writePlaces_15 : decode cX3_writePlaces 15 = .ok (.lstore_n 3, 1) := by decide +kernel
theorem dX3_writePlaces_16 : decode cX3_writePlaces 16 = .ok (.lload_n 3, 1) := by decide +kernel
theorem dX3_writePlaces_17 : decode cX3_writePlaces 17 = .ok (.lconst 0, 1) := by decide +kernel
theorem dX3_writePlaces_18 : decode cX3_writePlaces 18 = .ok (.lcmp, 1) := by decide +kernel
theorem dX3_writePlaces_19 : decode cX3_writePlaces 19 = .ok (.ifCond .ne 12, 3) := by decide +kernel
theorem dX3_writePlaces_22 : decode cX3_writePlaces 22 = .ok (.aload_n 0, 1) := by decide +kernel
theorem dX3_writePlaces_23 : decode cX3_writePlaces 23 = .ok (.getfield 27, 3) := by decide +kernel
theorem dX3_writePlaces_26 : decode cX3_writePlaces 26 = .ok (.bipush 40, 2) := by decide +kernel
theorem dX3_writePlaces_28 : decode cX3_writePlaces 28 = .ok (.if_icmp .ge 8, 3) := by decide +kernel
theorem dX3_writePlaces_31 : decode cX3_writePlaces 31 = .ok (.aload_n 0, 1) := by decide +kernel
theorem dX3_writePlaces_32 : decode cX3_writePlaces 32 = .ok (.lload_n 3, 1) := by decide +kernel
theorem dX3_writePlaces_33 : decode cX3_writePlaces 33 = .ok (.invokevirtual 203, 3) := by decide +kernel
theorem dX3_writePlaces_36 : decode cX3_writePlaces 36 = .ok (.iinc 2 1, 3) := by decide +kernel
theorem dX3_writePlaces_39 : decode cX3_writePlaces 39 = .ok (.goto (-37), 3) := by decide +kernel
theorem dX3_writePlaces_42 : decode cX3_writePlaces 42 = .ok (.aload_n 0, 1) := by decide +kernel
theorem dX3_writePlaces_43 : decode cX3_writePlaces 43 = .ok (.getfield 27, 3) := by decide +kernel
theorem dX3_writePlaces_46 : decode cX3_writePlaces 46 = .ok (.bipush 40, 2) := by decide +kernel
theorem dX3_writePlaces_48 : decode cX3_writePlaces 48 = .ok (.if_icmp .ge 9, 3) := by decide +kernel
theorem dX3_writePlaces_51 : decode cX3_writePlaces 51 = .ok (.aload_n 0, 1) := by decide +kernel
theorem dX3_writePlaces_52 : decode cX3_writePlaces 52 = .ok (.bipush 46, 2) := by decide +kernel
theorem dX3_writePlaces_54 : decode cX3_writePlaces 54 = .ok (.invokevirtual 131, 3) := by decide +kernel
theorem dX3_writePlaces_57 : decode cX3_writePlaces 57 = .ok (.return_, 1) := by decide +kernel
theorem dX3_writeWholePart_0 : decode cX3_writeWholePart 0 = .ok (.aload_n 0, 1) := by decide +kernel
theorem dX3_writeWholePart_1 : decode cX3_writeWholePart 1 = .ok (.aload_n 1, 1) := by decide +kernel
theorem dX3_writeWholePart_2 : decode cX3_writeWholePart 2 = .ok (.ldc2_w 198, 3) := by decide +kernel
theorem dX3_writeWholePart_5 : decode cX3_writeWholePart 5 = .ok (.invokevirtual 200, 3) := by decide +kernel
theorem dX3_writeWholePart_8 : decode cX3_writeWholePart 8 = .ok (.invokevirtual 203, 3) := by decide +kernel
theorem dX3_writeWholePart_11 : decode cX3_writeWholePart 11 = .ok (.iconst 1, 1) := by decide +kernel
theorem dX3_writeWholePart_12 : decode cX3_writeWholePart 12 = .ok (.istore_n 2, 1) := by decide +kernel
theorem dX3_writeWholePart_13 : decode cX3_writeWholePart 13 = .ok (.iload_n 2, 1) := by decide +kernel
theorem dX3_writeWholePart_14 : decode cX3_writeWholePart 14 = .ok (.bipush 40, 2) := by decide +kernel
theorem dX3_writeWholePart_16 : decode cX3_writeWholePart 16 = .ok (.if_icmp .ge 27, 3) := by decide +kernel
theorem dX3_writeWholePart_19 : decode cX3_writeWholePart 19 = .ok (.aload_n 1, 1) := by decide +kernel
theorem dX3_writeWholePart_20 : decode cX3_writeWholePart 20 = .ok (.invokevirtual 122, 3) := by decide +kernel
theorem dX3_writeWholePart_23 : decode cX3_writeWholePart 23 = .ok (.ifCond .ne 20, 3) := by decide +kernel
theorem dX3_writeWholePart_26 : decode cX3_writeWholePart 26 = .ok (.aload_n 0, 1) := by decide +kernel
theorem dX3_writeWholePart_27 : decode cX3_writeWholePart 27 = .ok (.aload_n 1, 1) := by decide +kernel
theorem dX3_writeWholePart_28 : decode cX3_writeWholePart 28 = .ok (.ldc2_w 198, 3) := by decide +kernel
theorem dX3_writeWholePart_31 : decode cX3_writeWholePart 31 = .ok (.invokevirtual 200, 3) := by decide +kernel
theorem dX3_writeWholePart_34 : decode cX3_writeWholePart 34 = .ok (.invokevirtual 203, 3) := by decide +kernel
theorem dX3_writeWholePart_37 : decode cX3_writeWholePart 37 = .ok (.iinc 2 1, 3) := by decide +kernel
theorem dX3_writeWholePart_40 : decode cX3_writeWholePart 40 = .ok (.goto (-27), 3) := by decide +kernel
theorem dX3_writeWholePart_43 : decode cX3_writeWholePart 43 = .ok (.return_, 1) := by decide +kernel
end
section
set_option maxRecDepth 20000 in
theorem ggX3_init_X0_init : GoodIn wsX3_init wsX0_init := goodIn_r _ [21, 22, 2, 3, 23, 17, 18, 24, 25, 26, 27, 28, 29, 30, 41, 39, 40] (by decide +kernel) (by decide +kernel)
set_option maxRecDepth 20000 in
theorem gX3_init_X0_init_n32 : GoodIn wsX3_init (wsX0_init) := ggX3_init_X0_init
set_option maxRecDepth 20000 in
theorem ggX3_init_X2_init : GoodIn wsX3_init wsX2_init := goodIn_r _ [27, 28, 2, 3, 29, 30, 41] (by decide +kernel) (by decide +kernel)
set_option maxRecDepth 20000 in
theorem gX3_init_X2_init_n42 : GoodIn wsX3_init (wsX2_init) := ggX3_init_X2_init
set_option maxRecDepth 20000 in
theorem ggX3_kind_X3_isWidth : GoodIn wsX3_kind wsX3_isWidth := goodIn_r _ [9] (by decide +kernel) (by decide +kernel)
set_option maxRecDepth 20000 in
theorem gX3_kind_X3_isWidth : GoodIn wsX3_kind (va_wsS RX3 47 yX3_isWidth wsX3_isWidth) := goodIn_app (goodIn_of _ (by decide +kernel)) ggX3_kind_X3_isWidth
set_option maxRecDepth 20000 in
theorem ggX3_kind_X3_isSlope : GoodIn wsX3_kind wsX3_isSlope := goodIn_r _ [12, 13] (by decide +kernel) (by decide +kernel)
set_option maxRecDepth 20000 in
theorem gX3_kind_X3_isSlope : GoodIn wsX3_kind (va_wsS RX3 51 yX3_isSlope wsX3_isSlope) := goodIn_app (goodIn_of _ (by decide +kernel)) ggX3_kind_X3_isSlope
set_option maxRecDepth 20000 in
theorem ggX3_kind_X3_isOffset : GoodIn wsX3_kind wsX3_isOffset := goodIn_r _ [16, 17, 18] (by decide +kernel) (by decide +kernel)
set_option maxRecDepth 20000 in
theorem gX3_kind_X3_isOffset : GoodIn wsX3_kind (va_wsS RX3 55 yX3_isOffset wsX3_isOffset) := goodIn_app (goodIn_of _ (by decide +kernel)) ggX3_kind_X3_isOffset
set_option maxRecDepth 20000 in
theorem ggX3_kind_X1_init : GoodIn wsX3_kind wsX1_init := goodIn_r _ [20, 21, 22, 23, 24, 25, 26, 27, 28, 29, 30, 39, 40, 41, 42, 43, 44, 45] (by decide +kernel) (by decide +kernel)
set_option maxRecDepth 20000 in
theorem gX3_kind_X1_init_n59 : GoodIn wsX3_kind (wsX1_init) := ggX3_kind_X1_init
set_option maxRecDepth 20000 in
theorem ggX3_rule_X3_find : GoodIn wsX3_rule wsX3_find := goodIn_r _ [5, 6, 7, 15, 16, 17, 18, 19, 20, 21, 22] (by decide +kernel) (by decide +kernel)
set_option maxRecDepth 20000 in
theorem gX3_rule_X3_find : GoodIn wsX3_rule (wsV RX3 62 RX3 yX3_find wsX3_find) := goodIn_app (goodIn_of _ (by decide +kernel)) ggX3_rule_X3_find
set_option maxRecDepth 20000 in
theorem ggX3_apply_X3_find : GoodIn wsX3_apply wsX3_find := goodIn_r _ [9, 10, 11, 134, 135, 136, 137, 138, 139, 140, 141] (by decide +kernel) (by decide +kernel)
set_option maxRecDepth 20000 in
theorem gX3_apply_X3_find : GoodIn wsX3_apply (wsV RX3 62 RX3 yX3_find wsX3_find) := goodIn_app (goodIn_of _ (by decide +kernel)) ggX3_apply_X3_find
set_option maxRecDepth 20000 in
theorem ggX3_apply_X0_take : GoodIn wsX3_apply wsX0_take := goodIn_r _ [15, 16, 17, 18, 19, 20, 21, 22, 23, 24, 25, 26, 27, 28, 29, 30, 31, 32, 33, 34, 35, 149, 150, 142, 143, 144, 145, 146, 147, 148, 151] (by decide +kernel) (by decide +kernel)
set_option maxRecDepth 20000 in
theorem gX3_apply_X0_take_n72 : GoodIn wsX3_apply (wsX0_take) := ggX3_apply_X0_take
set_option maxRecDepth 20000 in
theorem ggX3_apply_X0_sign : GoodIn wsX3_apply wsX0_sign := goodIn_r _ [38, 16, 39, 25, 40, 41, 42, 43, 44, 45, 28, 46, 47, 48, 149, 150, 151] (by decide +kernel) (by decide +kernel)
set_option maxRecDepth 20000 in
theorem gX3_apply_X0_sign_n76 : GoodIn wsX3_apply (wsX0_sign) := ggX3_apply_X0_sign
set_option maxRecDepth 20000 in
theorem ggX3_apply_X3_putQuotientByZero : GoodIn wsX3_apply wsX3_putQuotientByZero := goodIn_r _ [52, 3, 53, 36, 13, 37, 38, 16, 39, 25, 40, 41, 42, 43, 44, 45, 28, 46, 47, 48, 54, 19, 55, 56, 23, 57, 22, 58, 59, 60, 61, 62, 63, 64, 8, 65, 66, 67, 68, 69, 17, 70, 71, 72, 73, 74, 75, 76, 29, 77, 78, 79, 80, 30, 31, 32, 81, 82, 83, 84, 85, 86, 87, 88, 24, 26, 27, 89, 90, 91, 92, 93, 94, 95, 96, 97, 98, 99, 100, 33, 34, 35, 101, 102, 103, 104, 105, 106, 107, 108, 109, 110, 111, 112, 113, 114, 115, 18, 20, 21, 134, 135, 136, 137, 138, 139, 140, 141, 149, 150, 151, 142, 143, 144, 145, 146, 147, 148] (by decide +kernel) (by decide +kernel)
set_option maxRecDepth 20000 in
theorem gX3_apply_X3_putQuotientByZero : GoodIn wsX3_apply (wsV RX3 87 RX3 yX3_putQuotientByZero wsX3_putQuotientByZero) := goodIn_app (goodIn_of _ (by decide +kernel)) ggX3_apply_X3_putQuotientByZero
set_option maxRecDepth 20000 in
theorem ggX3_apply_X3_combine : GoodIn wsX3_apply wsX3_combine := goodIn_r _ [119, 3, 4, 120, 121, 13, 122, 123, 16, 17, 124, 25, 125, 126, 28, 127, 33, 34, 35, 29, 70, 71, 72, 73, 74, 75, 76, 77, 78, 79, 80, 128, 129, 130, 131, 132, 133, 84, 46, 47, 48, 30, 31, 32, 134, 135, 136, 137, 138, 139, 140, 141, 149, 150, 151] (by decide +kernel) (by decide +kernel)
set_option maxRecDepth 20000 in
theorem gX3_apply_X3_combine : GoodIn wsX3_apply (wsV RX3 91 RX3 yX3_combine wsX3_combine) := goodIn_app (goodIn_of _ (by decide +kernel)) ggX3_apply_X3_combine
set_option maxRecDepth 20000 in
theorem ggX3_apply_X3_put : GoodIn wsX3_apply wsX3_put := goodIn_r _ [65, 3, 66, 53, 67, 13, 68, 69, 16, 17, 70, 25, 71, 72, 73, 74, 75, 76, 28, 29, 77, 78, 79, 80, 30, 31, 32, 81, 82, 83, 84, 46, 47, 48, 85, 86, 87, 88, 24, 26, 27, 42, 43, 44, 45, 89, 90, 91, 92, 39, 40, 41, 93, 94, 95, 96, 97, 98, 99, 100, 33, 34, 35, 101, 102, 103, 104, 105, 106, 107, 108, 19, 109, 110, 58, 59, 60, 61, 23, 57, 22, 111, 54, 55, 56, 112, 113, 114, 8, 115, 18, 20, 21, 134, 135, 136, 137, 138, 139, 140, 141, 142, 143, 144, 145, 146, 147, 148, 149, 150, 151] (by decide +kernel) (by decide +kernel)
set_option maxRecDepth 20000 in
theorem gX3_apply_X3_put : GoodIn wsX3_apply (wsV RX3 95 RX3 yX3_put wsX3_put) := goodIn_app (goodIn_of _ (by decide +kernel)) ggX3_apply_X3_put
set_option maxRecDepth 20000 in
theorem ggX3_convert_X3_find : GoodIn wsX3_convert wsX3_find := goodIn_r _ [6, 7, 8, 106, 107, 108, 109, 110, 111, 112, 113] (by decide +kernel) (by decide +kernel)
set_option maxRecDepth 20000 in
theorem gX3_convert_X3_find : GoodIn wsX3_convert (wsV RX3 62 RX3 yX3_find wsX3_find) := goodIn_app (goodIn_of _ (by decide +kernel)) ggX3_convert_X3_find
set_option maxRecDepth 20000 in
theorem ggX3_convert_X0_take : GoodIn wsX3_convert wsX0_take := goodIn_r _ [12, 13, 14, 15, 16, 17, 18, 19, 20, 21, 22, 23, 24, 25, 26, 27, 28, 29, 30, 31, 32, 114, 115, 116, 117, 118, 119, 120, 121, 122, 123] (by decide +kernel) (by decide +kernel)
set_option maxRecDepth 20000 in
theorem gX3_convert_X0_take_n72 : GoodIn wsX3_convert (wsX0_take) := ggX3_convert_X0_take
set_option maxRecDepth 20000 in
theorem ggX3_convert_X3_put : GoodIn wsX3_convert wsX3_put := goodIn_r _ [36, 1, 37, 38, 39, 10, 40, 41, 13, 14, 42, 22, 43, 44, 45, 46, 47, 48, 25, 26, 49, 50, 51, 52, 27, 28, 29, 53, 54, 55, 56, 57, 58, 59, 60, 61, 62, 63, 21, 23, 24, 64, 65, 66, 67, 68, 69, 70, 71, 72, 73, 74, 75, 76, 77, 78, 79, 80, 81, 82, 30, 31, 32, 83, 84, 85, 86, 87, 88, 89, 90, 16, 91, 92, 93, 94, 95, 96, 20, 97, 19, 98, 99, 100, 101, 102, 103, 104, 5, 105, 15, 17, 18, 106, 107, 108, 109, 110, 111, 112, 113, 116, 117, 118, 119, 120, 121, 122, 114, 115, 123] (by decide +kernel) (by decide +kernel)
set_option maxRecDepth 20000 in
theorem gX3_convert_X3_put : GoodIn wsX3_convert (wsV RX3 95 RX3 yX3_put wsX3_put) := goodIn_app (goodIn_of _ (by decide +kernel)) ggX3_convert_X3_put
set_option maxRecDepth 20000 in
theorem ggX3_physical_X3_find : GoodIn wsX3_physical wsX3_find := goodIn_r _ [8, 9, 10, 58, 59, 60, 61, 62, 63, 64, 65] (by decide +kernel) (by decide +kernel)
set_option maxRecDepth 20000 in
theorem gX3_physical_X3_find : GoodIn wsX3_physical (wsV RX3 62 RX3 yX3_find wsX3_find) := goodIn_app (goodIn_of _ (by decide +kernel)) ggX3_physical_X3_find
set_option maxRecDepth 20000 in
theorem ggX3_physical_X0_take : GoodIn wsX3_physical wsX0_take := goodIn_r _ [14, 15, 16, 17, 18, 19, 20, 21, 22, 23, 24, 25, 26, 27, 28, 29, 30, 31, 32, 33, 34, 66, 67, 68, 69, 70, 71, 72, 73, 74, 75] (by decide +kernel) (by decide +kernel)
set_option maxRecDepth 20000 in
theorem gX3_physical_X0_take_n72 : GoodIn wsX3_physical (wsX0_take) := ggX3_physical_X0_take
set_option maxRecDepth 20000 in
theorem ggX3_physical_X0_reduce : GoodIn wsX3_physical wsX0_reduce := goodIn_r _ [37, 15, 38, 16, 39, 24, 40, 41, 27, 29, 30, 31, 28, 42, 43, 44, 45, 46, 47, 48, 49, 50, 51, 52, 53, 54, 55, 56, 12, 57, 66, 67, 75] (by decide +kernel) (by decide +kernel)
set_option maxRecDepth 20000 in
theorem gX3_physical_X0_reduce_n101 : GoodIn wsX3_physical (wsX0_reduce) := ggX3_physical_X0_reduce
set_option maxRecDepth 20000 in
theorem ggX3_physical_X2_bitsFrom : GoodIn wsX3_physical wsX2_bitsFrom := goodIn_r _ [44, 45, 46, 47, 24, 48, 27, 75] (by decide +kernel) (by decide +kernel)
set_option maxRecDepth 20000 in
theorem gX3_physical_X2_bitsFrom_n108 : GoodIn wsX3_physical (wsX2_bitsFrom) := ggX3_physical_X2_bitsFrom
set_option maxRecDepth 20000 in
theorem ggX3_text_X3_find : GoodIn wsX3_text wsX3_find := goodIn_r _ [7, 8, 9, 79, 80, 81, 82, 83, 84, 85, 86] (by decide +kernel) (by decide +kernel)
set_option maxRecDepth 20000 in
theorem gX3_text_X3_find : GoodIn wsX3_text (wsV RX3 62 RX3 yX3_find wsX3_find) := goodIn_app (goodIn_of _ (by decide +kernel)) ggX3_text_X3_find
set_option maxRecDepth 20000 in
theorem ggX3_text_X0_take : GoodIn wsX3_text wsX0_take := goodIn_r _ [13, 14, 15, 16, 17, 18, 19, 20, 21, 22, 23, 24, 25, 26, 27, 28, 29, 30, 31, 32, 33, 87, 88, 89, 90, 91, 92, 93, 94, 95, 96] (by decide +kernel) (by decide +kernel)
set_option maxRecDepth 20000 in
theorem gX3_text_X0_take_n72 : GoodIn wsX3_text (wsX0_take) := ggX3_text_X0_take
set_option maxRecDepth 20000 in
theorem ggX3_text_X2_isNegative : GoodIn wsX3_text wsX2_isNegative := goodIn_r _ [36, 26, 96] (by decide +kernel) (by decide +kernel)
set_option maxRecDepth 20000 in
theorem gX3_text_X2_isNegative_n114 : GoodIn wsX3_text (wsX2_isNegative) := ggX3_text_X2_isNegative
set_option maxRecDepth 20000 in
theorem ggX3_text_X0_toMillionths : GoodIn wsX3_text wsX0_toMillionths := goodIn_r _ [39, 14, 40, 15, 41, 42, 34, 23, 35, 36, 26, 28, 29, 30, 27, 43, 44, 45, 46, 47, 48, 49, 31, 32, 33, 50, 51, 52, 87, 88, 96] (by decide +kernel) (by decide +kernel)
set_option maxRecDepth 20000 in
theorem gX3_text_X0_toMillionths_n118 : GoodIn wsX3_text (wsX0_toMillionths) := ggX3_text_X0_toMillionths
set_option maxRecDepth 20000 in
theorem ggX3_text_X2_isZero : GoodIn wsX3_text wsX2_isZero := goodIn_r _ [55, 56, 57, 58, 23, 59, 26, 96] (by decide +kernel) (by decide +kernel)
set_option maxRecDepth 20000 in
theorem gX3_text_X2_isZero_n122 : GoodIn wsX3_text (wsX2_isZero) := ggX3_text_X2_isZero
set_option maxRecDepth 20000 in
theorem ggX3_text_X3_writePlaces : GoodIn wsX3_text wsX3_writePlaces := goodIn_r _ [63, 64, 2, 50, 23, 51, 52, 26, 65, 66, 67, 6, 68, 69, 70, 71, 72, 73, 74, 79, 80, 81, 82, 83, 84, 85, 86, 96] (by decide +kernel) (by decide +kernel)
set_option maxRecDepth 20000 in
theorem gX3_text_X3_writePlaces : GoodIn wsX3_text (wsV RX3 125 RX3 yX3_writePlaces wsX3_writePlaces) := goodIn_app (goodIn_of _ (by decide +kernel)) ggX3_text_X3_writePlaces
set_option maxRecDepth 20000 in
theorem ggX3_text_X3_writeWholePart : GoodIn wsX3_text wsX3_writeWholePart := goodIn_r _ [78, 64, 50, 23, 51, 52, 26, 65, 66, 67, 6, 68, 69, 70, 71, 72, 73, 2, 74, 53, 54, 55, 56, 57, 58, 59, 96, 79, 80, 81, 82, 83, 84, 85, 86] (by decide +kernel) (by decide +kernel)
set_option maxRecDepth 20000 in
theorem gX3_text_X3_writeWholePart : GoodIn wsX3_text (wsV RX3 128 RX3 yX3_writeWholePart wsX3_writeWholePart) := goodIn_app (goodIn_of _ (by decide +kernel)) ggX3_text_X3_writeWholePart
set_option maxRecDepth 20000 in
theorem ggX3_text_X3_writeBefore : GoodIn wsX3_text wsX3_writeBefore := goodIn_r _ [73, 2, 74, 79, 80, 81, 82, 83, 84, 85, 86] (by decide +kernel) (by decide +kernel)
set_option maxRecDepth 20000 in
theorem gX3_text_X3_writeBefore : GoodIn wsX3_text (wsV RX3 131 RX3 yX3_writeBefore wsX3_writeBefore) := goodIn_app (goodIn_of _ (by decide +kernel)) ggX3_text_X3_writeBefore
set_option maxRecDepth 20000 in
theorem ggX3_bound_X3_find : GoodIn wsX3_bound wsX3_find := goodIn_r _ [5, 6, 7, 19, 20, 21, 22, 23, 24, 25, 26] (by decide +kernel) (by decide +kernel)
set_option maxRecDepth 20000 in
theorem gX3_bound_X3_find : GoodIn wsX3_bound (wsV RX3 62 RX3 yX3_find wsX3_find) := goodIn_app (goodIn_of _ (by decide +kernel)) ggX3_bound_X3_find
set_option maxRecDepth 20000 in
theorem ggX3_bound_X1_least : GoodIn wsX3_bound wsX1_least := goodIn_r _ [11, 12, 13, 14, 27, 28, 29, 30, 31, 32, 33] (by decide +kernel) (by decide +kernel)
set_option maxRecDepth 20000 in
theorem gX3_bound_X1_least_n140 : GoodIn wsX3_bound (wsX1_least) := ggX3_bound_X1_least
set_option maxRecDepth 20000 in
theorem ggX3_bound_X1_greatest : GoodIn wsX3_bound wsX1_greatest := goodIn_r _ [17, 12, 13, 14, 18, 8, 10, 9, 11, 27, 28, 29, 30, 31, 32, 33] (by decide +kernel) (by decide +kernel)
set_option maxRecDepth 20000 in
theorem gX3_bound_X1_greatest_n144 : GoodIn wsX3_bound (wsX1_greatest) := ggX3_bound_X1_greatest
set_option maxRecDepth 20000 in
theorem ggX3_compare_X3_find : GoodIn wsX3_compare wsX3_find := goodIn_r _ [8, 9, 10, 66, 67, 68, 69, 70, 71, 72, 73] (by decide +kernel) (by decide +kernel)
set_option maxRecDepth 20000 in
theorem gX3_compare_X3_find : GoodIn wsX3_compare (wsV RX3 62 RX3 yX3_find wsX3_find) := goodIn_app (goodIn_of _ (by decide +kernel)) ggX3_compare_X3_find
set_option maxRecDepth 20000 in
theorem ggX3_compare_X0_take : GoodIn wsX3_compare wsX0_take := goodIn_r _ [14, 15, 16, 17, 18, 19, 20, 21, 22, 23, 24, 25, 26, 27, 28, 29, 30, 31, 32, 33, 34, 74, 75, 76, 77, 78, 79, 80, 81, 82, 83] (by decide +kernel) (by decide +kernel)
set_option maxRecDepth 20000 in
theorem gX3_compare_X0_take_n72 : GoodIn wsX3_compare (wsX0_take) := ggX3_compare_X0_take
set_option maxRecDepth 20000 in
theorem ggX3_compare_X0_add : GoodIn wsX3_compare wsX0_add := goodIn_r _ [37, 15, 16, 38, 24, 39, 40, 27, 41, 32, 33, 34, 28, 42, 43, 44, 45, 46, 47, 48, 49, 50, 51, 52, 74, 75, 83] (by decide +kernel) (by decide +kernel)
set_option maxRecDepth 20000 in
theorem gX3_compare_X0_add_n149 : GoodIn wsX3_compare (wsX0_add) := ggX3_compare_X0_add
set_option maxRecDepth 20000 in
theorem ggX3_compare_X0_sign : GoodIn wsX3_compare wsX0_sign := goodIn_r _ [55, 15, 56, 24, 57, 58, 59, 60, 61, 62, 27, 63, 64, 65, 74, 75, 83] (by decide +kernel) (by decide +kernel)
set_option maxRecDepth 20000 in
theorem gX3_compare_X0_sign_n76 : GoodIn wsX3_compare (wsX0_sign) := ggX3_compare_X0_sign
set_option maxRecDepth 20000 in
theorem ggX3_octet_X3_find : GoodIn wsX3_octet wsX3_find := goodIn_r _ [5, 6, 7, 16, 17, 18, 19, 20, 21, 22, 23] (by decide +kernel) (by decide +kernel)
set_option maxRecDepth 20000 in
theorem gX3_octet_X3_find : GoodIn wsX3_octet (wsV RX3 62 RX3 yX3_find wsX3_find) := goodIn_app (goodIn_of _ (by decide +kernel)) ggX3_octet_X3_find
set_option maxRecDepth 20000 in
theorem ggX3_octet_X1_octets : GoodIn wsX3_octet wsX1_octets := goodIn_r _ [11, 12, 24, 25, 26, 27, 28, 29, 30] (by decide +kernel) (by decide +kernel)
set_option maxRecDepth 20000 in
theorem gX3_octet_X1_octets_n153 : GoodIn wsX3_octet (wsX1_octets) := ggX3_octet_X1_octets
set_option maxRecDepth 20000 in
theorem ggX3_octet_X1_bits : GoodIn wsX3_octet wsX1_bits := goodIn_r _ [15, 12, 24, 25, 26, 27, 28, 29, 30] (by decide +kernel) (by decide +kernel)
set_option maxRecDepth 20000 in
theorem gX3_octet_X1_bits_n156 : GoodIn wsX3_octet (wsX1_bits) := ggX3_octet_X1_bits
set_option maxRecDepth 20000 in
theorem ggX3_half_X3_find : GoodIn wsX3_half wsX3_find := goodIn_r _ [5, 6, 7, 20, 21, 22, 23, 24, 25, 26, 27] (by decide +kernel) (by decide +kernel)
set_option maxRecDepth 20000 in
theorem gX3_half_X3_find : GoodIn wsX3_half (wsV RX3 62 RX3 yX3_find wsX3_find) := goodIn_app (goodIn_of _ (by decide +kernel)) ggX3_half_X3_find
set_option maxRecDepth 20000 in
theorem ggX3_half_X1_bits : GoodIn wsX3_half wsX1_bits := goodIn_r _ [11, 12, 13, 14, 15, 16, 17, 18, 19] (by decide +kernel) (by decide +kernel)
set_option maxRecDepth 20000 in
theorem gX3_half_X1_bits_n156 : GoodIn wsX3_half (wsX1_bits) := ggX3_half_X1_bits
set_option maxRecDepth 20000 in
theorem ggX3_combine_X0_add : GoodIn wsX3_combine wsX0_add := goodIn_r _ [7, 8, 9, 10, 11, 12, 13, 14, 15, 16, 17, 18, 19, 20, 21, 22, 23, 24, 25, 26, 27, 28, 29, 30, 52, 53, 54] (by decide +kernel) (by decide +kernel)
set_option maxRecDepth 20000 in
theorem gX3_combine_X0_add_n149 : GoodIn wsX3_combine (wsX0_add) := ggX3_combine_X0_add
set_option maxRecDepth 20000 in
theorem ggX3_combine_X0_multiply : GoodIn wsX3_combine wsX0_multiply := goodIn_r _ [33, 8, 9, 10, 11, 12, 13, 14, 15, 16, 17, 18, 19, 52, 53, 54] (by decide +kernel) (by decide +kernel)
set_option maxRecDepth 20000 in
theorem gX3_combine_X0_multiply_n169 : GoodIn wsX3_combine (wsX0_multiply) := ggX3_combine_X0_multiply
set_option maxRecDepth 20000 in
theorem ggX3_combine_X0_divide : GoodIn wsX3_combine wsX0_divide := goodIn_r _ [36, 8, 9, 37, 10, 11, 12, 13, 14, 15, 16, 17, 18, 19, 38, 39, 40, 41, 42, 43, 52, 53, 54] (by decide +kernel) (by decide +kernel)
set_option maxRecDepth 20000 in
theorem gX3_combine_X0_divide_n173 : GoodIn wsX3_combine (wsX0_divide) := ggX3_combine_X0_divide
set_option maxRecDepth 20000 in
theorem ggX3_putQuotientByZero_X0_sign : GoodIn wsX3_putQuotientByZero wsX0_sign := goodIn_r _ [6, 7, 8, 9, 10, 11, 12, 13, 14, 15, 16, 17, 18, 19, 108, 109, 110] (by decide +kernel) (by decide +kernel)
set_option maxRecDepth 20000 in
theorem gX3_putQuotientByZero_X0_sign_n76 : GoodIn wsX3_putQuotientByZero (wsX0_sign) := ggX3_putQuotientByZero_X0_sign
set_option maxRecDepth 20000 in
theorem ggX3_putQuotientByZero_X1_greatest : GoodIn wsX3_putQuotientByZero wsX1_greatest := goodIn_r _ [23, 24, 25, 26, 27, 28, 29, 21, 30, 111, 112, 113, 114, 115, 116, 117] (by decide +kernel) (by decide +kernel)
set_option maxRecDepth 20000 in
theorem gX3_putQuotientByZero_X1_greatest_n144 : GoodIn wsX3_putQuotientByZero (wsX1_greatest) := ggX3_putQuotientByZero_X1_greatest
set_option maxRecDepth 20000 in
theorem ggX3_putQuotientByZero_X1_least : GoodIn wsX3_putQuotientByZero wsX1_least := goodIn_r _ [30, 24, 25, 26, 111, 112, 113, 114, 115, 116, 117] (by decide +kernel) (by decide +kernel)
set_option maxRecDepth 20000 in
theorem gX3_putQuotientByZero_X1_least_n140 : GoodIn wsX3_putQuotientByZero (wsX1_least) := ggX3_putQuotientByZero_X1_least
set_option maxRecDepth 20000 in
theorem ggX3_putQuotientByZero_X3_put : GoodIn wsX3_putQuotientByZero wsX3_put := goodIn_r _ [35, 1, 36, 2, 37, 4, 38, 39, 7, 40, 41, 9, 42, 43, 44, 45, 46, 47, 16, 48, 49, 50, 51, 52, 53, 54, 55, 56, 57, 58, 59, 17, 18, 19, 60, 61, 62, 63, 64, 65, 66, 12, 13, 14, 15, 67, 68, 69, 70, 8, 10, 11, 71, 72, 73, 74, 75, 76, 77, 78, 79, 80, 81, 82, 83, 84, 85, 86, 87, 88, 89, 21, 90, 91, 27, 28, 29, 30, 24, 25, 26, 92, 20, 22, 23, 93, 94, 95, 34, 96, 97, 98, 99, 100, 101, 102, 103, 104, 105, 106, 107, 111, 112, 113, 114, 115, 116, 117, 108, 109, 110] (by decide +kernel) (by decide +kernel)
set_option maxRecDepth 20000 in
theorem gX3_putQuotientByZero_X3_put : GoodIn wsX3_putQuotientByZero (wsV RX3 95 RX3 yX3_put wsX3_put) := goodIn_app (goodIn_of _ (by decide +kernel)) ggX3_putQuotientByZero_X3_put
set_option maxRecDepth 20000 in
theorem ggX3_put_X0_toRawScale : GoodIn wsX3_put wsX0_toRawScale := goodIn_r _ [7, 8, 9, 10, 11, 12, 13, 14, 15, 16, 17, 18, 19, 20, 21, 22, 23, 24, 25, 26, 108, 109, 101, 102, 103, 104, 105, 106, 107, 110] (by decide +kernel) (by decide +kernel)
set_option maxRecDepth 20000 in
theorem gX3_put_X0_toRawScale_n176 : GoodIn wsX3_put (wsX0_toRawScale) := ggX3_put_X0_toRawScale
set_option maxRecDepth 20000 in
theorem ggX3_put_X0_round : GoodIn wsX3_put wsX0_round := goodIn_r _ [29, 8, 30, 9, 31, 11, 32, 33, 18, 24, 25, 26, 19, 34, 35, 36, 37, 38, 39, 40, 41, 42, 43, 44, 45, 46, 47, 48, 20, 21, 22, 23, 14, 15, 16, 17, 49, 50, 51, 52, 53, 54, 55, 56, 57, 5, 58, 59, 10, 12, 13, 60, 61, 62, 108, 109, 110] (by decide +kernel) (by decide +kernel)
set_option maxRecDepth 20000 in
theorem gX3_put_X0_round_n180 : GoodIn wsX3_put (wsX0_round) := ggX3_put_X0_round
set_option maxRecDepth 20000 in
theorem ggX3_put_X2_fitsLong : GoodIn wsX3_put wsX2_fitsLong := goodIn_r _ [65, 18, 19, 66, 67, 68, 11, 69, 20, 21, 22, 23, 110] (by decide +kernel) (by decide +kernel)
set_option maxRecDepth 20000 in
theorem gX3_put_X2_fitsLong_n184 : GoodIn wsX3_put (wsX2_fitsLong) := ggX3_put_X2_fitsLong
set_option maxRecDepth 20000 in
theorem ggX3_put_X2_bitsFrom : GoodIn wsX3_put wsX2_bitsFrom := goodIn_r _ [69, 20, 21, 22, 11, 23, 18, 110] (by decide +kernel) (by decide +kernel)
set_option maxRecDepth 20000 in
theorem gX3_put_X2_bitsFrom_n108 : GoodIn wsX3_put (wsX2_bitsFrom) := ggX3_put_X2_bitsFrom
set_option maxRecDepth 20000 in
theorem ggX3_put_X1_isRaw : GoodIn wsX3_put wsX1_isRaw := goodIn_r _ [73, 74, 75, 76, 71, 77, 78, 79, 80, 81, 82, 83, 84, 101, 102, 103, 104, 105, 106, 107] (by decide +kernel) (by decide +kernel)
set_option maxRecDepth 20000 in
theorem gX3_put_X1_isRaw_n187 : GoodIn wsX3_put (wsX1_isRaw) := ggX3_put_X1_isRaw
set_option maxRecDepth 20000 in
theorem ggX3_put_X3_beyond : GoodIn wsX3_put wsX3_beyond := goodIn_r _ [89, 2, 31, 11, 32, 33, 18, 75, 71, 76, 77, 78, 79, 80, 82, 83, 84, 74, 67, 68, 69, 20, 21, 22, 23, 90, 91, 92, 101, 102, 103, 104, 105, 106, 107, 93, 94, 95, 96, 97, 98, 99, 100, 110] (by decide +kernel) (by decide +kernel)
set_option maxRecDepth 20000 in
theorem gX3_put_X3_beyond : GoodIn wsX3_put (wsV RX3 190 RX3 yX3_beyond wsX3_beyond) := goodIn_app (goodIn_of _ (by decide +kernel)) ggX3_put_X3_beyond
set_option maxRecDepth 20000 in
theorem ggX3_beyond_X2_isNegative : GoodIn wsX3_beyond wsX2_isNegative := goodIn_r _ [5, 6, 43] (by decide +kernel) (by decide +kernel)
set_option maxRecDepth 20000 in
theorem gX3_beyond_X2_isNegative_n114 : GoodIn wsX3_beyond (wsX2_isNegative) := ggX3_beyond_X2_isNegative
set_option maxRecDepth 20000 in
theorem ggX3_beyond_X1_least : GoodIn wsX3_beyond wsX1_least := goodIn_r _ [10, 11, 12, 13, 28, 29, 30, 31, 32, 33, 34] (by decide +kernel) (by decide +kernel)
set_option maxRecDepth 20000 in
theorem gX3_beyond_X1_least_n140 : GoodIn wsX3_beyond (wsX1_least) := ggX3_beyond_X1_least
set_option maxRecDepth 20000 in
theorem ggX3_beyond_X1_greatest : GoodIn wsX3_beyond wsX1_greatest := goodIn_r _ [16, 11, 12, 13, 17, 7, 9, 8, 10, 28, 29, 30, 31, 32, 33, 34] (by decide +kernel) (by decide +kernel)
set_option maxRecDepth 20000 in
theorem gX3_beyond_X1_greatest_n144 : GoodIn wsX3_beyond (wsX1_greatest) := ggX3_beyond_X1_greatest
set_option maxRecDepth 20000 in
theorem ggX3_beyond_X2_bitsFrom : GoodIn wsX3_beyond wsX2_bitsFrom := goodIn_r _ [20, 21, 22, 23, 3, 24, 6, 43] (by decide +kernel) (by decide +kernel)
set_option maxRecDepth 20000 in
theorem gX3_beyond_X2_bitsFrom_n108 : GoodIn wsX3_beyond (wsX2_bitsFrom) := ggX3_beyond_X2_bitsFrom
set_option maxRecDepth 20000 in
theorem ggX3_beyond_X1_broughtIn : GoodIn wsX3_beyond wsX1_broughtIn := goodIn_r _ [27, 13, 11, 28, 29, 30, 31, 32, 33, 34] (by decide +kernel) (by decide +kernel)
set_option maxRecDepth 20000 in
theorem gX3_beyond_X1_broughtIn_n193 : GoodIn wsX3_beyond (wsX1_broughtIn) := ggX3_beyond_X1_broughtIn
set_option maxRecDepth 20000 in
theorem ggX3_writeDigit_X3_writeBefore : GoodIn wsX3_writeDigit wsX3_writeBefore := goodIn_r _ [6, 7, 8, 9, 10, 11, 12, 13, 14, 15, 16] (by decide +kernel) (by decide +kernel)
set_option maxRecDepth 20000 in
theorem gX3_writeDigit_X3_writeBefore : GoodIn wsX3_writeDigit (wsV RX3 131 RX3 yX3_writeBefore wsX3_writeBefore) := goodIn_app (goodIn_of _ (by decide +kernel)) ggX3_writeDigit_X3_writeBefore
set_option maxRecDepth 20000 in
theorem ggX3_writePlaces_X2_shorten : GoodIn wsX3_writePlaces wsX2_shorten := goodIn_r _ [6, 7, 27] (by decide +kernel) (by decide +kernel)
set_option maxRecDepth 20000 in
theorem gX3_writePlaces_X2_shorten_n200 : GoodIn wsX3_writePlaces (wsX2_shorten) := ggX3_writePlaces_X2_shorten
set_option maxRecDepth 20000 in
theorem ggX3_writePlaces_X3_writeDigit : GoodIn wsX3_writePlaces wsX3_writeDigit := goodIn_r _ [12, 13, 14, 15, 16, 11, 17, 2, 18, 19, 20, 21, 22, 23, 24, 25, 26] (by decide +kernel) (by decide +kernel)
set_option maxRecDepth 20000 in
theorem gX3_writePlaces_X3_writeDigit : GoodIn wsX3_writePlaces (wsV RX3 203 RX3 yX3_writeDigit wsX3_writeDigit) := goodIn_app (goodIn_of _ (by decide +kernel)) ggX3_writePlaces_X3_writeDigit
set_option maxRecDepth 20000 in
theorem ggX3_writePlaces_X3_writeBefore : GoodIn wsX3_writePlaces wsX3_writeBefore := goodIn_r _ [17, 2, 18, 19, 20, 21, 22, 23, 24, 25, 26] (by decide +kernel) (by decide +kernel)
set_option maxRecDepth 20000 in
theorem gX3_writePlaces_X3_writeBefore : GoodIn wsX3_writePlaces (wsV RX3 131 RX3 yX3_writeBefore wsX3_writeBefore) := goodIn_app (goodIn_of _ (by decide +kernel)) ggX3_writePlaces_X3_writeBefore
set_option maxRecDepth 20000 in
theorem ggX3_writeWholePart_X2_shorten : GoodIn wsX3_writeWholePart wsX2_shorten := goodIn_r _ [5, 6, 26] (by decide +kernel) (by decide +kernel)
set_option maxRecDepth 20000 in
theorem gX3_writeWholePart_X2_shorten_n200 : GoodIn wsX3_writeWholePart (wsX2_shorten) := ggX3_writeWholePart_X2_shorten
set_option maxRecDepth 20000 in
theorem ggX3_writeWholePart_X3_writeDigit : GoodIn wsX3_writeWholePart wsX3_writeDigit := goodIn_r _ [11, 12, 13, 14, 15, 10, 16, 17, 18, 27, 28, 29, 30, 31, 32, 33, 34] (by decide +kernel) (by decide +kernel)
set_option maxRecDepth 20000 in
theorem gX3_writeWholePart_X3_writeDigit : GoodIn wsX3_writeWholePart (wsV RX3 203 RX3 yX3_writeDigit wsX3_writeDigit) := goodIn_app (goodIn_of _ (by decide +kernel)) ggX3_writeWholePart_X3_writeDigit
set_option maxRecDepth 20000 in
theorem ggX3_writeWholePart_X2_isZero : GoodIn wsX3_writeWholePart wsX2_isZero := goodIn_r _ [21, 22, 23, 24, 3, 25, 6, 26] (by decide +kernel) (by decide +kernel)
set_option maxRecDepth 20000 in
theorem gX3_writeWholePart_X2_isZero_n122 : GoodIn wsX3_writeWholePart (wsX2_isZero) := ggX3_writeWholePart_X2_isZero
end
section
/-! PUTting a value into a kind; the table of kinds. -/
/-- the number before it is rounded: fk_pN / fk_pD -/
def fk_pN (dn of : Int64) (a b : Int) : Int := (a + b * (-of.toInt)) * dn.toInt
def fk_pD (up : Int64) (b : Int) : Int := b * up.toInt
def fk_pR (rd : Int32) (up dn of : Int64) (a b : Int) : Int := fk_round rd (fk_pN dn of a b) (fk_pD up b)
def fk_wi (w : Nat) (sg : Int32) (r : Int) : Prop := fk_least w sg ≤ r ∧ r ≤ fk_most w sg
/-- what comes when a rounded number is beyond the RAW ones -/
def fk_by (w : Nat) (sg ov : Int32) (r : Int) : Int := if ov = 0 then (if r < 0 then fk_least w sg else fk_most w sg) else if ov = 1 then fk_bring w sg r else 0
noncomputable def fk_put (w : Nat) (sg ov rd : Int32) (up dn of : Int64) (a b : Int) : Int :=
  haveI := Classical.propDecidable (fk_wi w sg (fk_pR rd up dn of a b)); if fk_wi w sg (fk_pR rd up dn of a b) then fk_pR rd up dn of a b else fk_by w sg ov (fk_pR rd up dn of a b)
noncomputable def fk_lst (w : Nat) (sg rd : Int32) (up dn of : Int64) (a b : Int) : Int32 :=
  haveI := Classical.propDecidable (fk_pN dn of a b % fk_pD up b = 0 ∧ fk_wi w sg (fk_pR rd up dn of a b)); if fk_pN dn of a b % fk_pD up b = 0 ∧ fk_wi w sg (fk_pR rd up dn of a b) then 0 else 1
/-- numbers that may be PUT -/
def fk_pB (a b : Int) : Prop := (-1427247692705959881058285969449495136382746624 ≤ a ∧ a ≤ 1427247692705959881058285969449495136382746624) ∧ 0 < b ∧ b ≤ 1237940039285380274899124224
theorem fk_pN_bd {w : Nat} {sg : Int32} {up dn of : Int64} (h : fk_kd w sg up dn of) {a b : Int} (hb : fk_pB a b) : (-1427247692707200000000000000000000000000000000000 ≤ fk_pN dn of a b ∧ fk_pN dn of a b ≤ 1427247692707200000000000000000000000000000000000) ∧ 0 < fk_pD up b ∧ fk_pD up b ≤ 1237940039285380274899124224000 := by
  obtain ⟨hw, hu, hd, ho⟩ := h
  obtain ⟨ha, hb0, hb1⟩ := hb
  have c1 := fk_pbd (a := b) (b := -of.toInt) (A := 1237940039285380274899124224) (B := 1000000) (by omega) (by omega) (by omega) (by omega) (by omega)
  have c2 := fk_pbd (a := a + b * (-of.toInt)) (b := dn.toInt) (A := 1427247692707200000000000000000000000000000000) (B := 1000) (by omega) (by omega) (by omega) (by omega) (by omega)
  have c3 := fk_pbd (a := b) (b := up.toInt) (A := 1237940039285380274899124224) (B := 1000) (by omega) (by omega) (by omega) (by omega) (by omega)
  have c4 : 0 < b * up.toInt := Int.mul_pos hb0 (by omega)
  rw [fk_pN, fk_pD]
  omega
theorem fk_round_bd {rd : Int32} {n d A : Int} (hd : 0 < d) (h1 : -A ≤ n) (h2 : n ≤ A) : -(A + 1) ≤ fk_round rd n d ∧ fk_round rd n d ≤ A + 1 := by
  have ha := fk_abs_bd h1 h2
  have q0 : 0 ≤ fk_abs n / d := Int.ediv_nonneg ha.1 (by omega)
  have q1 : fk_abs n / d ≤ fk_abs n := Int.ediv_le_self _ ha.1
  have u : (fk_up rd n d).toInt = 0 ∨ (fk_up rd n d).toInt = 1 := by
    rcases fk_up01 rd n d with q | q <;> rw [q]
    · exact Or.inl (by decide)
    · exact Or.inr (by decide)
  rw [fk_round]
  split <;> omega
theorem fk_wi_long {w : Nat} {sg : Int32} (h : fk_wd w sg) {r : Int} (hr : fk_wi w sg r) : -9223372036854775808 ≤ r ∧ r < 9223372036854775808 := by
  have := fk_lm h
  obtain ⟨h1, h2⟩ := hr
  omega
/-- bringing in goes by the lowest 64 bits -/
theorem fk_bring_mod {w : Nat} {sg : Int32} (h : fk_wd w sg) (r : Int) : fk_bring w sg (Int64.ofInt r).toInt = fk_bring w sg r := by
  have h64 := h.2.1
  have e : ∃ k : Int, (Int64.ofInt r).toInt = r + k * 2 ^ w := by
    have q : (Int64.ofInt r).toInt % 18446744073709551616 = r % 18446744073709551616 := by
      rw [← fk_nat, fk_ofInt_nat]
      omega
    have e2 : (18446744073709551616 : Int) = 2 ^ (64 - w) * 2 ^ w := by
      rw [← fk_2a, show 64 - w + w = 64 by omega]; decide
    refine ⟨((Int64.ofInt r).toInt / 18446744073709551616 - r / 18446744073709551616) * 2 ^ (64 - w), ?_⟩
    rw [Int.mul_assoc, ← e2]
    omega
  obtain ⟨k, hk⟩ := e
  rw [fk_bring, fk_bring, hk]
  split
  · rw [Int.add_mul_emod_self_right]
  · rw [show r + k * 2 ^ w + 2 ^ (w - 1) = r + 2 ^ (w - 1) + k * 2 ^ w by omega, Int.add_mul_emod_self_right]
abbrev fk_K : Type := Nat × Int32 × Int64 × Int64 × Int64 × Int32 × Int32
abbrev fk_ke (K : fk_K) : va_E := .inr (2, [.int (nI K.1), .int K.2.1, .long K.2.2.1, .long K.2.2.2.1, .long K.2.2.2.2.1, .int K.2.2.2.2.2.1, .int K.2.2.2.2.2.2])
def fk_ok (K : fk_K) : Prop := fk_kd K.1 K.2.1 K.2.2.1 K.2.2.2.1 K.2.2.2.2.1 ∧ (K.2.2.2.2.2.1 = 0 ∨ K.2.2.2.2.2.1 = 1 ∨ K.2.2.2.2.2.1 = 2) ∧ (K.2.2.2.2.2.2 = 0 ∨ K.2.2.2.2.2.2 = 1 ∨ K.2.2.2.2.2.2 = 2 ∨ K.2.2.2.2.2.2 = 3)
/-- the table of the kinds: n of them, kind j + 1 is kf j, an object at ka j, at place kp j of the world's tail -/
def fk_KT (n : Nat) (kf : Nat → fk_K) (kd : Nat → Option Nat) (ka kp : Nat → Nat) (tl : va_W) : Prop := n ≤ 40 ∧ (∀ j, j < n → kd j = some (ka j) ∧ tl[kp j]? = some (ka j, fk_ke (kf j)) ∧ fk_ok (kf j)) ∧ ∀ i j, i < n → j < n → kp i = kp j → i = j
/-- a kind's number that there is not -/
def fk_no (n : Nat) (k : Int32) : Prop := k.toInt < 1 ∨ (n : Int) < k.toInt
end
section
/-! FixedKinds: tests, find, by program -/
abbrev rmX3_isWidth : Room := { frames := 0, cells := 0, slots := 0, locals := 0 }
set_option maxHeartbeats 4000000 in
set_option maxRecDepth 100000 in
/-- isWidth -/
theorem kX3_isWidth {l : Launch} {D : va_G} {cJ cC cI cZ cK : ClassId} (sz : Nat) (ws : va_W) (w sg : Int32)  : Met l yX3_isWidth wsX3_isWidth rmX3_isWidth (va_Pc [.int w, .int sg] (fk_pre D (fk_ty cJ cC cI cZ cK) ws sz)) (va_Qi (fun (r : Int32) (_ : Unit) => r = if 8 ≤ w.toInt ∧ w.toInt ≤ 64 ∧ (sg = 0 → w.toInt ≤ 63) then 1 else 0) (fk_Bd D (fk_ty cJ cC cI cZ cK) (va_A ws sz) (fun _ : Unit => ws)) (va_A ws sz)) 0 0 (va_A ws sz) := by
  refine fk_ofW cX3_isWidth 2 (some .boolean) (fun A => va_Qi (fun (r : Int32) (_ : Unit) => r = if 8 ≤ w.toInt ∧ w.toInt ≤ 64 ∧ (sg = 0 → w.toInt ≤ 63) then 1 else 0) (fk_Bd D (fk_ty cJ cC cI cZ cK) A (fun _ : Unit => ws)) A) rfl (by decide) (Nat.le_of_ble_eq_true rfl) ?_
  intro p e s m below meth c A ls args QQ hQQ hAt hP hK hN hD hA hS hl
  obtain ⟨⟨hx, hb, hml, hown, hts⟩, hr, hlocks, hin⟩ := hAt
  have hl : lv_has ls 2 [(0, .int w), (1, .int sg)] := hl
  refine lv_iload_n hx hb dX3_isWidth_0 rfl (lv_at hl 0 rfl) ?_
  refine lv_bipush (v := 8) hx hb dX3_isWidth_1 (by decide) ?_
  refine lv_icmp_lt (tgt := 25) hx hb dX3_isWidth_3 (by decide) (fun c_3 => ?_) (fun c_3 => ?_)
  · rw [Int32.lt_iff_toInt_lt, show (8 : Int32).toInt = 8 by decide] at c_3
    refine lv_iconst (v := 0) hx hb dX3_isWidth_25 (by decide) ?_
    rw [hQQ]
    exact W.zret (v := 0) hx hb hr rfl (fun t ht hW => ⟨⟨0, (), rfl, (by rw [if_neg (fun q => by omega)]), by rw [ht]; exact hP, va_K.moved hW.alike hK, hD⟩, hS.F ht⟩) hS.2.2 dX3_isWidth_26
  · rw [Int32.lt_iff_toInt_lt, show (8 : Int32).toInt = 8 by decide] at c_3
    refine lv_iload_n hx hb dX3_isWidth_6 rfl (lv_at hl 0 rfl) ?_
    refine lv_iload_n hx hb dX3_isWidth_7 rfl (lv_at hl 1 rfl) ?_
    refine lv_if_eq (tgt := 16) hx hb dX3_isWidth_8 (by decide) (fun c_8 => ?_) (fun c_8 => ?_)
    · refine lv_bipush (v := 63) hx hb dX3_isWidth_16 (by decide) ?_
      refine lv_icmp_gt (tgt := 25) hx hb dX3_isWidth_18 (by decide) (fun c_18 => ?_) (fun c_18 => ?_)
      · rw [Int32.lt_iff_toInt_lt, show (63 : Int32).toInt = 63 by decide] at c_18
        refine lv_iconst (v := 0) hx hb dX3_isWidth_25 (by decide) ?_
        rw [hQQ]
        exact W.zret (v := 0) hx hb hr rfl (fun t ht hW => ⟨⟨0, (), rfl, (by rw [if_neg (fun q => by have := q.2.2 c_8; omega)]), by rw [ht]; exact hP, va_K.moved hW.alike hK, hD⟩, hS.F ht⟩) hS.2.2 dX3_isWidth_26
      · rw [Int32.lt_iff_toInt_lt, show (63 : Int32).toInt = 63 by decide] at c_18
        refine lv_iconst (v := 1) hx hb dX3_isWidth_21 (by decide) ?_
        refine lv_goto (tgt := 26) hx hb dX3_isWidth_22 (by decide) ?_
        rw [hQQ]
        exact W.zret (v := 1) hx hb hr rfl (fun t ht hW => ⟨⟨1, (), rfl, (by rw [if_pos ⟨by omega, by omega, fun _ => by omega⟩]), by rw [ht]; exact hP, va_K.moved hW.alike hK, hD⟩, hS.F ht⟩) hS.2.2 dX3_isWidth_26
    · refine lv_bipush (v := 64) hx hb dX3_isWidth_11 (by decide) ?_
      refine lv_goto (tgt := 18) hx hb dX3_isWidth_13 (by decide) ?_
      refine lv_icmp_gt (tgt := 25) hx hb dX3_isWidth_18 (by decide) (fun c_18 => ?_) (fun c_18 => ?_)
      · rw [Int32.lt_iff_toInt_lt, show (64 : Int32).toInt = 64 by decide] at c_18
        refine lv_iconst (v := 0) hx hb dX3_isWidth_25 (by decide) ?_
        rw [hQQ]
        exact W.zret (v := 0) hx hb hr rfl (fun t ht hW => ⟨⟨0, (), rfl, (by rw [if_neg (fun q => by omega)]), by rw [ht]; exact hP, va_K.moved hW.alike hK, hD⟩, hS.F ht⟩) hS.2.2 dX3_isWidth_26
      · rw [Int32.lt_iff_toInt_lt, show (64 : Int32).toInt = 64 by decide] at c_18
        refine lv_iconst (v := 1) hx hb dX3_isWidth_21 (by decide) ?_
        refine lv_goto (tgt := 26) hx hb dX3_isWidth_22 (by decide) ?_
        rw [hQQ]
        exact W.zret (v := 1) hx hb hr rfl (fun t ht hW => ⟨⟨1, (), rfl, (by rw [if_pos ⟨by omega, by omega, fun q => absurd q c_8⟩]), by rw [ht]; exact hP, va_K.moved hW.alike hK, hD⟩, hS.F ht⟩) hS.2.2 dX3_isWidth_26
abbrev rmX3_isSlope : Room := { frames := 0, cells := 0, slots := 0, locals := 0 }
set_option maxHeartbeats 4000000 in
set_option maxRecDepth 100000 in
/-- isSlope -/
theorem kX3_isSlope {l : Launch} {D : va_G} {cJ cC cI cZ cK : ClassId} (sz : Nat) (ws : va_W) (up dn : Int64)  : Met l yX3_isSlope wsX3_isSlope rmX3_isSlope (va_Pc [.long up, .long dn] (fk_pre D (fk_ty cJ cC cI cZ cK) ws sz)) (va_Qi (fun (r : Int32) (_ : Unit) => r = if (0 ≤ up.toInt ∧ up.toInt ≤ 1000) ∧ 1 ≤ dn.toInt ∧ dn.toInt ≤ 1000 then 1 else 0) (fk_Bd D (fk_ty cJ cC cI cZ cK) (va_A ws sz) (fun _ : Unit => ws)) (va_A ws sz)) 0 0 (va_A ws sz) := by
  refine fk_ofW cX3_isSlope 4 (some .boolean) (fun A => va_Qi (fun (r : Int32) (_ : Unit) => r = if (0 ≤ up.toInt ∧ up.toInt ≤ 1000) ∧ 1 ≤ dn.toInt ∧ dn.toInt ≤ 1000 then 1 else 0) (fk_Bd D (fk_ty cJ cC cI cZ cK) A (fun _ : Unit => ws)) A) rfl (by decide) (Nat.le_of_ble_eq_true rfl) ?_
  intro p e s m below meth c A ls args QQ hQQ hAt hP hK hN hD hA hS hl
  obtain ⟨⟨hx, hb, hml, hown, hts⟩, hr, hlocks, hin⟩ := hAt
  have hl : lv_has ls 4 [(0, .long up), (2, .long dn)] := hl
  have k1 := hts (.constantLong RX3 163 1000) (by decide +kernel)
  refine lv_lload_n hx hb dX3_isSlope_0 rfl (lv_at hl 0 rfl) ?_
  refine lv_lconst (v := 0) hx hb dX3_isSlope_1 (by decide) ?_
  refine W.lcmp hx hb dX3_isSlope_2 ?_
  refine lv_if_lt (tgt := 32) hx hb dX3_isSlope_3 (by decide) (fun c_3 => ?_) (fun c_3 => ?_)
  · rw [lg_cmp_lt] at c_3
    rw [Int64.lt_iff_toInt_lt, show (0 : Int64).toInt = 0 by decide] at c_3
    refine lv_iconst (v := 0) hx hb dX3_isSlope_32 (by decide) ?_
    rw [hQQ]
    exact W.zret (v := 0) hx hb hr rfl (fun t ht hW => ⟨⟨0, (), rfl, (by rw [if_neg (by omega)]), by rw [ht]; exact hP, va_K.moved hW.alike hK, hD⟩, hS.F ht⟩) hS.2.2 dX3_isSlope_33
  · rw [lg_cmp_lt] at c_3
    rw [Int64.lt_iff_toInt_lt, show (0 : Int64).toInt = 0 by decide] at c_3
    refine lv_lload_n hx hb dX3_isSlope_6 rfl (lv_at hl 0 rfl) ?_
    refine lv_ldc2 (v := 1000) hx hb hown k1 dX3_isSlope_7 ?_
    refine W.lcmp hx hb dX3_isSlope_10 ?_
    refine lv_if_gt (tgt := 32) hx hb dX3_isSlope_11 (by decide) (fun c_11 => ?_) (fun c_11 => ?_)
    · rw [lg_cmp_gt] at c_11
      rw [Int64.lt_iff_toInt_lt, show (1000 : Int64).toInt = 1000 by decide] at c_11
      refine lv_iconst (v := 0) hx hb dX3_isSlope_32 (by decide) ?_
      rw [hQQ]
      exact W.zret (v := 0) hx hb hr rfl (fun t ht hW => ⟨⟨0, (), rfl, (by rw [if_neg (by omega)]), by rw [ht]; exact hP, va_K.moved hW.alike hK, hD⟩, hS.F ht⟩) hS.2.2 dX3_isSlope_33
    · rw [lg_cmp_gt] at c_11
      rw [Int64.lt_iff_toInt_lt, show (1000 : Int64).toInt = 1000 by decide] at c_11
      refine lv_lload_n hx hb dX3_isSlope_14 rfl (lv_at hl 1 rfl) ?_
      refine lv_lconst (v := 1) hx hb dX3_isSlope_15 (by decide) ?_
      refine W.lcmp hx hb dX3_isSlope_16 ?_
      refine lv_if_lt (tgt := 32) hx hb dX3_isSlope_17 (by decide) (fun c_17 => ?_) (fun c_17 => ?_)
      · rw [lg_cmp_lt] at c_17
        rw [Int64.lt_iff_toInt_lt, show (1 : Int64).toInt = 1 by decide] at c_17
        refine lv_iconst (v := 0) hx hb dX3_isSlope_32 (by decide) ?_
        rw [hQQ]
        exact W.zret (v := 0) hx hb hr rfl (fun t ht hW => ⟨⟨0, (), rfl, (by rw [if_neg (by omega)]), by rw [ht]; exact hP, va_K.moved hW.alike hK, hD⟩, hS.F ht⟩) hS.2.2 dX3_isSlope_33
      · rw [lg_cmp_lt] at c_17
        rw [Int64.lt_iff_toInt_lt, show (1 : Int64).toInt = 1 by decide] at c_17
        refine lv_lload_n hx hb dX3_isSlope_20 rfl (lv_at hl 1 rfl) ?_
        refine lv_ldc2 (v := 1000) hx hb hown k1 dX3_isSlope_21 ?_
        refine W.lcmp hx hb dX3_isSlope_24 ?_
        refine lv_if_gt (tgt := 32) hx hb dX3_isSlope_25 (by decide) (fun c_25 => ?_) (fun c_25 => ?_)
        · rw [lg_cmp_gt] at c_25
          rw [Int64.lt_iff_toInt_lt, show (1000 : Int64).toInt = 1000 by decide] at c_25
          refine lv_iconst (v := 0) hx hb dX3_isSlope_32 (by decide) ?_
          rw [hQQ]
          exact W.zret (v := 0) hx hb hr rfl (fun t ht hW => ⟨⟨0, (), rfl, (by rw [if_neg (by omega)]), by rw [ht]; exact hP, va_K.moved hW.alike hK, hD⟩, hS.F ht⟩) hS.2.2 dX3_isSlope_33
        · rw [lg_cmp_gt] at c_25
          rw [Int64.lt_iff_toInt_lt, show (1000 : Int64).toInt = 1000 by decide] at c_25
          refine lv_iconst (v := 1) hx hb dX3_isSlope_28 (by decide) ?_
          refine lv_goto (tgt := 33) hx hb dX3_isSlope_29 (by decide) ?_
          rw [hQQ]
          exact W.zret (v := 1) hx hb hr rfl (fun t ht hW => ⟨⟨1, (), rfl, (by rw [if_pos (by omega)]), by rw [ht]; exact hP, va_K.moved hW.alike hK, hD⟩, hS.F ht⟩) hS.2.2 dX3_isSlope_33
abbrev rmX3_isOffset : Room := { frames := 0, cells := 0, slots := 0, locals := 0 }
set_option maxHeartbeats 4000000 in
set_option maxRecDepth 100000 in
/-- isOffset -/
theorem kX3_isOffset {l : Launch} {D : va_G} {cJ cC cI cZ cK : ClassId} (sz : Nat) (ws : va_W) (of : Int64)  : Met l yX3_isOffset wsX3_isOffset rmX3_isOffset (va_Pc [.long of] (fk_pre D (fk_ty cJ cC cI cZ cK) ws sz)) (va_Qi (fun (r : Int32) (_ : Unit) => r = if -1000000 ≤ of.toInt ∧ of.toInt ≤ 1000000 then 1 else 0) (fk_Bd D (fk_ty cJ cC cI cZ cK) (va_A ws sz) (fun _ : Unit => ws)) (va_A ws sz)) 0 0 (va_A ws sz) := by
  refine fk_ofW cX3_isOffset 2 (some .boolean) (fun A => va_Qi (fun (r : Int32) (_ : Unit) => r = if -1000000 ≤ of.toInt ∧ of.toInt ≤ 1000000 then 1 else 0) (fk_Bd D (fk_ty cJ cC cI cZ cK) A (fun _ : Unit => ws)) A) rfl (by decide) (Nat.le_of_ble_eq_true rfl) ?_
  intro p e s m below meth c A ls args QQ hQQ hAt hP hK hN hD hA hS hl
  obtain ⟨⟨hx, hb, hml, hown, hts⟩, hr, hlocks, hin⟩ := hAt
  have hl : lv_has ls 2 [(0, .long of)] := hl
  have k1 := hts (.constantLong RX3 165 (-1000000)) (by decide +kernel)
  have k2 := hts (.constantLong RX3 167 1000000) (by decide +kernel)
  refine lv_lload_n hx hb dX3_isOffset_0 rfl (lv_at hl 0 rfl) ?_
  refine lv_ldc2 (v := (-1000000)) hx hb hown k1 dX3_isOffset_1 ?_
  refine W.lcmp hx hb dX3_isOffset_4 ?_
  refine lv_if_lt (tgt := 20) hx hb dX3_isOffset_5 (by decide) (fun c_5 => ?_) (fun c_5 => ?_)
  · rw [lg_cmp_lt] at c_5
    rw [Int64.lt_iff_toInt_lt, show ((-1000000) : Int64).toInt = (-1000000) by decide] at c_5
    refine lv_iconst (v := 0) hx hb dX3_isOffset_20 (by decide) ?_
    rw [hQQ]
    exact W.zret (v := 0) hx hb hr rfl (fun t ht hW => ⟨⟨0, (), rfl, (by rw [if_neg (by omega)]), by rw [ht]; exact hP, va_K.moved hW.alike hK, hD⟩, hS.F ht⟩) hS.2.2 dX3_isOffset_21
  · rw [lg_cmp_lt] at c_5
    rw [Int64.lt_iff_toInt_lt, show ((-1000000) : Int64).toInt = (-1000000) by decide] at c_5
    refine lv_lload_n hx hb dX3_isOffset_8 rfl (lv_at hl 0 rfl) ?_
    refine lv_ldc2 (v := 1000000) hx hb hown k2 dX3_isOffset_9 ?_
    refine W.lcmp hx hb dX3_isOffset_12 ?_
    refine lv_if_gt (tgt := 20) hx hb dX3_isOffset_13 (by decide) (fun c_13 => ?_) (fun c_13 => ?_)
    · rw [lg_cmp_gt] at c_13
      rw [Int64.lt_iff_toInt_lt, show (1000000 : Int64).toInt = 1000000 by decide] at c_13
      refine lv_iconst (v := 0) hx hb dX3_isOffset_20 (by decide) ?_
      rw [hQQ]
      exact W.zret (v := 0) hx hb hr rfl (fun t ht hW => ⟨⟨0, (), rfl, (by rw [if_neg (by omega)]), by rw [ht]; exact hP, va_K.moved hW.alike hK, hD⟩, hS.F ht⟩) hS.2.2 dX3_isOffset_21
    · rw [lg_cmp_gt] at c_13
      rw [Int64.lt_iff_toInt_lt, show (1000000 : Int64).toInt = 1000000 by decide] at c_13
      refine lv_iconst (v := 1) hx hb dX3_isOffset_16 (by decide) ?_
      refine lv_goto (tgt := 21) hx hb dX3_isOffset_17 (by decide) ?_
      rw [hQQ]
      exact W.zret (v := 1) hx hb hr rfl (fun t ht hW => ⟨⟨1, (), rfl, (by rw [if_pos (by omega)]), by rw [ht]; exact hP, va_K.moved hW.alike hK, hD⟩, hS.F ht⟩) hS.2.2 dX3_isOffset_21
abbrev rmX3_find : Room := { frames := 0, cells := 0, slots := 0, locals := 0 }
set_option maxHeartbeats 4000000 in
set_option maxRecDepth 100000 in
/-- find -/
theorem kX3_find {l : Launch} {D : va_G} {cJ cC cI cZ cK : ClassId} (sz : Nat) (ad : Nat → Nat) (tl : va_W) (kd : Nat → Option Nat) (lo : Int32) (ch : Nat → Int32) (ts : Int32) (f1 f2 f3 f4 f5 : Nat → Int64) (n : Nat) (kf : Nat → fk_K) (ka kp : Nat → Nat) (num : Int32) (hKT : fk_KT n kf kd ka kp tl) : Met l yX3_find wsX3_find rmX3_find (va_Pc [.ref (ad 0), .int num] (fk_pre D (fk_ty cJ cC cI cZ cK) (fk_wx cJ cC cK ad kd (nI n) lo ch ts f1 f2 f3 f4 f5 ++ tl) sz)) (va_Qq (fun (r : Option Nat) (_ : Unit) => (r = none ∧ fk_no n num) ∨ ∃ j, j < n ∧ num = nI (j + 1) ∧ r = some (ka j)) (fk_Bd D (fk_ty cJ cC cI cZ cK) (va_A (fk_wx cJ cC cK ad kd (nI n) lo ch ts f1 f2 f3 f4 f5 ++ tl) sz) (fun _ : Unit => fk_wx cJ cC cK ad kd (nI n) lo ch ts f1 f2 f3 f4 f5 ++ tl)) (va_A (fk_wx cJ cC cK ad kd (nI n) lo ch ts f1 f2 f3 f4 f5 ++ tl) sz)) 0 0 (va_A (fk_wx cJ cC cK ad kd (nI n) lo ch ts f1 f2 f3 f4 f5 ++ tl) sz) := by
  refine fk_ofW cX3_find 2 (some (.object "FixedKinds$Kind")) (fun A => va_Qq (fun (r : Option Nat) (_ : Unit) => (r = none ∧ fk_no n num) ∨ ∃ j, j < n ∧ num = nI (j + 1) ∧ r = some (ka j)) (fk_Bd D (fk_ty cJ cC cI cZ cK) A (fun _ : Unit => fk_wx cJ cC cK ad kd (nI n) lo ch ts f1 f2 f3 f4 f5 ++ tl)) A) rfl (by decide) (Nat.le_of_ble_eq_true rfl) ?_
  intro p e s m below meth c A ls args QQ hQQ hAt hP hK hN hD hA hS hl
  obtain ⟨⟨hx, hb, hml, hown, hts⟩, hr, hlocks, hin⟩ := hAt
  have hl : lv_has ls 2 [(0, .ref (ad 0)), (1, .int num)] := hl
  have k1 := hts (.fieldLink RX3 15 "FixedKinds" "kindCount" "I") (by decide +kernel)
  have k2 := (by decide +kernel : ∀ w ∈ u_ws RX3 TX3 8, w ∈ wsX3_find)
  have k3 := hts (.fieldLink RX3 11 "FixedKinds" "kinds" "[LFixedKinds$Kind;") (by decide +kernel)
  have hn40 := hKT.1
  refine lv_iload_n hx hb dX3_find_0 rfl (lv_at hl 1 rfl) ?_
  refine lv_iconst (v := 1) hx hb dX3_find_1 (by decide) ?_
  refine lv_icmp_lt (tgt := 19) hx hb dX3_find_2 (by decide) (fun c_2 => ?_) (fun c_2 => ?_)
  · rw [Int32.lt_iff_toInt_lt, show (1 : Int32).toInt = 1 by decide] at c_2
    refine lv_null hx hb dX3_find_19 ?_
    rw [hQQ]
    exact W.aret (v := va_rf none) hx hb hr (Or.inl ⟨_, rfl⟩) (va_rf_or none) (fun t ht hW => ⟨⟨none, (), rfl, Or.inl ⟨rfl, Or.inl c_2⟩, by rw [ht]; exact hP, va_K.moved hW.alike hK, hD⟩, hS.F ht⟩) hS.2.2 dX3_find_20
  · rw [Int32.lt_iff_toInt_lt, show (1 : Int32).toInt = 1 by decide] at c_2
    refine lv_iload_n hx hb dX3_find_5 rfl (lv_at hl 1 rfl) ?_
    refine lv_aload_n hx hb dX3_find_6 rfl (lv_at hl 0 rfl) ?_
    refine va_get (D := D) (ci := 4) (v := .int (nI n)) (C := RX3) (T := TX3) (N := 8) hx hb hts k2 hown hK hP 0 rfl rfl 1 (by decide) k1 (fun _ h9 => h9) rfl dX3_find_7 ?_
    refine lv_icmp_gt (tgt := 19) hx hb dX3_find_10 (by decide) (fun c_10 => ?_) (fun c_10 => ?_)
    · rw [Int32.lt_iff_toInt_lt, nI_toInt (by omega)] at c_10
      refine lv_null hx hb dX3_find_19 ?_
      rw [hQQ]
      exact W.aret (v := va_rf none) hx hb hr (Or.inl ⟨_, rfl⟩) (va_rf_or none) (fun t ht hW => ⟨⟨none, (), rfl, Or.inl ⟨rfl, Or.inr c_10⟩, by rw [ht]; exact hP, va_K.moved hW.alike hK, hD⟩, hS.F ht⟩) hS.2.2 dX3_find_20
    · rw [Int32.lt_iff_toInt_lt, nI_toInt (by omega)] at c_10
      refine lv_iload_n hx hb dX3_find_13 rfl (lv_at hl 1 rfl) ?_
      refine lv_bipush (v := 40) hx hb dX3_find_14 (by decide) ?_
      refine lv_icmp_le (tgt := 21) hx hb dX3_find_16 (by decide) (fun c_16 => ?_) (fun c_16 => False.elim (absurd (Int32.le_iff_toInt_le.mpr (by rw [show (40 : Int32).toInt = 40 by decide]; omega)) c_16))
      obtain ⟨j, hj, hji⟩ : ∃ j : Nat, j < n ∧ num = nI (j + 1) := ⟨num.toInt.toNat - 1, by omega, by apply Int32.toInt_inj.mp; rw [nI_toInt (by omega)]; omega⟩
      subst hji
      refine lv_aload_n hx hb dX3_find_21 rfl (lv_at hl 0 rfl) ?_
      refine va_get (D := D) (ci := 4) (v := .ref (ad 1)) (C := RX3) (T := TX3) (N := 8) hx hb hts k2 hown hK hP 0 rfl rfl 0 (by decide) k3 (fun _ h9 => h9) rfl dX3_find_22 ?_
      refine lv_iload_n hx hb dX3_find_25 rfl (lv_at hl 1 rfl) ?_
      refine lv_iconst (v := 1) hx hb dX3_find_26 (by decide) ?_
      refine lv_isub hx hb dX3_find_27 ?_
      refine lv_topi (fun x1 ex1 => ?_)
      have ex1q : x1 = nI j := by
        rw [ex1]; exact nI_pred j
      subst ex1q
      refine fk_aldq hx hb hK hP 1 4 rfl rfl (i := j) (by omega) (by decide) dX3_find_28 ?_
      rw [hQQ]
      exact W.aret (v := va_rf (kd j)) hx hb hr (Or.inl ⟨_, rfl⟩) (va_rf_or (kd j)) (fun t ht hW => ⟨⟨(kd j), (), rfl, Or.inr ⟨j, hj, rfl, (hKT.2.1 j hj).1⟩, by rw [ht]; exact hP, va_K.moved hW.alike hK, hD⟩, hS.F ht⟩) hS.2.2 dX3_find_29
end
section
/-! FixedKinds: beyond, put, by program -/
abbrev rmX3_beyond : Room := { frames := 2, cells := 0, slots := 0, locals := 45 }
set_option maxHeartbeats 4000000 in
set_option maxRecDepth 100000 in
/-- beyond -/
theorem kX3_beyond {l : Launch} {D : va_G} {cJ cC cI cZ cK : ClassId} (sz : Nat) (ad : Nat → Nat) (tl : va_W) (kd : Nat → Option Nat) (kc lo : Int32) (ch : Nat → Int32) (ts : Int32) (f1 f2 f3 f4 f5 : Nat → Int64) (hk jk w : Nat) (sg ov rd : Int32) (up dn of : Int64) (x : Int) (hqk : tl[jk]? = some (hk, .inr (2, [.int (nI w), .int sg, .long up, .long dn, .long of, .int ov, .int rd]))) (hkd : fk_kd w sg up dn of) (hRx : fk_R x f5) (hI : fk_In x) (hov : ov = 0 ∨ ov = 1 ∨ ov = 2) : Met l yX3_beyond wsX3_beyond rmX3_beyond (va_Pc [.ref (ad 0), .ref hk] (fk_pre D (fk_ty cJ cC cI cZ cK) (fk_wx cJ cC cK ad kd kc lo ch ts f1 f2 f3 f4 f5 ++ tl) sz)) (va_Ql (fun (r : Int64) (_ : Unit) => r.toInt = fk_by w sg ov x) (fk_Bd D (fk_ty cJ cC cI cZ cK) (va_A (fk_wx cJ cC cK ad kd kc lo ch ts f1 f2 f3 f4 f5 ++ tl) sz) (fun _ : Unit => fk_wx cJ cC cK ad kd kc lo ch ts f1 f2 f3 f4 f5 ++ tl)) (va_A (fk_wx cJ cC cK ad kd kc lo ch ts f1 f2 f3 f4 f5 ++ tl) sz)) 0 0 (va_A (fk_wx cJ cC cK ad kd kc lo ch ts f1 f2 f3 f4 f5 ++ tl) sz) := by
  refine fk_ofW cX3_beyond 2 (some .long) (fun A => va_Ql (fun (r : Int64) (_ : Unit) => r.toInt = fk_by w sg ov x) (fk_Bd D (fk_ty cJ cC cI cZ cK) A (fun _ : Unit => fk_wx cJ cC cK ad kd kc lo ch ts f1 f2 f3 f4 f5 ++ tl)) A) rfl (by decide) (Nat.le_of_ble_eq_true rfl) ?_
  intro p e s m below meth c A ls args QQ hQQ hAt hP hK hN hD hA hS hl
  obtain ⟨⟨hx, hb, hml, hown, hts⟩, hr, hlocks, hin⟩ := hAt
  have hl : lv_has ls 2 [(0, .ref (ad 0)), (1, .ref hk)] := hl
  have k1 := hN _ fkn_X3_66
  have k2 := (by decide +kernel : ∀ w ∈ u_ws RX1 TX1 7, w ∈ wsX3_beyond)
  have k3 := hts (.fieldLink RX3 43 "FixedKinds" "result" "LFixedKinds$Whole;") (by decide +kernel)
  have k4 := (by decide +kernel : ∀ w ∈ u_ws RX3 TX3 8, w ∈ wsX3_beyond)
  have k5 := hN _ fkn_X3_114
  have k6 := hts (.initialized RX2) (by decide +kernel)
  have k7 := hts (.instanceMethod yX2_isNegative) (by decide +kernel)
  have k8 := hts (.selects RX2 yX2_isNegative yX2_isNegative) (by decide +kernel)
  have k9 := hN _ fkn_X3_144
  have k10 := hts (.initialized RX1) (by decide +kernel)
  have k11 := hts (.instanceMethod yX1_greatest) (by decide +kernel)
  have k12 := hts (.selects RX1 yX1_greatest yX1_greatest) (by decide +kernel)
  have k13 := hN _ fkn_X3_140
  have k14 := hts (.instanceMethod yX1_least) (by decide +kernel)
  have k15 := hts (.selects RX1 yX1_least yX1_least) (by decide +kernel)
  have k16 := hN _ fkn_X3_108
  have k17 := hts (.instanceMethod yX2_bitsFrom) (by decide +kernel)
  have k18 := hts (.selects RX2 yX2_bitsFrom yX2_bitsFrom) (by decide +kernel)
  have k19 := hN _ fkn_X3_193
  have k20 := hts (.instanceMethod yX1_broughtIn) (by decide +kernel)
  have k21 := hts (.selects RX1 yX1_broughtIn yX1_broughtIn) (by decide +kernel)
  refine lv_aload_n hx hb dX3_beyond_0 rfl (lv_at hl 1 rfl) ?_
  refine va_getN (D := D) (ci := 2) (v := .int ov) (C := RX1) (T := TX1) (N := 7) hx hb hts k2 hown hK hP (jk + 15) (fk_tl hqk) rfl 5 (by decide) (va_Nw.use rfl k1) (fun _ h9 => h9) rfl dX3_beyond_1 ?_
  rcases hov with q | q | q
  · subst q
    refine lv_lookup (tgt := 32) (off := 28) hx hb dX3_beyond_4 (by decide) (by decide) (by decide) ?_
    refine lv_aload_n hx hb dX3_beyond_32 rfl (lv_at hl 0 rfl) ?_
    refine va_get (D := D) (ci := 4) (v := .ref (ad 13)) (C := RX3) (T := TX3) (N := 8) hx hb hts k4 hown hK hP 0 rfl rfl 7 (by decide) k3 (fun _ h9 => h9) rfl dX3_beyond_33 ?_
    refine fk_ci hD hS hA (va_runVN (As := []) (rest := []) ⟨hx, hb, hml, hown, hts⟩ (kX2_isNegative _ _ (ad 13) (ad 14) 13 14 f5 (x) rfl rfl hRx hI) ⟨va_cnB 0 hts gX3_beyond_X2_isNegative_n114 rfl rfl rfl k5 k6 (by decide +kernel) ⟨Nat.le_of_ble_eq_true rfl, Nat.le_of_ble_eq_true rfl⟩, k7, k8⟩ (fk_preV 13 3 hK hN hP hD rfl rfl) rfl rfl hl.1 rfl (lv_room (Nat.le_of_ble_eq_true rfl)) dX3_beyond_36 ⟨Nat.le_of_ble_eq_true rfl, Nat.le_of_ble_eq_true rfl⟩) (fun r1 u H locs hw hP hD hS => ?_)
    have hP : va_P D vwCl (fk_wx cJ cC cK ad kd kc lo ch ts f1 f2 f3 f4 f5 ++ tl) H := hP
    have hD : va_D A (fk_wx cJ cC cK ad kd kc lo ch ts f1 f2 f3 f4 f5 ++ tl) := hD
    have z := hw
    refine lv_if_eq (tgt := 49) hx hb dX3_beyond_39 (by decide) (fun c_39 => ?_) (fun c_39 => ?_)
    · have p_c_39 : ¬ (x < 0) := by intro q; rw [z, if_pos q] at c_39; exact absurd c_39 (by decide)
      refine lv_aload_n hx hb dX3_beyond_49 rfl (lv_at hl 1 rfl) ?_
      refine fk_cl hD hS hA (va_runVN (As := []) (rest := []) ⟨hx, hb, hml, hown, hts⟩ (kX1_greatest _ _ hk (jk + 15) w sg 0 rd up dn of (fk_tl hqk) hkd.1) ⟨va_cnB 0 hts gX3_beyond_X1_greatest_n144 rfl rfl rfl k9 k10 (by decide +kernel) ⟨Nat.le_of_ble_eq_true rfl, Nat.le_of_ble_eq_true rfl⟩, k11, k12⟩ (fk_preV (jk + 15) 2 hK hN hP hD rfl (fk_tl hqk)) rfl rfl hl.1 rfl (lv_room (Nat.le_of_ble_eq_true rfl)) dX3_beyond_50 ⟨Nat.le_of_ble_eq_true rfl, Nat.le_of_ble_eq_true rfl⟩) (fun r2 u H locs hw hP hD hS => ?_)
      have hP : va_P D vwCl (fk_wx cJ cC cK ad kd kc lo ch ts f1 f2 f3 f4 f5 ++ tl) H := hP
      have hD : va_D A (fk_wx cJ cC cK ad kd kc lo ch ts f1 f2 f3 f4 f5 ++ tl) := hD
      rw [hQQ]
      exact W.lret (v := r2) hx hb hr (fun t ht hW => ⟨⟨r2, (), rfl, hw.trans (by rw [fk_by, if_pos rfl, if_neg p_c_39]), by rw [ht]; exact hP, va_K.moved hW.alike hK, hD⟩, hS.F ht⟩) hS.2.2 dX3_beyond_53
    · have p_c_39 : x < 0 := by by_cases q : x < 0; exact q; rw [z, if_neg q] at c_39; exact absurd rfl c_39
      refine lv_aload_n hx hb dX3_beyond_42 rfl (lv_at hl 1 rfl) ?_
      refine fk_cl hD hS hA (va_runVN (As := []) (rest := []) ⟨hx, hb, hml, hown, hts⟩ (kX1_least _ _ hk (jk + 15) w sg 0 rd up dn of (fk_tl hqk) hkd.1) ⟨va_cnB 0 hts gX3_beyond_X1_least_n140 rfl rfl rfl k13 k10 (by decide +kernel) ⟨Nat.le_of_ble_eq_true rfl, Nat.le_of_ble_eq_true rfl⟩, k14, k15⟩ (fk_preV (jk + 15) 2 hK hN hP hD rfl (fk_tl hqk)) rfl rfl hl.1 rfl (lv_room (Nat.le_of_ble_eq_true rfl)) dX3_beyond_43 ⟨Nat.le_of_ble_eq_true rfl, Nat.le_of_ble_eq_true rfl⟩) (fun r3 u H locs hw hP hD hS => ?_)
      have hP : va_P D vwCl (fk_wx cJ cC cK ad kd kc lo ch ts f1 f2 f3 f4 f5 ++ tl) H := hP
      have hD : va_D A (fk_wx cJ cC cK ad kd kc lo ch ts f1 f2 f3 f4 f5 ++ tl) := hD
      refine lv_goto (tgt := 53) hx hb dX3_beyond_46 (by decide) ?_
      rw [hQQ]
      exact W.lret (v := r3) hx hb hr (fun t ht hW => ⟨⟨r3, (), rfl, hw.trans (by rw [fk_by, if_pos rfl, if_pos p_c_39]), by rw [ht]; exact hP, va_K.moved hW.alike hK, hD⟩, hS.F ht⟩) hS.2.2 dX3_beyond_53
  · subst q
    refine lv_lookup (tgt := 54) (off := 50) hx hb dX3_beyond_4 (by decide) (by decide) (by decide) ?_
    refine lv_aload_n hx hb dX3_beyond_54 rfl (lv_at hl 1 rfl) ?_
    refine lv_aload_n hx hb dX3_beyond_55 rfl (lv_at hl 0 rfl) ?_
    refine va_get (D := D) (ci := 4) (v := .ref (ad 13)) (C := RX3) (T := TX3) (N := 8) hx hb hts k4 hown hK hP 0 rfl rfl 7 (by decide) k3 (fun _ h9 => h9) rfl dX3_beyond_56 ?_
    refine lv_iconst (v := 0) hx hb dX3_beyond_59 (by decide) ?_
    refine fk_cl hD hS hA (va_runVN (As := [.int 0]) (rest := [.ref hk]) ⟨hx, hb, hml, hown, hts⟩ (kX2_bitsFrom _ _ (ad 13) (ad 14) 13 14 f5 0 (x) rfl rfl hRx (by omega)) ⟨va_cnB 1 hts gX3_beyond_X2_bitsFrom_n108 rfl rfl rfl k16 k6 (by decide +kernel) ⟨Nat.le_of_ble_eq_true rfl, Nat.le_of_ble_eq_true rfl⟩, k17, k18⟩ (fk_preV 13 3 hK hN hP hD rfl rfl) rfl rfl hl.1 rfl (lv_room (Nat.le_of_ble_eq_true rfl)) dX3_beyond_60 ⟨Nat.le_of_ble_eq_true rfl, Nat.le_of_ble_eq_true rfl⟩) (fun r4 u H locs hw hP hD hS => ?_)
    have hP : va_P D vwCl (fk_wx cJ cC cK ad kd kc lo ch ts f1 f2 f3 f4 f5 ++ tl) H := hP
    have hD : va_D A (fk_wx cJ cC cK ad kd kc lo ch ts f1 f2 f3 f4 f5 ++ tl) := hD
    have zb := hw
    refine fk_cl hD hS hA (va_runVN (As := [.long r4]) (rest := []) ⟨hx, hb, hml, hown, hts⟩ (kX1_broughtIn _ _ hk (jk + 15) w sg 1 rd up dn of r4 (fk_tl hqk) hkd.1) ⟨va_cnB 1 hts gX3_beyond_X1_broughtIn_n193 rfl rfl rfl k19 k10 (by decide +kernel) ⟨Nat.le_of_ble_eq_true rfl, Nat.le_of_ble_eq_true rfl⟩, k20, k21⟩ (fk_preV (jk + 15) 2 hK hN hP hD rfl (fk_tl hqk)) rfl rfl hl.1 rfl (lv_room (Nat.le_of_ble_eq_true rfl)) dX3_beyond_63 ⟨Nat.le_of_ble_eq_true rfl, Nat.le_of_ble_eq_true rfl⟩) (fun r5 u H locs hw hP hD hS => ?_)
    have hP : va_P D vwCl (fk_wx cJ cC cK ad kd kc lo ch ts f1 f2 f3 f4 f5 ++ tl) H := hP
    have hD : va_D A (fk_wx cJ cC cK ad kd kc lo ch ts f1 f2 f3 f4 f5 ++ tl) := hD
    rw [zb, Int.pow_zero, Int.ediv_one, fk_bring_mod hkd.1] at hw
    rw [hQQ]
    exact W.lret (v := r5) hx hb hr (fun t ht hW => ⟨⟨r5, (), rfl, hw.trans (by rw [fk_by, if_neg (by decide), if_pos rfl]), by rw [ht]; exact hP, va_K.moved hW.alike hK, hD⟩, hS.F ht⟩) hS.2.2 dX3_beyond_66
  · subst q
    refine lv_lookup (tgt := 67) (off := 63) hx hb dX3_beyond_4 (by decide) (by decide) (by decide) ?_
    refine lv_lconst (v := 0) hx hb dX3_beyond_67 (by decide) ?_
    rw [hQQ]
    exact W.lret (v := 0) hx hb hr (fun t ht hW => ⟨⟨0, (), rfl, (by rw [fk_by, if_neg (by decide), if_neg (by decide)]; decide), by rw [ht]; exact hP, va_K.moved hW.alike hK, hD⟩, hS.F ht⟩) hS.2.2 dX3_beyond_68
abbrev rmX3_put : Room := { frames := 5, cells := 0, slots := 0, locals := 119 }
set_option maxHeartbeats 4000000 in
set_option maxRecDepth 100000 in
/-- put -/
theorem kX3_put {l : Launch} {D : va_G} {cJ cC cI cZ cK : ClassId} (sz : Nat) (ad : Nat → Nat) (tl : va_W) (kd : Nat → Option Nat) (kc lo : Int32) (ch : Nat → Int32) (ts : Int32) (f1 f2 f3 f4 f5 : Nat → Int64) (hk jk w : Nat) (sg ov rd : Int32) (up dn of : Int64) (a b : Int) (hqk : tl[jk]? = some (hk, .inr (2, [.int (nI w), .int sg, .long up, .long dn, .long of, .int ov, .int rd]))) (hkd : fk_kd w sg up dn of) (hRa : fk_R a f1) (hRb : fk_R b f2) (hpB : fk_pB a b) (hov : ov = 0 ∨ ov = 1 ∨ ov = 2) : Met l yX3_put wsX3_put rmX3_put (va_Pc [.ref (ad 0), .ref hk] (fk_pre D (fk_ty cJ cC cI cZ cK) (fk_wx cJ cC cK ad kd kc lo ch ts f1 f2 f3 f4 f5 ++ tl) sz)) (va_Ql (fun (r : Int64) (u : Int32 × (Nat → Int64) × (Nat → Int64) × (Nat → Int64)) => r.toInt = fk_put w sg ov rd up dn of a b ∧ u.1 = fk_lst w sg rd up dn of a b) (fk_Bd D (fk_ty cJ cC cI cZ cK) (va_A (fk_wx cJ cC cK ad kd kc lo ch ts f1 f2 f3 f4 f5 ++ tl) sz) (fun u : Int32 × (Nat → Int64) × (Nat → Int64) × (Nat → Int64) => fk_wx cJ cC cK ad kd kc u.1 ch ts u.2.1 u.2.2.1 f3 f4 u.2.2.2 ++ tl)) (va_A (fk_wx cJ cC cK ad kd kc lo ch ts f1 f2 f3 f4 f5 ++ tl) sz)) 0 0 (va_A (fk_wx cJ cC cK ad kd kc lo ch ts f1 f2 f3 f4 f5 ++ tl) sz) := by
  refine fk_ofW cX3_put 4 (some .long) (fun A => va_Ql (fun (r : Int64) (u : Int32 × (Nat → Int64) × (Nat → Int64) × (Nat → Int64)) => r.toInt = fk_put w sg ov rd up dn of a b ∧ u.1 = fk_lst w sg rd up dn of a b) (fk_Bd D (fk_ty cJ cC cI cZ cK) A (fun u : Int32 × (Nat → Int64) × (Nat → Int64) × (Nat → Int64) => fk_wx cJ cC cK ad kd kc u.1 ch ts u.2.1 u.2.2.1 f3 f4 u.2.2.2 ++ tl)) A) rfl (by decide) (Nat.le_of_ble_eq_true rfl) ?_
  intro p e s m below meth c A ls args QQ hQQ hAt hP hK hN hD hA hS hl
  obtain ⟨⟨hx, hb, hml, hown, hts⟩, hr, hlocks, hin⟩ := hAt
  have hl : lv_has ls 4 [(0, .ref (ad 0)), (1, .ref hk)] := hl
  have k1 := hts (.fieldLink RX3 33 "FixedKinds" "first" "LFixedKinds$Fraction;") (by decide +kernel)
  have k2 := (by decide +kernel : ∀ w ∈ u_ws RX3 TX3 8, w ∈ wsX3_put)
  have k3 := hN _ fkn_X3_176
  have k4 := hts (.initialized RX0) (by decide +kernel)
  have k5 := hts (.instanceMethod yX0_toRawScale) (by decide +kernel)
  have k6 := hts (.selects RX0 yX0_toRawScale yX0_toRawScale) (by decide +kernel)
  have k7 := hN _ fkn_X3_69
  have k8 := (by decide +kernel : ∀ w ∈ u_ws RX1 TX1 7, w ∈ wsX3_put)
  have k9 := hts (.fieldLink RX3 43 "FixedKinds" "result" "LFixedKinds$Whole;") (by decide +kernel)
  have k10 := hN _ fkn_X3_180
  have k11 := hts (.instanceMethod yX0_round) (by decide +kernel)
  have k12 := hts (.selects RX0 yX0_round yX0_round) (by decide +kernel)
  have k13 := hN _ fkn_X3_184
  have k14 := hts (.initialized RX2) (by decide +kernel)
  have k15 := hts (.instanceMethod yX2_fitsLong) (by decide +kernel)
  have k16 := hts (.selects RX2 yX2_fitsLong yX2_fitsLong) (by decide +kernel)
  have k17 := hts (.fieldLink RX3 19 "FixedKinds" "somethingLost" "Z") (by decide +kernel)
  have k18 := hN _ fkn_X3_108
  have k19 := hts (.instanceMethod yX2_bitsFrom) (by decide +kernel)
  have k20 := hts (.selects RX2 yX2_bitsFrom yX2_bitsFrom) (by decide +kernel)
  have k21 := hN _ fkn_X3_187
  have k22 := hts (.initialized RX1) (by decide +kernel)
  have k23 := hts (.instanceMethod yX1_isRaw) (by decide +kernel)
  have k24 := hts (.selects RX1 yX1_isRaw yX1_isRaw) (by decide +kernel)
  refine lv_aload_n hx hb dX3_put_0 rfl (lv_at hl 0 rfl) ?_
  refine va_get (D := D) (ci := 4) (v := .ref (ad 3)) (C := RX3) (T := TX3) (N := 8) hx hb hts k2 hown hK hP 0 rfl rfl 5 (by decide) k1 (fun _ h9 => h9) rfl dX3_put_1 ?_
  refine lv_aload_n hx hb dX3_put_4 rfl (lv_at hl 1 rfl) ?_
  refine fk_cv hD hS hA (va_runVN (As := [.ref hk]) (rest := []) ⟨hx, hb, hml, hown, hts⟩ (kX0_toRawScale _ ad tl kd kc lo ch ts f1 f2 f3 f4 f5 hk jk w sg ov rd up dn of a b hqk hkd hRa hRb) ⟨va_cnB 1 hts gX3_put_X0_toRawScale_n176 rfl rfl rfl k3 k4 (by decide +kernel) ⟨Nat.le_of_ble_eq_true rfl, Nat.le_of_ble_eq_true rfl⟩, k5, k6⟩ (fk_preV 3 1 hK hN hP hD rfl rfl) rfl rfl hl.1 rfl (lv_room (Nat.le_of_ble_eq_true rfl)) dX3_put_5 ⟨Nat.le_of_ble_eq_true rfl, Nat.le_of_ble_eq_true rfl⟩) (fun u1 H locs hw hP hD hS => ?_)
  have hP : va_P D vwCl (fk_wx cJ cC cK ad kd kc lo ch ts u1.1 u1.2 f3 f4 f5 ++ tl) H := hP
  have hD : va_D A (fk_wx cJ cC cK ad kd kc lo ch ts u1.1 u1.2 f3 f4 f5 ++ tl) := hD
  obtain ⟨hN1, hN2⟩ := hw
  have hNe : fk_R (fk_pN dn of a b) u1.1 := hN1
  have hDe : fk_R (fk_pD up b) u1.2 := hN2
  obtain ⟨hNb, hD0, hD1⟩ := fk_pN_bd hkd hpB
  have hRb2 := fk_round_bd (rd := rd) hD0 hNb.1 hNb.2
  have hRI : fk_In (fk_pR rd up dn of a b) := by rw [fk_pR]; exact ⟨by omega, by omega⟩
  refine lv_aload_n hx hb dX3_put_8 rfl (lv_at hl 0 rfl) ?_
  refine va_get (D := D) (ci := 4) (v := .ref (ad 3)) (C := RX3) (T := TX3) (N := 8) hx hb hts k2 hown hK hP 0 rfl rfl 5 (by decide) k1 (fun _ h9 => h9) rfl dX3_put_9 ?_
  refine lv_aload_n hx hb dX3_put_12 rfl (lv_at hl 1 rfl) ?_
  refine va_getN (D := D) (ci := 2) (v := .int rd) (C := RX1) (T := TX1) (N := 7) hx hb hts k8 hown hK hP (jk + 15) (fk_tl hqk) rfl 6 (by decide) (va_Nw.use rfl k7) (fun _ h9 => h9) rfl dX3_put_13 ?_
  refine lv_aload_n hx hb dX3_put_16 rfl (lv_at hl 0 rfl) ?_
  refine va_get (D := D) (ci := 4) (v := .ref (ad 13)) (C := RX3) (T := TX3) (N := 8) hx hb hts k2 hown hK hP 0 rfl rfl 7 (by decide) k9 (fun _ h9 => h9) rfl dX3_put_17 ?_
  refine fk_ci hD hS hA (va_runVN (As := [.int rd, .ref (ad 13)]) (rest := []) ⟨hx, hb, hml, hown, hts⟩ (kX0_round _ ad tl kd kc lo ch ts u1.1 u1.2 f3 f4 f5 rd _ _ hNe hDe ⟨⟨by omega, by omega⟩, ⟨by omega, by omega⟩⟩ hD0 ⟨by omega, by omega⟩ ⟨by omega, by omega⟩) ⟨va_cnB 2 hts gX3_put_X0_round_n180 rfl rfl rfl k10 k4 (by decide +kernel) ⟨Nat.le_of_ble_eq_true rfl, Nat.le_of_ble_eq_true rfl⟩, k11, k12⟩ (fk_preV 3 1 hK hN hP hD rfl rfl) rfl rfl hl.1 rfl (lv_room (Nat.le_of_ble_eq_true rfl)) dX3_put_20 ⟨Nat.le_of_ble_eq_true rfl, Nat.le_of_ble_eq_true rfl⟩) (fun r4 u3 H locs hw hP hD hS => ?_)
  have hP : va_P D vwCl (fk_wx cJ cC cK ad kd kc lo ch ts u3.1 u1.2 f3 f4 u3.2 ++ tl) H := hP
  have hD : va_D A (fk_wx cJ cC cK ad kd kc lo ch ts u3.1 u1.2 f3 f4 u3.2 ++ tl) := hD
  obtain ⟨zx, hres⟩ := hw
  have hres : fk_R (fk_pR rd up dn of a b) u3.2 := hres
  refine lv_istore_n (lv' := [(2, .int r4), (0, .ref (ad 0)), (1, .ref hk)]) hx hb dX3_put_23 rfl hl (by decide) rfl (fun ls hl => ?_)
  refine lv_aload_n hx hb dX3_put_24 rfl (lv_at hl 1 rfl) ?_
  refine va_get (D := D) (ci := 4) (v := .ref (ad 13)) (C := RX3) (T := TX3) (N := 8) hx hb hts k2 hown hK hP 0 rfl rfl 7 (by decide) k9 (fun _ h9 => h9) rfl dX3_put_25 ?_
  refine fk_ci hD hS hA (va_runVN (As := []) (rest := []) ⟨hx, hb, hml, hown, hts⟩ (kX2_fitsLong _ _ (ad 13) (ad 14) 13 14 u3.2 (fk_pR rd up dn of a b) rfl rfl hres hRI) ⟨va_cnB 0 hts gX3_put_X2_fitsLong_n184 rfl rfl rfl k13 k14 (by decide +kernel) ⟨Nat.le_of_ble_eq_true rfl, Nat.le_of_ble_eq_true rfl⟩, k15, k16⟩ (fk_preV 13 3 hK hN hP hD rfl rfl) rfl rfl hl.1 rfl (lv_room (Nat.le_of_ble_eq_true rfl)) dX3_put_28 ⟨Nat.le_of_ble_eq_true rfl, Nat.le_of_ble_eq_true rfl⟩) (fun r5 u H locs hw hP hD hS => ?_)
  have hP : va_P D vwCl (fk_wx cJ cC cK ad kd kc lo ch ts u3.1 u1.2 f3 f4 u3.2 ++ tl) H := hP
  have hD : va_D A (fk_wx cJ cC cK ad kd kc lo ch ts u3.1 u1.2 f3 f4 u3.2 ++ tl) := hD
  have zf := hw
  refine lv_if_eq (tgt := 53) hx hb dX3_put_31 (by decide) (fun c_31 => ?_) (fun c_31 => ?_)
  · have hnw : ¬ fk_wi w sg (fk_pR rd up dn of a b) := fun q => by rw [zf, if_pos (fk_wi_long hkd.1 q)] at c_31; exact absurd c_31 (by decide)
    refine lv_iconst (v := 0) hx hb dX3_put_53 (by decide) ?_
    refine lv_istore_n (lv' := [(3, .int 0), (2, .int r4), (0, .ref (ad 0)), (1, .ref hk)]) hx hb dX3_put_54 rfl hl (by decide) rfl (fun ls hl => ?_)
    refine lv_aload_n hx hb dX3_put_55 rfl (lv_at hl 2 rfl) ?_
    refine lv_iload_n hx hb dX3_put_56 rfl (lv_at hl 1 rfl) ?_
    refine lv_if_eq (tgt := 64) hx hb dX3_put_57 (by decide) (fun c_57 => ?_) (fun c_57 => ?_)
    · have hex : ¬ fk_pN dn of a b % fk_pD up b = 0 := fun q => by rw [zx, if_pos q] at c_57; exact absurd c_57 (by decide)
      refine lv_iconst (v := 1) hx hb dX3_put_64 (by decide) ?_
      refine lv_goto (tgt := 69) hx hb dX3_put_65 (by decide) ?_
      refine va_put (D := D) (ci := 4) (v := .int 1) (ty := (.boolean)) (C := RX3) (T := TX3) (N := 8) hx hb hts k2 tyX3 tyX3_ok nmX3 hown hK hP hD hS 0 rfl rfl 2 (by decide) k17 (fun _ h9 => h9) rfl (by decide +kernel) rfl rfl (Nat.le_of_ble_eq_true rfl) dX3_put_69 (fun H locs hP hD hS => ?_)
      have hP : va_P D vwCl (fk_wx cJ cC cK ad kd kc 1 ch ts u3.1 u1.2 f3 f4 u3.2 ++ tl) H := hP
      have hD : va_D A (fk_wx cJ cC cK ad kd kc 1 ch ts u3.1 u1.2 f3 f4 u3.2 ++ tl) := hD
      refine lv_iload_n hx hb dX3_put_72 rfl (lv_at hl 0 rfl) ?_
      refine lv_if_eq (tgt := 87) hx hb dX3_put_73 (by decide) (fun c_73 => ?_) (fun c_73 => False.elim (absurd rfl c_73))
      refine lv_aload_n hx hb dX3_put_87 rfl (lv_at hl 2 rfl) ?_
      refine lv_aload_n hx hb dX3_put_88 rfl (lv_at hl 3 rfl) ?_
      refine fk_cl hD hS hA (va_runV (As := [.ref hk]) (rest := []) ⟨hx, hb, hml, hown, hts⟩ (kX3_beyond _ ad tl kd kc 1 ch ts u3.1 u1.2 f3 f4 u3.2 hk jk w sg ov rd up dn of (fk_pR rd up dn of a b) hqk hkd hres hRI hov) (cwV 1 hts gX3_put_X3_beyond rfl rfl rfl (by decide +kernel) ⟨Nat.le_of_ble_eq_true rfl, Nat.le_of_ble_eq_true rfl⟩) (fk_preV 0 4 hK hN hP hD rfl rfl) rfl rfl hl.1 rfl (lv_room (Nat.le_of_ble_eq_true rfl)) dX3_put_89 ⟨Nat.le_of_ble_eq_true rfl, Nat.le_of_ble_eq_true rfl⟩) (fun r6 u H locs hw hP hD hS => ?_)
      have hP : va_P D vwCl (fk_wx cJ cC cK ad kd kc 1 ch ts u3.1 u1.2 f3 f4 u3.2 ++ tl) H := hP
      have hD : va_D A (fk_wx cJ cC cK ad kd kc 1 ch ts u3.1 u1.2 f3 f4 u3.2 ++ tl) := hD
      rw [hQQ]
      exact W.lret (v := r6) hx hb hr (fun t ht hW => ⟨⟨r6, (1, u3.1, u1.2, u3.2), rfl, ⟨(by rw [fk_put, if_neg hnw]; exact hw), (by rw [fk_lst, if_neg (fun q => hex q.1)])⟩, by rw [ht]; exact hP, va_K.moved hW.alike hK, hD⟩, hS.F ht⟩) hS.2.2 dX3_put_92
    · have hex : fk_pN dn of a b % fk_pD up b = 0 := by by_cases q : fk_pN dn of a b % fk_pD up b = 0; exact q; rw [zx, if_neg q] at c_57; exact absurd rfl c_57
      refine lv_iload_n hx hb dX3_put_60 rfl (lv_at hl 0 rfl) ?_
      refine lv_if_ne (tgt := 68) hx hb dX3_put_61 (by decide) (fun c_61 => False.elim (absurd rfl c_61)) (fun c_61 => ?_)
      refine lv_iconst (v := 1) hx hb dX3_put_64 (by decide) ?_
      refine lv_goto (tgt := 69) hx hb dX3_put_65 (by decide) ?_
      refine va_put (D := D) (ci := 4) (v := .int 1) (ty := (.boolean)) (C := RX3) (T := TX3) (N := 8) hx hb hts k2 tyX3 tyX3_ok nmX3 hown hK hP hD hS 0 rfl rfl 2 (by decide) k17 (fun _ h9 => h9) rfl (by decide +kernel) rfl rfl (Nat.le_of_ble_eq_true rfl) dX3_put_69 (fun H locs hP hD hS => ?_)
      have hP : va_P D vwCl (fk_wx cJ cC cK ad kd kc 1 ch ts u3.1 u1.2 f3 f4 u3.2 ++ tl) H := hP
      have hD : va_D A (fk_wx cJ cC cK ad kd kc 1 ch ts u3.1 u1.2 f3 f4 u3.2 ++ tl) := hD
      refine lv_iload_n hx hb dX3_put_72 rfl (lv_at hl 0 rfl) ?_
      refine lv_if_eq (tgt := 87) hx hb dX3_put_73 (by decide) (fun c_73 => ?_) (fun c_73 => False.elim (absurd rfl c_73))
      refine lv_aload_n hx hb dX3_put_87 rfl (lv_at hl 2 rfl) ?_
      refine lv_aload_n hx hb dX3_put_88 rfl (lv_at hl 3 rfl) ?_
      refine fk_cl hD hS hA (va_runV (As := [.ref hk]) (rest := []) ⟨hx, hb, hml, hown, hts⟩ (kX3_beyond _ ad tl kd kc 1 ch ts u3.1 u1.2 f3 f4 u3.2 hk jk w sg ov rd up dn of (fk_pR rd up dn of a b) hqk hkd hres hRI hov) (cwV 1 hts gX3_put_X3_beyond rfl rfl rfl (by decide +kernel) ⟨Nat.le_of_ble_eq_true rfl, Nat.le_of_ble_eq_true rfl⟩) (fk_preV 0 4 hK hN hP hD rfl rfl) rfl rfl hl.1 rfl (lv_room (Nat.le_of_ble_eq_true rfl)) dX3_put_89 ⟨Nat.le_of_ble_eq_true rfl, Nat.le_of_ble_eq_true rfl⟩) (fun r7 u H locs hw hP hD hS => ?_)
      have hP : va_P D vwCl (fk_wx cJ cC cK ad kd kc 1 ch ts u3.1 u1.2 f3 f4 u3.2 ++ tl) H := hP
      have hD : va_D A (fk_wx cJ cC cK ad kd kc 1 ch ts u3.1 u1.2 f3 f4 u3.2 ++ tl) := hD
      rw [hQQ]
      exact W.lret (v := r7) hx hb hr (fun t ht hW => ⟨⟨r7, (1, u3.1, u1.2, u3.2), rfl, ⟨(by rw [fk_put, if_neg hnw]; exact hw), (by rw [fk_lst, if_neg (fun q => hnw q.2)])⟩, by rw [ht]; exact hP, va_K.moved hW.alike hK, hD⟩, hS.F ht⟩) hS.2.2 dX3_put_92
  · have hfl : -9223372036854775808 ≤ fk_pR rd up dn of a b ∧ fk_pR rd up dn of a b < 9223372036854775808 := by
      by_cases q : -9223372036854775808 ≤ fk_pR rd up dn of a b ∧ fk_pR rd up dn of a b < 9223372036854775808
      · exact q
      · rw [zf, if_neg q] at c_31; exact absurd rfl c_31
    refine lv_aload_n hx hb dX3_put_34 rfl (lv_at hl 2 rfl) ?_
    refine lv_aload_n hx hb dX3_put_35 rfl (lv_at hl 1 rfl) ?_
    refine va_get (D := D) (ci := 4) (v := .ref (ad 13)) (C := RX3) (T := TX3) (N := 8) hx hb hts k2 hown hK hP 0 rfl rfl 7 (by decide) k9 (fun _ h9 => h9) rfl dX3_put_36 ?_
    refine lv_iconst (v := 0) hx hb dX3_put_39 (by decide) ?_
    refine fk_cl hD hS hA (va_runVN (As := [.int 0]) (rest := [.ref hk]) ⟨hx, hb, hml, hown, hts⟩ (kX2_bitsFrom _ _ (ad 13) (ad 14) 13 14 u3.2 0 (fk_pR rd up dn of a b) rfl rfl hres (by omega)) ⟨va_cnB 1 hts gX3_put_X2_bitsFrom_n108 rfl rfl rfl k18 k14 (by decide +kernel) ⟨Nat.le_of_ble_eq_true rfl, Nat.le_of_ble_eq_true rfl⟩, k19, k20⟩ (fk_preV 13 3 hK hN hP hD rfl rfl) rfl rfl hl.1 rfl (lv_room (Nat.le_of_ble_eq_true rfl)) dX3_put_40 ⟨Nat.le_of_ble_eq_true rfl, Nat.le_of_ble_eq_true rfl⟩) (fun r8 u H locs hw hP hD hS => ?_)
    have hP : va_P D vwCl (fk_wx cJ cC cK ad kd kc lo ch ts u3.1 u1.2 f3 f4 u3.2 ++ tl) H := hP
    have hD : va_D A (fk_wx cJ cC cK ad kd kc lo ch ts u3.1 u1.2 f3 f4 u3.2 ++ tl) := hD
    have zb := hw
    have hzb : (r8).toInt = fk_pR rd up dn of a b := by rw [zb, Int.pow_zero, Int.ediv_one]; exact Int64.toInt_ofInt_of_le (by omega) (by omega)
    refine fk_ci hD hS hA (va_runVN (As := [.long r8]) (rest := []) ⟨hx, hb, hml, hown, hts⟩ (kX1_isRaw _ _ hk (jk + 15) w sg ov rd up dn of r8 (fk_tl hqk) hkd.1) ⟨va_cnB 1 hts gX3_put_X1_isRaw_n187 rfl rfl rfl k21 k22 (by decide +kernel) ⟨Nat.le_of_ble_eq_true rfl, Nat.le_of_ble_eq_true rfl⟩, k23, k24⟩ (fk_preV (jk + 15) 2 hK hN hP hD rfl (fk_tl hqk)) rfl rfl hl.1 rfl (lv_room (Nat.le_of_ble_eq_true rfl)) dX3_put_43 ⟨Nat.le_of_ble_eq_true rfl, Nat.le_of_ble_eq_true rfl⟩) (fun r9 u H locs hw hP hD hS => ?_)
    have hP : va_P D vwCl (fk_wx cJ cC cK ad kd kc lo ch ts u3.1 u1.2 f3 f4 u3.2 ++ tl) H := hP
    have hD : va_D A (fk_wx cJ cC cK ad kd kc lo ch ts u3.1 u1.2 f3 f4 u3.2 ++ tl) := hD
    rw [hzb] at hw
    have zr := hw
    refine lv_if_eq (tgt := 53) hx hb dX3_put_46 (by decide) (fun c_46 => ?_) (fun c_46 => ?_)
    · have hnw : ¬ fk_wi w sg (fk_pR rd up dn of a b) := fun q => by
        have q2 : fk_least w sg ≤ fk_pR rd up dn of a b ∧ fk_pR rd up dn of a b ≤ fk_most w sg := q
        rw [zr, if_pos q2] at c_46; exact absurd c_46 (by decide)
      refine lv_iconst (v := 0) hx hb dX3_put_53 (by decide) ?_
      refine lv_istore_n (lv' := [(3, .int 0), (2, .int r4), (0, .ref (ad 0)), (1, .ref hk)]) hx hb dX3_put_54 rfl hl (by decide) rfl (fun ls hl => ?_)
      refine lv_aload_n hx hb dX3_put_55 rfl (lv_at hl 2 rfl) ?_
      refine lv_iload_n hx hb dX3_put_56 rfl (lv_at hl 1 rfl) ?_
      refine lv_if_eq (tgt := 64) hx hb dX3_put_57 (by decide) (fun c_57 => ?_) (fun c_57 => ?_)
      · have hex : ¬ fk_pN dn of a b % fk_pD up b = 0 := fun q => by rw [zx, if_pos q] at c_57; exact absurd c_57 (by decide)
        refine lv_iconst (v := 1) hx hb dX3_put_64 (by decide) ?_
        refine lv_goto (tgt := 69) hx hb dX3_put_65 (by decide) ?_
        refine va_put (D := D) (ci := 4) (v := .int 1) (ty := (.boolean)) (C := RX3) (T := TX3) (N := 8) hx hb hts k2 tyX3 tyX3_ok nmX3 hown hK hP hD hS 0 rfl rfl 2 (by decide) k17 (fun _ h9 => h9) rfl (by decide +kernel) rfl rfl (Nat.le_of_ble_eq_true rfl) dX3_put_69 (fun H locs hP hD hS => ?_)
        have hP : va_P D vwCl (fk_wx cJ cC cK ad kd kc 1 ch ts u3.1 u1.2 f3 f4 u3.2 ++ tl) H := hP
        have hD : va_D A (fk_wx cJ cC cK ad kd kc 1 ch ts u3.1 u1.2 f3 f4 u3.2 ++ tl) := hD
        refine lv_iload_n hx hb dX3_put_72 rfl (lv_at hl 0 rfl) ?_
        refine lv_if_eq (tgt := 87) hx hb dX3_put_73 (by decide) (fun c_73 => ?_) (fun c_73 => False.elim (absurd rfl c_73))
        refine lv_aload_n hx hb dX3_put_87 rfl (lv_at hl 2 rfl) ?_
        refine lv_aload_n hx hb dX3_put_88 rfl (lv_at hl 3 rfl) ?_
        refine fk_cl hD hS hA (va_runV (As := [.ref hk]) (rest := []) ⟨hx, hb, hml, hown, hts⟩ (kX3_beyond _ ad tl kd kc 1 ch ts u3.1 u1.2 f3 f4 u3.2 hk jk w sg ov rd up dn of (fk_pR rd up dn of a b) hqk hkd hres hRI hov) (cwV 1 hts gX3_put_X3_beyond rfl rfl rfl (by decide +kernel) ⟨Nat.le_of_ble_eq_true rfl, Nat.le_of_ble_eq_true rfl⟩) (fk_preV 0 4 hK hN hP hD rfl rfl) rfl rfl hl.1 rfl (lv_room (Nat.le_of_ble_eq_true rfl)) dX3_put_89 ⟨Nat.le_of_ble_eq_true rfl, Nat.le_of_ble_eq_true rfl⟩) (fun r10 u H locs hw hP hD hS => ?_)
        have hP : va_P D vwCl (fk_wx cJ cC cK ad kd kc 1 ch ts u3.1 u1.2 f3 f4 u3.2 ++ tl) H := hP
        have hD : va_D A (fk_wx cJ cC cK ad kd kc 1 ch ts u3.1 u1.2 f3 f4 u3.2 ++ tl) := hD
        rw [hQQ]
        exact W.lret (v := r10) hx hb hr (fun t ht hW => ⟨⟨r10, (1, u3.1, u1.2, u3.2), rfl, ⟨(by rw [fk_put, if_neg hnw]; exact hw), (by rw [fk_lst, if_neg (fun q => hex q.1)])⟩, by rw [ht]; exact hP, va_K.moved hW.alike hK, hD⟩, hS.F ht⟩) hS.2.2 dX3_put_92
      · have hex : fk_pN dn of a b % fk_pD up b = 0 := by by_cases q : fk_pN dn of a b % fk_pD up b = 0; exact q; rw [zx, if_neg q] at c_57; exact absurd rfl c_57
        refine lv_iload_n hx hb dX3_put_60 rfl (lv_at hl 0 rfl) ?_
        refine lv_if_ne (tgt := 68) hx hb dX3_put_61 (by decide) (fun c_61 => False.elim (absurd rfl c_61)) (fun c_61 => ?_)
        refine lv_iconst (v := 1) hx hb dX3_put_64 (by decide) ?_
        refine lv_goto (tgt := 69) hx hb dX3_put_65 (by decide) ?_
        refine va_put (D := D) (ci := 4) (v := .int 1) (ty := (.boolean)) (C := RX3) (T := TX3) (N := 8) hx hb hts k2 tyX3 tyX3_ok nmX3 hown hK hP hD hS 0 rfl rfl 2 (by decide) k17 (fun _ h9 => h9) rfl (by decide +kernel) rfl rfl (Nat.le_of_ble_eq_true rfl) dX3_put_69 (fun H locs hP hD hS => ?_)
        have hP : va_P D vwCl (fk_wx cJ cC cK ad kd kc 1 ch ts u3.1 u1.2 f3 f4 u3.2 ++ tl) H := hP
        have hD : va_D A (fk_wx cJ cC cK ad kd kc 1 ch ts u3.1 u1.2 f3 f4 u3.2 ++ tl) := hD
        refine lv_iload_n hx hb dX3_put_72 rfl (lv_at hl 0 rfl) ?_
        refine lv_if_eq (tgt := 87) hx hb dX3_put_73 (by decide) (fun c_73 => ?_) (fun c_73 => False.elim (absurd rfl c_73))
        refine lv_aload_n hx hb dX3_put_87 rfl (lv_at hl 2 rfl) ?_
        refine lv_aload_n hx hb dX3_put_88 rfl (lv_at hl 3 rfl) ?_
        refine fk_cl hD hS hA (va_runV (As := [.ref hk]) (rest := []) ⟨hx, hb, hml, hown, hts⟩ (kX3_beyond _ ad tl kd kc 1 ch ts u3.1 u1.2 f3 f4 u3.2 hk jk w sg ov rd up dn of (fk_pR rd up dn of a b) hqk hkd hres hRI hov) (cwV 1 hts gX3_put_X3_beyond rfl rfl rfl (by decide +kernel) ⟨Nat.le_of_ble_eq_true rfl, Nat.le_of_ble_eq_true rfl⟩) (fk_preV 0 4 hK hN hP hD rfl rfl) rfl rfl hl.1 rfl (lv_room (Nat.le_of_ble_eq_true rfl)) dX3_put_89 ⟨Nat.le_of_ble_eq_true rfl, Nat.le_of_ble_eq_true rfl⟩) (fun r11 u H locs hw hP hD hS => ?_)
        have hP : va_P D vwCl (fk_wx cJ cC cK ad kd kc 1 ch ts u3.1 u1.2 f3 f4 u3.2 ++ tl) H := hP
        have hD : va_D A (fk_wx cJ cC cK ad kd kc 1 ch ts u3.1 u1.2 f3 f4 u3.2 ++ tl) := hD
        rw [hQQ]
        exact W.lret (v := r11) hx hb hr (fun t ht hW => ⟨⟨r11, (1, u3.1, u1.2, u3.2), rfl, ⟨(by rw [fk_put, if_neg hnw]; exact hw), (by rw [fk_lst, if_neg (fun q => hnw q.2)])⟩, by rw [ht]; exact hP, va_K.moved hW.alike hK, hD⟩, hS.F ht⟩) hS.2.2 dX3_put_92
    · have hwi : fk_wi w sg (fk_pR rd up dn of a b) := by
        by_cases q : fk_least w sg ≤ fk_pR rd up dn of a b ∧ fk_pR rd up dn of a b ≤ fk_most w sg
        · exact q
        · rw [zr, if_neg q] at c_46; exact absurd rfl c_46
      refine lv_iconst (v := 1) hx hb dX3_put_49 (by decide) ?_
      refine lv_goto (tgt := 54) hx hb dX3_put_50 (by decide) ?_
      refine lv_istore_n (lv' := [(3, .int 1), (2, .int r4), (0, .ref (ad 0)), (1, .ref hk)]) hx hb dX3_put_54 rfl hl (by decide) rfl (fun ls hl => ?_)
      refine lv_aload_n hx hb dX3_put_55 rfl (lv_at hl 2 rfl) ?_
      refine lv_iload_n hx hb dX3_put_56 rfl (lv_at hl 1 rfl) ?_
      refine lv_if_eq (tgt := 64) hx hb dX3_put_57 (by decide) (fun c_57 => ?_) (fun c_57 => ?_)
      · have hex : ¬ fk_pN dn of a b % fk_pD up b = 0 := fun q => by rw [zx, if_pos q] at c_57; exact absurd c_57 (by decide)
        refine lv_iconst (v := 1) hx hb dX3_put_64 (by decide) ?_
        refine lv_goto (tgt := 69) hx hb dX3_put_65 (by decide) ?_
        refine va_put (D := D) (ci := 4) (v := .int 1) (ty := (.boolean)) (C := RX3) (T := TX3) (N := 8) hx hb hts k2 tyX3 tyX3_ok nmX3 hown hK hP hD hS 0 rfl rfl 2 (by decide) k17 (fun _ h9 => h9) rfl (by decide +kernel) rfl rfl (Nat.le_of_ble_eq_true rfl) dX3_put_69 (fun H locs hP hD hS => ?_)
        have hP : va_P D vwCl (fk_wx cJ cC cK ad kd kc 1 ch ts u3.1 u1.2 f3 f4 u3.2 ++ tl) H := hP
        have hD : va_D A (fk_wx cJ cC cK ad kd kc 1 ch ts u3.1 u1.2 f3 f4 u3.2 ++ tl) := hD
        refine lv_iload_n hx hb dX3_put_72 rfl (lv_at hl 0 rfl) ?_
        refine lv_if_eq (tgt := 87) hx hb dX3_put_73 (by decide) (fun c_73 => False.elim (absurd c_73 (by decide))) (fun c_73 => ?_)
        refine lv_aload_n hx hb dX3_put_76 rfl (lv_at hl 2 rfl) ?_
        refine va_get (D := D) (ci := 4) (v := .ref (ad 13)) (C := RX3) (T := TX3) (N := 8) hx hb hts k2 hown hK hP 0 rfl rfl 7 (by decide) k9 (fun _ h9 => h9) rfl dX3_put_77 ?_
        refine lv_iconst (v := 0) hx hb dX3_put_80 (by decide) ?_
        refine fk_cl hD hS hA (va_runVN (As := [.int 0]) (rest := []) ⟨hx, hb, hml, hown, hts⟩ (kX2_bitsFrom _ _ (ad 13) (ad 14) 13 14 u3.2 0 (fk_pR rd up dn of a b) rfl rfl hres (by omega)) ⟨va_cnB 1 hts gX3_put_X2_bitsFrom_n108 rfl rfl rfl k18 k14 (by decide +kernel) ⟨Nat.le_of_ble_eq_true rfl, Nat.le_of_ble_eq_true rfl⟩, k19, k20⟩ (fk_preV 13 3 hK hN hP hD rfl rfl) rfl rfl hl.1 rfl (lv_room (Nat.le_of_ble_eq_true rfl)) dX3_put_81 ⟨Nat.le_of_ble_eq_true rfl, Nat.le_of_ble_eq_true rfl⟩) (fun r12 u H locs hw hP hD hS => ?_)
        have hP : va_P D vwCl (fk_wx cJ cC cK ad kd kc 1 ch ts u3.1 u1.2 f3 f4 u3.2 ++ tl) H := hP
        have hD : va_D A (fk_wx cJ cC cK ad kd kc 1 ch ts u3.1 u1.2 f3 f4 u3.2 ++ tl) := hD
        have zc := hw
        have hzc : (r12).toInt = fk_pR rd up dn of a b := by rw [zc, Int.pow_zero, Int.ediv_one]; exact Int64.toInt_ofInt_of_le (by omega) (by omega)
        refine lv_goto (tgt := 92) hx hb dX3_put_84 (by decide) ?_
        rw [hQQ]
        exact W.lret (v := r12) hx hb hr (fun t ht hW => ⟨⟨r12, (1, u3.1, u1.2, u3.2), rfl, ⟨(by rw [fk_put, if_pos hwi]; exact hzc), (by rw [fk_lst, if_neg (fun q => hex q.1)])⟩, by rw [ht]; exact hP, va_K.moved hW.alike hK, hD⟩, hS.F ht⟩) hS.2.2 dX3_put_92
      · have hex : fk_pN dn of a b % fk_pD up b = 0 := by by_cases q : fk_pN dn of a b % fk_pD up b = 0; exact q; rw [zx, if_neg q] at c_57; exact absurd rfl c_57
        refine lv_iload_n hx hb dX3_put_60 rfl (lv_at hl 0 rfl) ?_
        refine lv_if_ne (tgt := 68) hx hb dX3_put_61 (by decide) (fun c_61 => ?_) (fun c_61 => False.elim (absurd c_61 (by decide)))
        refine lv_iconst (v := 0) hx hb dX3_put_68 (by decide) ?_
        refine va_put (D := D) (ci := 4) (v := .int 0) (ty := (.boolean)) (C := RX3) (T := TX3) (N := 8) hx hb hts k2 tyX3 tyX3_ok nmX3 hown hK hP hD hS 0 rfl rfl 2 (by decide) k17 (fun _ h9 => h9) rfl (by decide +kernel) rfl rfl (Nat.le_of_ble_eq_true rfl) dX3_put_69 (fun H locs hP hD hS => ?_)
        have hP : va_P D vwCl (fk_wx cJ cC cK ad kd kc 0 ch ts u3.1 u1.2 f3 f4 u3.2 ++ tl) H := hP
        have hD : va_D A (fk_wx cJ cC cK ad kd kc 0 ch ts u3.1 u1.2 f3 f4 u3.2 ++ tl) := hD
        refine lv_iload_n hx hb dX3_put_72 rfl (lv_at hl 0 rfl) ?_
        refine lv_if_eq (tgt := 87) hx hb dX3_put_73 (by decide) (fun c_73 => False.elim (absurd c_73 (by decide))) (fun c_73 => ?_)
        refine lv_aload_n hx hb dX3_put_76 rfl (lv_at hl 2 rfl) ?_
        refine va_get (D := D) (ci := 4) (v := .ref (ad 13)) (C := RX3) (T := TX3) (N := 8) hx hb hts k2 hown hK hP 0 rfl rfl 7 (by decide) k9 (fun _ h9 => h9) rfl dX3_put_77 ?_
        refine lv_iconst (v := 0) hx hb dX3_put_80 (by decide) ?_
        refine fk_cl hD hS hA (va_runVN (As := [.int 0]) (rest := []) ⟨hx, hb, hml, hown, hts⟩ (kX2_bitsFrom _ _ (ad 13) (ad 14) 13 14 u3.2 0 (fk_pR rd up dn of a b) rfl rfl hres (by omega)) ⟨va_cnB 1 hts gX3_put_X2_bitsFrom_n108 rfl rfl rfl k18 k14 (by decide +kernel) ⟨Nat.le_of_ble_eq_true rfl, Nat.le_of_ble_eq_true rfl⟩, k19, k20⟩ (fk_preV 13 3 hK hN hP hD rfl rfl) rfl rfl hl.1 rfl (lv_room (Nat.le_of_ble_eq_true rfl)) dX3_put_81 ⟨Nat.le_of_ble_eq_true rfl, Nat.le_of_ble_eq_true rfl⟩) (fun r13 u H locs hw hP hD hS => ?_)
        have hP : va_P D vwCl (fk_wx cJ cC cK ad kd kc 0 ch ts u3.1 u1.2 f3 f4 u3.2 ++ tl) H := hP
        have hD : va_D A (fk_wx cJ cC cK ad kd kc 0 ch ts u3.1 u1.2 f3 f4 u3.2 ++ tl) := hD
        have zc := hw
        have hzc : (r13).toInt = fk_pR rd up dn of a b := by rw [zc, Int.pow_zero, Int.ediv_one]; exact Int64.toInt_ofInt_of_le (by omega) (by omega)
        refine lv_goto (tgt := 92) hx hb dX3_put_84 (by decide) ?_
        rw [hQQ]
        exact W.lret (v := r13) hx hb hr (fun t ht hW => ⟨⟨r13, (0, u3.1, u1.2, u3.2), rfl, ⟨(by rw [fk_put, if_pos hwi]; exact hzc), (by rw [fk_lst, if_pos ⟨hex, hwi⟩])⟩, by rw [ht]; exact hP, va_K.moved hW.alike hK, hD⟩, hS.F ht⟩) hS.2.2 dX3_put_92
end
section
/-! What the calls answer, in whole numbers, over n kinds kf. -/
def fk_ix (k : Int32) : Nat := k.toInt.toNat - 1
theorem fk_no_j {n j : Nat} (hj : j < n) (hn : n ≤ 40) : ¬ fk_no n (nI (j + 1)) := by
  rw [fk_no, nI_toInt (by omega)]; omega
theorem fk_ix_j {n j : Nat} (hj : j < n) (hn : n ≤ 40) : fk_ix (nI (j + 1)) = j := by
  rw [fk_ix, nI_toInt (by omega)]; omega
def fk_v (K : fk_K) (v : Int64) : Int := fk_vn K.1 K.2.1 K.2.2.1 K.2.2.2.1 K.2.2.2.2.1 v
def fk_dn (K : fk_K) : Int := K.2.2.2.1.toInt
noncomputable def fk_P (K : fk_K) (a b : Int) : Int := fk_put K.1 K.2.1 K.2.2.2.2.2.1 K.2.2.2.2.2.2 K.2.2.1 K.2.2.2.1 K.2.2.2.2.1 a b
noncomputable def fk_L (K : fk_K) (a b : Int) : Int32 := fk_lst K.1 K.2.1 K.2.2.2.2.2.2 K.2.2.1 K.2.2.2.1 K.2.2.2.2.1 a b
theorem fk_v_bd {K : fk_K} (h : fk_ok K) (v : Int64) : -18889465931478580854784 ≤ fk_v K v ∧ fk_v K v ≤ 18889465931478580854784 := fk_vn_bd h.1 v
theorem fk_dn_bd {K : fk_K} (h : fk_ok K) : 1 ≤ fk_dn K ∧ fk_dn K ≤ 1000 := h.1.2.2.1
/-- numerator and denominator of a op b -/
def fk_sg (x : Int) : Int := if x < 0 then -1 else 1
def fk_cN (op : Int32) (a b c d : Int) : Int := if op = 0 then a * d + c * b * 1 else if op = 1 then a * d + c * b * (-1) else if op = 2 then a * c else a * d * fk_sg (b * c)
def fk_cD (op : Int32) (b c d : Int) : Int := if op = 3 then b * c * fk_sg (b * c) else b * d
theorem fk_c_B {op : Int32} (hop : op = 0 ∨ op = 1 ∨ op = 2 ∨ op = 3) {a b c d : Int} (ha : -18889465931478580854784 ≤ a ∧ a ≤ 18889465931478580854784) (hb : 1 ≤ b ∧ b ≤ 1000) (hc : -18889465931478580854784 ≤ c ∧ c ≤ 18889465931478580854784) (hd : 1 ≤ d ∧ d ≤ 1000) (hz : op = 3 → c ≠ 0) : fk_pB (fk_cN op a b c d) (fk_cD op b c d) := by
  have m1 := fk_pbd (a := a) (b := d) (A := 18889465931478580854784) (B := 1000) ha.1 ha.2 (by omega) (by omega) (by omega)
  have m2 := fk_pbd (a := c) (b := b) (A := 18889465931478580854784) (B := 1000) hc.1 hc.2 (by omega) (by omega) (by omega)
  have m3 := fk_pbd (a := a) (b := c) (A := 18889465931478580854784) (B := 18889465931478580854784) ha.1 ha.2 hc.1 hc.2 (by omega)
  have m4 : 1 * 1 ≤ b * d := Int.mul_le_mul hb.1 hd.1 (by omega) (by omega)
  have m5 : b * d ≤ 1000 * 1000 := Int.mul_le_mul hb.2 hd.2 (by omega) (by omega)
  have m6 : b * c = c * b := Int.mul_comm _ _
  rcases hop with rfl | rfl | rfl | rfl
  · rw [fk_cN, fk_cD, if_pos rfl, if_neg (by decide)]; exact ⟨⟨by omega, by omega⟩, by omega, by omega⟩
  · rw [fk_cN, fk_cD, if_neg (by decide), if_pos rfl, if_neg (by decide)]; exact ⟨⟨by omega, by omega⟩, by omega, by omega⟩
  · rw [fk_cN, fk_cD, if_neg (by decide), if_neg (by decide), if_pos rfl, if_neg (by decide)]; exact ⟨⟨by omega, by omega⟩, by omega, by omega⟩
  · have hbc : b * c ≠ 0 := fun q => by
      rcases Int.mul_eq_zero.mp q with z | z
      · omega
      · exact hz rfl z
    rw [fk_cN, fk_cD, if_neg (by decide), if_neg (by decide), if_neg (by decide), if_pos rfl, fk_sg]
    split
    · exact ⟨⟨by omega, by omega⟩, by omega, by omega⟩
    · exact ⟨⟨by omega, by omega⟩, by omega, by omega⟩
theorem fk_v_B {K : fk_K} (h : fk_ok K) (v : Int64) {b : Int} (hb : 1 ≤ b ∧ b ≤ 1000) : fk_pB (fk_v K v) b := by
  have := fk_v_bd h v
  exact ⟨⟨by omega, by omega⟩, by omega, by omega⟩
/-- a quotient by 0, SATURATEd -/
noncomputable def fk_q0 (K : fk_K) (a b : Int) : Int := if 0 < a then fk_most K.1 K.2.1 else if a < 0 then fk_least K.1 K.2.1 else fk_P K a b
noncomputable def fk_sConv (n : Nat) (kf : Nat → fk_K) (k : Int32) (v : Int64) (j : Int32) : Int :=
  haveI := Classical.propDecidable (fk_no n k ∨ fk_no n j); if fk_no n k ∨ fk_no n j then 0 else fk_P (kf (fk_ix j)) (fk_v (kf (fk_ix k)) v) (fk_dn (kf (fk_ix k)))
noncomputable def fk_lConv (n : Nat) (kf : Nat → fk_K) (lo : Int32) (k : Int32) (v : Int64) (j : Int32) : Int32 :=
  haveI := Classical.propDecidable (fk_no n k ∨ fk_no n j); if fk_no n k ∨ fk_no n j then lo else fk_L (kf (fk_ix j)) (fk_v (kf (fk_ix k)) v) (fk_dn (kf (fk_ix k)))
/-- whether apply is done: an op and kinds that there are -/
def fk_nap (n : Nat) (op k j : Int32) : Prop := fk_no n k ∨ fk_no n j ∨ op.toInt < 0 ∨ 3 < op.toInt
/-- apply throws -/
def fk_thr (n : Nat) (kf : Nat → fk_K) (op k j : Int32) (y : Int64) : Prop := ¬ fk_nap n op k j ∧ op = 3 ∧ fk_v (kf (fk_ix j)) y = 0 ∧ (kf (fk_ix k)).2.2.2.2.2.1 ≠ 0
def fk_qz (kf : Nat → fk_K) (op j : Int32) (y : Int64) : Prop := op = 3 ∧ fk_v (kf (fk_ix j)) y = 0
noncomputable def fk_sApp (n : Nat) (kf : Nat → fk_K) (op k : Int32) (x : Int64) (j : Int32) (y : Int64) : Int :=
  haveI := Classical.propDecidable (fk_nap n op k j); haveI := Classical.propDecidable (fk_qz kf op j y)
  if fk_nap n op k j then 0 else if fk_qz kf op j y then fk_q0 (kf (fk_ix k)) (fk_v (kf (fk_ix k)) x) 1
  else fk_P (kf (fk_ix k)) (fk_cN op (fk_v (kf (fk_ix k)) x) (fk_dn (kf (fk_ix k))) (fk_v (kf (fk_ix j)) y) (fk_dn (kf (fk_ix j)))) (fk_cD op (fk_dn (kf (fk_ix k))) (fk_v (kf (fk_ix j)) y) (fk_dn (kf (fk_ix j))))
noncomputable def fk_lApp (n : Nat) (kf : Nat → fk_K) (lo op k : Int32) (x : Int64) (j : Int32) (y : Int64) : Int32 :=
  haveI := Classical.propDecidable (fk_nap n op k j); haveI := Classical.propDecidable (fk_qz kf op j y)
  if fk_nap n op k j then lo else if fk_qz kf op j y then 1
  else fk_L (kf (fk_ix k)) (fk_cN op (fk_v (kf (fk_ix k)) x) (fk_dn (kf (fk_ix k))) (fk_v (kf (fk_ix j)) y) (fk_dn (kf (fk_ix j)))) (fk_cD op (fk_dn (kf (fk_ix k))) (fk_v (kf (fk_ix j)) y) (fk_dn (kf (fk_ix j))))
noncomputable def fk_sBnd (n : Nat) (kf : Nat → fk_K) (k side : Int32) : Int :=
  haveI := Classical.propDecidable (fk_no n k); if fk_no n k then 0 else if side = 0 then fk_least (kf (fk_ix k)).1 (kf (fk_ix k)).2.1 else fk_most (kf (fk_ix k)).1 (kf (fk_ix k)).2.1
def fk_cmp (x : Int) : Int32 := if x = 0 then 0 else if x < 0 then -1 else 1
noncomputable def fk_sCmp (n : Nat) (kf : Nat → fk_K) (k : Int32) (x : Int64) (j : Int32) (y : Int64) : Int32 :=
  haveI := Classical.propDecidable (fk_no n k ∨ fk_no n j); if fk_no n k ∨ fk_no n j then -2 else fk_cmp (fk_v (kf (fk_ix k)) x * fk_dn (kf (fk_ix j)) + fk_v (kf (fk_ix j)) y * fk_dn (kf (fk_ix k)) * (-1))
/-- octets and halves of the lowest w bits -/
def fk_oc (w : Nat) (v : Int64) (i : Nat) : Int32 := (Int32.ofInt (v.toInt % 2 ^ w / 2 ^ (8 * i))).toInt8.toInt32
noncomputable def fk_sOct (n : Nat) (kf : Nat → fk_K) (k : Int32) (v : Int64) (i : Int32) : Int32 :=
  haveI := Classical.propDecidable (fk_no n k); if fk_no n k ∨ i.toInt < 0 ∨ (((kf (fk_ix k)).1 + 7) / 8 : Nat) ≤ i.toInt then 0 else fk_oc (kf (fk_ix k)).1 v i.toInt.toNat
noncomputable def fk_sHlf (n : Nat) (kf : Nat → fk_K) (k : Int32) (v : Int64) : Int32 :=
  haveI := Classical.propDecidable (fk_no n k); if fk_no n k then 0 else (Int32.ofInt (v.toInt % 2 ^ (kf (fk_ix k)).1 / 2 ^ ((kf (fk_ix k)).1 - (kf (fk_ix k)).1 / 2))).toInt16.toInt32
/-- the lowest bits of a long that is shifted right, as an int of 8 or 16 bits -/
theorem fk_l2i {x : Int64} {y : Int} (h : x.toInt % 18446744073709551616 = y % 18446744073709551616) : x.toInt32 = Int32.ofInt y := by
  apply Int32.toInt_inj.mp
  rw [Int64.toInt_toInt32, Int32.toInt_ofInt]
  apply Int.bmod_eq_bmod_iff_bmod_sub_eq_zero.mpr
  have : ∃ k : Int, x.toInt - y = k * 18446744073709551616 := ⟨x.toInt / 18446744073709551616 - y / 18446744073709551616, by omega⟩
  obtain ⟨k, hk⟩ := this
  rw [hk]
  show Int.bmod (k * 18446744073709551616) 4294967296 = 0
  rw [Int.bmod_def]
  split <;> omega
end
section
/-! FixedKinds: putQuotientByZero, combine, by program -/
abbrev rmX3_putQuotientByZero : Room := { frames := 6, cells := 0, slots := 0, locals := 142 }
set_option maxHeartbeats 4000000 in
set_option maxRecDepth 100000 in
/-- putQuotientByZero -/
theorem kX3_putQuotientByZero {l : Launch} {D : va_G} {cJ cC cI cZ cK : ClassId} (sz : Nat) (ad : Nat → Nat) (tl : va_W) (kd : Nat → Option Nat) (kc lo : Int32) (ch : Nat → Int32) (ts : Int32) (f1 f2 f3 f4 f5 : Nat → Int64) (hk jk w : Nat) (sg ov rd : Int32) (up dn of : Int64) (a b : Int) (hqk : tl[jk]? = some (hk, .inr (2, [.int (nI w), .int sg, .long up, .long dn, .long of, .int ov, .int rd]))) (hkd : fk_kd w sg up dn of) (hRa : fk_R a f1) (hRb : fk_R b f2) (hpB : fk_pB a b) (hov : ov = 0 ∨ ov = 1 ∨ ov = 2) : Met l yX3_putQuotientByZero wsX3_putQuotientByZero rmX3_putQuotientByZero (va_Pc [.ref (ad 0), .ref hk] (fk_pre D (fk_ty cJ cC cI cZ cK) (fk_wx cJ cC cK ad kd kc lo ch ts f1 f2 f3 f4 f5 ++ tl) sz)) (va_Ql (fun (r : Int64) (_ : (Nat → Int64) × (Nat → Int64) × (Nat → Int64)) => r.toInt = if 0 < a then fk_most w sg else if a < 0 then fk_least w sg else fk_put w sg ov rd up dn of a b) (fk_Bd D (fk_ty cJ cC cI cZ cK) (va_A (fk_wx cJ cC cK ad kd kc lo ch ts f1 f2 f3 f4 f5 ++ tl) sz) (fun u : (Nat → Int64) × (Nat → Int64) × (Nat → Int64) => fk_wx cJ cC cK ad kd kc 1 ch ts u.1 u.2.1 f3 f4 u.2.2 ++ tl)) (va_A (fk_wx cJ cC cK ad kd kc lo ch ts f1 f2 f3 f4 f5 ++ tl) sz)) 0 0 (va_A (fk_wx cJ cC cK ad kd kc lo ch ts f1 f2 f3 f4 f5 ++ tl) sz) := by
  refine fk_ofW cX3_putQuotientByZero 5 (some .long) (fun A => va_Ql (fun (r : Int64) (_ : (Nat → Int64) × (Nat → Int64) × (Nat → Int64)) => r.toInt = if 0 < a then fk_most w sg else if a < 0 then fk_least w sg else fk_put w sg ov rd up dn of a b) (fk_Bd D (fk_ty cJ cC cI cZ cK) A (fun u : (Nat → Int64) × (Nat → Int64) × (Nat → Int64) => fk_wx cJ cC cK ad kd kc 1 ch ts u.1 u.2.1 f3 f4 u.2.2 ++ tl)) A) rfl (by decide) (Nat.le_of_ble_eq_true rfl) ?_
  intro p e s m below meth c A ls args QQ hQQ hAt hP hK hN hD hA hS hl
  obtain ⟨⟨hx, hb, hml, hown, hts⟩, hr, hlocks, hin⟩ := hAt
  have hl : lv_has ls 5 [(0, .ref (ad 0)), (1, .ref hk)] := hl
  have k1 := hts (.fieldLink RX3 33 "FixedKinds" "first" "LFixedKinds$Fraction;") (by decide +kernel)
  have k2 := (by decide +kernel : ∀ w ∈ u_ws RX3 TX3 8, w ∈ wsX3_putQuotientByZero)
  have k3 := hN _ fkn_X3_76
  have k4 := hts (.initialized RX0) (by decide +kernel)
  have k5 := hts (.instanceMethod yX0_sign) (by decide +kernel)
  have k6 := hts (.selects RX0 yX0_sign yX0_sign) (by decide +kernel)
  have k7 := hN _ fkn_X3_140
  have k8 := hts (.initialized RX1) (by decide +kernel)
  have k9 := hts (.instanceMethod yX1_least) (by decide +kernel)
  have k10 := hts (.selects RX1 yX1_least yX1_least) (by decide +kernel)
  have k11 := hts (.fieldLink RX3 19 "FixedKinds" "somethingLost" "Z") (by decide +kernel)
  have k12 := hN _ fkn_X3_144
  have k13 := hts (.instanceMethod yX1_greatest) (by decide +kernel)
  have k14 := hts (.selects RX1 yX1_greatest yX1_greatest) (by decide +kernel)
  refine lv_aload_n hx hb dX3_putQuotientByZero_0 rfl (lv_at hl 0 rfl) ?_
  refine va_get (D := D) (ci := 4) (v := .ref (ad 3)) (C := RX3) (T := TX3) (N := 8) hx hb hts k2 hown hK hP 0 rfl rfl 5 (by decide) k1 (fun _ h9 => h9) rfl dX3_putQuotientByZero_1 ?_
  refine fk_ci hD hS hA (va_runVN (As := []) (rest := []) ⟨hx, hb, hml, hown, hts⟩ (kX0_sign _ _ (ad 3) (ad 4) (ad 5) (ad 6) (ad 7) 3 4 5 6 7 f1 f2 (a) rfl rfl rfl hRa ⟨by have := hpB.1; omega, by have := hpB.1; omega⟩) ⟨va_cnB 0 hts gX3_putQuotientByZero_X0_sign_n76 rfl rfl rfl k3 k4 (by decide +kernel) ⟨Nat.le_of_ble_eq_true rfl, Nat.le_of_ble_eq_true rfl⟩, k5, k6⟩ (fk_preV 3 1 hK hN hP hD rfl rfl) rfl rfl hl.1 rfl (lv_room (Nat.le_of_ble_eq_true rfl)) dX3_putQuotientByZero_4 ⟨Nat.le_of_ble_eq_true rfl, Nat.le_of_ble_eq_true rfl⟩) (fun r1 u H locs hw hP hD hS => ?_)
  have hP : va_P D vwCl (fk_wx cJ cC cK ad kd kc lo ch ts f1 f2 f3 f4 f5 ++ tl) H := hP
  have hD : va_D A (fk_wx cJ cC cK ad kd kc lo ch ts f1 f2 f3 f4 f5 ++ tl) := hD
  have zs := hw
  refine lv_istore_n (lv' := [(2, .int r1), (0, .ref (ad 0)), (1, .ref hk)]) hx hb dX3_putQuotientByZero_7 rfl hl (by decide) rfl (fun ls hl => ?_)
  refine lv_iload_n hx hb dX3_putQuotientByZero_8 rfl (lv_at hl 0 rfl) ?_
  refine lv_if_le (tgt := 19) hx hb dX3_putQuotientByZero_9 (by decide) (fun c_9 => ?_) (fun c_9 => ?_)
  · have ha : a ≤ 0 := by
      rw [zs] at c_9
      by_cases q0 : a = 0
      · omega
      · by_cases q1 : a < 0
        · omega
        · rw [if_neg q0, if_neg q1] at c_9; exact absurd c_9 (by decide)
    refine lv_aload_n hx hb dX3_putQuotientByZero_19 rfl (lv_at hl 2 rfl) ?_
    refine fk_cl hD hS hA (va_runVN (As := []) (rest := []) ⟨hx, hb, hml, hown, hts⟩ (kX1_least _ _ hk (jk + 15) w sg ov rd up dn of (fk_tl hqk) hkd.1) ⟨va_cnB 0 hts gX3_putQuotientByZero_X1_least_n140 rfl rfl rfl k7 k8 (by decide +kernel) ⟨Nat.le_of_ble_eq_true rfl, Nat.le_of_ble_eq_true rfl⟩, k9, k10⟩ (fk_preV (jk + 15) 2 hK hN hP hD rfl (fk_tl hqk)) rfl rfl hl.1 rfl (lv_room (Nat.le_of_ble_eq_true rfl)) dX3_putQuotientByZero_20 ⟨Nat.le_of_ble_eq_true rfl, Nat.le_of_ble_eq_true rfl⟩) (fun r2 u H locs hw hP hD hS => ?_)
    have hP : va_P D vwCl (fk_wx cJ cC cK ad kd kc lo ch ts f1 f2 f3 f4 f5 ++ tl) H := hP
    have hD : va_D A (fk_wx cJ cC cK ad kd kc lo ch ts f1 f2 f3 f4 f5 ++ tl) := hD
    have hans := hw
    refine lv_lstore_n (lv' := [(3, .long r2), (2, .int r1), (0, .ref (ad 0)), (1, .ref hk)]) hx hb dX3_putQuotientByZero_23 rfl hl (by decide) rfl (fun ls hl => ?_)
    refine lv_iload_n hx hb dX3_putQuotientByZero_24 rfl (lv_at hl 1 rfl) ?_
    refine lv_if_ne (tgt := 34) hx hb dX3_putQuotientByZero_25 (by decide) (fun c_25 => ?_) (fun c_25 => ?_)
    · have ha0 : a ≠ 0 := fun q => c_25 (by rw [zs, if_pos q])
      refine lv_aload_n hx hb dX3_putQuotientByZero_34 rfl (lv_at hl 2 rfl) ?_
      refine lv_iconst (v := 1) hx hb dX3_putQuotientByZero_35 (by decide) ?_
      refine va_put (D := D) (ci := 4) (v := .int 1) (ty := (.boolean)) (C := RX3) (T := TX3) (N := 8) hx hb hts k2 tyX3 tyX3_ok nmX3 hown hK hP hD hS 0 rfl rfl 2 (by decide) k11 (fun _ h9 => h9) rfl (by decide +kernel) rfl rfl (Nat.le_of_ble_eq_true rfl) dX3_putQuotientByZero_36 (fun H locs hP hD hS => ?_)
      have hP : va_P D vwCl (fk_wx cJ cC cK ad kd kc 1 ch ts f1 f2 f3 f4 f5 ++ tl) H := hP
      have hD : va_D A (fk_wx cJ cC cK ad kd kc 1 ch ts f1 f2 f3 f4 f5 ++ tl) := hD
      refine lv_lload_n hx hb dX3_putQuotientByZero_39 rfl (lv_at hl 0 rfl) ?_
      rw [hQQ]
      exact W.lret (v := r2) hx hb hr (fun t ht hW => ⟨⟨r2, (f1, f2, f5), rfl, hans.trans (by rw [if_neg (by omega), if_pos (by omega)]), by rw [ht]; exact hP, va_K.moved hW.alike hK, hD⟩, hS.F ht⟩) hS.2.2 dX3_putQuotientByZero_40
    · have ha0 : a = 0 := by
        rw [zs] at c_25
        by_cases q0 : a = 0
        · exact q0
        · by_cases q1 : a < 0
          · rw [if_neg q0, if_pos q1] at c_25; exact absurd c_25 (by decide)
          · rw [if_neg q0, if_neg q1] at c_25; exact absurd c_25 (by decide)
      refine lv_aload_n hx hb dX3_putQuotientByZero_28 rfl (lv_at hl 2 rfl) ?_
      refine lv_aload_n hx hb dX3_putQuotientByZero_29 rfl (lv_at hl 3 rfl) ?_
      refine fk_cl hD hS hA (va_runV (As := [.ref hk]) (rest := []) ⟨hx, hb, hml, hown, hts⟩ (kX3_put _ ad tl kd kc lo ch ts f1 f2 f3 f4 f5 hk jk w sg ov rd up dn of a b hqk hkd hRa hRb hpB hov) (cwV 1 hts gX3_putQuotientByZero_X3_put rfl rfl rfl (by decide +kernel) ⟨Nat.le_of_ble_eq_true rfl, Nat.le_of_ble_eq_true rfl⟩) (fk_preV 0 4 hK hN hP hD rfl rfl) rfl rfl hl.1 rfl (lv_room (Nat.le_of_ble_eq_true rfl)) dX3_putQuotientByZero_30 ⟨Nat.le_of_ble_eq_true rfl, Nat.le_of_ble_eq_true rfl⟩) (fun r4 u3 H locs hw hP hD hS => ?_)
      have hP : va_P D vwCl (fk_wx cJ cC cK ad kd kc u3.1 ch ts u3.2.1 u3.2.2.1 f3 f4 u3.2.2.2 ++ tl) H := hP
      have hD : va_D A (fk_wx cJ cC cK ad kd kc u3.1 ch ts u3.2.1 u3.2.2.1 f3 f4 u3.2.2.2 ++ tl) := hD
      have hput := hw.1
      refine lv_lstore_n (lv' := [(3, .long r4), (2, .int r1), (0, .ref (ad 0)), (1, .ref hk)]) hx hb dX3_putQuotientByZero_33 rfl hl (by decide) rfl (fun ls hl => ?_)
      refine lv_aload_n hx hb dX3_putQuotientByZero_34 rfl (lv_at hl 2 rfl) ?_
      refine lv_iconst (v := 1) hx hb dX3_putQuotientByZero_35 (by decide) ?_
      refine va_put (D := D) (ci := 4) (v := .int 1) (ty := (.boolean)) (C := RX3) (T := TX3) (N := 8) hx hb hts k2 tyX3 tyX3_ok nmX3 hown hK hP hD hS 0 rfl rfl 2 (by decide) k11 (fun _ h9 => h9) rfl (by decide +kernel) rfl rfl (Nat.le_of_ble_eq_true rfl) dX3_putQuotientByZero_36 (fun H locs hP hD hS => ?_)
      have hP : va_P D vwCl (fk_wx cJ cC cK ad kd kc 1 ch ts u3.2.1 u3.2.2.1 f3 f4 u3.2.2.2 ++ tl) H := hP
      have hD : va_D A (fk_wx cJ cC cK ad kd kc 1 ch ts u3.2.1 u3.2.2.1 f3 f4 u3.2.2.2 ++ tl) := hD
      refine lv_lload_n hx hb dX3_putQuotientByZero_39 rfl (lv_at hl 0 rfl) ?_
      rw [hQQ]
      exact W.lret (v := r4) hx hb hr (fun t ht hW => ⟨⟨r4, (u3.2.1, u3.2.2.1, u3.2.2.2), rfl, hput.trans (by rw [if_neg (by omega), if_neg (by omega)]), by rw [ht]; exact hP, va_K.moved hW.alike hK, hD⟩, hS.F ht⟩) hS.2.2 dX3_putQuotientByZero_40
  · have ha : 0 < a := by
      rw [zs] at c_9
      by_cases q0 : a = 0
      · rw [if_pos q0] at c_9; exact absurd (by decide) c_9
      · by_cases q1 : a < 0
        · rw [if_neg q0, if_pos q1] at c_9; exact absurd (by decide) c_9
        · omega
    refine lv_aload_n hx hb dX3_putQuotientByZero_12 rfl (lv_at hl 2 rfl) ?_
    refine fk_cl hD hS hA (va_runVN (As := []) (rest := []) ⟨hx, hb, hml, hown, hts⟩ (kX1_greatest _ _ hk (jk + 15) w sg ov rd up dn of (fk_tl hqk) hkd.1) ⟨va_cnB 0 hts gX3_putQuotientByZero_X1_greatest_n144 rfl rfl rfl k12 k8 (by decide +kernel) ⟨Nat.le_of_ble_eq_true rfl, Nat.le_of_ble_eq_true rfl⟩, k13, k14⟩ (fk_preV (jk + 15) 2 hK hN hP hD rfl (fk_tl hqk)) rfl rfl hl.1 rfl (lv_room (Nat.le_of_ble_eq_true rfl)) dX3_putQuotientByZero_13 ⟨Nat.le_of_ble_eq_true rfl, Nat.le_of_ble_eq_true rfl⟩) (fun r5 u H locs hw hP hD hS => ?_)
    have hP : va_P D vwCl (fk_wx cJ cC cK ad kd kc lo ch ts f1 f2 f3 f4 f5 ++ tl) H := hP
    have hD : va_D A (fk_wx cJ cC cK ad kd kc lo ch ts f1 f2 f3 f4 f5 ++ tl) := hD
    have hans := hw
    refine lv_goto (tgt := 23) hx hb dX3_putQuotientByZero_16 (by decide) ?_
    refine lv_lstore_n (lv' := [(3, .long r5), (2, .int r1), (0, .ref (ad 0)), (1, .ref hk)]) hx hb dX3_putQuotientByZero_23 rfl hl (by decide) rfl (fun ls hl => ?_)
    refine lv_iload_n hx hb dX3_putQuotientByZero_24 rfl (lv_at hl 1 rfl) ?_
    refine lv_if_ne (tgt := 34) hx hb dX3_putQuotientByZero_25 (by decide) (fun c_25 => ?_) (fun c_25 => ?_)
    · have ha0 : a ≠ 0 := fun q => c_25 (by rw [zs, if_pos q])
      refine lv_aload_n hx hb dX3_putQuotientByZero_34 rfl (lv_at hl 2 rfl) ?_
      refine lv_iconst (v := 1) hx hb dX3_putQuotientByZero_35 (by decide) ?_
      refine va_put (D := D) (ci := 4) (v := .int 1) (ty := (.boolean)) (C := RX3) (T := TX3) (N := 8) hx hb hts k2 tyX3 tyX3_ok nmX3 hown hK hP hD hS 0 rfl rfl 2 (by decide) k11 (fun _ h9 => h9) rfl (by decide +kernel) rfl rfl (Nat.le_of_ble_eq_true rfl) dX3_putQuotientByZero_36 (fun H locs hP hD hS => ?_)
      have hP : va_P D vwCl (fk_wx cJ cC cK ad kd kc 1 ch ts f1 f2 f3 f4 f5 ++ tl) H := hP
      have hD : va_D A (fk_wx cJ cC cK ad kd kc 1 ch ts f1 f2 f3 f4 f5 ++ tl) := hD
      refine lv_lload_n hx hb dX3_putQuotientByZero_39 rfl (lv_at hl 0 rfl) ?_
      rw [hQQ]
      exact W.lret (v := r5) hx hb hr (fun t ht hW => ⟨⟨r5, (f1, f2, f5), rfl, hans.trans (by rw [if_pos ha]), by rw [ht]; exact hP, va_K.moved hW.alike hK, hD⟩, hS.F ht⟩) hS.2.2 dX3_putQuotientByZero_40
    · have ha0 : a = 0 := by
        rw [zs] at c_25
        by_cases q0 : a = 0
        · exact q0
        · by_cases q1 : a < 0
          · rw [if_neg q0, if_pos q1] at c_25; exact absurd c_25 (by decide)
          · rw [if_neg q0, if_neg q1] at c_25; exact absurd c_25 (by decide)
      refine lv_aload_n hx hb dX3_putQuotientByZero_28 rfl (lv_at hl 2 rfl) ?_
      refine lv_aload_n hx hb dX3_putQuotientByZero_29 rfl (lv_at hl 3 rfl) ?_
      refine fk_cl hD hS hA (va_runV (As := [.ref hk]) (rest := []) ⟨hx, hb, hml, hown, hts⟩ (kX3_put _ ad tl kd kc lo ch ts f1 f2 f3 f4 f5 hk jk w sg ov rd up dn of a b hqk hkd hRa hRb hpB hov) (cwV 1 hts gX3_putQuotientByZero_X3_put rfl rfl rfl (by decide +kernel) ⟨Nat.le_of_ble_eq_true rfl, Nat.le_of_ble_eq_true rfl⟩) (fk_preV 0 4 hK hN hP hD rfl rfl) rfl rfl hl.1 rfl (lv_room (Nat.le_of_ble_eq_true rfl)) dX3_putQuotientByZero_30 ⟨Nat.le_of_ble_eq_true rfl, Nat.le_of_ble_eq_true rfl⟩) (fun r7 u6 H locs hw hP hD hS => ?_)
      have hP : va_P D vwCl (fk_wx cJ cC cK ad kd kc u6.1 ch ts u6.2.1 u6.2.2.1 f3 f4 u6.2.2.2 ++ tl) H := hP
      have hD : va_D A (fk_wx cJ cC cK ad kd kc u6.1 ch ts u6.2.1 u6.2.2.1 f3 f4 u6.2.2.2 ++ tl) := hD
      have hput := hw.1
      refine lv_lstore_n (lv' := [(3, .long r7), (2, .int r1), (0, .ref (ad 0)), (1, .ref hk)]) hx hb dX3_putQuotientByZero_33 rfl hl (by decide) rfl (fun ls hl => ?_)
      refine lv_aload_n hx hb dX3_putQuotientByZero_34 rfl (lv_at hl 2 rfl) ?_
      refine lv_iconst (v := 1) hx hb dX3_putQuotientByZero_35 (by decide) ?_
      refine va_put (D := D) (ci := 4) (v := .int 1) (ty := (.boolean)) (C := RX3) (T := TX3) (N := 8) hx hb hts k2 tyX3 tyX3_ok nmX3 hown hK hP hD hS 0 rfl rfl 2 (by decide) k11 (fun _ h9 => h9) rfl (by decide +kernel) rfl rfl (Nat.le_of_ble_eq_true rfl) dX3_putQuotientByZero_36 (fun H locs hP hD hS => ?_)
      have hP : va_P D vwCl (fk_wx cJ cC cK ad kd kc 1 ch ts u6.2.1 u6.2.2.1 f3 f4 u6.2.2.2 ++ tl) H := hP
      have hD : va_D A (fk_wx cJ cC cK ad kd kc 1 ch ts u6.2.1 u6.2.2.1 f3 f4 u6.2.2.2 ++ tl) := hD
      refine lv_lload_n hx hb dX3_putQuotientByZero_39 rfl (lv_at hl 0 rfl) ?_
      rw [hQQ]
      exact W.lret (v := r7) hx hb hr (fun t ht hW => ⟨⟨r7, (u6.2.1, u6.2.2.1, u6.2.2.2), rfl, hput.trans (by rw [if_neg (by omega), if_neg (by omega)]), by rw [ht]; exact hP, va_K.moved hW.alike hK, hD⟩, hS.F ht⟩) hS.2.2 dX3_putQuotientByZero_40
abbrev rmX3_combine : Room := { frames := 4, cells := 0, slots := 0, locals := 95 }
set_option maxHeartbeats 4000000 in
set_option maxRecDepth 100000 in
/-- combine -/
theorem kX3_combine {l : Launch} {D : va_G} {cJ cC cI cZ cK : ClassId} (sz : Nat) (ad : Nat → Nat) (tl : va_W) (kd : Nat → Option Nat) (kc lo : Int32) (ch : Nat → Int32) (ts : Int32) (f1 f2 f3 f4 f5 : Nat → Int64) (op : Int32) (a b c0 d : Int) (hRa : fk_R a f1) (hRb : fk_R b f2) (hRc : fk_R c0 f3) (hRd : fk_R d f4) (hop : op = 0 ∨ op = 1 ∨ op = 2 ∨ op = 3) (hI : fk_In (b * c0)) : Met l yX3_combine wsX3_combine rmX3_combine (va_Pc [.ref (ad 0), .int op] (fk_pre D (fk_ty cJ cC cI cZ cK) (fk_wx cJ cC cK ad kd kc lo ch ts f1 f2 f3 f4 f5 ++ tl) sz)) (va_Qv (fun u : (Nat → Int64) × (Nat → Int64) × (Nat → Int64) => fk_R (fk_cN op a b c0 d) u.1 ∧ fk_R (fk_cD op b c0 d) u.2.1) (fk_Bd D (fk_ty cJ cC cI cZ cK) (va_A (fk_wx cJ cC cK ad kd kc lo ch ts f1 f2 f3 f4 f5 ++ tl) sz) (fun u : (Nat → Int64) × (Nat → Int64) × (Nat → Int64) => fk_wx cJ cC cK ad kd kc lo ch ts u.1 u.2.1 u.2.2 f4 f5 ++ tl)) (va_A (fk_wx cJ cC cK ad kd kc lo ch ts f1 f2 f3 f4 f5 ++ tl) sz)) 0 0 (va_A (fk_wx cJ cC cK ad kd kc lo ch ts f1 f2 f3 f4 f5 ++ tl) sz) := by
  refine fk_ofW cX3_combine 2 none (fun A => va_Qv (fun u : (Nat → Int64) × (Nat → Int64) × (Nat → Int64) => fk_R (fk_cN op a b c0 d) u.1 ∧ fk_R (fk_cD op b c0 d) u.2.1) (fk_Bd D (fk_ty cJ cC cI cZ cK) A (fun u : (Nat → Int64) × (Nat → Int64) × (Nat → Int64) => fk_wx cJ cC cK ad kd kc lo ch ts u.1 u.2.1 u.2.2 f4 f5 ++ tl)) A) rfl (by decide) (Nat.le_of_ble_eq_true rfl) ?_
  intro p e s m below meth c A ls args QQ hQQ hAt hP hK hN hD hA hS hl
  obtain ⟨⟨hx, hb, hml, hown, hts⟩, hr, hlocks, hin⟩ := hAt
  have hl : lv_has ls 2 [(0, .ref (ad 0)), (1, .int op)] := hl
  have k1 := hts (.fieldLink RX3 33 "FixedKinds" "first" "LFixedKinds$Fraction;") (by decide +kernel)
  have k2 := (by decide +kernel : ∀ w ∈ u_ws RX3 TX3 8, w ∈ wsX3_combine)
  have k3 := hts (.fieldLink RX3 37 "FixedKinds" "second" "LFixedKinds$Fraction;") (by decide +kernel)
  have k4 := hN _ fkn_X3_149
  have k5 := hts (.initialized RX0) (by decide +kernel)
  have k6 := hts (.instanceMethod yX0_add) (by decide +kernel)
  have k7 := hts (.selects RX0 yX0_add yX0_add) (by decide +kernel)
  have k8 := hts (.constantLong RX3 147 (-1)) (by decide +kernel)
  have k9 := hN _ fkn_X3_169
  have k10 := hts (.instanceMethod yX0_multiply) (by decide +kernel)
  have k11 := hts (.selects RX0 yX0_multiply yX0_multiply) (by decide +kernel)
  have k12 := hN _ fkn_X3_173
  have k13 := hts (.instanceMethod yX0_divide) (by decide +kernel)
  have k14 := hts (.selects RX0 yX0_divide yX0_divide) (by decide +kernel)
  refine lv_iload_n hx hb dX3_combine_0 rfl (lv_at hl 1 rfl) ?_
  rcases hop with q | q | q | q
  · subst q
    refine lv_tableIn (tgt := 28) (off := 27) hx hb dX3_combine_1 (by decide) (by decide) (by decide) (by decide) ?_
    refine lv_aload_n hx hb dX3_combine_28 rfl (lv_at hl 0 rfl) ?_
    refine va_get (D := D) (ci := 4) (v := .ref (ad 3)) (C := RX3) (T := TX3) (N := 8) hx hb hts k2 hown hK hP 0 rfl rfl 5 (by decide) k1 (fun _ h9 => h9) rfl dX3_combine_29 ?_
    refine lv_aload_n hx hb dX3_combine_32 rfl (lv_at hl 0 rfl) ?_
    refine va_get (D := D) (ci := 4) (v := .ref (ad 8)) (C := RX3) (T := TX3) (N := 8) hx hb hts k2 hown hK hP 0 rfl rfl 6 (by decide) k3 (fun _ h9 => h9) rfl dX3_combine_33 ?_
    refine lv_lconst (v := 1) hx hb dX3_combine_36 (by decide) ?_
    refine fk_cv hD hS hA (va_runVN (As := [.ref (ad 8), .long 1]) (rest := []) ⟨hx, hb, hml, hown, hts⟩ (kX0_add _ ad tl kd kc lo ch ts f1 f2 f3 f4 f5 1 a b c0 d hRa hRb hRc hRd (by decide)) ⟨va_cnB 2 hts gX3_combine_X0_add_n149 rfl rfl rfl k4 k5 (by decide +kernel) ⟨Nat.le_of_ble_eq_true rfl, Nat.le_of_ble_eq_true rfl⟩, k6, k7⟩ (fk_preV 3 1 hK hN hP hD rfl rfl) rfl rfl hl.1 rfl (lv_room (Nat.le_of_ble_eq_true rfl)) dX3_combine_37 ⟨Nat.le_of_ble_eq_true rfl, Nat.le_of_ble_eq_true rfl⟩) (fun u1 H locs hw hP hD hS => ?_)
    have hP : va_P D vwCl (fk_wx cJ cC cK ad kd kc lo ch ts u1.1 u1.2.1 u1.2.2 f4 f5 ++ tl) H := hP
    have hD : va_D A (fk_wx cJ cC cK ad kd kc lo ch ts u1.1 u1.2.1 u1.2.2 f4 f5 ++ tl) := hD
    rw [show (1 : Int64).toInt = 1 by decide] at hw
    refine lv_goto (tgt := 85) hx hb dX3_combine_40 (by decide) ?_
    rw [hQQ]
    exact W.vret hx hb hr (fun t ht hW => ⟨⟨(u1.1, u1.2.1, u1.2.2), rfl, (by show fk_R _ _ ∧ fk_R _ _; rw [fk_cN, fk_cD, if_pos rfl, if_neg (by decide)]; exact ⟨hw.1, hw.2⟩), by rw [ht]; exact hP, va_K.moved hW.alike hK, hD⟩, hS.F ht⟩) hS.2.2 dX3_combine_85
  · subst q
    refine lv_tableIn (tgt := 43) (off := 42) hx hb dX3_combine_1 (by decide) (by decide) (by decide) (by decide) ?_
    refine lv_aload_n hx hb dX3_combine_43 rfl (lv_at hl 0 rfl) ?_
    refine va_get (D := D) (ci := 4) (v := .ref (ad 3)) (C := RX3) (T := TX3) (N := 8) hx hb hts k2 hown hK hP 0 rfl rfl 5 (by decide) k1 (fun _ h9 => h9) rfl dX3_combine_44 ?_
    refine lv_aload_n hx hb dX3_combine_47 rfl (lv_at hl 0 rfl) ?_
    refine va_get (D := D) (ci := 4) (v := .ref (ad 8)) (C := RX3) (T := TX3) (N := 8) hx hb hts k2 hown hK hP 0 rfl rfl 6 (by decide) k3 (fun _ h9 => h9) rfl dX3_combine_48 ?_
    refine lv_ldc2 (v := (-1)) hx hb hown k8 dX3_combine_51 ?_
    refine fk_cv hD hS hA (va_runVN (As := [.ref (ad 8), .long (-1)]) (rest := []) ⟨hx, hb, hml, hown, hts⟩ (kX0_add _ ad tl kd kc lo ch ts f1 f2 f3 f4 f5 (-1) a b c0 d hRa hRb hRc hRd (by decide)) ⟨va_cnB 2 hts gX3_combine_X0_add_n149 rfl rfl rfl k4 k5 (by decide +kernel) ⟨Nat.le_of_ble_eq_true rfl, Nat.le_of_ble_eq_true rfl⟩, k6, k7⟩ (fk_preV 3 1 hK hN hP hD rfl rfl) rfl rfl hl.1 rfl (lv_room (Nat.le_of_ble_eq_true rfl)) dX3_combine_54 ⟨Nat.le_of_ble_eq_true rfl, Nat.le_of_ble_eq_true rfl⟩) (fun u3 H locs hw hP hD hS => ?_)
    have hP : va_P D vwCl (fk_wx cJ cC cK ad kd kc lo ch ts u3.1 u3.2.1 u3.2.2 f4 f5 ++ tl) H := hP
    have hD : va_D A (fk_wx cJ cC cK ad kd kc lo ch ts u3.1 u3.2.1 u3.2.2 f4 f5 ++ tl) := hD
    rw [show ((-1) : Int64).toInt = (-1) by decide] at hw
    refine lv_goto (tgt := 85) hx hb dX3_combine_57 (by decide) ?_
    rw [hQQ]
    exact W.vret hx hb hr (fun t ht hW => ⟨⟨(u3.1, u3.2.1, u3.2.2), rfl, (by show fk_R _ _ ∧ fk_R _ _; rw [fk_cN, fk_cD, if_neg (by decide), if_pos rfl, if_neg (by decide)]; exact ⟨hw.1, hw.2⟩), by rw [ht]; exact hP, va_K.moved hW.alike hK, hD⟩, hS.F ht⟩) hS.2.2 dX3_combine_85
  · subst q
    refine lv_tableIn (tgt := 60) (off := 59) hx hb dX3_combine_1 (by decide) (by decide) (by decide) (by decide) ?_
    refine lv_aload_n hx hb dX3_combine_60 rfl (lv_at hl 0 rfl) ?_
    refine va_get (D := D) (ci := 4) (v := .ref (ad 3)) (C := RX3) (T := TX3) (N := 8) hx hb hts k2 hown hK hP 0 rfl rfl 5 (by decide) k1 (fun _ h9 => h9) rfl dX3_combine_61 ?_
    refine lv_aload_n hx hb dX3_combine_64 rfl (lv_at hl 0 rfl) ?_
    refine va_get (D := D) (ci := 4) (v := .ref (ad 8)) (C := RX3) (T := TX3) (N := 8) hx hb hts k2 hown hK hP 0 rfl rfl 6 (by decide) k3 (fun _ h9 => h9) rfl dX3_combine_65 ?_
    refine fk_cv hD hS hA (va_runVN (As := [.ref (ad 8)]) (rest := []) ⟨hx, hb, hml, hown, hts⟩ (kX0_multiply _ ad tl kd kc lo ch ts f1 f2 f3 f4 f5 a b c0 d hRa hRb hRc hRd) ⟨va_cnB 1 hts gX3_combine_X0_multiply_n169 rfl rfl rfl k9 k5 (by decide +kernel) ⟨Nat.le_of_ble_eq_true rfl, Nat.le_of_ble_eq_true rfl⟩, k10, k11⟩ (fk_preV 3 1 hK hN hP hD rfl rfl) rfl rfl hl.1 rfl (lv_room (Nat.le_of_ble_eq_true rfl)) dX3_combine_68 ⟨Nat.le_of_ble_eq_true rfl, Nat.le_of_ble_eq_true rfl⟩) (fun u5 H locs hw hP hD hS => ?_)
    have hP : va_P D vwCl (fk_wx cJ cC cK ad kd kc lo ch ts u5.1 u5.2 f3 f4 f5 ++ tl) H := hP
    have hD : va_D A (fk_wx cJ cC cK ad kd kc lo ch ts u5.1 u5.2 f3 f4 f5 ++ tl) := hD
    refine lv_goto (tgt := 85) hx hb dX3_combine_71 (by decide) ?_
    rw [hQQ]
    exact W.vret hx hb hr (fun t ht hW => ⟨⟨(u5.1, u5.2, f3), rfl, (by show fk_R _ _ ∧ fk_R _ _; rw [fk_cN, fk_cD, if_neg (by decide), if_neg (by decide), if_pos rfl, if_neg (by decide)]; exact ⟨hw.1, hw.2⟩), by rw [ht]; exact hP, va_K.moved hW.alike hK, hD⟩, hS.F ht⟩) hS.2.2 dX3_combine_85
  · subst q
    refine lv_tableOut (tgt := 74) hx hb dX3_combine_1 (by decide) (by decide) ?_
    refine lv_aload_n hx hb dX3_combine_74 rfl (lv_at hl 0 rfl) ?_
    refine va_get (D := D) (ci := 4) (v := .ref (ad 3)) (C := RX3) (T := TX3) (N := 8) hx hb hts k2 hown hK hP 0 rfl rfl 5 (by decide) k1 (fun _ h9 => h9) rfl dX3_combine_75 ?_
    refine lv_aload_n hx hb dX3_combine_78 rfl (lv_at hl 0 rfl) ?_
    refine va_get (D := D) (ci := 4) (v := .ref (ad 8)) (C := RX3) (T := TX3) (N := 8) hx hb hts k2 hown hK hP 0 rfl rfl 6 (by decide) k3 (fun _ h9 => h9) rfl dX3_combine_79 ?_
    refine fk_cv hD hS hA (va_runVN (As := [.ref (ad 8)]) (rest := []) ⟨hx, hb, hml, hown, hts⟩ (kX0_divide _ ad tl kd kc lo ch ts f1 f2 f3 f4 f5 a b c0 d hRa hRb hRc hRd hI) ⟨va_cnB 1 hts gX3_combine_X0_divide_n173 rfl rfl rfl k12 k5 (by decide +kernel) ⟨Nat.le_of_ble_eq_true rfl, Nat.le_of_ble_eq_true rfl⟩, k13, k14⟩ (fk_preV 3 1 hK hN hP hD rfl rfl) rfl rfl hl.1 rfl (lv_room (Nat.le_of_ble_eq_true rfl)) dX3_combine_82 ⟨Nat.le_of_ble_eq_true rfl, Nat.le_of_ble_eq_true rfl⟩) (fun u7 H locs hw hP hD hS => ?_)
    have hP : va_P D vwCl (fk_wx cJ cC cK ad kd kc lo ch ts u7.1 u7.2 f3 f4 f5 ++ tl) H := hP
    have hD : va_D A (fk_wx cJ cC cK ad kd kc lo ch ts u7.1 u7.2 f3 f4 f5 ++ tl) := hD
    rw [hQQ]
    exact W.vret hx hb hr (fun t ht hW => ⟨⟨(u7.1, u7.2, f3), rfl, (by show fk_R _ _ ∧ fk_R _ _; rw [fk_cN, fk_cD, if_neg (by decide), if_neg (by decide), if_neg (by decide), if_pos rfl]; exact ⟨hw.1, hw.2⟩), by rw [ht]; exact hP, va_K.moved hW.alike hK, hD⟩, hS.F ht⟩) hS.2.2 dX3_combine_85
end
section
/-! FixedKinds: bound, lost, convert, compare, by program -/
abbrev rmX3_bound : Room := { frames := 2, cells := 0, slots := 0, locals := 40 }
set_option maxHeartbeats 4000000 in
set_option maxRecDepth 100000 in
/-- bound -/
theorem kX3_bound {l : Launch} {D : va_G} {cJ cC cI cZ cK : ClassId} (sz : Nat) (ad : Nat → Nat) (tl : va_W) (kd : Nat → Option Nat) (lo : Int32) (ch : Nat → Int32) (ts : Int32) (f1 f2 f3 f4 f5 : Nat → Int64) (n : Nat) (kf : Nat → fk_K) (ka kp : Nat → Nat) (num side : Int32) (hKT : fk_KT n kf kd ka kp tl) : Met l yX3_bound wsX3_bound rmX3_bound (va_Pc [.ref (ad 0), .int num, .int side] (fk_pre D (fk_ty cJ cC cI cZ cK) (fk_wx cJ cC cK ad kd (nI n) lo ch ts f1 f2 f3 f4 f5 ++ tl) sz)) (va_Ql (fun (r : Int64) (_ : Unit) => r.toInt = fk_sBnd n kf num side) (fk_Bd D (fk_ty cJ cC cI cZ cK) (va_A (fk_wx cJ cC cK ad kd (nI n) lo ch ts f1 f2 f3 f4 f5 ++ tl) sz) (fun _ : Unit => fk_wx cJ cC cK ad kd (nI n) lo ch ts f1 f2 f3 f4 f5 ++ tl)) (va_A (fk_wx cJ cC cK ad kd (nI n) lo ch ts f1 f2 f3 f4 f5 ++ tl) sz)) 0 0 (va_A (fk_wx cJ cC cK ad kd (nI n) lo ch ts f1 f2 f3 f4 f5 ++ tl) sz) := by
  refine fk_ofW cX3_bound 4 (some .long) (fun A => va_Ql (fun (r : Int64) (_ : Unit) => r.toInt = fk_sBnd n kf num side) (fk_Bd D (fk_ty cJ cC cI cZ cK) A (fun _ : Unit => fk_wx cJ cC cK ad kd (nI n) lo ch ts f1 f2 f3 f4 f5 ++ tl)) A) rfl (by decide) (Nat.le_of_ble_eq_true rfl) ?_
  intro p e s m below meth c A ls args QQ hQQ hAt hP hK hN hD hA hS hl
  obtain ⟨⟨hx, hb, hml, hown, hts⟩, hr, hlocks, hin⟩ := hAt
  have hl : lv_has ls 4 [(0, .ref (ad 0)), (1, .int num), (2, .int side)] := hl
  have k1 := hN _ fkn_X3_144
  have k2 := hts (.initialized RX1) (by decide +kernel)
  have k3 := hts (.instanceMethod yX1_greatest) (by decide +kernel)
  have k4 := hts (.selects RX1 yX1_greatest yX1_greatest) (by decide +kernel)
  have k5 := hN _ fkn_X3_140
  have k6 := hts (.instanceMethod yX1_least) (by decide +kernel)
  have k7 := hts (.selects RX1 yX1_least yX1_least) (by decide +kernel)
  have hn40 := hKT.1
  refine lv_aload_n hx hb dX3_bound_0 rfl (lv_at hl 0 rfl) ?_
  refine lv_iload_n hx hb dX3_bound_1 rfl (lv_at hl 1 rfl) ?_
  refine fk_cq hD hS hA (va_runV (As := [.int num]) (rest := []) ⟨hx, hb, hml, hown, hts⟩ (kX3_find _ ad tl kd lo ch ts f1 f2 f3 f4 f5 n kf ka kp num hKT) (cwV 1 hts gX3_bound_X3_find rfl rfl rfl (by decide +kernel) ⟨Nat.le_of_ble_eq_true rfl, Nat.le_of_ble_eq_true rfl⟩) (fk_preV 0 4 hK hN hP hD rfl rfl) rfl rfl hl.1 rfl (lv_room (Nat.le_of_ble_eq_true rfl)) dX3_bound_2 ⟨Nat.le_of_ble_eq_true rfl, Nat.le_of_ble_eq_true rfl⟩) (fun r1 u H locs hw hP hD hS => ?_)
  have hP : va_P D vwCl (fk_wx cJ cC cK ad kd (nI n) lo ch ts f1 f2 f3 f4 f5 ++ tl) H := hP
  have hD : va_D A (fk_wx cJ cC cK ad kd (nI n) lo ch ts f1 f2 f3 f4 f5 ++ tl) := hD
  rcases hw with ⟨hr_j, hno_j⟩ | ⟨j, hj, hn_j, hr_j⟩
  · subst hr_j
    refine lv_astore_nN (lv' := [(3, .null), (0, .ref (ad 0)), (1, .int num), (2, .int side)]) hx hb dX3_bound_5 rfl hl (by decide) rfl (fun ls hl => ?_)
    refine lv_aload_nN hx hb dX3_bound_6 rfl (lv_at hl 0 rfl) ?_
    refine lv_ifnonnullN hx hb dX3_bound_7 ?_
    refine lv_lconst (v := 0) hx hb dX3_bound_10 (by decide) ?_
    rw [hQQ]
    exact W.lret (v := 0) hx hb hr (fun t ht hW => ⟨⟨0, (), rfl, (by rw [fk_sBnd, if_pos hno_j]; decide), by rw [ht]; exact hP, va_K.moved hW.alike hK, hD⟩, hS.F ht⟩) hS.2.2 dX3_bound_11
  · subst hr_j
    subst hn_j
    have ok_j := (hKT.2.1 j hj).2.2
    obtain ⟨okd_j, oko_j, okr_j⟩ := id ok_j
    refine lv_astore_n (lv' := [(3, .ref (ka j)), (0, .ref (ad 0)), (1, .int (nI (j + 1))), (2, .int side)]) hx hb dX3_bound_5 rfl hl (by decide) rfl (fun ls hl => ?_)
    refine lv_aload_n hx hb dX3_bound_6 rfl (lv_at hl 0 rfl) ?_
    refine lv_ifnonnull (tgt := 12) hx hb dX3_bound_7 (by decide) ?_
    refine lv_iload_n hx hb dX3_bound_12 rfl (lv_at hl 3 rfl) ?_
    refine lv_if_ne (tgt := 23) hx hb dX3_bound_13 (by decide) (fun c_13 => ?_) (fun c_13 => ?_)
    · refine lv_aload_n hx hb dX3_bound_23 rfl (lv_at hl 0 rfl) ?_
      refine fk_cl hD hS hA (va_runVN (As := []) (rest := []) ⟨hx, hb, hml, hown, hts⟩ (kX1_greatest _ _ (ka j) (kp j + 15) (kf j).1 (kf j).2.1 (kf j).2.2.2.2.2.1 (kf j).2.2.2.2.2.2 (kf j).2.2.1 (kf j).2.2.2.1 (kf j).2.2.2.2.1 (fk_tl (hKT.2.1 j hj).2.1) okd_j.1) ⟨va_cnB 0 hts gX3_bound_X1_greatest_n144 rfl rfl rfl k1 k2 (by decide +kernel) ⟨Nat.le_of_ble_eq_true rfl, Nat.le_of_ble_eq_true rfl⟩, k3, k4⟩ (fk_preV (kp j + 15) 2 hK hN hP hD rfl (fk_tl (hKT.2.1 j hj).2.1)) rfl rfl hl.1 rfl (lv_room (Nat.le_of_ble_eq_true rfl)) dX3_bound_24 ⟨Nat.le_of_ble_eq_true rfl, Nat.le_of_ble_eq_true rfl⟩) (fun r2 u H locs hw hP hD hS => ?_)
      have hP : va_P D vwCl (fk_wx cJ cC cK ad kd (nI n) lo ch ts f1 f2 f3 f4 f5 ++ tl) H := hP
      have hD : va_D A (fk_wx cJ cC cK ad kd (nI n) lo ch ts f1 f2 f3 f4 f5 ++ tl) := hD
      rw [hQQ]
      exact W.lret (v := r2) hx hb hr (fun t ht hW => ⟨⟨r2, (), rfl, hw.trans (by rw [fk_sBnd, if_neg (fk_no_j hj hn40), fk_ix_j hj hn40, if_neg c_13]), by rw [ht]; exact hP, va_K.moved hW.alike hK, hD⟩, hS.F ht⟩) hS.2.2 dX3_bound_27
    · refine lv_aload_n hx hb dX3_bound_16 rfl (lv_at hl 0 rfl) ?_
      refine fk_cl hD hS hA (va_runVN (As := []) (rest := []) ⟨hx, hb, hml, hown, hts⟩ (kX1_least _ _ (ka j) (kp j + 15) (kf j).1 (kf j).2.1 (kf j).2.2.2.2.2.1 (kf j).2.2.2.2.2.2 (kf j).2.2.1 (kf j).2.2.2.1 (kf j).2.2.2.2.1 (fk_tl (hKT.2.1 j hj).2.1) okd_j.1) ⟨va_cnB 0 hts gX3_bound_X1_least_n140 rfl rfl rfl k5 k2 (by decide +kernel) ⟨Nat.le_of_ble_eq_true rfl, Nat.le_of_ble_eq_true rfl⟩, k6, k7⟩ (fk_preV (kp j + 15) 2 hK hN hP hD rfl (fk_tl (hKT.2.1 j hj).2.1)) rfl rfl hl.1 rfl (lv_room (Nat.le_of_ble_eq_true rfl)) dX3_bound_17 ⟨Nat.le_of_ble_eq_true rfl, Nat.le_of_ble_eq_true rfl⟩) (fun r3 u H locs hw hP hD hS => ?_)
      have hP : va_P D vwCl (fk_wx cJ cC cK ad kd (nI n) lo ch ts f1 f2 f3 f4 f5 ++ tl) H := hP
      have hD : va_D A (fk_wx cJ cC cK ad kd (nI n) lo ch ts f1 f2 f3 f4 f5 ++ tl) := hD
      refine lv_goto (tgt := 27) hx hb dX3_bound_20 (by decide) ?_
      rw [hQQ]
      exact W.lret (v := r3) hx hb hr (fun t ht hW => ⟨⟨r3, (), rfl, hw.trans (by rw [fk_sBnd, if_neg (fk_no_j hj hn40), fk_ix_j hj hn40, if_pos c_13]), by rw [ht]; exact hP, va_K.moved hW.alike hK, hD⟩, hS.F ht⟩) hS.2.2 dX3_bound_27
abbrev rmX3_lost : Room := { frames := 0, cells := 0, slots := 0, locals := 0 }
set_option maxHeartbeats 4000000 in
set_option maxRecDepth 100000 in
/-- lost -/
theorem kX3_lost {l : Launch} {D : va_G} {cJ cC cI cZ cK : ClassId} (sz : Nat) (ad : Nat → Nat) (tl : va_W) (kd : Nat → Option Nat) (lo : Int32) (ch : Nat → Int32) (ts : Int32) (f1 f2 f3 f4 f5 : Nat → Int64) (n : Nat) (kf : Nat → fk_K) (ka kp : Nat → Nat)  (hKT : fk_KT n kf kd ka kp tl) (hlo : lo = 0 ∨ lo = 1) : Met l yX3_lost wsX3_lost rmX3_lost (va_Pc [.ref (ad 0)] (fk_pre D (fk_ty cJ cC cI cZ cK) (fk_wx cJ cC cK ad kd (nI n) lo ch ts f1 f2 f3 f4 f5 ++ tl) sz)) (va_Qi (fun (r : Int32) (_ : Unit) => r = lo) (fk_Bd D (fk_ty cJ cC cI cZ cK) (va_A (fk_wx cJ cC cK ad kd (nI n) lo ch ts f1 f2 f3 f4 f5 ++ tl) sz) (fun _ : Unit => fk_wx cJ cC cK ad kd (nI n) lo ch ts f1 f2 f3 f4 f5 ++ tl)) (va_A (fk_wx cJ cC cK ad kd (nI n) lo ch ts f1 f2 f3 f4 f5 ++ tl) sz)) 0 0 (va_A (fk_wx cJ cC cK ad kd (nI n) lo ch ts f1 f2 f3 f4 f5 ++ tl) sz) := by
  refine fk_ofW cX3_lost 1 (some .boolean) (fun A => va_Qi (fun (r : Int32) (_ : Unit) => r = lo) (fk_Bd D (fk_ty cJ cC cI cZ cK) A (fun _ : Unit => fk_wx cJ cC cK ad kd (nI n) lo ch ts f1 f2 f3 f4 f5 ++ tl)) A) rfl (by decide) (Nat.le_of_ble_eq_true rfl) ?_
  intro p e s m below meth c A ls args QQ hQQ hAt hP hK hN hD hA hS hl
  obtain ⟨⟨hx, hb, hml, hown, hts⟩, hr, hlocks, hin⟩ := hAt
  have hl : lv_has ls 1 [(0, .ref (ad 0))] := hl
  have k1 := hts (.fieldLink RX3 19 "FixedKinds" "somethingLost" "Z") (by decide +kernel)
  have k2 := (by decide +kernel : ∀ w ∈ u_ws RX3 TX3 8, w ∈ wsX3_lost)
  refine lv_aload_n hx hb dX3_lost_0 rfl (lv_at hl 0 rfl) ?_
  refine va_get (D := D) (ci := 4) (v := .int lo) (C := RX3) (T := TX3) (N := 8) hx hb hts k2 hown hK hP 0 rfl rfl 2 (by decide) k1 (fun _ h9 => h9) rfl dX3_lost_1 ?_
  rw [hQQ]
  exact W.zret (v := lo) hx hb hr (by rcases hlo with q | q <;> rw [q] <;> rfl) (fun t ht hW => ⟨⟨lo, (), rfl, rfl, by rw [ht]; exact hP, va_K.moved hW.alike hK, hD⟩, hS.F ht⟩) hS.2.2 dX3_lost_4
abbrev rmX3_convert : Room := { frames := 6, cells := 0, slots := 0, locals := 142 }
set_option maxHeartbeats 4000000 in
set_option maxRecDepth 100000 in
/-- convert -/
theorem kX3_convert {l : Launch} {D : va_G} {cJ cC cI cZ cK : ClassId} (sz : Nat) (ad : Nat → Nat) (tl : va_W) (kd : Nat → Option Nat) (lo : Int32) (ch : Nat → Int32) (ts : Int32) (f1 f2 f3 f4 f5 : Nat → Int64) (n : Nat) (kf : Nat → fk_K) (ka kp : Nat → Nat) (num num2 : Int32) (v : Int64) (hKT : fk_KT n kf kd ka kp tl) : Met l yX3_convert wsX3_convert rmX3_convert (va_Pc [.ref (ad 0), .int num, .long v, .int num2] (fk_pre D (fk_ty cJ cC cI cZ cK) (fk_wx cJ cC cK ad kd (nI n) lo ch ts f1 f2 f3 f4 f5 ++ tl) sz)) (va_Ql (fun (r : Int64) (u : Int32 × (Nat → Int64) × (Nat → Int64) × (Nat → Int64) × (Nat → Int64) × (Nat → Int64)) => r.toInt = fk_sConv n kf num v num2 ∧ u.1 = fk_lConv n kf lo num v num2) (fk_Bd D (fk_ty cJ cC cI cZ cK) (va_A (fk_wx cJ cC cK ad kd (nI n) lo ch ts f1 f2 f3 f4 f5 ++ tl) sz) (fun u : Int32 × (Nat → Int64) × (Nat → Int64) × (Nat → Int64) × (Nat → Int64) × (Nat → Int64) => fk_wx cJ cC cK ad kd (nI n) u.1 ch ts u.2.1 u.2.2.1 u.2.2.2.1 u.2.2.2.2.1 u.2.2.2.2.2 ++ tl)) (va_A (fk_wx cJ cC cK ad kd (nI n) lo ch ts f1 f2 f3 f4 f5 ++ tl) sz)) 0 0 (va_A (fk_wx cJ cC cK ad kd (nI n) lo ch ts f1 f2 f3 f4 f5 ++ tl) sz) := by
  refine fk_ofW cX3_convert 7 (some .long) (fun A => va_Ql (fun (r : Int64) (u : Int32 × (Nat → Int64) × (Nat → Int64) × (Nat → Int64) × (Nat → Int64) × (Nat → Int64)) => r.toInt = fk_sConv n kf num v num2 ∧ u.1 = fk_lConv n kf lo num v num2) (fk_Bd D (fk_ty cJ cC cI cZ cK) A (fun u : Int32 × (Nat → Int64) × (Nat → Int64) × (Nat → Int64) × (Nat → Int64) × (Nat → Int64) => fk_wx cJ cC cK ad kd (nI n) u.1 ch ts u.2.1 u.2.2.1 u.2.2.2.1 u.2.2.2.2.1 u.2.2.2.2.2 ++ tl)) A) rfl (by decide) (Nat.le_of_ble_eq_true rfl) ?_
  intro p e s m below meth c A ls args QQ hQQ hAt hP hK hN hD hA hS hl
  obtain ⟨⟨hx, hb, hml, hown, hts⟩, hr, hlocks, hin⟩ := hAt
  have hl : lv_has ls 7 [(0, .ref (ad 0)), (1, .int num), (2, .long v), (4, .int num2)] := hl
  have k1 := hts (.fieldLink RX3 33 "FixedKinds" "first" "LFixedKinds$Fraction;") (by decide +kernel)
  have k2 := (by decide +kernel : ∀ w ∈ u_ws RX3 TX3 8, w ∈ wsX3_convert)
  have k3 := hN _ fkn_X3_72
  have k4 := hts (.initialized RX0) (by decide +kernel)
  have k5 := hts (.instanceMethod yX0_take) (by decide +kernel)
  have k6 := hts (.selects RX0 yX0_take yX0_take) (by decide +kernel)
  have hn40 := hKT.1
  refine lv_aload_n hx hb dX3_convert_0 rfl (lv_at hl 0 rfl) ?_
  refine lv_iload_n hx hb dX3_convert_1 rfl (lv_at hl 1 rfl) ?_
  refine fk_cq hD hS hA (va_runV (As := [.int num]) (rest := []) ⟨hx, hb, hml, hown, hts⟩ (kX3_find _ ad tl kd lo ch ts f1 f2 f3 f4 f5 n kf ka kp num hKT) (cwV 1 hts gX3_convert_X3_find rfl rfl rfl (by decide +kernel) ⟨Nat.le_of_ble_eq_true rfl, Nat.le_of_ble_eq_true rfl⟩) (fk_preV 0 4 hK hN hP hD rfl rfl) rfl rfl hl.1 rfl (lv_room (Nat.le_of_ble_eq_true rfl)) dX3_convert_2 ⟨Nat.le_of_ble_eq_true rfl, Nat.le_of_ble_eq_true rfl⟩) (fun r1 u H locs hw hP hD hS => ?_)
  have hP : va_P D vwCl (fk_wx cJ cC cK ad kd (nI n) lo ch ts f1 f2 f3 f4 f5 ++ tl) H := hP
  have hD : va_D A (fk_wx cJ cC cK ad kd (nI n) lo ch ts f1 f2 f3 f4 f5 ++ tl) := hD
  rcases hw with ⟨hr_i, hno_i⟩ | ⟨i, hi, hn_i, hr_i⟩
  · subst hr_i
    refine lv_astoreN (lv' := [(5, .null), (0, .ref (ad 0)), (1, .int num), (2, .long v), (4, .int num2)]) hx hb dX3_convert_5 hl (by decide) rfl (fun ls hl => ?_)
    refine lv_aload_n hx hb dX3_convert_7 rfl (lv_at hl 1 rfl) ?_
    refine lv_iload hx hb dX3_convert_8 (lv_at hl 4 rfl) ?_
    refine fk_cq hD hS hA (va_runV (As := [.int num2]) (rest := []) ⟨hx, hb, hml, hown, hts⟩ (kX3_find _ ad tl kd lo ch ts f1 f2 f3 f4 f5 n kf ka kp num2 hKT) (cwV 1 hts gX3_convert_X3_find rfl rfl rfl (by decide +kernel) ⟨Nat.le_of_ble_eq_true rfl, Nat.le_of_ble_eq_true rfl⟩) (fk_preV 0 4 hK hN hP hD rfl rfl) rfl rfl hl.1 rfl (lv_room (Nat.le_of_ble_eq_true rfl)) dX3_convert_10 ⟨Nat.le_of_ble_eq_true rfl, Nat.le_of_ble_eq_true rfl⟩) (fun r2 u H locs hw hP hD hS => ?_)
    have hP : va_P D vwCl (fk_wx cJ cC cK ad kd (nI n) lo ch ts f1 f2 f3 f4 f5 ++ tl) H := hP
    have hD : va_D A (fk_wx cJ cC cK ad kd (nI n) lo ch ts f1 f2 f3 f4 f5 ++ tl) := hD
    rcases hw with ⟨hr_j, hno_j⟩ | ⟨j, hj, hn_j, hr_j⟩
    · subst hr_j
      refine lv_astoreN (lv' := [(6, .null), (5, .null), (0, .ref (ad 0)), (1, .int num), (2, .long v), (4, .int num2)]) hx hb dX3_convert_13 hl (by decide) rfl (fun ls hl => ?_)
      refine lv_aloadN hx hb dX3_convert_15 (lv_at hl 1 rfl) ?_
      refine lv_ifnullN (tgt := 25) hx hb dX3_convert_17 (by decide) ?_
      refine lv_lconst (v := 0) hx hb dX3_convert_25 (by decide) ?_
      rw [hQQ]
      exact W.lret (v := 0) hx hb hr (fun t ht hW => ⟨⟨0, (lo, f1, f2, f3, f4, f5), rfl, ⟨(by rw [fk_sConv, if_pos (Or.inl hno_i)]; decide), (by rw [fk_lConv, if_pos (Or.inl hno_i)])⟩, by rw [ht]; exact hP, va_K.moved hW.alike hK, hD⟩, hS.F ht⟩) hS.2.2 dX3_convert_26
    · subst hr_j
      subst hn_j
      have ok_j := (hKT.2.1 j hj).2.2
      obtain ⟨okd_j, oko_j, okr_j⟩ := id ok_j
      refine lv_astore (lv' := [(6, .ref (ka j)), (5, .null), (0, .ref (ad 0)), (1, .int num), (2, .long v), (4, .int (nI (j + 1)))]) hx hb dX3_convert_13 hl (by decide) rfl (fun ls hl => ?_)
      refine lv_aloadN hx hb dX3_convert_15 (lv_at hl 1 rfl) ?_
      refine lv_ifnullN (tgt := 25) hx hb dX3_convert_17 (by decide) ?_
      refine lv_lconst (v := 0) hx hb dX3_convert_25 (by decide) ?_
      rw [hQQ]
      exact W.lret (v := 0) hx hb hr (fun t ht hW => ⟨⟨0, (lo, f1, f2, f3, f4, f5), rfl, ⟨(by rw [fk_sConv, if_pos (Or.inl hno_i)]; decide), (by rw [fk_lConv, if_pos (Or.inl hno_i)])⟩, by rw [ht]; exact hP, va_K.moved hW.alike hK, hD⟩, hS.F ht⟩) hS.2.2 dX3_convert_26
  · subst hr_i
    subst hn_i
    have ok_i := (hKT.2.1 i hi).2.2
    obtain ⟨okd_i, oko_i, okr_i⟩ := id ok_i
    refine lv_astore (lv' := [(5, .ref (ka i)), (0, .ref (ad 0)), (1, .int (nI (i + 1))), (2, .long v), (4, .int num2)]) hx hb dX3_convert_5 hl (by decide) rfl (fun ls hl => ?_)
    refine lv_aload_n hx hb dX3_convert_7 rfl (lv_at hl 1 rfl) ?_
    refine lv_iload hx hb dX3_convert_8 (lv_at hl 4 rfl) ?_
    refine fk_cq hD hS hA (va_runV (As := [.int num2]) (rest := []) ⟨hx, hb, hml, hown, hts⟩ (kX3_find _ ad tl kd lo ch ts f1 f2 f3 f4 f5 n kf ka kp num2 hKT) (cwV 1 hts gX3_convert_X3_find rfl rfl rfl (by decide +kernel) ⟨Nat.le_of_ble_eq_true rfl, Nat.le_of_ble_eq_true rfl⟩) (fk_preV 0 4 hK hN hP hD rfl rfl) rfl rfl hl.1 rfl (lv_room (Nat.le_of_ble_eq_true rfl)) dX3_convert_10 ⟨Nat.le_of_ble_eq_true rfl, Nat.le_of_ble_eq_true rfl⟩) (fun r3 u H locs hw hP hD hS => ?_)
    have hP : va_P D vwCl (fk_wx cJ cC cK ad kd (nI n) lo ch ts f1 f2 f3 f4 f5 ++ tl) H := hP
    have hD : va_D A (fk_wx cJ cC cK ad kd (nI n) lo ch ts f1 f2 f3 f4 f5 ++ tl) := hD
    rcases hw with ⟨hr_j, hno_j⟩ | ⟨j, hj, hn_j, hr_j⟩
    · subst hr_j
      refine lv_astoreN (lv' := [(6, .null), (5, .ref (ka i)), (0, .ref (ad 0)), (1, .int (nI (i + 1))), (2, .long v), (4, .int num2)]) hx hb dX3_convert_13 hl (by decide) rfl (fun ls hl => ?_)
      refine lv_aload hx hb dX3_convert_15 (lv_at hl 1 rfl) ?_
      refine lv_ifnull hx hb dX3_convert_17 ?_
      refine lv_aloadN hx hb dX3_convert_20 (lv_at hl 0 rfl) ?_
      refine lv_ifnonnullN hx hb dX3_convert_22 ?_
      refine lv_lconst (v := 0) hx hb dX3_convert_25 (by decide) ?_
      rw [hQQ]
      exact W.lret (v := 0) hx hb hr (fun t ht hW => ⟨⟨0, (lo, f1, f2, f3, f4, f5), rfl, ⟨(by rw [fk_sConv, if_pos (Or.inr hno_j)]; decide), (by rw [fk_lConv, if_pos (Or.inr hno_j)])⟩, by rw [ht]; exact hP, va_K.moved hW.alike hK, hD⟩, hS.F ht⟩) hS.2.2 dX3_convert_26
    · subst hr_j
      subst hn_j
      have ok_j := (hKT.2.1 j hj).2.2
      obtain ⟨okd_j, oko_j, okr_j⟩ := id ok_j
      refine lv_astore (lv' := [(6, .ref (ka j)), (5, .ref (ka i)), (0, .ref (ad 0)), (1, .int (nI (i + 1))), (2, .long v), (4, .int (nI (j + 1)))]) hx hb dX3_convert_13 hl (by decide) rfl (fun ls hl => ?_)
      refine lv_aload hx hb dX3_convert_15 (lv_at hl 1 rfl) ?_
      refine lv_ifnull hx hb dX3_convert_17 ?_
      refine lv_aload hx hb dX3_convert_20 (lv_at hl 0 rfl) ?_
      refine lv_ifnonnull (tgt := 27) hx hb dX3_convert_22 (by decide) ?_
      refine lv_aload_n hx hb dX3_convert_27 rfl (lv_at hl 2 rfl) ?_
      refine va_get (D := D) (ci := 4) (v := .ref (ad 3)) (C := RX3) (T := TX3) (N := 8) hx hb hts k2 hown hK hP 0 rfl rfl 5 (by decide) k1 (fun _ h9 => h9) rfl dX3_convert_28 ?_
      refine lv_aload hx hb dX3_convert_31 (lv_at hl 1 rfl) ?_
      refine lv_lload_n hx hb dX3_convert_33 rfl (lv_at hl 4 rfl) ?_
      refine fk_cv hD hS hA (va_runVN (As := [.ref (ka i), .long v]) (rest := []) ⟨hx, hb, hml, hown, hts⟩ (kX0_take _ _ (ad 3) (ad 4) (ad 5) (ad 6) (ad 7) 3 4 5 6 7 f1 f2 (ka i) (kp i + 15) (kf i).1 (kf i).2.1 (kf i).2.2.2.2.2.1 (kf i).2.2.2.2.2.2 (kf i).2.2.1 (kf i).2.2.2.1 (kf i).2.2.2.2.1 v rfl rfl rfl rfl rfl (fk_tl (hKT.2.1 i hi).2.1) okd_i (by decide)) ⟨va_cnB 2 hts gX3_convert_X0_take_n72 rfl rfl rfl k3 k4 (by decide +kernel) ⟨Nat.le_of_ble_eq_true rfl, Nat.le_of_ble_eq_true rfl⟩, k5, k6⟩ (fk_preV 3 1 hK hN hP hD rfl rfl) rfl rfl hl.1 rfl (lv_room (Nat.le_of_ble_eq_true rfl)) dX3_convert_34 ⟨Nat.le_of_ble_eq_true rfl, Nat.le_of_ble_eq_true rfl⟩) (fun u4 H locs hw hP hD hS => ?_)
      have hP : va_P D vwCl (fk_wx cJ cC cK ad kd (nI n) lo ch ts u4.1 u4.2 f3 f4 f5 ++ tl) H := hP
      have hD : va_D A (fk_wx cJ cC cK ad kd (nI n) lo ch ts u4.1 u4.2 f3 f4 f5 ++ tl) := hD
      obtain ⟨hTu4, hBu4⟩ := hw
      have hTu4 : fk_R (fk_v (kf i) v) u4.1 := hTu4
      have hBu4 : fk_R (fk_dn (kf i)) u4.2 := hBu4
      have bvu4 := fk_v_bd ok_i v
      have bdu4 := fk_dn_bd ok_i
      refine lv_aload_n hx hb dX3_convert_37 rfl (lv_at hl 2 rfl) ?_
      refine lv_aload hx hb dX3_convert_38 (lv_at hl 0 rfl) ?_
      refine fk_cl hD hS hA (va_runV (As := [.ref (ka j)]) (rest := []) ⟨hx, hb, hml, hown, hts⟩ (kX3_put _ ad tl kd (nI n) lo ch ts u4.1 u4.2 f3 f4 f5 (ka j) (kp j) (kf j).1 (kf j).2.1 (kf j).2.2.2.2.2.1 (kf j).2.2.2.2.2.2 (kf j).2.2.1 (kf j).2.2.2.1 (kf j).2.2.2.2.1 (fk_v (kf i) v) (fk_dn (kf i)) (hKT.2.1 j hj).2.1 okd_j hTu4 hBu4 (fk_v_B ok_i v (fk_dn_bd ok_i)) oko_j) (cwV 1 hts gX3_convert_X3_put rfl rfl rfl (by decide +kernel) ⟨Nat.le_of_ble_eq_true rfl, Nat.le_of_ble_eq_true rfl⟩) (fk_preV 0 4 hK hN hP hD rfl rfl) rfl rfl hl.1 rfl (lv_room (Nat.le_of_ble_eq_true rfl)) dX3_convert_40 ⟨Nat.le_of_ble_eq_true rfl, Nat.le_of_ble_eq_true rfl⟩) (fun r7 u6 H locs hw hP hD hS => ?_)
      have hP : va_P D vwCl (fk_wx cJ cC cK ad kd (nI n) u6.1 ch ts u6.2.1 u6.2.2.1 f3 f4 u6.2.2.2 ++ tl) H := hP
      have hD : va_D A (fk_wx cJ cC cK ad kd (nI n) u6.1 ch ts u6.2.1 u6.2.2.1 f3 f4 u6.2.2.2 ++ tl) := hD
      obtain ⟨hput, hlst⟩ := hw
      rw [hQQ]
      exact W.lret (v := r7) hx hb hr (fun t ht hW => ⟨⟨r7, (u6.1, u6.2.1, u6.2.2.1, f3, f4, u6.2.2.2), rfl, ⟨hput.trans (by rw [fk_sConv, if_neg (fun q => q.elim (fk_no_j hi hn40) (fk_no_j hj hn40)), fk_ix_j hi hn40, fk_ix_j hj hn40]; rfl), hlst.trans (by rw [fk_lConv, if_neg (fun q => q.elim (fk_no_j hi hn40) (fk_no_j hj hn40)), fk_ix_j hi hn40, fk_ix_j hj hn40]; rfl)⟩, by rw [ht]; exact hP, va_K.moved hW.alike hK, hD⟩, hS.F ht⟩) hS.2.2 dX3_convert_43
abbrev rmX3_compare : Room := { frames := 4, cells := 0, slots := 0, locals := 95 }
set_option maxHeartbeats 4000000 in
set_option maxRecDepth 100000 in
/-- compare -/
theorem kX3_compare {l : Launch} {D : va_G} {cJ cC cI cZ cK : ClassId} (sz : Nat) (ad : Nat → Nat) (tl : va_W) (kd : Nat → Option Nat) (lo : Int32) (ch : Nat → Int32) (ts : Int32) (f1 f2 f3 f4 f5 : Nat → Int64) (n : Nat) (kf : Nat → fk_K) (ka kp : Nat → Nat) (num num2 : Int32) (x y : Int64) (hKT : fk_KT n kf kd ka kp tl) : Met l yX3_compare wsX3_compare rmX3_compare (va_Pc [.ref (ad 0), .int num, .long x, .int num2, .long y] (fk_pre D (fk_ty cJ cC cI cZ cK) (fk_wx cJ cC cK ad kd (nI n) lo ch ts f1 f2 f3 f4 f5 ++ tl) sz)) (va_Qi (fun (r : Int32) (u : Int32 × (Nat → Int64) × (Nat → Int64) × (Nat → Int64) × (Nat → Int64) × (Nat → Int64)) => r = fk_sCmp n kf num x num2 y ∧ u.1 = lo) (fk_Bd D (fk_ty cJ cC cI cZ cK) (va_A (fk_wx cJ cC cK ad kd (nI n) lo ch ts f1 f2 f3 f4 f5 ++ tl) sz) (fun u : Int32 × (Nat → Int64) × (Nat → Int64) × (Nat → Int64) × (Nat → Int64) × (Nat → Int64) => fk_wx cJ cC cK ad kd (nI n) u.1 ch ts u.2.1 u.2.2.1 u.2.2.2.1 u.2.2.2.2.1 u.2.2.2.2.2 ++ tl)) (va_A (fk_wx cJ cC cK ad kd (nI n) lo ch ts f1 f2 f3 f4 f5 ++ tl) sz)) 0 0 (va_A (fk_wx cJ cC cK ad kd (nI n) lo ch ts f1 f2 f3 f4 f5 ++ tl) sz) := by
  refine fk_ofW cX3_compare 9 (some .int) (fun A => va_Qi (fun (r : Int32) (u : Int32 × (Nat → Int64) × (Nat → Int64) × (Nat → Int64) × (Nat → Int64) × (Nat → Int64)) => r = fk_sCmp n kf num x num2 y ∧ u.1 = lo) (fk_Bd D (fk_ty cJ cC cI cZ cK) A (fun u : Int32 × (Nat → Int64) × (Nat → Int64) × (Nat → Int64) × (Nat → Int64) × (Nat → Int64) => fk_wx cJ cC cK ad kd (nI n) u.1 ch ts u.2.1 u.2.2.1 u.2.2.2.1 u.2.2.2.2.1 u.2.2.2.2.2 ++ tl)) A) rfl (by decide) (Nat.le_of_ble_eq_true rfl) ?_
  intro p e s m below meth c A ls args QQ hQQ hAt hP hK hN hD hA hS hl
  obtain ⟨⟨hx, hb, hml, hown, hts⟩, hr, hlocks, hin⟩ := hAt
  have hl : lv_has ls 9 [(0, .ref (ad 0)), (1, .int num), (2, .long x), (4, .int num2), (5, .long y)] := hl
  have k1 := hts (.fieldLink RX3 33 "FixedKinds" "first" "LFixedKinds$Fraction;") (by decide +kernel)
  have k2 := (by decide +kernel : ∀ w ∈ u_ws RX3 TX3 8, w ∈ wsX3_compare)
  have k3 := hN _ fkn_X3_72
  have k4 := hts (.initialized RX0) (by decide +kernel)
  have k5 := hts (.instanceMethod yX0_take) (by decide +kernel)
  have k6 := hts (.selects RX0 yX0_take yX0_take) (by decide +kernel)
  have k7 := hts (.fieldLink RX3 37 "FixedKinds" "second" "LFixedKinds$Fraction;") (by decide +kernel)
  have k8 := hts (.constantLong RX3 147 (-1)) (by decide +kernel)
  have k9 := hN _ fkn_X3_149
  have k10 := hts (.instanceMethod yX0_add) (by decide +kernel)
  have k11 := hts (.selects RX0 yX0_add yX0_add) (by decide +kernel)
  have k12 := hN _ fkn_X3_76
  have k13 := hts (.instanceMethod yX0_sign) (by decide +kernel)
  have k14 := hts (.selects RX0 yX0_sign yX0_sign) (by decide +kernel)
  have hn40 := hKT.1
  refine lv_aload_n hx hb dX3_compare_0 rfl (lv_at hl 0 rfl) ?_
  refine lv_iload_n hx hb dX3_compare_1 rfl (lv_at hl 1 rfl) ?_
  refine fk_cq hD hS hA (va_runV (As := [.int num]) (rest := []) ⟨hx, hb, hml, hown, hts⟩ (kX3_find _ ad tl kd lo ch ts f1 f2 f3 f4 f5 n kf ka kp num hKT) (cwV 1 hts gX3_compare_X3_find rfl rfl rfl (by decide +kernel) ⟨Nat.le_of_ble_eq_true rfl, Nat.le_of_ble_eq_true rfl⟩) (fk_preV 0 4 hK hN hP hD rfl rfl) rfl rfl hl.1 rfl (lv_room (Nat.le_of_ble_eq_true rfl)) dX3_compare_2 ⟨Nat.le_of_ble_eq_true rfl, Nat.le_of_ble_eq_true rfl⟩) (fun r1 u H locs hw hP hD hS => ?_)
  have hP : va_P D vwCl (fk_wx cJ cC cK ad kd (nI n) lo ch ts f1 f2 f3 f4 f5 ++ tl) H := hP
  have hD : va_D A (fk_wx cJ cC cK ad kd (nI n) lo ch ts f1 f2 f3 f4 f5 ++ tl) := hD
  rcases hw with ⟨hr_i, hno_i⟩ | ⟨i, hi, hn_i, hr_i⟩
  · subst hr_i
    refine lv_astoreN (lv' := [(7, .null), (0, .ref (ad 0)), (1, .int num), (2, .long x), (4, .int num2), (5, .long y)]) hx hb dX3_compare_5 hl (by decide) rfl (fun ls hl => ?_)
    refine lv_aload_n hx hb dX3_compare_7 rfl (lv_at hl 1 rfl) ?_
    refine lv_iload hx hb dX3_compare_8 (lv_at hl 4 rfl) ?_
    refine fk_cq hD hS hA (va_runV (As := [.int num2]) (rest := []) ⟨hx, hb, hml, hown, hts⟩ (kX3_find _ ad tl kd lo ch ts f1 f2 f3 f4 f5 n kf ka kp num2 hKT) (cwV 1 hts gX3_compare_X3_find rfl rfl rfl (by decide +kernel) ⟨Nat.le_of_ble_eq_true rfl, Nat.le_of_ble_eq_true rfl⟩) (fk_preV 0 4 hK hN hP hD rfl rfl) rfl rfl hl.1 rfl (lv_room (Nat.le_of_ble_eq_true rfl)) dX3_compare_10 ⟨Nat.le_of_ble_eq_true rfl, Nat.le_of_ble_eq_true rfl⟩) (fun r2 u H locs hw hP hD hS => ?_)
    have hP : va_P D vwCl (fk_wx cJ cC cK ad kd (nI n) lo ch ts f1 f2 f3 f4 f5 ++ tl) H := hP
    have hD : va_D A (fk_wx cJ cC cK ad kd (nI n) lo ch ts f1 f2 f3 f4 f5 ++ tl) := hD
    rcases hw with ⟨hr_j, hno_j⟩ | ⟨j, hj, hn_j, hr_j⟩
    · subst hr_j
      refine lv_astoreN (lv' := [(8, .null), (7, .null), (0, .ref (ad 0)), (1, .int num), (2, .long x), (4, .int num2), (5, .long y)]) hx hb dX3_compare_13 hl (by decide) rfl (fun ls hl => ?_)
      refine lv_aloadN hx hb dX3_compare_15 (lv_at hl 1 rfl) ?_
      refine lv_ifnullN (tgt := 25) hx hb dX3_compare_17 (by decide) ?_
      refine lv_bipush (v := (-2)) hx hb dX3_compare_25 (by decide) ?_
      rw [hQQ]
      exact W.iret (v := (-2)) hx hb hr (fun t ht hW => ⟨⟨(-2), (lo, f1, f2, f3, f4, f5), rfl, ⟨(by rw [fk_sCmp, if_pos (Or.inl hno_i)]), rfl⟩, by rw [ht]; exact hP, va_K.moved hW.alike hK, hD⟩, hS.F ht⟩) hS.2.2 dX3_compare_27
    · subst hr_j
      subst hn_j
      have ok_j := (hKT.2.1 j hj).2.2
      obtain ⟨okd_j, oko_j, okr_j⟩ := id ok_j
      refine lv_astore (lv' := [(8, .ref (ka j)), (7, .null), (0, .ref (ad 0)), (1, .int num), (2, .long x), (4, .int (nI (j + 1))), (5, .long y)]) hx hb dX3_compare_13 hl (by decide) rfl (fun ls hl => ?_)
      refine lv_aloadN hx hb dX3_compare_15 (lv_at hl 1 rfl) ?_
      refine lv_ifnullN (tgt := 25) hx hb dX3_compare_17 (by decide) ?_
      refine lv_bipush (v := (-2)) hx hb dX3_compare_25 (by decide) ?_
      rw [hQQ]
      exact W.iret (v := (-2)) hx hb hr (fun t ht hW => ⟨⟨(-2), (lo, f1, f2, f3, f4, f5), rfl, ⟨(by rw [fk_sCmp, if_pos (Or.inl hno_i)]), rfl⟩, by rw [ht]; exact hP, va_K.moved hW.alike hK, hD⟩, hS.F ht⟩) hS.2.2 dX3_compare_27
  · subst hr_i
    subst hn_i
    have ok_i := (hKT.2.1 i hi).2.2
    obtain ⟨okd_i, oko_i, okr_i⟩ := id ok_i
    refine lv_astore (lv' := [(7, .ref (ka i)), (0, .ref (ad 0)), (1, .int (nI (i + 1))), (2, .long x), (4, .int num2), (5, .long y)]) hx hb dX3_compare_5 hl (by decide) rfl (fun ls hl => ?_)
    refine lv_aload_n hx hb dX3_compare_7 rfl (lv_at hl 1 rfl) ?_
    refine lv_iload hx hb dX3_compare_8 (lv_at hl 4 rfl) ?_
    refine fk_cq hD hS hA (va_runV (As := [.int num2]) (rest := []) ⟨hx, hb, hml, hown, hts⟩ (kX3_find _ ad tl kd lo ch ts f1 f2 f3 f4 f5 n kf ka kp num2 hKT) (cwV 1 hts gX3_compare_X3_find rfl rfl rfl (by decide +kernel) ⟨Nat.le_of_ble_eq_true rfl, Nat.le_of_ble_eq_true rfl⟩) (fk_preV 0 4 hK hN hP hD rfl rfl) rfl rfl hl.1 rfl (lv_room (Nat.le_of_ble_eq_true rfl)) dX3_compare_10 ⟨Nat.le_of_ble_eq_true rfl, Nat.le_of_ble_eq_true rfl⟩) (fun r3 u H locs hw hP hD hS => ?_)
    have hP : va_P D vwCl (fk_wx cJ cC cK ad kd (nI n) lo ch ts f1 f2 f3 f4 f5 ++ tl) H := hP
    have hD : va_D A (fk_wx cJ cC cK ad kd (nI n) lo ch ts f1 f2 f3 f4 f5 ++ tl) := hD
    rcases hw with ⟨hr_j, hno_j⟩ | ⟨j, hj, hn_j, hr_j⟩
    · subst hr_j
      refine lv_astoreN (lv' := [(8, .null), (7, .ref (ka i)), (0, .ref (ad 0)), (1, .int (nI (i + 1))), (2, .long x), (4, .int num2), (5, .long y)]) hx hb dX3_compare_13 hl (by decide) rfl (fun ls hl => ?_)
      refine lv_aload hx hb dX3_compare_15 (lv_at hl 1 rfl) ?_
      refine lv_ifnull hx hb dX3_compare_17 ?_
      refine lv_aloadN hx hb dX3_compare_20 (lv_at hl 0 rfl) ?_
      refine lv_ifnonnullN hx hb dX3_compare_22 ?_
      refine lv_bipush (v := (-2)) hx hb dX3_compare_25 (by decide) ?_
      rw [hQQ]
      exact W.iret (v := (-2)) hx hb hr (fun t ht hW => ⟨⟨(-2), (lo, f1, f2, f3, f4, f5), rfl, ⟨(by rw [fk_sCmp, if_pos (Or.inr hno_j)]), rfl⟩, by rw [ht]; exact hP, va_K.moved hW.alike hK, hD⟩, hS.F ht⟩) hS.2.2 dX3_compare_27
    · subst hr_j
      subst hn_j
      have ok_j := (hKT.2.1 j hj).2.2
      obtain ⟨okd_j, oko_j, okr_j⟩ := id ok_j
      refine lv_astore (lv' := [(8, .ref (ka j)), (7, .ref (ka i)), (0, .ref (ad 0)), (1, .int (nI (i + 1))), (2, .long x), (4, .int (nI (j + 1))), (5, .long y)]) hx hb dX3_compare_13 hl (by decide) rfl (fun ls hl => ?_)
      refine lv_aload hx hb dX3_compare_15 (lv_at hl 1 rfl) ?_
      refine lv_ifnull hx hb dX3_compare_17 ?_
      refine lv_aload hx hb dX3_compare_20 (lv_at hl 0 rfl) ?_
      refine lv_ifnonnull (tgt := 28) hx hb dX3_compare_22 (by decide) ?_
      refine lv_aload_n hx hb dX3_compare_28 rfl (lv_at hl 2 rfl) ?_
      refine va_get (D := D) (ci := 4) (v := .ref (ad 3)) (C := RX3) (T := TX3) (N := 8) hx hb hts k2 hown hK hP 0 rfl rfl 5 (by decide) k1 (fun _ h9 => h9) rfl dX3_compare_29 ?_
      refine lv_aload hx hb dX3_compare_32 (lv_at hl 1 rfl) ?_
      refine lv_lload_n hx hb dX3_compare_34 rfl (lv_at hl 4 rfl) ?_
      refine fk_cv hD hS hA (va_runVN (As := [.ref (ka i), .long x]) (rest := []) ⟨hx, hb, hml, hown, hts⟩ (kX0_take _ _ (ad 3) (ad 4) (ad 5) (ad 6) (ad 7) 3 4 5 6 7 f1 f2 (ka i) (kp i + 15) (kf i).1 (kf i).2.1 (kf i).2.2.2.2.2.1 (kf i).2.2.2.2.2.2 (kf i).2.2.1 (kf i).2.2.2.1 (kf i).2.2.2.2.1 x rfl rfl rfl rfl rfl (fk_tl (hKT.2.1 i hi).2.1) okd_i (by decide)) ⟨va_cnB 2 hts gX3_compare_X0_take_n72 rfl rfl rfl k3 k4 (by decide +kernel) ⟨Nat.le_of_ble_eq_true rfl, Nat.le_of_ble_eq_true rfl⟩, k5, k6⟩ (fk_preV 3 1 hK hN hP hD rfl rfl) rfl rfl hl.1 rfl (lv_room (Nat.le_of_ble_eq_true rfl)) dX3_compare_35 ⟨Nat.le_of_ble_eq_true rfl, Nat.le_of_ble_eq_true rfl⟩) (fun u4 H locs hw hP hD hS => ?_)
      have hP : va_P D vwCl (fk_wx cJ cC cK ad kd (nI n) lo ch ts u4.1 u4.2 f3 f4 f5 ++ tl) H := hP
      have hD : va_D A (fk_wx cJ cC cK ad kd (nI n) lo ch ts u4.1 u4.2 f3 f4 f5 ++ tl) := hD
      obtain ⟨hTu4, hBu4⟩ := hw
      have hTu4 : fk_R (fk_v (kf i) x) u4.1 := hTu4
      have hBu4 : fk_R (fk_dn (kf i)) u4.2 := hBu4
      have bvu4 := fk_v_bd ok_i x
      have bdu4 := fk_dn_bd ok_i
      refine lv_aload_n hx hb dX3_compare_38 rfl (lv_at hl 2 rfl) ?_
      refine va_get (D := D) (ci := 4) (v := .ref (ad 8)) (C := RX3) (T := TX3) (N := 8) hx hb hts k2 hown hK hP 0 rfl rfl 6 (by decide) k7 (fun _ h9 => h9) rfl dX3_compare_39 ?_
      refine lv_aload hx hb dX3_compare_42 (lv_at hl 0 rfl) ?_
      refine lv_lload hx hb dX3_compare_44 (lv_at hl 6 rfl) ?_
      refine fk_cv hD hS hA (va_runVN (As := [.ref (ka j), .long y]) (rest := []) ⟨hx, hb, hml, hown, hts⟩ (kX0_take _ _ (ad 8) (ad 9) (ad 10) (ad 11) (ad 12) 8 9 10 11 12 f3 f4 (ka j) (kp j + 15) (kf j).1 (kf j).2.1 (kf j).2.2.2.2.2.1 (kf j).2.2.2.2.2.2 (kf j).2.2.1 (kf j).2.2.2.1 (kf j).2.2.2.2.1 y rfl rfl rfl rfl rfl (fk_tl (hKT.2.1 j hj).2.1) okd_j (by decide)) ⟨va_cnB 2 hts gX3_compare_X0_take_n72 rfl rfl rfl k3 k4 (by decide +kernel) ⟨Nat.le_of_ble_eq_true rfl, Nat.le_of_ble_eq_true rfl⟩, k5, k6⟩ (fk_preV 8 1 hK hN hP hD rfl rfl) rfl rfl hl.1 rfl (lv_room (Nat.le_of_ble_eq_true rfl)) dX3_compare_46 ⟨Nat.le_of_ble_eq_true rfl, Nat.le_of_ble_eq_true rfl⟩) (fun u6 H locs hw hP hD hS => ?_)
      have hP : va_P D vwCl (fk_wx cJ cC cK ad kd (nI n) lo ch ts u4.1 u4.2 u6.1 u6.2 f5 ++ tl) H := hP
      have hD : va_D A (fk_wx cJ cC cK ad kd (nI n) lo ch ts u4.1 u4.2 u6.1 u6.2 f5 ++ tl) := hD
      obtain ⟨hTu6, hBu6⟩ := hw
      have hTu6 : fk_R (fk_v (kf j) y) u6.1 := hTu6
      have hBu6 : fk_R (fk_dn (kf j)) u6.2 := hBu6
      have bvu6 := fk_v_bd ok_j y
      have bdu6 := fk_dn_bd ok_j
      refine lv_aload_n hx hb dX3_compare_49 rfl (lv_at hl 2 rfl) ?_
      refine va_get (D := D) (ci := 4) (v := .ref (ad 3)) (C := RX3) (T := TX3) (N := 8) hx hb hts k2 hown hK hP 0 rfl rfl 5 (by decide) k1 (fun _ h9 => h9) rfl dX3_compare_50 ?_
      refine lv_aload_n hx hb dX3_compare_53 rfl (lv_at hl 2 rfl) ?_
      refine va_get (D := D) (ci := 4) (v := .ref (ad 8)) (C := RX3) (T := TX3) (N := 8) hx hb hts k2 hown hK hP 0 rfl rfl 6 (by decide) k7 (fun _ h9 => h9) rfl dX3_compare_54 ?_
      refine lv_ldc2 (v := (-1)) hx hb hown k8 dX3_compare_57 ?_
      refine fk_cv hD hS hA (va_runVN (As := [.ref (ad 8), .long (-1)]) (rest := []) ⟨hx, hb, hml, hown, hts⟩ (kX0_add _ ad tl kd (nI n) lo ch ts u4.1 u4.2 u6.1 u6.2 f5 (-1) _ _ _ _ hTu4 hBu4 hTu6 hBu6 (by decide)) ⟨va_cnB 2 hts gX3_compare_X0_add_n149 rfl rfl rfl k9 k4 (by decide +kernel) ⟨Nat.le_of_ble_eq_true rfl, Nat.le_of_ble_eq_true rfl⟩, k10, k11⟩ (fk_preV 3 1 hK hN hP hD rfl rfl) rfl rfl hl.1 rfl (lv_room (Nat.le_of_ble_eq_true rfl)) dX3_compare_60 ⟨Nat.le_of_ble_eq_true rfl, Nat.le_of_ble_eq_true rfl⟩) (fun u8 H locs hw hP hD hS => ?_)
      have hP : va_P D vwCl (fk_wx cJ cC cK ad kd (nI n) lo ch ts u8.1 u8.2.1 u8.2.2 u6.2 f5 ++ tl) H := hP
      have hD : va_D A (fk_wx cJ cC cK ad kd (nI n) lo ch ts u8.1 u8.2.1 u8.2.2 u6.2 f5 ++ tl) := hD
      rw [show ((-1) : Int64).toInt = (-1) by decide] at hw
      obtain ⟨hd1, hd2⟩ := hw
      have m1 := fk_pbd (a := fk_v (kf i) x) (b := fk_dn (kf j)) (A := 18889465931478580854784) (B := 1000) (by omega) (by omega) (by omega) (by omega) (by omega)
      have m2 := fk_pbd (a := fk_v (kf j) y) (b := fk_dn (kf i)) (A := 18889465931478580854784) (B := 1000) (by omega) (by omega) (by omega) (by omega) (by omega)
      refine lv_aload_n hx hb dX3_compare_63 rfl (lv_at hl 2 rfl) ?_
      refine va_get (D := D) (ci := 4) (v := .ref (ad 3)) (C := RX3) (T := TX3) (N := 8) hx hb hts k2 hown hK hP 0 rfl rfl 5 (by decide) k1 (fun _ h9 => h9) rfl dX3_compare_64 ?_
      refine fk_ci hD hS hA (va_runVN (As := []) (rest := []) ⟨hx, hb, hml, hown, hts⟩ (kX0_sign _ _ (ad 3) (ad 4) (ad 5) (ad 6) (ad 7) 3 4 5 6 7 u8.1 u8.2.1 _ rfl rfl rfl hd1 ⟨by omega, by omega⟩) ⟨va_cnB 0 hts gX3_compare_X0_sign_n76 rfl rfl rfl k12 k4 (by decide +kernel) ⟨Nat.le_of_ble_eq_true rfl, Nat.le_of_ble_eq_true rfl⟩, k13, k14⟩ (fk_preV 3 1 hK hN hP hD rfl rfl) rfl rfl hl.1 rfl (lv_room (Nat.le_of_ble_eq_true rfl)) dX3_compare_67 ⟨Nat.le_of_ble_eq_true rfl, Nat.le_of_ble_eq_true rfl⟩) (fun r10 u H locs hw hP hD hS => ?_)
      have hP : va_P D vwCl (fk_wx cJ cC cK ad kd (nI n) lo ch ts u8.1 u8.2.1 u8.2.2 u6.2 f5 ++ tl) H := hP
      have hD : va_D A (fk_wx cJ cC cK ad kd (nI n) lo ch ts u8.1 u8.2.1 u8.2.2 u6.2 f5 ++ tl) := hD
      rw [hQQ]
      exact W.iret (v := r10) hx hb hr (fun t ht hW => ⟨⟨r10, (lo, u8.1, u8.2.1, u8.2.2, u6.2, f5), rfl, ⟨hw.trans (Eq.symm (by rw [fk_sCmp, if_neg (fun q => q.elim (fk_no_j hi hn40) (fk_no_j hj hn40)), fk_ix_j hi hn40, fk_ix_j hj hn40]; rfl)), rfl⟩, by rw [ht]; exact hP, va_K.moved hW.alike hK, hD⟩, hS.F ht⟩) hS.2.2 dX3_compare_70
end
section
/-! FixedKinds: octet, half, by program -/
theorem fk_ushr8 (x : Int64) {i : Nat} (hi : i < 8) : (x.toUInt64 >>> ((nI (8 * i)).toInt64.toUInt64 &&& Int64.toUInt64 63)).toInt64.toInt % 18446744073709551616 = x.toInt % 18446744073709551616 / 2 ^ (8 * i) := fk_ushrk x (by omega)
theorem fk_mod64 {w : Nat} (hw : w ≤ 64) (v : Int) (k : Nat) : v % 2 ^ w / 2 ^ k % 18446744073709551616 = v % 2 ^ w / 2 ^ k := by
  have h1 := Int.emod_nonneg v (show (2 : Int) ^ w ≠ 0 by have := fk_2p w; omega)
  have h2 := Int.emod_lt_of_pos v (fk_2p w)
  have h3 : 0 ≤ v % 2 ^ w / 2 ^ k := Int.ediv_nonneg h1 (Int.le_of_lt (fk_2p k))
  have h4 : v % 2 ^ w / 2 ^ k ≤ v % 2 ^ w := Int.ediv_le_self _ h1
  have h5 : (2 : Int) ^ w ≤ 2 ^ 64 := by
    have e : (2 : Int) ^ 64 = 2 ^ w * 2 ^ (64 - w) := by rw [← fk_2a]; congr 1; omega
    have q := fk_2p (64 - w)
    have p := fk_2p w
    have : 2 ^ w * 1 ≤ (2 : Int) ^ w * 2 ^ (64 - w) := Int.mul_le_mul_of_nonneg_left (by omega) (by omega)
    omega
  exact Int.emod_eq_of_lt h3 (by omega)
abbrev rmX3_octet : Room := { frames := 1, cells := 0, slots := 0, locals := 23 }
set_option maxHeartbeats 4000000 in
set_option maxRecDepth 100000 in
/-- octet -/
theorem kX3_octet {l : Launch} {D : va_G} {cJ cC cI cZ cK : ClassId} (sz : Nat) (ad : Nat → Nat) (tl : va_W) (kd : Nat → Option Nat) (lo : Int32) (ch : Nat → Int32) (ts : Int32) (f1 f2 f3 f4 f5 : Nat → Int64) (n : Nat) (kf : Nat → fk_K) (ka kp : Nat → Nat) (num i0 : Int32) (v : Int64) (hKT : fk_KT n kf kd ka kp tl) : Met l yX3_octet wsX3_octet rmX3_octet (va_Pc [.ref (ad 0), .int num, .long v, .int i0] (fk_pre D (fk_ty cJ cC cI cZ cK) (fk_wx cJ cC cK ad kd (nI n) lo ch ts f1 f2 f3 f4 f5 ++ tl) sz)) (va_Qi (fun (r : Int32) (_ : Unit) => r = fk_sOct n kf num v i0) (fk_Bd D (fk_ty cJ cC cI cZ cK) (va_A (fk_wx cJ cC cK ad kd (nI n) lo ch ts f1 f2 f3 f4 f5 ++ tl) sz) (fun _ : Unit => fk_wx cJ cC cK ad kd (nI n) lo ch ts f1 f2 f3 f4 f5 ++ tl)) (va_A (fk_wx cJ cC cK ad kd (nI n) lo ch ts f1 f2 f3 f4 f5 ++ tl) sz)) 0 0 (va_A (fk_wx cJ cC cK ad kd (nI n) lo ch ts f1 f2 f3 f4 f5 ++ tl) sz) := by
  refine fk_ofW cX3_octet 6 (some .byte) (fun A => va_Qi (fun (r : Int32) (_ : Unit) => r = fk_sOct n kf num v i0) (fk_Bd D (fk_ty cJ cC cI cZ cK) A (fun _ : Unit => fk_wx cJ cC cK ad kd (nI n) lo ch ts f1 f2 f3 f4 f5 ++ tl)) A) rfl (by decide) (Nat.le_of_ble_eq_true rfl) ?_
  intro p e s m below meth c A ls args QQ hQQ hAt hP hK hN hD hA hS hl
  obtain ⟨⟨hx, hb, hml, hown, hts⟩, hr, hlocks, hin⟩ := hAt
  have hl : lv_has ls 6 [(0, .ref (ad 0)), (1, .int num), (2, .long v), (4, .int i0)] := hl
  have k1 := hN _ fkn_X3_153
  have k2 := hts (.initialized RX1) (by decide +kernel)
  have k3 := hts (.instanceMethod yX1_octets) (by decide +kernel)
  have k4 := hts (.selects RX1 yX1_octets yX1_octets) (by decide +kernel)
  have k5 := hN _ fkn_X3_156
  have k6 := hts (.instanceMethod yX1_bits) (by decide +kernel)
  have k7 := hts (.selects RX1 yX1_bits yX1_bits) (by decide +kernel)
  have hn40 := hKT.1
  refine lv_aload_n hx hb dX3_octet_0 rfl (lv_at hl 0 rfl) ?_
  refine lv_iload_n hx hb dX3_octet_1 rfl (lv_at hl 1 rfl) ?_
  refine fk_cq hD hS hA (va_runV (As := [.int num]) (rest := []) ⟨hx, hb, hml, hown, hts⟩ (kX3_find _ ad tl kd lo ch ts f1 f2 f3 f4 f5 n kf ka kp num hKT) (cwV 1 hts gX3_octet_X3_find rfl rfl rfl (by decide +kernel) ⟨Nat.le_of_ble_eq_true rfl, Nat.le_of_ble_eq_true rfl⟩) (fk_preV 0 4 hK hN hP hD rfl rfl) rfl rfl hl.1 rfl (lv_room (Nat.le_of_ble_eq_true rfl)) dX3_octet_2 ⟨Nat.le_of_ble_eq_true rfl, Nat.le_of_ble_eq_true rfl⟩) (fun r1 u H locs hw hP hD hS => ?_)
  have hP : va_P D vwCl (fk_wx cJ cC cK ad kd (nI n) lo ch ts f1 f2 f3 f4 f5 ++ tl) H := hP
  have hD : va_D A (fk_wx cJ cC cK ad kd (nI n) lo ch ts f1 f2 f3 f4 f5 ++ tl) := hD
  rcases hw with ⟨hr_j, hno_j⟩ | ⟨j, hj, hn_j, hr_j⟩
  · subst hr_j
    refine lv_astoreN (lv' := [(5, .null), (0, .ref (ad 0)), (1, .int num), (2, .long v), (4, .int i0)]) hx hb dX3_octet_5 hl (by decide) rfl (fun ls hl => ?_)
    refine lv_aloadN hx hb dX3_octet_7 (lv_at hl 0 rfl) ?_
    refine lv_ifnullN (tgt := 27) hx hb dX3_octet_9 (by decide) ?_
    refine lv_iconst (v := 0) hx hb dX3_octet_27 (by decide) ?_
    rw [hQQ]
    exact W.zret (v := 0) hx hb hr rfl (fun t ht hW => ⟨⟨0, (), rfl, (by rw [fk_sOct, if_pos (Or.inl hno_j)]), by rw [ht]; exact hP, va_K.moved hW.alike hK, hD⟩, hS.F ht⟩) hS.2.2 dX3_octet_28
  · subst hr_j
    subst hn_j
    have ok_j := (hKT.2.1 j hj).2.2
    obtain ⟨okd_j, oko_j, okr_j⟩ := id ok_j
    refine lv_astore (lv' := [(5, .ref (ka j)), (0, .ref (ad 0)), (1, .int (nI (j + 1))), (2, .long v), (4, .int i0)]) hx hb dX3_octet_5 hl (by decide) rfl (fun ls hl => ?_)
    refine lv_aload hx hb dX3_octet_7 (lv_at hl 0 rfl) ?_
    refine lv_ifnull hx hb dX3_octet_9 ?_
    refine lv_iload hx hb dX3_octet_12 (lv_at hl 4 rfl) ?_
    refine lv_if_lt (tgt := 27) hx hb dX3_octet_14 (by decide) (fun c_14 => ?_) (fun c_14 => ?_)
    · rw [Int32.lt_iff_toInt_lt, show (0 : Int32).toInt = 0 by decide] at c_14
      refine lv_iconst (v := 0) hx hb dX3_octet_27 (by decide) ?_
      rw [hQQ]
      exact W.zret (v := 0) hx hb hr rfl (fun t ht hW => ⟨⟨0, (), rfl, (by rw [fk_sOct, if_pos (by rw [fk_ix_j hj hn40]; exact Or.inr (Or.inl c_14))]), by rw [ht]; exact hP, va_K.moved hW.alike hK, hD⟩, hS.F ht⟩) hS.2.2 dX3_octet_28
    · rw [Int32.lt_iff_toInt_lt, show (0 : Int32).toInt = 0 by decide] at c_14
      refine lv_iload hx hb dX3_octet_17 (lv_at hl 4 rfl) ?_
      refine lv_aload hx hb dX3_octet_19 (lv_at hl 0 rfl) ?_
      refine fk_ci hD hS hA (va_runVN (As := []) (rest := [.int i0]) ⟨hx, hb, hml, hown, hts⟩ (kX1_octets _ _ (ka j) (kp j + 15) (kf j).1 (kf j).2.1 (kf j).2.2.2.2.2.1 (kf j).2.2.2.2.2.2 (kf j).2.2.1 (kf j).2.2.2.1 (kf j).2.2.2.2.1 (fk_tl (hKT.2.1 j hj).2.1) okd_j.1) ⟨va_cnB 0 hts gX3_octet_X1_octets_n153 rfl rfl rfl k1 k2 (by decide +kernel) ⟨Nat.le_of_ble_eq_true rfl, Nat.le_of_ble_eq_true rfl⟩, k3, k4⟩ (fk_preV (kp j + 15) 2 hK hN hP hD rfl (fk_tl (hKT.2.1 j hj).2.1)) rfl rfl hl.1 rfl (lv_room (Nat.le_of_ble_eq_true rfl)) dX3_octet_21 ⟨Nat.le_of_ble_eq_true rfl, Nat.le_of_ble_eq_true rfl⟩) (fun r2 u H locs hw hP hD hS => ?_)
      have hP : va_P D vwCl (fk_wx cJ cC cK ad kd (nI n) lo ch ts f1 f2 f3 f4 f5 ++ tl) H := hP
      have hD : va_D A (fk_wx cJ cC cK ad kd (nI n) lo ch ts f1 f2 f3 f4 f5 ++ tl) := hD
      subst hw
      have hwd := okd_j.1
      refine lv_icmp_lt (tgt := 29) hx hb dX3_octet_24 (by decide) (fun c_24 => ?_) (fun c_24 => ?_)
      · rw [Int32.lt_iff_toInt_lt, nI_toInt (by have := hwd.2.1; omega)] at c_24
        obtain ⟨b, hb8, hbi⟩ : ∃ b : Nat, b < 8 ∧ i0 = nI b := ⟨i0.toInt.toNat, by have := hwd.2.1; omega, by apply Int32.toInt_inj.mp; rw [nI_toInt (by have := hwd.2.1; omega)]; omega⟩
        subst hbi
        rw [nI_toInt (by omega)] at c_24 c_14
        refine lv_aload hx hb dX3_octet_29 (lv_at hl 0 rfl) ?_
        refine lv_lload_n hx hb dX3_octet_31 rfl (lv_at hl 3 rfl) ?_
        refine fk_cl hD hS hA (va_runVN (As := [.long v]) (rest := []) ⟨hx, hb, hml, hown, hts⟩ (kX1_bits _ _ (ka j) (kp j + 15) (kf j).1 (kf j).2.1 (kf j).2.2.2.2.2.1 (kf j).2.2.2.2.2.2 (kf j).2.2.1 (kf j).2.2.2.1 (kf j).2.2.2.2.1 v (fk_tl (hKT.2.1 j hj).2.1) okd_j.1) ⟨va_cnB 1 hts gX3_octet_X1_bits_n156 rfl rfl rfl k5 k2 (by decide +kernel) ⟨Nat.le_of_ble_eq_true rfl, Nat.le_of_ble_eq_true rfl⟩, k6, k7⟩ (fk_preV (kp j + 15) 2 hK hN hP hD rfl (fk_tl (hKT.2.1 j hj).2.1)) rfl rfl hl.1 rfl (lv_room (Nat.le_of_ble_eq_true rfl)) dX3_octet_32 ⟨Nat.le_of_ble_eq_true rfl, Nat.le_of_ble_eq_true rfl⟩) (fun r3 u H locs hw hP hD hS => ?_)
        have hP : va_P D vwCl (fk_wx cJ cC cK ad kd (nI n) lo ch ts f1 f2 f3 f4 f5 ++ tl) H := hP
        have hD : va_D A (fk_wx cJ cC cK ad kd (nI n) lo ch ts f1 f2 f3 f4 f5 ++ tl) := hD
        have hbits := hw
        refine lv_bipush (v := 8) hx hb dX3_octet_35 (by decide) ?_
        refine lv_iload hx hb dX3_octet_37 (lv_at hl 4 rfl) ?_
        refine lv_imul hx hb dX3_octet_39 ?_
        refine lv_topi (fun x4 ex4 => ?_)
        have ex4q : x4 = nI (8 * b) := by
          rw [ex4]; exact pk_mul 8 b
        subst ex4q
        refine lv_lushr hx hb dX3_octet_40 rfl ?_
        refine lv_topl (fun x5 ex5 => ?_)
        refine lv_l2i hx hb dX3_octet_41 rfl ?_
        refine lv_topi (fun x6 ex6 => ?_)
        have hl2 : x6 = Int32.ofInt (v.toInt % 2 ^ (kf j).1 / 2 ^ (8 * b)) := by
          rw [ex6]; apply fk_l2i
          rw [ex5, fk_ushr8 _ hb8, hbits, fk_mod64 hwd.2.1]
        refine lv_i2b hx hb dX3_octet_42 rfl ?_
        refine lv_topi (fun x7 ex7 => ?_)
        rw [hQQ]
        exact W.zret (v := x7) hx hb hr (by rw [ex7]; exact pk_nb _) (fun t ht hW => ⟨⟨x7, (), rfl, (by rw [fk_sOct, if_neg (by rw [fk_ix_j hj hn40, nI_toInt (by omega)]; exact fun q => q.elim (fk_no_j hj hn40) (fun z => by omega)), fk_ix_j hj hn40, nI_toInt (by omega), fk_oc, ex7, hl2]; rfl), by rw [ht]; exact hP, va_K.moved hW.alike hK, hD⟩, hS.F ht⟩) hS.2.2 dX3_octet_43
      · rw [Int32.lt_iff_toInt_lt, nI_toInt (by have := hwd.2.1; omega)] at c_24
        refine lv_iconst (v := 0) hx hb dX3_octet_27 (by decide) ?_
        rw [hQQ]
        exact W.zret (v := 0) hx hb hr rfl (fun t ht hW => ⟨⟨0, (), rfl, (by rw [fk_sOct, if_pos (by rw [fk_ix_j hj hn40]; exact Or.inr (Or.inr (by omega)))]), by rw [ht]; exact hP, va_K.moved hW.alike hK, hD⟩, hS.F ht⟩) hS.2.2 dX3_octet_28
abbrev rmX3_half : Room := { frames := 1, cells := 0, slots := 0, locals := 23 }
set_option maxHeartbeats 4000000 in
set_option maxRecDepth 100000 in
/-- half -/
theorem kX3_half {l : Launch} {D : va_G} {cJ cC cI cZ cK : ClassId} (sz : Nat) (ad : Nat → Nat) (tl : va_W) (kd : Nat → Option Nat) (lo : Int32) (ch : Nat → Int32) (ts : Int32) (f1 f2 f3 f4 f5 : Nat → Int64) (n : Nat) (kf : Nat → fk_K) (ka kp : Nat → Nat) (num : Int32) (v : Int64) (hKT : fk_KT n kf kd ka kp tl) : Met l yX3_half wsX3_half rmX3_half (va_Pc [.ref (ad 0), .int num, .long v] (fk_pre D (fk_ty cJ cC cI cZ cK) (fk_wx cJ cC cK ad kd (nI n) lo ch ts f1 f2 f3 f4 f5 ++ tl) sz)) (va_Qi (fun (r : Int32) (_ : Unit) => r = fk_sHlf n kf num v) (fk_Bd D (fk_ty cJ cC cI cZ cK) (va_A (fk_wx cJ cC cK ad kd (nI n) lo ch ts f1 f2 f3 f4 f5 ++ tl) sz) (fun _ : Unit => fk_wx cJ cC cK ad kd (nI n) lo ch ts f1 f2 f3 f4 f5 ++ tl)) (va_A (fk_wx cJ cC cK ad kd (nI n) lo ch ts f1 f2 f3 f4 f5 ++ tl) sz)) 0 0 (va_A (fk_wx cJ cC cK ad kd (nI n) lo ch ts f1 f2 f3 f4 f5 ++ tl) sz) := by
  refine fk_ofW cX3_half 6 (some .short) (fun A => va_Qi (fun (r : Int32) (_ : Unit) => r = fk_sHlf n kf num v) (fk_Bd D (fk_ty cJ cC cI cZ cK) A (fun _ : Unit => fk_wx cJ cC cK ad kd (nI n) lo ch ts f1 f2 f3 f4 f5 ++ tl)) A) rfl (by decide) (Nat.le_of_ble_eq_true rfl) ?_
  intro p e s m below meth c A ls args QQ hQQ hAt hP hK hN hD hA hS hl
  obtain ⟨⟨hx, hb, hml, hown, hts⟩, hr, hlocks, hin⟩ := hAt
  have hl : lv_has ls 6 [(0, .ref (ad 0)), (1, .int num), (2, .long v)] := hl
  have k1 := hN _ fkn_X3_160
  have k2 := (by decide +kernel : ∀ w ∈ u_ws RX1 TX1 7, w ∈ wsX3_half)
  have k3 := hN _ fkn_X3_156
  have k4 := hts (.initialized RX1) (by decide +kernel)
  have k5 := hts (.instanceMethod yX1_bits) (by decide +kernel)
  have k6 := hts (.selects RX1 yX1_bits yX1_bits) (by decide +kernel)
  have hn40 := hKT.1
  refine lv_aload_n hx hb dX3_half_0 rfl (lv_at hl 0 rfl) ?_
  refine lv_iload_n hx hb dX3_half_1 rfl (lv_at hl 1 rfl) ?_
  refine fk_cq hD hS hA (va_runV (As := [.int num]) (rest := []) ⟨hx, hb, hml, hown, hts⟩ (kX3_find _ ad tl kd lo ch ts f1 f2 f3 f4 f5 n kf ka kp num hKT) (cwV 1 hts gX3_half_X3_find rfl rfl rfl (by decide +kernel) ⟨Nat.le_of_ble_eq_true rfl, Nat.le_of_ble_eq_true rfl⟩) (fk_preV 0 4 hK hN hP hD rfl rfl) rfl rfl hl.1 rfl (lv_room (Nat.le_of_ble_eq_true rfl)) dX3_half_2 ⟨Nat.le_of_ble_eq_true rfl, Nat.le_of_ble_eq_true rfl⟩) (fun r1 u H locs hw hP hD hS => ?_)
  have hP : va_P D vwCl (fk_wx cJ cC cK ad kd (nI n) lo ch ts f1 f2 f3 f4 f5 ++ tl) H := hP
  have hD : va_D A (fk_wx cJ cC cK ad kd (nI n) lo ch ts f1 f2 f3 f4 f5 ++ tl) := hD
  rcases hw with ⟨hr_j, hno_j⟩ | ⟨j, hj, hn_j, hr_j⟩
  · subst hr_j
    refine lv_astoreN (lv' := [(4, .null), (0, .ref (ad 0)), (1, .int num), (2, .long v)]) hx hb dX3_half_5 hl (by decide) rfl (fun ls hl => ?_)
    refine lv_aloadN hx hb dX3_half_7 (lv_at hl 0 rfl) ?_
    refine lv_ifnonnullN hx hb dX3_half_9 ?_
    refine lv_iconst (v := 0) hx hb dX3_half_12 (by decide) ?_
    rw [hQQ]
    exact W.zret (v := 0) hx hb hr rfl (fun t ht hW => ⟨⟨0, (), rfl, (by rw [fk_sHlf, if_pos hno_j]), by rw [ht]; exact hP, va_K.moved hW.alike hK, hD⟩, hS.F ht⟩) hS.2.2 dX3_half_13
  · subst hr_j
    subst hn_j
    have ok_j := (hKT.2.1 j hj).2.2
    obtain ⟨okd_j, oko_j, okr_j⟩ := id ok_j
    refine lv_astore (lv' := [(4, .ref (ka j)), (0, .ref (ad 0)), (1, .int (nI (j + 1))), (2, .long v)]) hx hb dX3_half_5 hl (by decide) rfl (fun ls hl => ?_)
    refine lv_aload hx hb dX3_half_7 (lv_at hl 0 rfl) ?_
    refine lv_ifnonnull (tgt := 14) hx hb dX3_half_9 (by decide) ?_
    have hwd := okd_j.1
    have hw64 := hwd.2.1
    refine lv_aload hx hb dX3_half_14 (lv_at hl 0 rfl) ?_
    refine va_getN (D := D) (ci := 2) (v := .int (nI (kf j).1)) (C := RX1) (T := TX1) (N := 7) hx hb hts k2 hown hK hP (kp j + 15) (fk_tl (hKT.2.1 j hj).2.1) rfl 0 (by decide) (va_Nw.use rfl k1) (fun _ h9 => h9) rfl dX3_half_16 ?_
    refine lv_aload hx hb dX3_half_19 (lv_at hl 0 rfl) ?_
    refine va_getN (D := D) (ci := 2) (v := .int (nI (kf j).1)) (C := RX1) (T := TX1) (N := 7) hx hb hts k2 hown hK hP (kp j + 15) (fk_tl (hKT.2.1 j hj).2.1) rfl 0 (by decide) (va_Nw.use rfl k1) (fun _ h9 => h9) rfl dX3_half_21 ?_
    refine lv_iconst (v := 2) hx hb dX3_half_24 (by decide) ?_
    refine lv_idiv hx hb dX3_half_25 (by decide) ?_
    refine lv_topi (fun x2 ex2 => ?_)
    have ex2q : x2 = nI ((kf j).1 / 2) := by
      rw [ex2]; exact pk_div (a := (kf j).1) (d := 2) (by omega) (by omega) (by omega)
    subst ex2q
    refine lv_isub hx hb dX3_half_26 ?_
    refine lv_topi (fun x3 ex3 => ?_)
    have ex3q : x3 = nI ((kf j).1 - (kf j).1 / 2) := by
      rw [ex3]; exact pk_sub (by omega)
    subst ex3q
    refine lv_istore (lv' := [(5, .int (nI ((kf j).1 - (kf j).1 / 2))), (4, .ref (ka j)), (0, .ref (ad 0)), (1, .int (nI (j + 1))), (2, .long v)]) hx hb dX3_half_27 hl (by decide) rfl (fun ls hl => ?_)
    refine lv_aload hx hb dX3_half_29 (lv_at hl 1 rfl) ?_
    refine lv_lload_n hx hb dX3_half_31 rfl (lv_at hl 4 rfl) ?_
    refine fk_cl hD hS hA (va_runVN (As := [.long v]) (rest := []) ⟨hx, hb, hml, hown, hts⟩ (kX1_bits _ _ (ka j) (kp j + 15) (kf j).1 (kf j).2.1 (kf j).2.2.2.2.2.1 (kf j).2.2.2.2.2.2 (kf j).2.2.1 (kf j).2.2.2.1 (kf j).2.2.2.2.1 v (fk_tl (hKT.2.1 j hj).2.1) okd_j.1) ⟨va_cnB 1 hts gX3_half_X1_bits_n156 rfl rfl rfl k3 k4 (by decide +kernel) ⟨Nat.le_of_ble_eq_true rfl, Nat.le_of_ble_eq_true rfl⟩, k5, k6⟩ (fk_preV (kp j + 15) 2 hK hN hP hD rfl (fk_tl (hKT.2.1 j hj).2.1)) rfl rfl hl.1 rfl (lv_room (Nat.le_of_ble_eq_true rfl)) dX3_half_32 ⟨Nat.le_of_ble_eq_true rfl, Nat.le_of_ble_eq_true rfl⟩) (fun r4 u H locs hw hP hD hS => ?_)
    have hP : va_P D vwCl (fk_wx cJ cC cK ad kd (nI n) lo ch ts f1 f2 f3 f4 f5 ++ tl) H := hP
    have hD : va_D A (fk_wx cJ cC cK ad kd (nI n) lo ch ts f1 f2 f3 f4 f5 ++ tl) := hD
    have hbits := hw
    refine lv_iload hx hb dX3_half_35 (lv_at hl 0 rfl) ?_
    refine lv_lushr hx hb dX3_half_37 rfl ?_
    refine lv_topl (fun x5 ex5 => ?_)
    refine lv_l2i hx hb dX3_half_38 rfl ?_
    refine lv_topi (fun x6 ex6 => ?_)
    have hl2 : x6 = Int32.ofInt (v.toInt % 2 ^ (kf j).1 / 2 ^ ((kf j).1 - (kf j).1 / 2)) := by
      rw [ex6]; apply fk_l2i
      rw [ex5, fk_ushrk _ (by omega), hbits, fk_mod64 hwd.2.1]
    refine lv_i2s hx hb dX3_half_39 rfl ?_
    refine lv_topi (fun x7 ex7 => ?_)
    rw [hQQ]
    exact W.zret (v := x7) hx hb hr (by rw [ex7]; exact pk_ns _) (fun t ht hW => ⟨⟨x7, (), rfl, (by rw [fk_sHlf, if_neg (fk_no_j hj hn40), fk_ix_j hj hn40, ex7, hl2]), by rw [ht]; exact hP, va_K.moved hW.alike hK, hD⟩, hS.F ht⟩) hS.2.2 dX3_half_40
end
section
/-! What physical and text tell; how a text stands in its row. -/
def fk_num (a b : Int) : Int := fk_abs a / fk_gc a b * (if a < 0 then -1 else 1)
def fk_ph (a b : Int) (side : Int32) : Int := if side = 0 then b / fk_gc a b else if side = 1 then fk_num a b % 4294967296 else if side = 2 then fk_num a b / 4294967296 % 4294967296 else fk_num a b / 18446744073709551616
noncomputable def fk_sPhy (n : Nat) (kf : Nat → fk_K) (k : Int32) (v : Int64) (side : Int32) : Int :=
  haveI := Classical.propDecidable (fk_no n k ∨ side.toInt < 0 ∨ 3 < side.toInt); if fk_no n k ∨ side.toInt < 0 ∨ 3 < side.toInt then 0 else fk_ph (fk_v (kf (fk_ix k)) v) (fk_dn (kf (fk_ix k))) side
theorem fk_low32 (y : Int) : (Int64.ofInt y &&& 4294967295).toInt = y % 4294967296 := by
  rw [fk_and 32 (by omega) (by decide)]
  have q : (Int64.ofInt y).toInt % 18446744073709551616 = y % 18446744073709551616 := by
    rw [← fk_nat, fk_ofInt_nat]; omega
  show (Int64.ofInt y).toInt % 4294967296 = y % 4294967296
  omega
theorem fk_num_bd {a b : Int} (ha : -18889465931478580854784 ≤ a ∧ a ≤ 18889465931478580854784) (hb : 0 < b) : -18889465931478580854784 ≤ fk_num a b ∧ fk_num a b ≤ 18889465931478580854784 := by
  have h1 := fk_abs_bd ha.1 ha.2
  have h2 := fk_gc_bd a hb
  have h3 : 0 ≤ fk_abs a / fk_gc a b := Int.ediv_nonneg h1.1 (by omega)
  have h4 : fk_abs a / fk_gc a b ≤ fk_abs a := Int.ediv_le_self _ h1.1
  rw [fk_num]
  split <;> omega
/-- the characters of a text, the last one first -/
def fk_dc (m : Int) : Int32 := nI (48 + (m % 10).toNat)
def fk_pl : Nat → Int → List Int32 → List Int32
  | 0, _, L => L
  | k + 1, m, L => fk_pl k (m / 10) (if m % 10 ≠ 0 ∨ L ≠ [] then L ++ [fk_dc m] else L)
def fk_wl : Nat → Int → List Int32 → List Int32
  | 0, _, L => L
  | k + 1, m, L => if m = 0 then L else fk_wl k (m / 10) (L ++ [fk_dc m])
def fk_pt (L : List Int32) : List Int32 := if L ≠ [] then L ++ [46] else L
def fk_ms (a b : Int) : Int := (fk_abs a * 2000000 + b) / (2 * b)
def fk_tl4 (a b : Int) : List Int32 := fk_wl 39 (fk_ms a b / 1000000 / 10) (fk_pt (fk_pl 6 (fk_ms a b) []) ++ [fk_dc (fk_ms a b / 1000000)])
def fk_txt (a b : Int) : List Int32 := if a < 0 ∧ fk_ms a b ≠ 0 then fk_tl4 a b ++ [45] else fk_tl4 a b
theorem fk_pl_len (k : Nat) : ∀ (m : Int) (L : List Int32), (fk_pl k m L).length ≤ L.length + k := by
  induction k with
  | zero => intro m L; exact Nat.le_refl _
  | succ k ih =>
    intro m L
    rw [fk_pl]
    split
    · have := ih (m / 10) (L ++ [fk_dc m])
      simp only [List.length_append, List.length_singleton] at this
      omega
    · have := ih (m / 10) L
      omega
theorem fk_wl_len (c : Nat) : ∀ (k : Nat) (m : Int) (L : List Int32), 0 ≤ m → m < 10 ^ c → (fk_wl k m L).length ≤ L.length + c := by
  induction c with
  | zero =>
    intro k m L h0 h1
    have : m = 0 := by simp at h1; omega
    subst this
    cases k <;> simp [fk_wl]
  | succ c ih =>
    intro k m L h0 h1
    cases k with
    | zero => simp [fk_wl]
    | succ k =>
      rw [fk_wl]
      split
      · omega
      · have := ih k (m / 10) (L ++ [fk_dc m]) (by omega) (by rw [Int.pow_succ] at h1; omega)
        simp only [List.length_append, List.length_singleton] at this
        omega
theorem fk_wl_0 (k : Nat) (L : List Int32) : fk_wl k 0 L = L := by cases k <;> simp [fk_wl]
theorem fk_wl_s {k : Nat} {m : Int} (L : List Int32) (h : m ≠ 0) : fk_wl (k + 1) m L = fk_wl k (m / 10) (L ++ [fk_dc m]) := by rw [fk_wl, if_neg h]
/-- a text L (its last character first) stands at the end of a row of 40 -/
def fk_Tx (L : List Int32) (ch : Nat → Int32) (t : Nat) : Prop := t + L.length = 40 ∧ ∀ i, i < L.length → ch (39 - i) = L.getD i 0
theorem fk_Tx_0 (ch : Nat → Int32) : fk_Tx [] ch 40 := ⟨rfl, fun i h => absurd h (Nat.not_lt_zero i)⟩
theorem fk_Tx_add {L : List Int32} {ch : Nat → Int32} {t : Nat} (c : Int32) (h : fk_Tx L ch t) (ht : 0 < t) : fk_Tx (L ++ [c]) (upd ch (t - 1) c) (t - 1) := by
  obtain ⟨h1, h2⟩ := h
  refine ⟨by simp only [List.length_append, List.length_singleton]; omega, fun i hi => ?_⟩
  simp only [List.length_append, List.length_singleton] at hi
  by_cases q : i = L.length
  · subst q
    rw [show 39 - L.length = t - 1 by omega, pk_us]
    simp
  · rw [pk_un (by omega), h2 i (by omega)]
    simp only [List.getD_eq_getElem?_getD]
    rw [List.getElem?_append_left (by omega)]
theorem fk_nch : ∀ q, q < 256 → vp_nar .char (nI q) = nI q ∧ narrow .char (.int (nI q)) = .int (nI q) := by decide +kernel
theorem fk_dch {d : Int64} {m : Int} (hd : d.toInt = m % 10) : (((48 + d).toInt32).toUInt32 % 65536).toInt32 = fk_dc m := by
  have h0 := Int.emod_nonneg m (show (10 : Int) ≠ 0 by decide)
  have h1 := Int.emod_lt_of_pos m (show (0 : Int) < 10 by decide)
  have e : d = lN (m % 10).toNat := by apply Int64.toInt_inj.mp; rw [pk_lT (by omega), hd]; omega
  rw [fk_dc, e]
  generalize hk : (m % 10).toNat = k
  have hk10 : k < 10 := by omega
  have key : ∀ k, k < 10 → (((48 + lN k).toInt32).toUInt32 % 65536).toInt32 = nI (48 + k) := by decide +kernel
  exact key k hk10
theorem fk_dc_lt (m : Int) : ∃ q, q < 256 ∧ fk_dc m = nI q := by
  have h1 := Int.emod_lt_of_pos m (show (0 : Int) < 10 by decide)
  exact ⟨48 + (m % 10).toNat, by omega, rfl⟩
theorem fk_ms_bd {a b : Int} (ha : -18889465931478580854784 ≤ a ∧ a ≤ 18889465931478580854784) (hb : 1 ≤ b ∧ b ≤ 1000) : 0 ≤ fk_ms a b ∧ fk_ms a b < 1000000000000000000000000000000 := by
  have h1 := fk_abs_bd ha.1 ha.2
  rw [fk_ms]
  refine ⟨Int.ediv_nonneg (by omega) (by omega), ?_⟩
  rw [Int.ediv_lt_iff_lt_mul (by omega)]
  omega
end
section
/-! FixedKinds: physical, by program -/
theorem fk_03 {x : Int32} (h0 : ¬ x.toInt < 0) (h3 : x.toInt ≤ 3) : x = 0 ∨ x = 1 ∨ x = 2 ∨ x = 3 := by
  have key : ∀ k : Nat, k < 4 → x.toInt = k → x = nI k := fun k hk e => Int32.toInt_inj.mp (by rw [nI_toInt (by omega)]; exact e)
  rcases (show x.toInt = 0 ∨ x.toInt = 1 ∨ x.toInt = 2 ∨ x.toInt = 3 by omega) with q | q | q | q
  · exact Or.inl (key 0 (by omega) q)
  · exact Or.inr (Or.inl (key 1 (by omega) q))
  · exact Or.inr (Or.inr (Or.inl (key 2 (by omega) q)))
  · exact Or.inr (Or.inr (Or.inr (key 3 (by omega) q)))
abbrev rmX3_physical : Room := { frames := 3, cells := 0, slots := 0, locals := 71 }
set_option maxHeartbeats 4000000 in
set_option maxRecDepth 100000 in
/-- physical -/
theorem kX3_physical {l : Launch} {D : va_G} {cJ cC cI cZ cK : ClassId} (sz : Nat) (ad : Nat → Nat) (tl : va_W) (kd : Nat → Option Nat) (lo : Int32) (ch : Nat → Int32) (ts : Int32) (f1 f2 f3 f4 f5 : Nat → Int64) (n : Nat) (kf : Nat → fk_K) (ka kp : Nat → Nat) (num side : Int32) (v : Int64) (hKT : fk_KT n kf kd ka kp tl) : Met l yX3_physical wsX3_physical rmX3_physical (va_Pc [.ref (ad 0), .int num, .long v, .int side] (fk_pre D (fk_ty cJ cC cI cZ cK) (fk_wx cJ cC cK ad kd (nI n) lo ch ts f1 f2 f3 f4 f5 ++ tl) sz)) (va_Ql (fun (r : Int64) (u : Int32 × (Nat → Int64) × (Nat → Int64) × (Nat → Int64) × (Nat → Int64) × (Nat → Int64)) => r.toInt = fk_sPhy n kf num v side ∧ u.1 = lo) (fk_Bd D (fk_ty cJ cC cI cZ cK) (va_A (fk_wx cJ cC cK ad kd (nI n) lo ch ts f1 f2 f3 f4 f5 ++ tl) sz) (fun u : Int32 × (Nat → Int64) × (Nat → Int64) × (Nat → Int64) × (Nat → Int64) × (Nat → Int64) => fk_wx cJ cC cK ad kd (nI n) u.1 ch ts u.2.1 u.2.2.1 u.2.2.2.1 u.2.2.2.2.1 u.2.2.2.2.2 ++ tl)) (va_A (fk_wx cJ cC cK ad kd (nI n) lo ch ts f1 f2 f3 f4 f5 ++ tl) sz)) 0 0 (va_A (fk_wx cJ cC cK ad kd (nI n) lo ch ts f1 f2 f3 f4 f5 ++ tl) sz) := by
  refine fk_ofW cX3_physical 6 (some .long) (fun A => va_Ql (fun (r : Int64) (u : Int32 × (Nat → Int64) × (Nat → Int64) × (Nat → Int64) × (Nat → Int64) × (Nat → Int64)) => r.toInt = fk_sPhy n kf num v side ∧ u.1 = lo) (fk_Bd D (fk_ty cJ cC cI cZ cK) A (fun u : Int32 × (Nat → Int64) × (Nat → Int64) × (Nat → Int64) × (Nat → Int64) × (Nat → Int64) => fk_wx cJ cC cK ad kd (nI n) u.1 ch ts u.2.1 u.2.2.1 u.2.2.2.1 u.2.2.2.2.1 u.2.2.2.2.2 ++ tl)) A) rfl (by decide) (Nat.le_of_ble_eq_true rfl) ?_
  intro p e s m below meth c A ls args QQ hQQ hAt hP hK hN hD hA hS hl
  obtain ⟨⟨hx, hb, hml, hown, hts⟩, hr, hlocks, hin⟩ := hAt
  have hl : lv_has ls 6 [(0, .ref (ad 0)), (1, .int num), (2, .long v), (4, .int side)] := hl
  have k1 := hts (.fieldLink RX3 33 "FixedKinds" "first" "LFixedKinds$Fraction;") (by decide +kernel)
  have k2 := (by decide +kernel : ∀ w ∈ u_ws RX3 TX3 8, w ∈ wsX3_physical)
  have k3 := hN _ fkn_X3_72
  have k4 := hts (.initialized RX0) (by decide +kernel)
  have k5 := hts (.instanceMethod yX0_take) (by decide +kernel)
  have k6 := hts (.selects RX0 yX0_take yX0_take) (by decide +kernel)
  have k7 := hts (.fieldLink RX3 37 "FixedKinds" "second" "LFixedKinds$Fraction;") (by decide +kernel)
  have k8 := hN _ fkn_X3_98
  have k9 := (by decide +kernel : ∀ w ∈ u_ws RX0 TX0 2, w ∈ wsX3_physical)
  have k10 := hN _ fkn_X3_101
  have k11 := hts (.instanceMethod yX0_reduce) (by decide +kernel)
  have k12 := hts (.selects RX0 yX0_reduce yX0_reduce) (by decide +kernel)
  have k13 := hN _ fkn_X3_105
  have k14 := hN _ fkn_X3_108
  have k15 := hts (.initialized RX2) (by decide +kernel)
  have k16 := hts (.instanceMethod yX2_bitsFrom) (by decide +kernel)
  have k17 := hts (.selects RX2 yX2_bitsFrom yX2_bitsFrom) (by decide +kernel)
  have k18 := hts (.constantLong RX3 112 4294967295) (by decide +kernel)
  have hn40 := hKT.1
  refine lv_aload_n hx hb dX3_physical_0 rfl (lv_at hl 0 rfl) ?_
  refine lv_iload_n hx hb dX3_physical_1 rfl (lv_at hl 1 rfl) ?_
  refine fk_cq hD hS hA (va_runV (As := [.int num]) (rest := []) ⟨hx, hb, hml, hown, hts⟩ (kX3_find _ ad tl kd lo ch ts f1 f2 f3 f4 f5 n kf ka kp num hKT) (cwV 1 hts gX3_physical_X3_find rfl rfl rfl (by decide +kernel) ⟨Nat.le_of_ble_eq_true rfl, Nat.le_of_ble_eq_true rfl⟩) (fk_preV 0 4 hK hN hP hD rfl rfl) rfl rfl hl.1 rfl (lv_room (Nat.le_of_ble_eq_true rfl)) dX3_physical_2 ⟨Nat.le_of_ble_eq_true rfl, Nat.le_of_ble_eq_true rfl⟩) (fun r1 u H locs hw hP hD hS => ?_)
  have hP : va_P D vwCl (fk_wx cJ cC cK ad kd (nI n) lo ch ts f1 f2 f3 f4 f5 ++ tl) H := hP
  have hD : va_D A (fk_wx cJ cC cK ad kd (nI n) lo ch ts f1 f2 f3 f4 f5 ++ tl) := hD
  rcases hw with ⟨hr_j, hno_j⟩ | ⟨j, hj, hn_j, hr_j⟩
  · subst hr_j
    refine lv_astoreN (lv' := [(5, .null), (0, .ref (ad 0)), (1, .int num), (2, .long v), (4, .int side)]) hx hb dX3_physical_5 hl (by decide) rfl (fun ls hl => ?_)
    refine lv_aloadN hx hb dX3_physical_7 (lv_at hl 0 rfl) ?_
    refine lv_ifnullN (tgt := 23) hx hb dX3_physical_9 (by decide) ?_
    refine lv_lconst (v := 0) hx hb dX3_physical_23 (by decide) ?_
    rw [hQQ]
    exact W.lret (v := 0) hx hb hr (fun t ht hW => ⟨⟨0, (lo, f1, f2, f3, f4, f5), rfl, ⟨(by rw [fk_sPhy, if_pos (Or.inl hno_j)]; decide), rfl⟩, by rw [ht]; exact hP, va_K.moved hW.alike hK, hD⟩, hS.F ht⟩) hS.2.2 dX3_physical_24
  · subst hr_j
    subst hn_j
    have ok_j := (hKT.2.1 j hj).2.2
    obtain ⟨okd_j, oko_j, okr_j⟩ := id ok_j
    refine lv_astore (lv' := [(5, .ref (ka j)), (0, .ref (ad 0)), (1, .int (nI (j + 1))), (2, .long v), (4, .int side)]) hx hb dX3_physical_5 hl (by decide) rfl (fun ls hl => ?_)
    refine lv_aload hx hb dX3_physical_7 (lv_at hl 0 rfl) ?_
    refine lv_ifnull hx hb dX3_physical_9 ?_
    refine lv_iload hx hb dX3_physical_12 (lv_at hl 4 rfl) ?_
    refine lv_if_lt (tgt := 23) hx hb dX3_physical_14 (by decide) (fun c_14 => ?_) (fun c_14 => ?_)
    · rw [Int32.lt_iff_toInt_lt, show (0 : Int32).toInt = 0 by decide] at c_14
      refine lv_lconst (v := 0) hx hb dX3_physical_23 (by decide) ?_
      rw [hQQ]
      exact W.lret (v := 0) hx hb hr (fun t ht hW => ⟨⟨0, (lo, f1, f2, f3, f4, f5), rfl, ⟨(by rw [fk_sPhy, if_pos (Or.inr (Or.inl c_14))]; decide), rfl⟩, by rw [ht]; exact hP, va_K.moved hW.alike hK, hD⟩, hS.F ht⟩) hS.2.2 dX3_physical_24
    · rw [Int32.lt_iff_toInt_lt, show (0 : Int32).toInt = 0 by decide] at c_14
      refine lv_iload hx hb dX3_physical_17 (lv_at hl 4 rfl) ?_
      refine lv_iconst (v := 3) hx hb dX3_physical_19 (by decide) ?_
      refine lv_icmp_le (tgt := 25) hx hb dX3_physical_20 (by decide) (fun c_20 => ?_) (fun c_20 => ?_)
      · rw [Int32.le_iff_toInt_le, show (3 : Int32).toInt = 3 by decide] at c_20
        refine lv_aload_n hx hb dX3_physical_25 rfl (lv_at hl 1 rfl) ?_
        refine va_get (D := D) (ci := 4) (v := .ref (ad 3)) (C := RX3) (T := TX3) (N := 8) hx hb hts k2 hown hK hP 0 rfl rfl 5 (by decide) k1 (fun _ h9 => h9) rfl dX3_physical_26 ?_
        refine lv_aload hx hb dX3_physical_29 (lv_at hl 0 rfl) ?_
        refine lv_lload_n hx hb dX3_physical_31 rfl (lv_at hl 3 rfl) ?_
        refine fk_cv hD hS hA (va_runVN (As := [.ref (ka j), .long v]) (rest := []) ⟨hx, hb, hml, hown, hts⟩ (kX0_take _ _ (ad 3) (ad 4) (ad 5) (ad 6) (ad 7) 3 4 5 6 7 f1 f2 (ka j) (kp j + 15) (kf j).1 (kf j).2.1 (kf j).2.2.2.2.2.1 (kf j).2.2.2.2.2.2 (kf j).2.2.1 (kf j).2.2.2.1 (kf j).2.2.2.2.1 v rfl rfl rfl rfl rfl (fk_tl (hKT.2.1 j hj).2.1) okd_j (by decide)) ⟨va_cnB 2 hts gX3_physical_X0_take_n72 rfl rfl rfl k3 k4 (by decide +kernel) ⟨Nat.le_of_ble_eq_true rfl, Nat.le_of_ble_eq_true rfl⟩, k5, k6⟩ (fk_preV 3 1 hK hN hP hD rfl rfl) rfl rfl hl.1 rfl (lv_room (Nat.le_of_ble_eq_true rfl)) dX3_physical_32 ⟨Nat.le_of_ble_eq_true rfl, Nat.le_of_ble_eq_true rfl⟩) (fun u2 H locs hw hP hD hS => ?_)
        have hP : va_P D vwCl (fk_wx cJ cC cK ad kd (nI n) lo ch ts u2.1 u2.2 f3 f4 f5 ++ tl) H := hP
        have hD : va_D A (fk_wx cJ cC cK ad kd (nI n) lo ch ts u2.1 u2.2 f3 f4 f5 ++ tl) := hD
        obtain ⟨hTu2, hBu2⟩ := hw
        have hTu2 : fk_R (fk_v (kf j) v) u2.1 := hTu2
        have hBu2 : fk_R (fk_dn (kf j)) u2.2 := hBu2
        have bvu2 := fk_v_bd ok_j v
        have bdu2 := fk_dn_bd ok_j
        refine lv_aload_n hx hb dX3_physical_35 rfl (lv_at hl 1 rfl) ?_
        refine va_get (D := D) (ci := 4) (v := .ref (ad 3)) (C := RX3) (T := TX3) (N := 8) hx hb hts k2 hown hK hP 0 rfl rfl 5 (by decide) k1 (fun _ h9 => h9) rfl dX3_physical_36 ?_
        refine lv_aload_n hx hb dX3_physical_39 rfl (lv_at hl 1 rfl) ?_
        refine va_get (D := D) (ci := 4) (v := .ref (ad 8)) (C := RX3) (T := TX3) (N := 8) hx hb hts k2 hown hK hP 0 rfl rfl 6 (by decide) k7 (fun _ h9 => h9) rfl dX3_physical_40 ?_
        refine va_getN (D := D) (ci := 1) (v := .ref (ad 9)) (C := RX0) (T := TX0) (N := 2) hx hb hts k9 hown hK hP 8 rfl rfl 0 (by decide) (va_Nw.use rfl k8) (fun _ h9 => h9) rfl dX3_physical_43 ?_
        refine fk_cv hD hS hA (va_runVN (As := [.ref (ad 9)]) (rest := []) ⟨hx, hb, hml, hown, hts⟩ (kX0_reduce _ ad tl kd (nI n) lo ch ts u2.1 u2.2 f3 f4 f5 (fk_v (kf j) v) (fk_dn (kf j)) hTu2 hBu2 (fk_v_bd ok_j v) (fk_dn_bd ok_j)) ⟨va_cnB 1 hts gX3_physical_X0_reduce_n101 rfl rfl rfl k10 k4 (by decide +kernel) ⟨Nat.le_of_ble_eq_true rfl, Nat.le_of_ble_eq_true rfl⟩, k11, k12⟩ (fk_preV 3 1 hK hN hP hD rfl rfl) rfl rfl hl.1 rfl (lv_room (Nat.le_of_ble_eq_true rfl)) dX3_physical_46 ⟨Nat.le_of_ble_eq_true rfl, Nat.le_of_ble_eq_true rfl⟩) (fun u4 H locs hw hP hD hS => ?_)
        have hP : va_P D vwCl (fk_wx cJ cC cK ad kd (nI n) lo ch ts u4.1 u4.2.1 u4.2.2 f4 f5 ++ tl) H := hP
        have hD : va_D A (fk_wx cJ cC cK ad kd (nI n) lo ch ts u4.1 u4.2.1 u4.2.2 f4 f5 ++ tl) := hD
        obtain ⟨hnm, hdm⟩ := hw
        have hnm : fk_R (fk_num (fk_v (kf j) v) (fk_dn (kf j))) u4.1 := hnm
        have hnb := fk_num_bd (fk_v_bd ok_j v) (show 0 < fk_dn (kf j) by have := fk_dn_bd ok_j; omega)
        have hgb := fk_gc_bd (fk_v (kf j) v) (show 0 < fk_dn (kf j) by have := fk_dn_bd ok_j; omega)
        have hdb := fk_dn_bd ok_j
        have hdq0 : 0 ≤ fk_dn (kf j) / fk_gc (fk_v (kf j) v) (fk_dn (kf j)) := Int.ediv_nonneg (by omega) (by omega)
        have hdq1 : fk_dn (kf j) / fk_gc (fk_v (kf j) v) (fk_dn (kf j)) ≤ fk_dn (kf j) := Int.ediv_le_self _ (by omega)
        refine lv_iload hx hb dX3_physical_49 (lv_at hl 4 rfl) ?_
        rcases (show side = 0 ∨ side = 1 ∨ side = 2 ∨ side = 3 from fk_03 c_14 c_20) with q | q | q | q
        · subst q
          refine lv_tableIn (tgt := 76) (off := 25) hx hb dX3_physical_51 (by decide) (by decide) (by decide) (by decide) ?_
          refine lv_aload_n hx hb dX3_physical_76 rfl (lv_at hl 1 rfl) ?_
          refine va_get (D := D) (ci := 4) (v := .ref (ad 3)) (C := RX3) (T := TX3) (N := 8) hx hb hts k2 hown hK hP 0 rfl rfl 5 (by decide) k1 (fun _ h9 => h9) rfl dX3_physical_77 ?_
          refine va_getN (D := D) (ci := 1) (v := .ref (ad 6)) (C := RX0) (T := TX0) (N := 2) hx hb hts k9 hown hK hP 3 rfl rfl 1 (by decide) (va_Nw.use rfl k13) (fun _ h9 => h9) rfl dX3_physical_80 ?_
          refine lv_iconst (v := 0) hx hb dX3_physical_83 (by decide) ?_
          refine fk_cl hD hS hA (va_runVN (As := [.int 0]) (rest := []) ⟨hx, hb, hml, hown, hts⟩ (kX2_bitsFrom _ _ (ad 6) (ad 7) 6 7 u4.2.1 0 (fk_dn (kf j) / fk_gc (fk_v (kf j) v) (fk_dn (kf j))) rfl rfl hdm (by omega)) ⟨va_cnB 1 hts gX3_physical_X2_bitsFrom_n108 rfl rfl rfl k14 k15 (by decide +kernel) ⟨Nat.le_of_ble_eq_true rfl, Nat.le_of_ble_eq_true rfl⟩, k16, k17⟩ (fk_preV 6 3 hK hN hP hD rfl rfl) rfl rfl hl.1 rfl (lv_room (Nat.le_of_ble_eq_true rfl)) dX3_physical_84 ⟨Nat.le_of_ble_eq_true rfl, Nat.le_of_ble_eq_true rfl⟩) (fun r6 u H locs hw hP hD hS => ?_)
          have hP : va_P D vwCl (fk_wx cJ cC cK ad kd (nI n) lo ch ts u4.1 u4.2.1 u4.2.2 f4 f5 ++ tl) H := hP
          have hD : va_D A (fk_wx cJ cC cK ad kd (nI n) lo ch ts u4.1 u4.2.1 u4.2.2 f4 f5 ++ tl) := hD
          have zb := hw
          rw [hQQ]
          exact W.lret (v := r6) hx hb hr (fun t ht hW => ⟨⟨r6, (lo, u4.1, u4.2.1, u4.2.2, f4, f5), rfl, ⟨(by rw [fk_sPhy, if_neg (fun q => q.elim (fk_no_j hj hn40) (fun z => by revert z; decide)), fk_ix_j hj hn40, fk_ph, if_pos rfl, zb, Int.pow_zero, Int.ediv_one]; exact Int64.toInt_ofInt_of_le (by omega) (by omega)), rfl⟩, by rw [ht]; exact hP, va_K.moved hW.alike hK, hD⟩, hS.F ht⟩) hS.2.2 dX3_physical_87
        · subst q
          refine lv_tableIn (tgt := 88) (off := 37) hx hb dX3_physical_51 (by decide) (by decide) (by decide) (by decide) ?_
          refine lv_aload_n hx hb dX3_physical_88 rfl (lv_at hl 1 rfl) ?_
          refine va_get (D := D) (ci := 4) (v := .ref (ad 3)) (C := RX3) (T := TX3) (N := 8) hx hb hts k2 hown hK hP 0 rfl rfl 5 (by decide) k1 (fun _ h9 => h9) rfl dX3_physical_89 ?_
          refine va_getN (D := D) (ci := 1) (v := .ref (ad 4)) (C := RX0) (T := TX0) (N := 2) hx hb hts k9 hown hK hP 3 rfl rfl 0 (by decide) (va_Nw.use rfl k8) (fun _ h9 => h9) rfl dX3_physical_92 ?_
          refine lv_iconst (v := 0) hx hb dX3_physical_95 (by decide) ?_
          refine fk_cl hD hS hA (va_runVN (As := [.int 0]) (rest := []) ⟨hx, hb, hml, hown, hts⟩ (kX2_bitsFrom _ _ (ad 4) (ad 5) 4 5 u4.1 0 (fk_num (fk_v (kf j) v) (fk_dn (kf j))) rfl rfl hnm (by omega)) ⟨va_cnB 1 hts gX3_physical_X2_bitsFrom_n108 rfl rfl rfl k14 k15 (by decide +kernel) ⟨Nat.le_of_ble_eq_true rfl, Nat.le_of_ble_eq_true rfl⟩, k16, k17⟩ (fk_preV 4 3 hK hN hP hD rfl rfl) rfl rfl hl.1 rfl (lv_room (Nat.le_of_ble_eq_true rfl)) dX3_physical_96 ⟨Nat.le_of_ble_eq_true rfl, Nat.le_of_ble_eq_true rfl⟩) (fun r7 u H locs hw hP hD hS => ?_)
          have hP : va_P D vwCl (fk_wx cJ cC cK ad kd (nI n) lo ch ts u4.1 u4.2.1 u4.2.2 f4 f5 ++ tl) H := hP
          have hD : va_D A (fk_wx cJ cC cK ad kd (nI n) lo ch ts u4.1 u4.2.1 u4.2.2 f4 f5 ++ tl) := hD
          have zb := hw
          refine lv_ldc2 (v := 4294967295) hx hb hown k18 dX3_physical_99 ?_
          refine lv_land hx hb dX3_physical_102 ?_
          refine lv_topl (fun x8 ex8 => ?_)
          rw [hQQ]
          exact W.lret (v := x8) hx hb hr (fun t ht hW => ⟨⟨x8, (lo, u4.1, u4.2.1, u4.2.2, f4, f5), rfl, ⟨(by rw [fk_sPhy, if_neg (fun q => q.elim (fk_no_j hj hn40) (fun z => by revert z; decide)), fk_ix_j hj hn40, fk_ph, if_neg (by decide), if_pos rfl, ex8, zb, Int.pow_zero, Int.ediv_one]; exact fk_low32 _), rfl⟩, by rw [ht]; exact hP, va_K.moved hW.alike hK, hD⟩, hS.F ht⟩) hS.2.2 dX3_physical_103
        · subst q
          refine lv_tableIn (tgt := 104) (off := 53) hx hb dX3_physical_51 (by decide) (by decide) (by decide) (by decide) ?_
          refine lv_aload_n hx hb dX3_physical_104 rfl (lv_at hl 1 rfl) ?_
          refine va_get (D := D) (ci := 4) (v := .ref (ad 3)) (C := RX3) (T := TX3) (N := 8) hx hb hts k2 hown hK hP 0 rfl rfl 5 (by decide) k1 (fun _ h9 => h9) rfl dX3_physical_105 ?_
          refine va_getN (D := D) (ci := 1) (v := .ref (ad 4)) (C := RX0) (T := TX0) (N := 2) hx hb hts k9 hown hK hP 3 rfl rfl 0 (by decide) (va_Nw.use rfl k8) (fun _ h9 => h9) rfl dX3_physical_108 ?_
          refine lv_iconst (v := 2) hx hb dX3_physical_111 (by decide) ?_
          refine fk_cl hD hS hA (va_runVN (As := [.int 2]) (rest := []) ⟨hx, hb, hml, hown, hts⟩ (kX2_bitsFrom _ _ (ad 4) (ad 5) 4 5 u4.1 2 (fk_num (fk_v (kf j) v) (fk_dn (kf j))) rfl rfl hnm (by omega)) ⟨va_cnB 1 hts gX3_physical_X2_bitsFrom_n108 rfl rfl rfl k14 k15 (by decide +kernel) ⟨Nat.le_of_ble_eq_true rfl, Nat.le_of_ble_eq_true rfl⟩, k16, k17⟩ (fk_preV 4 3 hK hN hP hD rfl rfl) rfl rfl hl.1 rfl (lv_room (Nat.le_of_ble_eq_true rfl)) dX3_physical_112 ⟨Nat.le_of_ble_eq_true rfl, Nat.le_of_ble_eq_true rfl⟩) (fun r9 u H locs hw hP hD hS => ?_)
          have hP : va_P D vwCl (fk_wx cJ cC cK ad kd (nI n) lo ch ts u4.1 u4.2.1 u4.2.2 f4 f5 ++ tl) H := hP
          have hD : va_D A (fk_wx cJ cC cK ad kd (nI n) lo ch ts u4.1 u4.2.1 u4.2.2 f4 f5 ++ tl) := hD
          have zb := hw
          refine lv_ldc2 (v := 4294967295) hx hb hown k18 dX3_physical_115 ?_
          refine lv_land hx hb dX3_physical_118 ?_
          refine lv_topl (fun x10 ex10 => ?_)
          rw [hQQ]
          exact W.lret (v := x10) hx hb hr (fun t ht hW => ⟨⟨x10, (lo, u4.1, u4.2.1, u4.2.2, f4, f5), rfl, ⟨(by rw [fk_sPhy, if_neg (fun q => q.elim (fk_no_j hj hn40) (fun z => by revert z; decide)), fk_ix_j hj hn40, fk_ph, if_neg (by decide), if_neg (by decide), if_pos rfl, ex10, zb, show (65536 : Int) ^ 2 = 4294967296 by decide]; exact fk_low32 _), rfl⟩, by rw [ht]; exact hP, va_K.moved hW.alike hK, hD⟩, hS.F ht⟩) hS.2.2 dX3_physical_119
        · subst q
          refine lv_tableOut (tgt := 120) hx hb dX3_physical_51 (by decide) (by decide) ?_
          refine lv_aload_n hx hb dX3_physical_120 rfl (lv_at hl 1 rfl) ?_
          refine va_get (D := D) (ci := 4) (v := .ref (ad 3)) (C := RX3) (T := TX3) (N := 8) hx hb hts k2 hown hK hP 0 rfl rfl 5 (by decide) k1 (fun _ h9 => h9) rfl dX3_physical_121 ?_
          refine va_getN (D := D) (ci := 1) (v := .ref (ad 4)) (C := RX0) (T := TX0) (N := 2) hx hb hts k9 hown hK hP 3 rfl rfl 0 (by decide) (va_Nw.use rfl k8) (fun _ h9 => h9) rfl dX3_physical_124 ?_
          refine lv_iconst (v := 4) hx hb dX3_physical_127 (by decide) ?_
          refine fk_cl hD hS hA (va_runVN (As := [.int 4]) (rest := []) ⟨hx, hb, hml, hown, hts⟩ (kX2_bitsFrom _ _ (ad 4) (ad 5) 4 5 u4.1 4 (fk_num (fk_v (kf j) v) (fk_dn (kf j))) rfl rfl hnm (by omega)) ⟨va_cnB 1 hts gX3_physical_X2_bitsFrom_n108 rfl rfl rfl k14 k15 (by decide +kernel) ⟨Nat.le_of_ble_eq_true rfl, Nat.le_of_ble_eq_true rfl⟩, k16, k17⟩ (fk_preV 4 3 hK hN hP hD rfl rfl) rfl rfl hl.1 rfl (lv_room (Nat.le_of_ble_eq_true rfl)) dX3_physical_128 ⟨Nat.le_of_ble_eq_true rfl, Nat.le_of_ble_eq_true rfl⟩) (fun r11 u H locs hw hP hD hS => ?_)
          have hP : va_P D vwCl (fk_wx cJ cC cK ad kd (nI n) lo ch ts u4.1 u4.2.1 u4.2.2 f4 f5 ++ tl) H := hP
          have hD : va_D A (fk_wx cJ cC cK ad kd (nI n) lo ch ts u4.1 u4.2.1 u4.2.2 f4 f5 ++ tl) := hD
          have zb := hw
          rw [hQQ]
          exact W.lret (v := r11) hx hb hr (fun t ht hW => ⟨⟨r11, (lo, u4.1, u4.2.1, u4.2.2, f4, f5), rfl, ⟨(by rw [fk_sPhy, if_neg (fun q => q.elim (fk_no_j hj hn40) (fun z => by revert z; decide)), fk_ix_j hj hn40, fk_ph, if_neg (by decide), if_neg (by decide), if_neg (by decide), zb, show (65536 : Int) ^ 4 = 18446744073709551616 by decide]; exact Int64.toInt_ofInt_of_le (by omega) (by omega)), rfl⟩, by rw [ht]; exact hP, va_K.moved hW.alike hK, hD⟩, hS.F ht⟩) hS.2.2 dX3_physical_131
      · rw [Int32.le_iff_toInt_le, show (3 : Int32).toInt = 3 by decide] at c_20
        refine lv_lconst (v := 0) hx hb dX3_physical_23 (by decide) ?_
        rw [hQQ]
        exact W.lret (v := 0) hx hb hr (fun t ht hW => ⟨⟨0, (lo, f1, f2, f3, f4, f5), rfl, ⟨(by rw [fk_sPhy, if_pos (Or.inr (Or.inr (by omega)))]; decide), rfl⟩, by rw [ht]; exact hP, va_K.moved hW.alike hK, hD⟩, hS.F ht⟩) hS.2.2 dX3_physical_24
end
section
/-! FixedKinds: writeBefore, writeDigit, writePlaces, by program -/
abbrev rmX3_writeBefore : Room := { frames := 0, cells := 0, slots := 0, locals := 0 }
set_option maxHeartbeats 4000000 in
set_option maxRecDepth 100000 in
/-- writeBefore -/
theorem kX3_writeBefore {l : Launch} {D : va_G} {cJ cC cI cZ cK : ClassId} (sz : Nat) (ad : Nat → Nat) (tl : va_W) (kd : Nat → Option Nat) (kc lo : Int32) (ch : Nat → Int32) (f1 f2 f3 f4 f5 : Nat → Int64) (t0 : Nat) (L : List Int32) (c0 : Int32) (hT : fk_Tx L ch t0) (ht0 : 0 < t0) (hc : vp_nar .char c0 = c0) : Met l yX3_writeBefore wsX3_writeBefore rmX3_writeBefore (va_Pc [.ref (ad 0), .int c0] (fk_pre D (fk_ty cJ cC cI cZ cK) (fk_wx cJ cC cK ad kd kc lo ch (nI t0) f1 f2 f3 f4 f5 ++ tl) sz)) (va_Qv (fun u : Nat → Int32 => fk_Tx (L ++ [c0]) u (t0 - 1)) (fk_Bd D (fk_ty cJ cC cI cZ cK) (va_A (fk_wx cJ cC cK ad kd kc lo ch (nI t0) f1 f2 f3 f4 f5 ++ tl) sz) (fun u : Nat → Int32 => fk_wx cJ cC cK ad kd kc lo u (nI (t0 - 1)) f1 f2 f3 f4 f5 ++ tl)) (va_A (fk_wx cJ cC cK ad kd kc lo ch (nI t0) f1 f2 f3 f4 f5 ++ tl) sz)) 0 0 (va_A (fk_wx cJ cC cK ad kd kc lo ch (nI t0) f1 f2 f3 f4 f5 ++ tl) sz) := by
  refine fk_ofW cX3_writeBefore 2 none (fun A => va_Qv (fun u : Nat → Int32 => fk_Tx (L ++ [c0]) u (t0 - 1)) (fk_Bd D (fk_ty cJ cC cI cZ cK) A (fun u : Nat → Int32 => fk_wx cJ cC cK ad kd kc lo u (nI (t0 - 1)) f1 f2 f3 f4 f5 ++ tl)) A) rfl (by decide) (Nat.le_of_ble_eq_true rfl) ?_
  intro p e s m below meth c A ls args QQ hQQ hAt hP hK hN hD hA hS hl
  obtain ⟨⟨hx, hb, hml, hown, hts⟩, hr, hlocks, hin⟩ := hAt
  have hl : lv_has ls 2 [(0, .ref (ad 0)), (1, .int c0)] := hl
  have k1 := hts (.fieldLink RX3 27 "FixedKinds" "textStart" "I") (by decide +kernel)
  have k2 := (by decide +kernel : ∀ w ∈ u_ws RX3 TX3 8, w ∈ wsX3_writeBefore)
  have k3 := hts (.fieldLink RX3 23 "FixedKinds" "characters" "[C") (by decide +kernel)
  refine lv_aload_n hx hb dX3_writeBefore_0 rfl (lv_at hl 0 rfl) ?_
  refine va_get (D := D) (ci := 4) (v := .int (nI t0)) (C := RX3) (T := TX3) (N := 8) hx hb hts k2 hown hK hP 0 rfl rfl 4 (by decide) k1 (fun _ h9 => h9) rfl dX3_writeBefore_1 ?_
  refine lv_if_le (tgt := 36) hx hb dX3_writeBefore_4 (by decide) (fun c_4 => False.elim (nI_nle (n := t0) ht0 (by have := hT.1; omega) c_4)) (fun c_4 => ?_)
  refine lv_aload_n hx hb dX3_writeBefore_7 rfl (lv_at hl 0 rfl) ?_
  refine va_get (D := D) (ci := 4) (v := .int (nI t0)) (C := RX3) (T := TX3) (N := 8) hx hb hts k2 hown hK hP 0 rfl rfl 4 (by decide) k1 (fun _ h9 => h9) rfl dX3_writeBefore_8 ?_
  refine lv_bipush (v := 40) hx hb dX3_writeBefore_11 (by decide) ?_
  refine lv_icmp_gt (tgt := 36) hx hb dX3_writeBefore_13 (by decide) (fun c_13 => False.elim (by have q := (nI_ltI (a := 40) (b := t0) (by omega) (by have := hT.1; omega)).mp c_13; have := hT.1; omega)) (fun c_13 => ?_)
  refine lv_aload_n hx hb dX3_writeBefore_16 rfl (lv_at hl 0 rfl) ?_
  refine lv_dup hx hb dX3_writeBefore_17 rfl ?_
  refine va_get (D := D) (ci := 4) (v := .int (nI t0)) (C := RX3) (T := TX3) (N := 8) hx hb hts k2 hown hK hP 0 rfl rfl 4 (by decide) k1 (fun _ h9 => h9) rfl dX3_writeBefore_18 ?_
  refine lv_iconst (v := 1) hx hb dX3_writeBefore_21 (by decide) ?_
  refine lv_isub hx hb dX3_writeBefore_22 ?_
  refine lv_topi (fun x1 ex1 => ?_)
  have ex1q : x1 = nI (t0 - 1) := by
    rw [ex1]; exact pk_sub (a := t0) (b := 1) (by omega)
  subst ex1q
  refine va_put (D := D) (ci := 4) (v := .int (nI (t0 - 1))) (ty := (.int)) (C := RX3) (T := TX3) (N := 8) hx hb hts k2 tyX3 tyX3_ok nmX3 hown hK hP hD hS 0 rfl rfl 4 (by decide) k1 (fun _ h9 => h9) rfl (by decide +kernel) rfl rfl (Nat.le_of_ble_eq_true rfl) dX3_writeBefore_23 (fun H locs hP hD hS => ?_)
  have hP : va_P D vwCl (fk_wx cJ cC cK ad kd kc lo ch (nI (t0 - 1)) f1 f2 f3 f4 f5 ++ tl) H := hP
  have hD : va_D A (fk_wx cJ cC cK ad kd kc lo ch (nI (t0 - 1)) f1 f2 f3 f4 f5 ++ tl) := hD
  refine lv_aload_n hx hb dX3_writeBefore_26 rfl (lv_at hl 0 rfl) ?_
  refine va_get (D := D) (ci := 4) (v := .ref (ad 2)) (C := RX3) (T := TX3) (N := 8) hx hb hts k2 hown hK hP 0 rfl rfl 3 (by decide) k3 (fun _ h9 => h9) rfl dX3_writeBefore_27 ?_
  refine lv_aload_n hx hb dX3_writeBefore_30 rfl (lv_at hl 0 rfl) ?_
  refine va_get (D := D) (ci := 4) (v := .int (nI (t0 - 1))) (C := RX3) (T := TX3) (N := 8) hx hb hts k2 hown hK hP 0 rfl rfl 4 (by decide) k1 (fun _ h9 => h9) rfl dX3_writeBefore_31 ?_
  refine lv_iload_n hx hb dX3_writeBefore_34 rfl (lv_at hl 1 rfl) ?_
  refine fk_cast hx hb hK hP hD hS 2 1 rfl rfl (i := t0 - 1) (by have := hT.1; omega) (by decide) dX3_writeBefore_35 (fun H locs hP hD hS => ?_)
  have hP : va_P D vwCl (fk_wx cJ cC cK ad kd kc lo (upd ch (t0 - 1) (vp_nar .char c0)) (nI (t0 - 1)) f1 f2 f3 f4 f5 ++ tl) H := hP
  have hD : va_D A (fk_wx cJ cC cK ad kd kc lo (upd ch (t0 - 1) (vp_nar .char c0)) (nI (t0 - 1)) f1 f2 f3 f4 f5 ++ tl) := hD
  rw [hQQ]
  exact W.vret hx hb hr (fun t ht hW => ⟨⟨upd ch (t0 - 1) (vp_nar .char c0), rfl, (by rw [hc]; exact fk_Tx_add c0 hT ht0), by rw [ht]; exact hP, va_K.moved hW.alike hK, hD⟩, hS.F ht⟩) hS.2.2 dX3_writeBefore_36
abbrev rmX3_writeDigit : Room := { frames := 1, cells := 0, slots := 0, locals := 21 }
set_option maxHeartbeats 4000000 in
set_option maxRecDepth 100000 in
/-- writeDigit -/
theorem kX3_writeDigit {l : Launch} {D : va_G} {cJ cC cI cZ cK : ClassId} (sz : Nat) (ad : Nat → Nat) (tl : va_W) (kd : Nat → Option Nat) (kc lo : Int32) (ch : Nat → Int32) (f1 f2 f3 f4 f5 : Nat → Int64) (t0 : Nat) (L : List Int32) (d : Int64) (M0 : Int) (hT : fk_Tx L ch t0) (ht0 : 0 < t0) (hd : d.toInt = M0 % 10) : Met l yX3_writeDigit wsX3_writeDigit rmX3_writeDigit (va_Pc [.ref (ad 0), .long d] (fk_pre D (fk_ty cJ cC cI cZ cK) (fk_wx cJ cC cK ad kd kc lo ch (nI t0) f1 f2 f3 f4 f5 ++ tl) sz)) (va_Qv (fun u : Nat → Int32 => fk_Tx (L ++ [fk_dc M0]) u (t0 - 1)) (fk_Bd D (fk_ty cJ cC cI cZ cK) (va_A (fk_wx cJ cC cK ad kd kc lo ch (nI t0) f1 f2 f3 f4 f5 ++ tl) sz) (fun u : Nat → Int32 => fk_wx cJ cC cK ad kd kc lo u (nI (t0 - 1)) f1 f2 f3 f4 f5 ++ tl)) (va_A (fk_wx cJ cC cK ad kd kc lo ch (nI t0) f1 f2 f3 f4 f5 ++ tl) sz)) 0 0 (va_A (fk_wx cJ cC cK ad kd kc lo ch (nI t0) f1 f2 f3 f4 f5 ++ tl) sz) := by
  refine fk_ofW cX3_writeDigit 3 none (fun A => va_Qv (fun u : Nat → Int32 => fk_Tx (L ++ [fk_dc M0]) u (t0 - 1)) (fk_Bd D (fk_ty cJ cC cI cZ cK) A (fun u : Nat → Int32 => fk_wx cJ cC cK ad kd kc lo u (nI (t0 - 1)) f1 f2 f3 f4 f5 ++ tl)) A) rfl (by decide) (Nat.le_of_ble_eq_true rfl) ?_
  intro p e s m below meth c A ls args QQ hQQ hAt hP hK hN hD hA hS hl
  obtain ⟨⟨hx, hb, hml, hown, hts⟩, hr, hlocks, hin⟩ := hAt
  have hl : lv_has ls 3 [(0, .ref (ad 0)), (1, .long d)] := hl
  have k1 := hts (.constantLong RX3 196 48) (by decide +kernel)
  refine lv_aload_n hx hb dX3_writeDigit_0 rfl (lv_at hl 0 rfl) ?_
  refine lv_ldc2 (v := 48) hx hb hown k1 dX3_writeDigit_1 ?_
  refine lv_lload_n hx hb dX3_writeDigit_4 rfl (lv_at hl 1 rfl) ?_
  refine lv_ladd hx hb dX3_writeDigit_5 ?_
  refine lv_topl (fun x1 ex1 => ?_)
  refine lv_l2i hx hb dX3_writeDigit_6 rfl ?_
  refine lv_topi (fun x2 ex2 => ?_)
  refine lv_i2c hx hb dX3_writeDigit_7 rfl ?_
  refine lv_topi (fun x3 ex3 => ?_)
  have ex3q : x3 = fk_dc M0 := by
    rw [ex3, ex2, ex1]; exact fk_dch hd
  subst ex3q
  obtain ⟨qd, hqd, eqd⟩ := fk_dc_lt M0
  refine fk_cv hD hS hA (va_runV (As := [.int (fk_dc M0)]) (rest := []) ⟨hx, hb, hml, hown, hts⟩ (kX3_writeBefore _ ad tl kd kc lo ch f1 f2 f3 f4 f5 t0 L (fk_dc M0) hT ht0 (by rw [eqd]; exact (fk_nch qd hqd).1)) (cwV 1 hts gX3_writeDigit_X3_writeBefore rfl rfl rfl (by decide +kernel) ⟨Nat.le_of_ble_eq_true rfl, Nat.le_of_ble_eq_true rfl⟩) (fk_preV 0 4 hK hN hP hD rfl rfl) rfl rfl hl.1 rfl (lv_room (Nat.le_of_ble_eq_true rfl)) dX3_writeDigit_8 ⟨Nat.le_of_ble_eq_true rfl, Nat.le_of_ble_eq_true rfl⟩) (fun ch4 H locs hw hP hD hS => ?_)
  have hP : va_P D vwCl (fk_wx cJ cC cK ad kd kc lo ch4 (nI (t0 - 1)) f1 f2 f3 f4 f5 ++ tl) H := hP
  have hD : va_D A (fk_wx cJ cC cK ad kd kc lo ch4 (nI (t0 - 1)) f1 f2 f3 f4 f5 ++ tl) := hD
  have hT2 := hw
  rw [hQQ]
  exact W.vret hx hb hr (fun t ht hW => ⟨⟨ch4, rfl, hT2, by rw [ht]; exact hP, va_K.moved hW.alike hK, hD⟩, hS.F ht⟩) hS.2.2 dX3_writeDigit_11
abbrev rmX3_writePlaces : Room := { frames := 2, cells := 0, slots := 0, locals := 43 }
set_option maxHeartbeats 4000000 in
set_option maxRecDepth 100000 in
/-- writePlaces -/
theorem kX3_writePlaces {l : Launch} {D : va_G} {cJ cC cI cZ cK : ClassId} (sz : Nat) (ad : Nat → Nat) (tl : va_W) (kd : Nat → Option Nat) (kc lo : Int32) (ch : Nat → Int32) (f1 f2 f3 f4 f5 : Nat → Int64) (t0 : Nat) (M0 : Int) (hRm : fk_R M0 f1) (hm : 0 ≤ M0 ∧ M0 < 1000000000000000000000000000000) (hT : fk_Tx [] ch t0) : Met l yX3_writePlaces wsX3_writePlaces rmX3_writePlaces (va_Pc [.ref (ad 0), .ref (ad 4)] (fk_pre D (fk_ty cJ cC cI cZ cK) (fk_wx cJ cC cK ad kd kc lo ch (nI t0) f1 f2 f3 f4 f5 ++ tl) sz)) (va_Qv (fun u : (Nat → Int32) × (Nat → Int64) => fk_Tx (fk_pt (fk_pl 6 M0 [])) u.1 (40 - (fk_pt (fk_pl 6 M0 [])).length) ∧ fk_R (M0 / 1000000) u.2) (fk_Bd D (fk_ty cJ cC cI cZ cK) (va_A (fk_wx cJ cC cK ad kd kc lo ch (nI t0) f1 f2 f3 f4 f5 ++ tl) sz) (fun u : (Nat → Int32) × (Nat → Int64) => fk_wx cJ cC cK ad kd kc lo u.1 (nI (40 - (fk_pt (fk_pl 6 M0 [])).length)) u.2 f2 f3 f4 f5 ++ tl)) (va_A (fk_wx cJ cC cK ad kd kc lo ch (nI t0) f1 f2 f3 f4 f5 ++ tl) sz)) 0 0 (va_A (fk_wx cJ cC cK ad kd kc lo ch (nI t0) f1 f2 f3 f4 f5 ++ tl) sz) := by
  refine fk_ofW cX3_writePlaces 5 none (fun A => va_Qv (fun u : (Nat → Int32) × (Nat → Int64) => fk_Tx (fk_pt (fk_pl 6 M0 [])) u.1 (40 - (fk_pt (fk_pl 6 M0 [])).length) ∧ fk_R (M0 / 1000000) u.2) (fk_Bd D (fk_ty cJ cC cI cZ cK) A (fun u : (Nat → Int32) × (Nat → Int64) => fk_wx cJ cC cK ad kd kc lo u.1 (nI (40 - (fk_pt (fk_pl 6 M0 [])).length)) u.2 f2 f3 f4 f5 ++ tl)) A) rfl (by decide) (Nat.le_of_ble_eq_true rfl) ?_
  intro p e s m below meth c A ls args QQ hQQ hAt hP hK hN hD hA hS hl
  obtain ⟨⟨hx, hb, hml, hown, hts⟩, hr, hlocks, hin⟩ := hAt
  have hl : lv_has ls 5 [(0, .ref (ad 0)), (1, .ref (ad 4))] := hl
  have k1 := hts (.fieldLink RX3 27 "FixedKinds" "textStart" "I") (by decide +kernel)
  have k2 := (by decide +kernel : ∀ w ∈ u_ws RX3 TX3 8, w ∈ wsX3_writePlaces)
  have k3 := hts (.constantLong RX3 198 10) (by decide +kernel)
  have k4 := hN _ fkn_X3_200
  have k5 := hts (.initialized RX2) (by decide +kernel)
  have k6 := hts (.instanceMethod yX2_shorten) (by decide +kernel)
  have k7 := hts (.selects RX2 yX2_shorten yX2_shorten) (by decide +kernel)
  refine lv_iconst (v := 0) hx hb dX3_writePlaces_0 (by decide) ?_
  refine lv_istore_n (lv' := [(2, .int 0), (0, .ref (ad 0)), (1, .ref (ad 4))]) hx hb dX3_writePlaces_1 rfl hl (by decide) rfl (fun ls hl => ?_)
  have L2 : ∀ (fu2 : Nat) (i : Nat) (mm : Int) (g : Nat → Int64) (L : List Int32) (chv : Nat → Int32) (t2 : Nat), 6 - i < fu2 → (i ≤ 6) → (fk_R mm g) → (0 ≤ mm ∧ mm < 1000000000000000000000000000000) → (mm = M0 / 10 ^ i) → (fk_Tx L chv t2) → (L.length ≤ i) → (fk_pl (6 - i) mm L = fk_pl 6 M0 []) → ∀ (H : Heap) (locs : List Loc) (ls : Array Slot), va_P D vwCl (fk_wx cJ cC cK ad kd kc lo chv (nI t2) g f2 f3 f4 f5 ++ tl) H → va_D A (fk_wx cJ cC cK ad kd kc lo chv (nI t2) g f2 f3 f4 f5 ++ tl) → va_S A s.heap H locs → lv_has ls 5 [(0, .ref (ad 0)), (1, .ref (ad 4)), (2, .int (nI i))] → W p l e rmX3_writePlaces s m args below meth c H locs 0 0 QQ (F0 m 2 ls []) := by
    intro fu2
    induction fu2 with
    | zero => intro i mm g L chv t2 hfu; exact absurd hfu (Nat.not_lt_zero _)
    | succ fu2 ih2 =>
      intro i mm g L chv t2 hfu2 hi hRm hm0 hmm hT2 hLl hpl H locs ls hP hD hS hl
      refine lv_iload_n hx hb dX3_writePlaces_2 rfl (lv_at hl 2 rfl) ?_
      refine lv_bipush (v := 6) hx hb dX3_writePlaces_3 (by decide) ?_
      refine lv_icmp_ge (tgt := 42) hx hb dX3_writePlaces_5 (by decide) (fun c_5 => ?_) (fun c_5 => ?_)
      · have hi6 : i = 6 := by have q := (nI_leI (a := 6) (b := i) (by omega) (by omega)).mp c_5; omega
        subst hi6
        have hpl : L = fk_pl 6 M0 [] := hpl
        refine lv_aload_n hx hb dX3_writePlaces_42 rfl (lv_at hl 0 rfl) ?_
        refine va_get (D := D) (ci := 4) (v := .int (nI t2)) (C := RX3) (T := TX3) (N := 8) hx hb hts k2 hown hK hP 0 rfl rfl 4 (by decide) k1 (fun _ h9 => h9) rfl dX3_writePlaces_43 ?_
        refine lv_bipush (v := 40) hx hb dX3_writePlaces_46 (by decide) ?_
        refine lv_icmp_ge (tgt := 57) hx hb dX3_writePlaces_48 (by decide) (fun c_48 => ?_) (fun c_48 => ?_)
        · have ht40 := hT2.1
          have hL0 : L = [] := by have q := (nI_leI (a := 40) (b := t2) (by omega) (by omega)).mp c_48; exact List.eq_nil_of_length_eq_zero (by omega)
          have hpt : fk_pt (fk_pl 6 M0 []) = L := by rw [← hpl, fk_pt, if_neg (fun q => q hL0)]
          have ht3 : t2 = 40 - (fk_pt (fk_pl 6 M0 [])).length := by rw [hpt]; omega
          rw [ht3] at hP hD hT2
          rw [hQQ]
          exact W.vret hx hb hr (fun t ht hW => ⟨⟨(chv, g), rfl, ⟨(by show fk_Tx (fk_pt (fk_pl 6 M0 [])) _ _; have z := hT2; rw [hpt] at z ⊢; exact z), (by show fk_R (M0 / 1000000) _; have e : M0 / 1000000 = mm := hmm.symm; rw [e]; exact hRm)⟩, by rw [ht]; exact hP, va_K.moved hW.alike hK, hD⟩, hS.F ht⟩) hS.2.2 dX3_writePlaces_57
        · have ht40 := hT2.1
          have hL0 : L ≠ [] := by intro q; rw [q] at ht40; exact c_48 ((nI_leI (a := 40) (b := t2) (by omega) (by omega)).mpr (by simp at ht40; omega))
          have hpt : fk_pt (fk_pl 6 M0 []) = L ++ [46] := by rw [← hpl, fk_pt, if_pos hL0]
          refine lv_aload_n hx hb dX3_writePlaces_51 rfl (lv_at hl 0 rfl) ?_
          refine lv_bipush (v := 46) hx hb dX3_writePlaces_52 (by decide) ?_
          refine fk_cv hD hS hA (va_runV (As := [.int 46]) (rest := []) ⟨hx, hb, hml, hown, hts⟩ (kX3_writeBefore _ ad tl kd kc lo chv g f2 f3 f4 f5 t2 L 46 hT2 (by omega) (fk_nch 46 (by omega)).1) (cwV 1 hts gX3_writePlaces_X3_writeBefore rfl rfl rfl (by decide +kernel) ⟨Nat.le_of_ble_eq_true rfl, Nat.le_of_ble_eq_true rfl⟩) (fk_preV 0 4 hK hN hP hD rfl rfl) rfl rfl hl.1 rfl (lv_room (Nat.le_of_ble_eq_true rfl)) dX3_writePlaces_54 ⟨Nat.le_of_ble_eq_true rfl, Nat.le_of_ble_eq_true rfl⟩) (fun ch1 H locs hw hP hD hS => ?_)
          have hP : va_P D vwCl (fk_wx cJ cC cK ad kd kc lo ch1 (nI (t2 - 1)) g f2 f3 f4 f5 ++ tl) H := hP
          have hD : va_D A (fk_wx cJ cC cK ad kd kc lo ch1 (nI (t2 - 1)) g f2 f3 f4 f5 ++ tl) := hD
          have hT3 := hw
          have ht3 : t2 - 1 = 40 - (fk_pt (fk_pl 6 M0 [])).length := by rw [hpt]; simp only [List.length_append, List.length_singleton]; omega
          rw [ht3] at hP hD hT3
          rw [hQQ]
          exact W.vret hx hb hr (fun t ht hW => ⟨⟨(ch1, g), rfl, ⟨(by show fk_Tx (fk_pt (fk_pl 6 M0 [])) _ _; have z := hT3; rw [hpt] at z ⊢; exact z), (by show fk_R (M0 / 1000000) _; have e : M0 / 1000000 = mm := hmm.symm; rw [e]; exact hRm)⟩, by rw [ht]; exact hP, va_K.moved hW.alike hK, hD⟩, hS.F ht⟩) hS.2.2 dX3_writePlaces_57
      · have hi6 : i < 6 := by rcases Nat.lt_or_ge i 6 with q | q; exact q; exact absurd ((nI_leI (a := 6) (b := i) (by omega) (by omega)).mpr q) c_5
        obtain ⟨k, hk6⟩ : ∃ k, 6 - i = k + 1 := ⟨5 - i, by omega⟩
        have hk5 : 6 - (i + 1) = k := by omega
        rw [hk6, fk_pl] at hpl
        have ht40 := hT2.1
        have n0 : 0 ≤ mm / 10 ∧ mm / 10 < 1000000000000000000000000000000 := by omega
        have n1 : mm / 10 = M0 / 10 ^ (i + 1) := by rw [hmm, Int.pow_succ, Int.ediv_ediv_of_nonneg (Int.le_of_lt (Int.pow_pos (by decide)))]
        refine lv_aload_n hx hb dX3_writePlaces_8 rfl (lv_at hl 1 rfl) ?_
        refine lv_ldc2 (v := 10) hx hb hown k3 dX3_writePlaces_9 ?_
        refine fk_cl hD hS hA (va_runVN (As := [.long 10]) (rest := []) ⟨hx, hb, hml, hown, hts⟩ (kX2_shorten _ _ (ad 4) (ad 5) 4 5 g 10 (mm) rfl rfl hRm ⟨by omega, by omega⟩ hm0.1 (by decide)) ⟨va_cnB 1 hts gX3_writePlaces_X2_shorten_n200 rfl rfl rfl k4 k5 (by decide +kernel) ⟨Nat.le_of_ble_eq_true rfl, Nat.le_of_ble_eq_true rfl⟩, k6, k7⟩ (fk_preV 4 3 hK hN hP hD rfl rfl) rfl rfl hl.1 rfl (lv_room (Nat.le_of_ble_eq_true rfl)) dX3_writePlaces_12 ⟨Nat.le_of_ble_eq_true rfl, Nat.le_of_ble_eq_true rfl⟩) (fun r4 g3 H locs hw hP hD hS => ?_)
        have hP : va_P D vwCl (fk_wx cJ cC cK ad kd kc lo chv (nI t2) g3 f2 f3 f4 f5 ++ tl) H := hP
        have hD : va_D A (fk_wx cJ cC cK ad kd kc lo chv (nI t2) g3 f2 f3 f4 f5 ++ tl) := hD
        obtain ⟨hqg3, hRg3⟩ := hw
        rw [show (10 : Int64).toInt = 10 by decide] at hqg3 hRg3
        refine lv_lstore_n (lv' := [(3, .long r4), (0, .ref (ad 0)), (1, .ref (ad 4)), (2, .int (nI i))]) hx hb dX3_writePlaces_15 rfl hl (by decide) rfl (fun ls hl => ?_)
        refine lv_lload_n hx hb dX3_writePlaces_16 rfl (lv_at hl 0 rfl) ?_
        refine lv_lconst (v := 0) hx hb dX3_writePlaces_17 (by decide) ?_
        refine W.lcmp hx hb dX3_writePlaces_18 ?_
        refine lv_if_ne (tgt := 31) hx hb dX3_writePlaces_19 (by decide) (fun c_19 => ?_) (fun c_19 => ?_)
        · rw [lg_cmp_eq] at c_19
          rw [← Int64.toInt_inj, hqg3, fk_z64] at c_19
          rw [if_pos (Or.inl c_19)] at hpl
          refine lv_aload_n hx hb dX3_writePlaces_31 rfl (lv_at hl 1 rfl) ?_
          refine lv_lload_n hx hb dX3_writePlaces_32 rfl (lv_at hl 0 rfl) ?_
          refine fk_cv hD hS hA (va_runV (As := [.long r4]) (rest := []) ⟨hx, hb, hml, hown, hts⟩ (kX3_writeDigit _ ad tl kd kc lo chv g3 f2 f3 f4 f5 t2 L r4 mm hT2 (by omega) hqg3) (cwV 1 hts gX3_writePlaces_X3_writeDigit rfl rfl rfl (by decide +kernel) ⟨Nat.le_of_ble_eq_true rfl, Nat.le_of_ble_eq_true rfl⟩) (fk_preV 0 4 hK hN hP hD rfl rfl) rfl rfl hl.1 rfl (lv_room (Nat.le_of_ble_eq_true rfl)) dX3_writePlaces_33 ⟨Nat.le_of_ble_eq_true rfl, Nat.le_of_ble_eq_true rfl⟩) (fun ch5 H locs hw hP hD hS => ?_)
          have hP : va_P D vwCl (fk_wx cJ cC cK ad kd kc lo ch5 (nI (t2 - 1)) g3 f2 f3 f4 f5 ++ tl) H := hP
          have hD : va_D A (fk_wx cJ cC cK ad kd kc lo ch5 (nI (t2 - 1)) g3 f2 f3 f4 f5 ++ tl) := hD
          have hT3 := hw
          have n3 : (L ++ [fk_dc mm]).length ≤ i + 1 := by simp only [List.length_append, List.length_singleton]; omega
          have n4 : fk_pl (6 - (i + 1)) (mm / 10) (L ++ [fk_dc mm]) = fk_pl 6 M0 [] := by rw [hk5]; exact hpl
          refine lv_iinc (v := nI (i + 1)) (lv' := [(2, .int (nI (i + 1))), (3, .long r4), (0, .ref (ad 0)), (1, .ref (ad 4))]) hx hb dX3_writePlaces_36 hl (k := 3) rfl (by exact nI_1 i) (by decide) rfl (fun ls hl => ?_)
          refine lv_goto (tgt := 2) hx hb dX3_writePlaces_39 (by decide) ?_
          exact ih2 (i + 1) (mm / 10) g3 (L ++ [fk_dc mm]) ch5 (t2 - 1) (by omega) (by omega) hRg3 n0 n1 hT3 n3 n4 _ _ _ hP hD hS (lv_sub hl [2, 3, 0] rfl)
        · rw [lg_cmp_eq] at c_19
          rw [← Int64.toInt_inj, hqg3, fk_z64] at c_19
          refine lv_aload_n hx hb dX3_writePlaces_22 rfl (lv_at hl 1 rfl) ?_
          refine va_get (D := D) (ci := 4) (v := .int (nI t2)) (C := RX3) (T := TX3) (N := 8) hx hb hts k2 hown hK hP 0 rfl rfl 4 (by decide) k1 (fun _ h9 => h9) rfl dX3_writePlaces_23 ?_
          refine lv_bipush (v := 40) hx hb dX3_writePlaces_26 (by decide) ?_
          refine lv_icmp_ge (tgt := 36) hx hb dX3_writePlaces_28 (by decide) (fun c_28 => ?_) (fun c_28 => ?_)
          · have hL0 : L = [] := by have q := (nI_leI (a := 40) (b := t2) (by omega) (by omega)).mp c_28; exact List.eq_nil_of_length_eq_zero (by omega)
            rw [if_neg (fun q => q.elim (fun z => z c_19) (fun z => z hL0))] at hpl
            have n3 : L.length ≤ i + 1 := by omega
            have n4 : fk_pl (6 - (i + 1)) (mm / 10) L = fk_pl 6 M0 [] := by rw [hk5]; exact hpl
            refine lv_iinc (v := nI (i + 1)) (lv' := [(2, .int (nI (i + 1))), (3, .long r4), (0, .ref (ad 0)), (1, .ref (ad 4))]) hx hb dX3_writePlaces_36 hl (k := 3) rfl (by exact nI_1 i) (by decide) rfl (fun ls hl => ?_)
            refine lv_goto (tgt := 2) hx hb dX3_writePlaces_39 (by decide) ?_
            exact ih2 (i + 1) (mm / 10) g3 L chv t2 (by omega) (by omega) hRg3 n0 n1 hT2 n3 n4 _ _ _ hP hD hS (lv_sub hl [2, 3, 0] rfl)
          · have hL0 : L ≠ [] := by intro q; rw [q] at ht40; exact c_28 ((nI_leI (a := 40) (b := t2) (by omega) (by omega)).mpr (by simp at ht40; omega))
            rw [if_pos (Or.inr hL0)] at hpl
            refine lv_aload_n hx hb dX3_writePlaces_31 rfl (lv_at hl 1 rfl) ?_
            refine lv_lload_n hx hb dX3_writePlaces_32 rfl (lv_at hl 0 rfl) ?_
            refine fk_cv hD hS hA (va_runV (As := [.long r4]) (rest := []) ⟨hx, hb, hml, hown, hts⟩ (kX3_writeDigit _ ad tl kd kc lo chv g3 f2 f3 f4 f5 t2 L r4 mm hT2 (by omega) hqg3) (cwV 1 hts gX3_writePlaces_X3_writeDigit rfl rfl rfl (by decide +kernel) ⟨Nat.le_of_ble_eq_true rfl, Nat.le_of_ble_eq_true rfl⟩) (fk_preV 0 4 hK hN hP hD rfl rfl) rfl rfl hl.1 rfl (lv_room (Nat.le_of_ble_eq_true rfl)) dX3_writePlaces_33 ⟨Nat.le_of_ble_eq_true rfl, Nat.le_of_ble_eq_true rfl⟩) (fun ch7 H locs hw hP hD hS => ?_)
            have hP : va_P D vwCl (fk_wx cJ cC cK ad kd kc lo ch7 (nI (t2 - 1)) g3 f2 f3 f4 f5 ++ tl) H := hP
            have hD : va_D A (fk_wx cJ cC cK ad kd kc lo ch7 (nI (t2 - 1)) g3 f2 f3 f4 f5 ++ tl) := hD
            have hT3 := hw
            have n3 : (L ++ [fk_dc mm]).length ≤ i + 1 := by simp only [List.length_append, List.length_singleton]; omega
            have n4 : fk_pl (6 - (i + 1)) (mm / 10) (L ++ [fk_dc mm]) = fk_pl 6 M0 [] := by rw [hk5]; exact hpl
            refine lv_iinc (v := nI (i + 1)) (lv' := [(2, .int (nI (i + 1))), (3, .long r4), (0, .ref (ad 0)), (1, .ref (ad 4))]) hx hb dX3_writePlaces_36 hl (k := 3) rfl (by exact nI_1 i) (by decide) rfl (fun ls hl => ?_)
            refine lv_goto (tgt := 2) hx hb dX3_writePlaces_39 (by decide) ?_
            exact ih2 (i + 1) (mm / 10) g3 (L ++ [fk_dc mm]) ch7 (t2 - 1) (by omega) (by omega) hRg3 n0 n1 hT3 n3 n4 _ _ _ hP hD hS (lv_sub hl [2, 3, 0] rfl)
  exact L2 7 0 M0 f1 ([]) ch t0 (by omega) (by omega) hRm hm (by simp) hT (Nat.le_refl 0) rfl _ _ _ hP hD hS (lv_sub hl [1, 2, 0] rfl)
end
section
/-! FixedKinds: writeWholePart, text, by program -/
abbrev rmX3_writeWholePart : Room := { frames := 2, cells := 0, slots := 0, locals := 43 }
set_option maxHeartbeats 4000000 in
set_option maxRecDepth 100000 in
/-- writeWholePart -/
theorem kX3_writeWholePart {l : Launch} {D : va_G} {cJ cC cI cZ cK : ClassId} (sz : Nat) (ad : Nat → Nat) (tl : va_W) (kd : Nat → Option Nat) (kc lo : Int32) (ch : Nat → Int32) (f1 f2 f3 f4 f5 : Nat → Int64) (t0 : Nat) (L0 : List Int32) (M0 : Int) (hRm : fk_R M0 f1) (hm : 0 ≤ M0 ∧ M0 < 1000000000000000000000000) (hT : fk_Tx L0 ch t0) (hL0 : L0.length ≤ 10) : Met l yX3_writeWholePart wsX3_writeWholePart rmX3_writeWholePart (va_Pc [.ref (ad 0), .ref (ad 4)] (fk_pre D (fk_ty cJ cC cI cZ cK) (fk_wx cJ cC cK ad kd kc lo ch (nI t0) f1 f2 f3 f4 f5 ++ tl) sz)) (va_Qv (fun u : (Nat → Int32) × (Nat → Int64) => fk_Tx (fk_wl 39 (M0 / 10) (L0 ++ [fk_dc M0])) u.1 (40 - (fk_wl 39 (M0 / 10) (L0 ++ [fk_dc M0])).length)) (fk_Bd D (fk_ty cJ cC cI cZ cK) (va_A (fk_wx cJ cC cK ad kd kc lo ch (nI t0) f1 f2 f3 f4 f5 ++ tl) sz) (fun u : (Nat → Int32) × (Nat → Int64) => fk_wx cJ cC cK ad kd kc lo u.1 (nI (40 - (fk_wl 39 (M0 / 10) (L0 ++ [fk_dc M0])).length)) u.2 f2 f3 f4 f5 ++ tl)) (va_A (fk_wx cJ cC cK ad kd kc lo ch (nI t0) f1 f2 f3 f4 f5 ++ tl) sz)) 0 0 (va_A (fk_wx cJ cC cK ad kd kc lo ch (nI t0) f1 f2 f3 f4 f5 ++ tl) sz) := by
  refine fk_ofW cX3_writeWholePart 3 none (fun A => va_Qv (fun u : (Nat → Int32) × (Nat → Int64) => fk_Tx (fk_wl 39 (M0 / 10) (L0 ++ [fk_dc M0])) u.1 (40 - (fk_wl 39 (M0 / 10) (L0 ++ [fk_dc M0])).length)) (fk_Bd D (fk_ty cJ cC cI cZ cK) A (fun u : (Nat → Int32) × (Nat → Int64) => fk_wx cJ cC cK ad kd kc lo u.1 (nI (40 - (fk_wl 39 (M0 / 10) (L0 ++ [fk_dc M0])).length)) u.2 f2 f3 f4 f5 ++ tl)) A) rfl (by decide) (Nat.le_of_ble_eq_true rfl) ?_
  intro p e s m below meth c A ls args QQ hQQ hAt hP hK hN hD hA hS hl
  obtain ⟨⟨hx, hb, hml, hown, hts⟩, hr, hlocks, hin⟩ := hAt
  have hl : lv_has ls 3 [(0, .ref (ad 0)), (1, .ref (ad 4))] := hl
  have k1 := hts (.constantLong RX3 198 10) (by decide +kernel)
  have k2 := hN _ fkn_X3_200
  have k3 := hts (.initialized RX2) (by decide +kernel)
  have k4 := hts (.instanceMethod yX2_shorten) (by decide +kernel)
  have k5 := hts (.selects RX2 yX2_shorten yX2_shorten) (by decide +kernel)
  have k6 := hN _ fkn_X3_122
  have k7 := hts (.instanceMethod yX2_isZero) (by decide +kernel)
  have k8 := hts (.selects RX2 yX2_isZero yX2_isZero) (by decide +kernel)
  refine lv_aload_n hx hb dX3_writeWholePart_0 rfl (lv_at hl 0 rfl) ?_
  refine lv_aload_n hx hb dX3_writeWholePart_1 rfl (lv_at hl 1 rfl) ?_
  refine lv_ldc2 (v := 10) hx hb hown k1 dX3_writeWholePart_2 ?_
  refine fk_cl hD hS hA (va_runVN (As := [.long 10]) (rest := [.ref (ad 0)]) ⟨hx, hb, hml, hown, hts⟩ (kX2_shorten _ _ (ad 4) (ad 5) 4 5 f1 10 (M0) rfl rfl hRm ⟨by omega, by omega⟩ hm.1 (by decide)) ⟨va_cnB 1 hts gX3_writeWholePart_X2_shorten_n200 rfl rfl rfl k2 k3 (by decide +kernel) ⟨Nat.le_of_ble_eq_true rfl, Nat.le_of_ble_eq_true rfl⟩, k4, k5⟩ (fk_preV 4 3 hK hN hP hD rfl rfl) rfl rfl hl.1 rfl (lv_room (Nat.le_of_ble_eq_true rfl)) dX3_writeWholePart_5 ⟨Nat.le_of_ble_eq_true rfl, Nat.le_of_ble_eq_true rfl⟩) (fun r2 g1 H locs hw hP hD hS => ?_)
  have hP : va_P D vwCl (fk_wx cJ cC cK ad kd kc lo ch (nI t0) g1 f2 f3 f4 f5 ++ tl) H := hP
  have hD : va_D A (fk_wx cJ cC cK ad kd kc lo ch (nI t0) g1 f2 f3 f4 f5 ++ tl) := hD
  obtain ⟨hqg1, hRg1⟩ := hw
  rw [show (10 : Int64).toInt = 10 by decide] at hqg1 hRg1
  refine fk_cv hD hS hA (va_runV (As := [.long r2]) (rest := []) ⟨hx, hb, hml, hown, hts⟩ (kX3_writeDigit _ ad tl kd kc lo ch g1 f2 f3 f4 f5 t0 L0 r2 M0 hT (by have := hT.1; omega) hqg1) (cwV 1 hts gX3_writeWholePart_X3_writeDigit rfl rfl rfl (by decide +kernel) ⟨Nat.le_of_ble_eq_true rfl, Nat.le_of_ble_eq_true rfl⟩) (fk_preV 0 4 hK hN hP hD rfl rfl) rfl rfl hl.1 rfl (lv_room (Nat.le_of_ble_eq_true rfl)) dX3_writeWholePart_8 ⟨Nat.le_of_ble_eq_true rfl, Nat.le_of_ble_eq_true rfl⟩) (fun ch3 H locs hw hP hD hS => ?_)
  have hP : va_P D vwCl (fk_wx cJ cC cK ad kd kc lo ch3 (nI (t0 - 1)) g1 f2 f3 f4 f5 ++ tl) H := hP
  have hD : va_D A (fk_wx cJ cC cK ad kd kc lo ch3 (nI (t0 - 1)) g1 f2 f3 f4 f5 ++ tl) := hD
  have hT1 := hw
  have hlen : (L0 ++ [fk_dc M0]).length = L0.length + 1 := by simp
  refine lv_iconst (v := 1) hx hb dX3_writeWholePart_11 (by decide) ?_
  refine lv_istore_n (lv' := [(2, .int 1), (0, .ref (ad 0)), (1, .ref (ad 4))]) hx hb dX3_writeWholePart_12 rfl hl (by decide) rfl (fun ls hl => ?_)
  have L13 : ∀ (fu13 : Nat) (i : Nat) (mm : Int) (g : Nat → Int64) (L : List Int32) (chv : Nat → Int32) (t2 : Nat) (cc : Nat), 40 - i < fu13 → (1 ≤ i ∧ i ≤ 40) → (fk_R mm g) → (0 ≤ mm ∧ mm < 1000000000000000000000000000000) → (mm < 10 ^ cc) → (fk_Tx L chv t2) → (L.length + cc ≤ 38) → (fk_wl (40 - i) mm L = fk_wl 39 (M0 / 10) (L0 ++ [fk_dc M0])) → ∀ (H : Heap) (locs : List Loc) (ls : Array Slot), va_P D vwCl (fk_wx cJ cC cK ad kd kc lo chv (nI t2) g f2 f3 f4 f5 ++ tl) H → va_D A (fk_wx cJ cC cK ad kd kc lo chv (nI t2) g f2 f3 f4 f5 ++ tl) → va_S A s.heap H locs → lv_has ls 3 [(0, .ref (ad 0)), (1, .ref (ad 4)), (2, .int (nI i))] → W p l e rmX3_writeWholePart s m args below meth c H locs 0 0 QQ (F0 m 13 ls []) := by
    intro fu13
    induction fu13 with
    | zero => intro i mm g L chv t2 cc hfu; exact absurd hfu (Nat.not_lt_zero _)
    | succ fu13 ih13 =>
      intro i mm g L chv t2 cc hfu13 hi hRm hm0 hmc hT2 hLl hwl H locs ls hP hD hS hl
      refine lv_iload_n hx hb dX3_writeWholePart_13 rfl (lv_at hl 2 rfl) ?_
      refine lv_bipush (v := 40) hx hb dX3_writeWholePart_14 (by decide) ?_
      refine lv_icmp_ge (tgt := 43) hx hb dX3_writeWholePart_16 (by decide) (fun c_16 => ?_) (fun c_16 => ?_)
      · have hi40 : i = 40 := by have q := (nI_leI (a := 40) (b := i) (by omega) (by omega)).mp c_16; omega
        subst hi40
        have hwl : L = fk_wl 39 (M0 / 10) (L0 ++ [fk_dc M0]) := hwl
        have ht3 : t2 = 40 - (fk_wl 39 (M0 / 10) (L0 ++ [fk_dc M0])).length := by rw [← hwl]; have := hT2.1; omega
        rw [ht3] at hP hD hT2
        rw [hQQ]
        exact W.vret hx hb hr (fun t ht hW => ⟨⟨(chv, g), rfl, (by show fk_Tx (fk_wl 39 (M0 / 10) (L0 ++ [fk_dc M0])) _ _; have z := hT2; rw [hwl] at z; exact z), by rw [ht]; exact hP, va_K.moved hW.alike hK, hD⟩, hS.F ht⟩) hS.2.2 dX3_writeWholePart_43
      · have hi40 : i < 40 := by rcases Nat.lt_or_ge i 40 with q | q; exact q; exact absurd ((nI_leI (a := 40) (b := i) (by omega) (by omega)).mpr q) c_16
        refine lv_aload_n hx hb dX3_writeWholePart_19 rfl (lv_at hl 1 rfl) ?_
        refine fk_ci hD hS hA (va_runVN (As := []) (rest := []) ⟨hx, hb, hml, hown, hts⟩ (kX2_isZero _ _ (ad 4) (ad 5) 4 5 g (mm) rfl rfl hRm ⟨by omega, by omega⟩) ⟨va_cnB 0 hts gX3_writeWholePart_X2_isZero_n122 rfl rfl rfl k6 k3 (by decide +kernel) ⟨Nat.le_of_ble_eq_true rfl, Nat.le_of_ble_eq_true rfl⟩, k7, k8⟩ (fk_preV 4 3 hK hN hP hD rfl rfl) rfl rfl hl.1 rfl (lv_room (Nat.le_of_ble_eq_true rfl)) dX3_writeWholePart_20 ⟨Nat.le_of_ble_eq_true rfl, Nat.le_of_ble_eq_true rfl⟩) (fun r5 u H locs hw hP hD hS => ?_)
        have hP : va_P D vwCl (fk_wx cJ cC cK ad kd kc lo chv (nI t2) g f2 f3 f4 f5 ++ tl) H := hP
        have hD : va_D A (fk_wx cJ cC cK ad kd kc lo chv (nI t2) g f2 f3 f4 f5 ++ tl) := hD
        have z := hw
        refine lv_if_ne (tgt := 43) hx hb dX3_writeWholePart_23 (by decide) (fun c_23 => ?_) (fun c_23 => ?_)
        · have p_c_23 : mm = 0 := by by_cases q : mm = 0; exact q; rw [z, if_neg q] at c_23; exact absurd rfl c_23
          rw [p_c_23, fk_wl_0] at hwl
          have ht3 : t2 = 40 - (fk_wl 39 (M0 / 10) (L0 ++ [fk_dc M0])).length := by rw [← hwl]; have := hT2.1; omega
          rw [ht3] at hP hD hT2
          rw [hQQ]
          exact W.vret hx hb hr (fun t ht hW => ⟨⟨(chv, g), rfl, (by show fk_Tx (fk_wl 39 (M0 / 10) (L0 ++ [fk_dc M0])) _ _; have z := hT2; rw [hwl] at z; exact z), by rw [ht]; exact hP, va_K.moved hW.alike hK, hD⟩, hS.F ht⟩) hS.2.2 dX3_writeWholePart_43
        · have p_c_23 : ¬ (mm = 0) := by intro q; rw [z, if_pos q] at c_23; exact absurd c_23 (by decide)
          obtain ⟨k, hk⟩ : ∃ k, cc = k + 1 := by
            rcases Nat.eq_zero_or_pos cc with q | q
            · rw [q] at hmc; simp at hmc; omega
            · exact ⟨cc - 1, by omega⟩
          subst hk
          rw [show 40 - i = (40 - (i + 1)) + 1 by omega, fk_wl_s L p_c_23] at hwl
          have ht40 := hT2.1
          have n0 : 0 ≤ mm / 10 ∧ mm / 10 < 1000000000000000000000000000000 := by omega
          have n1 : mm / 10 < 10 ^ k := by rw [Int.pow_succ] at hmc; omega
          have n3 : (L ++ [fk_dc mm]).length + k ≤ 38 := by simp only [List.length_append, List.length_singleton]; omega
          have n4 := hwl
          refine lv_aload_n hx hb dX3_writeWholePart_26 rfl (lv_at hl 0 rfl) ?_
          refine lv_aload_n hx hb dX3_writeWholePart_27 rfl (lv_at hl 1 rfl) ?_
          refine lv_ldc2 (v := 10) hx hb hown k1 dX3_writeWholePart_28 ?_
          refine fk_cl hD hS hA (va_runVN (As := [.long 10]) (rest := [.ref (ad 0)]) ⟨hx, hb, hml, hown, hts⟩ (kX2_shorten _ _ (ad 4) (ad 5) 4 5 g 10 (mm) rfl rfl hRm ⟨by omega, by omega⟩ hm0.1 (by decide)) ⟨va_cnB 1 hts gX3_writeWholePart_X2_shorten_n200 rfl rfl rfl k2 k3 (by decide +kernel) ⟨Nat.le_of_ble_eq_true rfl, Nat.le_of_ble_eq_true rfl⟩, k4, k5⟩ (fk_preV 4 3 hK hN hP hD rfl rfl) rfl rfl hl.1 rfl (lv_room (Nat.le_of_ble_eq_true rfl)) dX3_writeWholePart_31 ⟨Nat.le_of_ble_eq_true rfl, Nat.le_of_ble_eq_true rfl⟩) (fun r7 g6 H locs hw hP hD hS => ?_)
          have hP : va_P D vwCl (fk_wx cJ cC cK ad kd kc lo chv (nI t2) g6 f2 f3 f4 f5 ++ tl) H := hP
          have hD : va_D A (fk_wx cJ cC cK ad kd kc lo chv (nI t2) g6 f2 f3 f4 f5 ++ tl) := hD
          obtain ⟨hqg6, hRg6⟩ := hw
          rw [show (10 : Int64).toInt = 10 by decide] at hqg6 hRg6
          refine fk_cv hD hS hA (va_runV (As := [.long r7]) (rest := []) ⟨hx, hb, hml, hown, hts⟩ (kX3_writeDigit _ ad tl kd kc lo chv g6 f2 f3 f4 f5 t2 L r7 mm hT2 (by omega) hqg6) (cwV 1 hts gX3_writeWholePart_X3_writeDigit rfl rfl rfl (by decide +kernel) ⟨Nat.le_of_ble_eq_true rfl, Nat.le_of_ble_eq_true rfl⟩) (fk_preV 0 4 hK hN hP hD rfl rfl) rfl rfl hl.1 rfl (lv_room (Nat.le_of_ble_eq_true rfl)) dX3_writeWholePart_34 ⟨Nat.le_of_ble_eq_true rfl, Nat.le_of_ble_eq_true rfl⟩) (fun ch8 H locs hw hP hD hS => ?_)
          have hP : va_P D vwCl (fk_wx cJ cC cK ad kd kc lo ch8 (nI (t2 - 1)) g6 f2 f3 f4 f5 ++ tl) H := hP
          have hD : va_D A (fk_wx cJ cC cK ad kd kc lo ch8 (nI (t2 - 1)) g6 f2 f3 f4 f5 ++ tl) := hD
          have hT3 := hw
          refine lv_iinc (v := nI (i + 1)) (lv' := [(2, .int (nI (i + 1))), (0, .ref (ad 0)), (1, .ref (ad 4))]) hx hb dX3_writeWholePart_37 hl (k := 2) rfl (by exact nI_1 i) (by decide) rfl (fun ls hl => ?_)
          refine lv_goto (tgt := 13) hx hb dX3_writeWholePart_40 (by decide) ?_
          exact ih13 (i + 1) (mm / 10) g6 (L ++ [fk_dc mm]) ch8 (t2 - 1) k (by omega) (by omega) hRg6 n0 n1 hT3 n3 n4 _ _ _ hP hD hS (lv_sub hl [1, 2, 0] rfl)
  exact L13 40 1 (M0 / 10) g1 (L0 ++ [fk_dc M0]) ch3 (t0 - 1) 24 (by omega) (by omega) hRg1 (by omega) (by rw [show (10 : Int) ^ 24 = 1000000000000000000000000 by decide]; omega) hT1 (by rw [hlen]; omega) rfl _ _ _ hP hD hS (lv_sub hl [1, 2, 0] rfl)
abbrev rmX3_text : Room := { frames := 3, cells := 0, slots := 0, locals := 67 }
set_option maxHeartbeats 4000000 in
set_option maxRecDepth 100000 in
/-- text -/
theorem kX3_text {l : Launch} {D : va_G} {cJ cC cI cZ cK : ClassId} (sz : Nat) (ad : Nat → Nat) (tl : va_W) (kd : Nat → Option Nat) (lo : Int32) (ch : Nat → Int32) (tt : Nat) (f1 f2 f3 f4 f5 : Nat → Int64) (n : Nat) (kf : Nat → fk_K) (ka kp : Nat → Nat) (num : Int32) (v : Int64) (hKT : fk_KT n kf kd ka kp tl) : Met l yX3_text wsX3_text rmX3_text (va_Pc [.ref (ad 0), .int num, .long v] (fk_pre D (fk_ty cJ cC cI cZ cK) (fk_wx cJ cC cK ad kd (nI n) lo ch (nI tt) f1 f2 f3 f4 f5 ++ tl) sz)) (va_Qi (fun (r : Int32) (u : (Nat → Int32) × Nat × (Nat → Int64) × (Nat → Int64)) => (fk_no n num ∧ r = -1 ∧ u.1 = ch ∧ u.2.1 = tt) ∨ ∃ j, j < n ∧ num = nI (j + 1) ∧ r = nI (fk_txt (fk_v (kf j) v) (fk_dn (kf j))).length ∧ u.2.1 = 40 - (fk_txt (fk_v (kf j) v) (fk_dn (kf j))).length ∧ (fk_txt (fk_v (kf j) v) (fk_dn (kf j))).length ≤ 34 ∧ fk_Tx (fk_txt (fk_v (kf j) v) (fk_dn (kf j))) u.1 (40 - (fk_txt (fk_v (kf j) v) (fk_dn (kf j))).length)) (fk_Bd D (fk_ty cJ cC cI cZ cK) (va_A (fk_wx cJ cC cK ad kd (nI n) lo ch (nI tt) f1 f2 f3 f4 f5 ++ tl) sz) (fun u : (Nat → Int32) × Nat × (Nat → Int64) × (Nat → Int64) => fk_wx cJ cC cK ad kd (nI n) lo u.1 (nI u.2.1) u.2.2.1 u.2.2.2 f3 f4 f5 ++ tl)) (va_A (fk_wx cJ cC cK ad kd (nI n) lo ch (nI tt) f1 f2 f3 f4 f5 ++ tl) sz)) 0 0 (va_A (fk_wx cJ cC cK ad kd (nI n) lo ch (nI tt) f1 f2 f3 f4 f5 ++ tl) sz) := by
  refine fk_ofW cX3_text 8 (some .int) (fun A => va_Qi (fun (r : Int32) (u : (Nat → Int32) × Nat × (Nat → Int64) × (Nat → Int64)) => (fk_no n num ∧ r = -1 ∧ u.1 = ch ∧ u.2.1 = tt) ∨ ∃ j, j < n ∧ num = nI (j + 1) ∧ r = nI (fk_txt (fk_v (kf j) v) (fk_dn (kf j))).length ∧ u.2.1 = 40 - (fk_txt (fk_v (kf j) v) (fk_dn (kf j))).length ∧ (fk_txt (fk_v (kf j) v) (fk_dn (kf j))).length ≤ 34 ∧ fk_Tx (fk_txt (fk_v (kf j) v) (fk_dn (kf j))) u.1 (40 - (fk_txt (fk_v (kf j) v) (fk_dn (kf j))).length)) (fk_Bd D (fk_ty cJ cC cI cZ cK) A (fun u : (Nat → Int32) × Nat × (Nat → Int64) × (Nat → Int64) => fk_wx cJ cC cK ad kd (nI n) lo u.1 (nI u.2.1) u.2.2.1 u.2.2.2 f3 f4 f5 ++ tl)) A) rfl (by decide) (Nat.le_of_ble_eq_true rfl) ?_
  intro p e s m below meth c A ls args QQ hQQ hAt hP hK hN hD hA hS hl
  obtain ⟨⟨hx, hb, hml, hown, hts⟩, hr, hlocks, hin⟩ := hAt
  have hl : lv_has ls 8 [(0, .ref (ad 0)), (1, .int num), (2, .long v)] := hl
  have k1 := hts (.fieldLink RX3 33 "FixedKinds" "first" "LFixedKinds$Fraction;") (by decide +kernel)
  have k2 := (by decide +kernel : ∀ w ∈ u_ws RX3 TX3 8, w ∈ wsX3_text)
  have k3 := hN _ fkn_X3_72
  have k4 := hts (.initialized RX0) (by decide +kernel)
  have k5 := hts (.instanceMethod yX0_take) (by decide +kernel)
  have k6 := hts (.selects RX0 yX0_take yX0_take) (by decide +kernel)
  have k7 := hN _ fkn_X3_98
  have k8 := (by decide +kernel : ∀ w ∈ u_ws RX0 TX0 2, w ∈ wsX3_text)
  have k9 := hN _ fkn_X3_114
  have k10 := hts (.initialized RX2) (by decide +kernel)
  have k11 := hts (.instanceMethod yX2_isNegative) (by decide +kernel)
  have k12 := hts (.selects RX2 yX2_isNegative yX2_isNegative) (by decide +kernel)
  have k13 := hN _ fkn_X3_118
  have k14 := hts (.instanceMethod yX0_toMillionths) (by decide +kernel)
  have k15 := hts (.selects RX0 yX0_toMillionths yX0_toMillionths) (by decide +kernel)
  have k16 := hts (.fieldLink RX3 27 "FixedKinds" "textStart" "I") (by decide +kernel)
  have k17 := hN _ fkn_X3_122
  have k18 := hts (.instanceMethod yX2_isZero) (by decide +kernel)
  have k19 := hts (.selects RX2 yX2_isZero yX2_isZero) (by decide +kernel)
  have hn40 := hKT.1
  refine lv_aload_n hx hb dX3_text_0 rfl (lv_at hl 0 rfl) ?_
  refine lv_iload_n hx hb dX3_text_1 rfl (lv_at hl 1 rfl) ?_
  refine fk_cq hD hS hA (va_runV (As := [.int num]) (rest := []) ⟨hx, hb, hml, hown, hts⟩ (kX3_find _ ad tl kd lo ch (nI tt) f1 f2 f3 f4 f5 n kf ka kp num hKT) (cwV 1 hts gX3_text_X3_find rfl rfl rfl (by decide +kernel) ⟨Nat.le_of_ble_eq_true rfl, Nat.le_of_ble_eq_true rfl⟩) (fk_preV 0 4 hK hN hP hD rfl rfl) rfl rfl hl.1 rfl (lv_room (Nat.le_of_ble_eq_true rfl)) dX3_text_2 ⟨Nat.le_of_ble_eq_true rfl, Nat.le_of_ble_eq_true rfl⟩) (fun r1 u H locs hw hP hD hS => ?_)
  have hP : va_P D vwCl (fk_wx cJ cC cK ad kd (nI n) lo ch (nI tt) f1 f2 f3 f4 f5 ++ tl) H := hP
  have hD : va_D A (fk_wx cJ cC cK ad kd (nI n) lo ch (nI tt) f1 f2 f3 f4 f5 ++ tl) := hD
  rcases hw with ⟨hr_j, hno_j⟩ | ⟨j, hj, hn_j, hr_j⟩
  · subst hr_j
    refine lv_astoreN (lv' := [(4, .null), (0, .ref (ad 0)), (1, .int num), (2, .long v)]) hx hb dX3_text_5 hl (by decide) rfl (fun ls hl => ?_)
    refine lv_aloadN hx hb dX3_text_7 (lv_at hl 0 rfl) ?_
    refine lv_ifnonnullN hx hb dX3_text_9 ?_
    refine lv_iconst (v := (-1)) hx hb dX3_text_12 (by decide) ?_
    rw [hQQ]
    exact W.iret (v := (-1)) hx hb hr (fun t ht hW => ⟨⟨(-1), (ch, tt, f1, f2), rfl, Or.inl ⟨hno_j, rfl, rfl, rfl⟩, by rw [ht]; exact hP, va_K.moved hW.alike hK, hD⟩, hS.F ht⟩) hS.2.2 dX3_text_13
  · subst hr_j
    subst hn_j
    have ok_j := (hKT.2.1 j hj).2.2
    obtain ⟨okd_j, oko_j, okr_j⟩ := id ok_j
    refine lv_astore (lv' := [(4, .ref (ka j)), (0, .ref (ad 0)), (1, .int (nI (j + 1))), (2, .long v)]) hx hb dX3_text_5 hl (by decide) rfl (fun ls hl => ?_)
    refine lv_aload hx hb dX3_text_7 (lv_at hl 0 rfl) ?_
    refine lv_ifnonnull (tgt := 14) hx hb dX3_text_9 (by decide) ?_
    refine lv_aload_n hx hb dX3_text_14 rfl (lv_at hl 1 rfl) ?_
    refine va_get (D := D) (ci := 4) (v := .ref (ad 3)) (C := RX3) (T := TX3) (N := 8) hx hb hts k2 hown hK hP 0 rfl rfl 5 (by decide) k1 (fun _ h9 => h9) rfl dX3_text_15 ?_
    refine lv_aload hx hb dX3_text_18 (lv_at hl 0 rfl) ?_
    refine lv_lload_n hx hb dX3_text_20 rfl (lv_at hl 3 rfl) ?_
    refine fk_cv hD hS hA (va_runVN (As := [.ref (ka j), .long v]) (rest := []) ⟨hx, hb, hml, hown, hts⟩ (kX0_take _ _ (ad 3) (ad 4) (ad 5) (ad 6) (ad 7) 3 4 5 6 7 f1 f2 (ka j) (kp j + 15) (kf j).1 (kf j).2.1 (kf j).2.2.2.2.2.1 (kf j).2.2.2.2.2.2 (kf j).2.2.1 (kf j).2.2.2.1 (kf j).2.2.2.2.1 v rfl rfl rfl rfl rfl (fk_tl (hKT.2.1 j hj).2.1) okd_j (by decide)) ⟨va_cnB 2 hts gX3_text_X0_take_n72 rfl rfl rfl k3 k4 (by decide +kernel) ⟨Nat.le_of_ble_eq_true rfl, Nat.le_of_ble_eq_true rfl⟩, k5, k6⟩ (fk_preV 3 1 hK hN hP hD rfl rfl) rfl rfl hl.1 rfl (lv_room (Nat.le_of_ble_eq_true rfl)) dX3_text_21 ⟨Nat.le_of_ble_eq_true rfl, Nat.le_of_ble_eq_true rfl⟩) (fun u2 H locs hw hP hD hS => ?_)
    have hP : va_P D vwCl (fk_wx cJ cC cK ad kd (nI n) lo ch (nI tt) u2.1 u2.2 f3 f4 f5 ++ tl) H := hP
    have hD : va_D A (fk_wx cJ cC cK ad kd (nI n) lo ch (nI tt) u2.1 u2.2 f3 f4 f5 ++ tl) := hD
    obtain ⟨hTu2, hBu2⟩ := hw
    have hTu2 : fk_R (fk_v (kf j) v) u2.1 := hTu2
    have hBu2 : fk_R (fk_dn (kf j)) u2.2 := hBu2
    have bvu2 := fk_v_bd ok_j v
    have bdu2 := fk_dn_bd ok_j
    have bv := fk_v_bd ok_j v
    have bd := fk_dn_bd ok_j
    have mb := fk_ms_bd bv bd
    refine lv_aload_n hx hb dX3_text_24 rfl (lv_at hl 1 rfl) ?_
    refine va_get (D := D) (ci := 4) (v := .ref (ad 3)) (C := RX3) (T := TX3) (N := 8) hx hb hts k2 hown hK hP 0 rfl rfl 5 (by decide) k1 (fun _ h9 => h9) rfl dX3_text_25 ?_
    refine va_getN (D := D) (ci := 1) (v := .ref (ad 4)) (C := RX0) (T := TX0) (N := 2) hx hb hts k8 hown hK hP 3 rfl rfl 0 (by decide) (va_Nw.use rfl k7) (fun _ h9 => h9) rfl dX3_text_28 ?_
    refine fk_ci hD hS hA (va_runVN (As := []) (rest := []) ⟨hx, hb, hml, hown, hts⟩ (kX2_isNegative _ _ (ad 4) (ad 5) 4 5 u2.1 (fk_v (kf j) v) rfl rfl hTu2 ⟨by omega, by omega⟩) ⟨va_cnB 0 hts gX3_text_X2_isNegative_n114 rfl rfl rfl k9 k10 (by decide +kernel) ⟨Nat.le_of_ble_eq_true rfl, Nat.le_of_ble_eq_true rfl⟩, k11, k12⟩ (fk_preV 4 3 hK hN hP hD rfl rfl) rfl rfl hl.1 rfl (lv_room (Nat.le_of_ble_eq_true rfl)) dX3_text_31 ⟨Nat.le_of_ble_eq_true rfl, Nat.le_of_ble_eq_true rfl⟩) (fun r4 u H locs hw hP hD hS => ?_)
    have hP : va_P D vwCl (fk_wx cJ cC cK ad kd (nI n) lo ch (nI tt) u2.1 u2.2 f3 f4 f5 ++ tl) H := hP
    have hD : va_D A (fk_wx cJ cC cK ad kd (nI n) lo ch (nI tt) u2.1 u2.2 f3 f4 f5 ++ tl) := hD
    have z0 := hw
    refine lv_istore (lv' := [(5, .int r4), (4, .ref (ka j)), (0, .ref (ad 0)), (1, .int (nI (j + 1))), (2, .long v)]) hx hb dX3_text_34 hl (by decide) rfl (fun ls hl => ?_)
    refine lv_aload_n hx hb dX3_text_36 rfl (lv_at hl 2 rfl) ?_
    refine va_get (D := D) (ci := 4) (v := .ref (ad 3)) (C := RX3) (T := TX3) (N := 8) hx hb hts k2 hown hK hP 0 rfl rfl 5 (by decide) k1 (fun _ h9 => h9) rfl dX3_text_37 ?_
    refine fk_cq hD hS hA (va_runVN (As := []) (rest := []) ⟨hx, hb, hml, hown, hts⟩ (kX0_toMillionths _ ad tl kd (nI n) lo ch (nI tt) u2.1 u2.2 f3 f4 f5 (fk_v (kf j) v) (fk_dn (kf j)) hTu2 hBu2 bv bd) ⟨va_cnB 0 hts gX3_text_X0_toMillionths_n118 rfl rfl rfl k13 k4 (by decide +kernel) ⟨Nat.le_of_ble_eq_true rfl, Nat.le_of_ble_eq_true rfl⟩, k14, k15⟩ (fk_preV 3 1 hK hN hP hD rfl rfl) rfl rfl hl.1 rfl (lv_room (Nat.le_of_ble_eq_true rfl)) dX3_text_40 ⟨Nat.le_of_ble_eq_true rfl, Nat.le_of_ble_eq_true rfl⟩) (fun r6 g5 H locs hw hP hD hS => ?_)
    have hP : va_P D vwCl (fk_wx cJ cC cK ad kd (nI n) lo ch (nI tt) g5 u2.2 f3 f4 f5 ++ tl) H := hP
    have hD : va_D A (fk_wx cJ cC cK ad kd (nI n) lo ch (nI tt) g5 u2.2 f3 f4 f5 ++ tl) := hD
    obtain ⟨hr4, hM⟩ := hw
    subst hr4
    have hM : fk_R (fk_ms (fk_v (kf j) v) (fk_dn (kf j))) g5 := hM
    refine lv_astore (lv' := [(6, .ref (ad 4)), (5, .int r4), (4, .ref (ka j)), (0, .ref (ad 0)), (1, .int (nI (j + 1))), (2, .long v)]) hx hb dX3_text_43 hl (by decide) rfl (fun ls hl => ?_)
    refine lv_iload hx hb dX3_text_45 (lv_at hl 1 rfl) ?_
    refine lv_if_eq (tgt := 62) hx hb dX3_text_47 (by decide) (fun c_47 => ?_) (fun c_47 => ?_)
    · have p_c_47 : ¬ (fk_v (kf j) v) < 0 := by intro q; rw [z0, if_pos q] at c_47; exact absurd c_47 (by decide)
      have hneg : ¬ ((fk_v (kf j) v) < 0 ∧ fk_ms (fk_v (kf j) v) (fk_dn (kf j)) ≠ 0) := fun q => p_c_47 q.1
      refine lv_iconst (v := 0) hx hb dX3_text_62 (by decide) ?_
      refine lv_istore (lv' := [(7, .int 0), (6, .ref (ad 4)), (5, .int r4), (4, .ref (ka j)), (0, .ref (ad 0)), (1, .int (nI (j + 1))), (2, .long v)]) hx hb dX3_text_63 hl (by decide) rfl (fun ls hl => ?_)
      refine lv_aload_n hx hb dX3_text_65 rfl (lv_at hl 4 rfl) ?_
      refine lv_bipush (v := 40) hx hb dX3_text_66 (by decide) ?_
      refine va_put (D := D) (ci := 4) (v := .int 40) (ty := (.int)) (C := RX3) (T := TX3) (N := 8) hx hb hts k2 tyX3 tyX3_ok nmX3 hown hK hP hD hS 0 rfl rfl 4 (by decide) k16 (fun _ h9 => h9) rfl (by decide +kernel) rfl rfl (Nat.le_of_ble_eq_true rfl) dX3_text_68 (fun H locs hP hD hS => ?_)
      have hP : va_P D vwCl (fk_wx cJ cC cK ad kd (nI n) lo ch 40 g5 u2.2 f3 f4 f5 ++ tl) H := hP
      have hD : va_D A (fk_wx cJ cC cK ad kd (nI n) lo ch 40 g5 u2.2 f3 f4 f5 ++ tl) := hD
      refine lv_aload_n hx hb dX3_text_71 rfl (lv_at hl 4 rfl) ?_
      refine lv_aload hx hb dX3_text_72 (lv_at hl 1 rfl) ?_
      refine fk_cv hD hS hA (va_runV (As := [.ref (ad 4)]) (rest := []) ⟨hx, hb, hml, hown, hts⟩ (kX3_writePlaces _ ad tl kd (nI n) lo ch g5 u2.2 f3 f4 f5 40 (fk_ms (fk_v (kf j) v) (fk_dn (kf j))) hM mb (fk_Tx_0 ch)) (cwV 1 hts gX3_text_X3_writePlaces rfl rfl rfl (by decide +kernel) ⟨Nat.le_of_ble_eq_true rfl, Nat.le_of_ble_eq_true rfl⟩) (fk_preV 0 4 hK hN hP hD rfl rfl) rfl rfl hl.1 rfl (lv_room (Nat.le_of_ble_eq_true rfl)) dX3_text_74 ⟨Nat.le_of_ble_eq_true rfl, Nat.le_of_ble_eq_true rfl⟩) (fun u7 H locs hw hP hD hS => ?_)
      have hP : va_P D vwCl (fk_wx cJ cC cK ad kd (nI n) lo u7.1 (nI (40 - (fk_pt (fk_pl 6 (fk_ms (fk_v (kf j) v) (fk_dn (kf j))) [])).length)) u7.2 u2.2 f3 f4 f5 ++ tl) H := hP
      have hD : va_D A (fk_wx cJ cC cK ad kd (nI n) lo u7.1 (nI (40 - (fk_pt (fk_pl 6 (fk_ms (fk_v (kf j) v) (fk_dn (kf j))) [])).length)) u7.2 u2.2 f3 f4 f5 ++ tl) := hD
      obtain ⟨hT1, hM1⟩ := hw
      have hl6 := fk_pl_len 6 (fk_ms (fk_v (kf j) v) (fk_dn (kf j))) []
      have hl7 : (fk_pt (fk_pl 6 (fk_ms (fk_v (kf j) v) (fk_dn (kf j))) [])).length ≤ 7 := by
        rw [fk_pt]; split
        · simp only [List.length_append, List.length_singleton]; simp at hl6; omega
        · simp at hl6; omega
      refine lv_aload_n hx hb dX3_text_77 rfl (lv_at hl 4 rfl) ?_
      refine lv_aload hx hb dX3_text_78 (lv_at hl 1 rfl) ?_
      refine fk_cv hD hS hA (va_runV (As := [.ref (ad 4)]) (rest := []) ⟨hx, hb, hml, hown, hts⟩ (kX3_writeWholePart _ ad tl kd (nI n) lo u7.1 u7.2 u2.2 f3 f4 f5 (40 - (fk_pt (fk_pl 6 (fk_ms (fk_v (kf j) v) (fk_dn (kf j))) [])).length) (fk_pt (fk_pl 6 (fk_ms (fk_v (kf j) v) (fk_dn (kf j))) [])) (fk_ms (fk_v (kf j) v) (fk_dn (kf j)) / 1000000) hM1 (by omega) hT1 (by omega)) (cwV 1 hts gX3_text_X3_writeWholePart rfl rfl rfl (by decide +kernel) ⟨Nat.le_of_ble_eq_true rfl, Nat.le_of_ble_eq_true rfl⟩) (fk_preV 0 4 hK hN hP hD rfl rfl) rfl rfl hl.1 rfl (lv_room (Nat.le_of_ble_eq_true rfl)) dX3_text_80 ⟨Nat.le_of_ble_eq_true rfl, Nat.le_of_ble_eq_true rfl⟩) (fun u9 H locs hw hP hD hS => ?_)
      have hP : va_P D vwCl (fk_wx cJ cC cK ad kd (nI n) lo u9.1 (nI (40 - (fk_tl4 (fk_v (kf j) v) (fk_dn (kf j))).length)) u9.2 u2.2 f3 f4 f5 ++ tl) H := hP
      have hD : va_D A (fk_wx cJ cC cK ad kd (nI n) lo u9.1 (nI (40 - (fk_tl4 (fk_v (kf j) v) (fk_dn (kf j))).length)) u9.2 u2.2 f3 f4 f5 ++ tl) := hD
      have hT4 : fk_Tx (fk_tl4 (fk_v (kf j) v) (fk_dn (kf j))) u9.1 (40 - (fk_tl4 (fk_v (kf j) v) (fk_dn (kf j))).length) := hw
      have hl4 := fk_wl_len 24 39 (fk_ms (fk_v (kf j) v) (fk_dn (kf j)) / 1000000 / 10) (fk_pt (fk_pl 6 (fk_ms (fk_v (kf j) v) (fk_dn (kf j))) []) ++ [fk_dc (fk_ms (fk_v (kf j) v) (fk_dn (kf j)) / 1000000)]) (by omega) (by rw [show (10 : Int) ^ 24 = 1000000000000000000000000 by decide]; omega)
      simp only [List.length_append, List.length_singleton] at hl4
      have hl4 : (fk_tl4 (fk_v (kf j) v) (fk_dn (kf j))).length ≤ 33 := by rw [fk_tl4]; omega
      refine lv_iload hx hb dX3_text_83 (lv_at hl 0 rfl) ?_
      refine lv_if_eq (tgt := 94) hx hb dX3_text_85 (by decide) (fun c_85 => ?_) (fun c_85 => False.elim (absurd rfl c_85))
      have htx : fk_txt (fk_v (kf j) v) (fk_dn (kf j)) = fk_tl4 (fk_v (kf j) v) (fk_dn (kf j)) := by rw [fk_txt, if_neg hneg]
      rw [← htx] at hP hD hT4 hl4
      have hTf := hT4
      refine lv_bipush (v := 40) hx hb dX3_text_94 (by decide) ?_
      refine lv_aload_n hx hb dX3_text_96 rfl (lv_at hl 4 rfl) ?_
      refine va_get (D := D) (ci := 4) (v := .int (nI (40 - (fk_txt (fk_v (kf j) v) (fk_dn (kf j))).length))) (C := RX3) (T := TX3) (N := 8) hx hb hts k2 hown hK hP 0 rfl rfl 4 (by decide) k16 (fun _ h9 => h9) rfl dX3_text_97 ?_
      refine lv_isub hx hb dX3_text_100 ?_
      refine lv_topi (fun x11 ex11 => ?_)
      have ex11q : x11 = nI ((fk_txt (fk_v (kf j) v) (fk_dn (kf j))).length) := by
        rw [ex11, show (40 : Int32) = nI 40 from rfl, pk_sub (by omega), show 40 - (40 - (fk_txt (fk_v (kf j) v) (fk_dn (kf j))).length) = (fk_txt (fk_v (kf j) v) (fk_dn (kf j))).length by omega]
      subst ex11q
      rw [hQQ]
      exact W.iret (v := nI ((fk_txt (fk_v (kf j) v) (fk_dn (kf j))).length)) hx hb hr (fun t ht hW => ⟨⟨(nI ((fk_txt (fk_v (kf j) v) (fk_dn (kf j))).length)), (u9.1, 40 - (fk_txt (fk_v (kf j) v) (fk_dn (kf j))).length, u9.2, u2.2), rfl, Or.inr ⟨j, hj, rfl, rfl, rfl, by omega, hTf⟩, by rw [ht]; exact hP, va_K.moved hW.alike hK, hD⟩, hS.F ht⟩) hS.2.2 dX3_text_101
    · have p_c_47 : (fk_v (kf j) v) < 0 := by by_cases q : (fk_v (kf j) v) < 0; exact q; rw [z0, if_neg q] at c_47; exact absurd rfl c_47
      refine lv_aload hx hb dX3_text_50 (lv_at hl 0 rfl) ?_
      refine fk_ci hD hS hA (va_runVN (As := []) (rest := []) ⟨hx, hb, hml, hown, hts⟩ (kX2_isZero _ _ (ad 4) (ad 5) 4 5 g5 (fk_ms (fk_v (kf j) v) (fk_dn (kf j))) rfl rfl hM ⟨by omega, by omega⟩) ⟨va_cnB 0 hts gX3_text_X2_isZero_n122 rfl rfl rfl k17 k10 (by decide +kernel) ⟨Nat.le_of_ble_eq_true rfl, Nat.le_of_ble_eq_true rfl⟩, k18, k19⟩ (fk_preV 4 3 hK hN hP hD rfl rfl) rfl rfl hl.1 rfl (lv_room (Nat.le_of_ble_eq_true rfl)) dX3_text_52 ⟨Nat.le_of_ble_eq_true rfl, Nat.le_of_ble_eq_true rfl⟩) (fun r12 u H locs hw hP hD hS => ?_)
      have hP : va_P D vwCl (fk_wx cJ cC cK ad kd (nI n) lo ch (nI tt) g5 u2.2 f3 f4 f5 ++ tl) H := hP
      have hD : va_D A (fk_wx cJ cC cK ad kd (nI n) lo ch (nI tt) g5 u2.2 f3 f4 f5 ++ tl) := hD
      have z1 := hw
      refine lv_if_ne (tgt := 62) hx hb dX3_text_55 (by decide) (fun c_55 => ?_) (fun c_55 => ?_)
      · have p_c_55 : fk_ms (fk_v (kf j) v) (fk_dn (kf j)) = 0 := by by_cases q : fk_ms (fk_v (kf j) v) (fk_dn (kf j)) = 0; exact q; rw [z1, if_neg q] at c_55; exact absurd rfl c_55
        have hneg : ¬ ((fk_v (kf j) v) < 0 ∧ fk_ms (fk_v (kf j) v) (fk_dn (kf j)) ≠ 0) := fun q => q.2 p_c_55
        refine lv_iconst (v := 0) hx hb dX3_text_62 (by decide) ?_
        refine lv_istore (lv' := [(7, .int 0), (6, .ref (ad 4)), (5, .int r4), (4, .ref (ka j)), (0, .ref (ad 0)), (1, .int (nI (j + 1))), (2, .long v)]) hx hb dX3_text_63 hl (by decide) rfl (fun ls hl => ?_)
        refine lv_aload_n hx hb dX3_text_65 rfl (lv_at hl 4 rfl) ?_
        refine lv_bipush (v := 40) hx hb dX3_text_66 (by decide) ?_
        refine va_put (D := D) (ci := 4) (v := .int 40) (ty := (.int)) (C := RX3) (T := TX3) (N := 8) hx hb hts k2 tyX3 tyX3_ok nmX3 hown hK hP hD hS 0 rfl rfl 4 (by decide) k16 (fun _ h9 => h9) rfl (by decide +kernel) rfl rfl (Nat.le_of_ble_eq_true rfl) dX3_text_68 (fun H locs hP hD hS => ?_)
        have hP : va_P D vwCl (fk_wx cJ cC cK ad kd (nI n) lo ch 40 g5 u2.2 f3 f4 f5 ++ tl) H := hP
        have hD : va_D A (fk_wx cJ cC cK ad kd (nI n) lo ch 40 g5 u2.2 f3 f4 f5 ++ tl) := hD
        refine lv_aload_n hx hb dX3_text_71 rfl (lv_at hl 4 rfl) ?_
        refine lv_aload hx hb dX3_text_72 (lv_at hl 1 rfl) ?_
        refine fk_cv hD hS hA (va_runV (As := [.ref (ad 4)]) (rest := []) ⟨hx, hb, hml, hown, hts⟩ (kX3_writePlaces _ ad tl kd (nI n) lo ch g5 u2.2 f3 f4 f5 40 (fk_ms (fk_v (kf j) v) (fk_dn (kf j))) hM mb (fk_Tx_0 ch)) (cwV 1 hts gX3_text_X3_writePlaces rfl rfl rfl (by decide +kernel) ⟨Nat.le_of_ble_eq_true rfl, Nat.le_of_ble_eq_true rfl⟩) (fk_preV 0 4 hK hN hP hD rfl rfl) rfl rfl hl.1 rfl (lv_room (Nat.le_of_ble_eq_true rfl)) dX3_text_74 ⟨Nat.le_of_ble_eq_true rfl, Nat.le_of_ble_eq_true rfl⟩) (fun u13 H locs hw hP hD hS => ?_)
        have hP : va_P D vwCl (fk_wx cJ cC cK ad kd (nI n) lo u13.1 (nI (40 - (fk_pt (fk_pl 6 (fk_ms (fk_v (kf j) v) (fk_dn (kf j))) [])).length)) u13.2 u2.2 f3 f4 f5 ++ tl) H := hP
        have hD : va_D A (fk_wx cJ cC cK ad kd (nI n) lo u13.1 (nI (40 - (fk_pt (fk_pl 6 (fk_ms (fk_v (kf j) v) (fk_dn (kf j))) [])).length)) u13.2 u2.2 f3 f4 f5 ++ tl) := hD
        obtain ⟨hT1, hM1⟩ := hw
        have hl6 := fk_pl_len 6 (fk_ms (fk_v (kf j) v) (fk_dn (kf j))) []
        have hl7 : (fk_pt (fk_pl 6 (fk_ms (fk_v (kf j) v) (fk_dn (kf j))) [])).length ≤ 7 := by
          rw [fk_pt]; split
          · simp only [List.length_append, List.length_singleton]; simp at hl6; omega
          · simp at hl6; omega
        refine lv_aload_n hx hb dX3_text_77 rfl (lv_at hl 4 rfl) ?_
        refine lv_aload hx hb dX3_text_78 (lv_at hl 1 rfl) ?_
        refine fk_cv hD hS hA (va_runV (As := [.ref (ad 4)]) (rest := []) ⟨hx, hb, hml, hown, hts⟩ (kX3_writeWholePart _ ad tl kd (nI n) lo u13.1 u13.2 u2.2 f3 f4 f5 (40 - (fk_pt (fk_pl 6 (fk_ms (fk_v (kf j) v) (fk_dn (kf j))) [])).length) (fk_pt (fk_pl 6 (fk_ms (fk_v (kf j) v) (fk_dn (kf j))) [])) (fk_ms (fk_v (kf j) v) (fk_dn (kf j)) / 1000000) hM1 (by omega) hT1 (by omega)) (cwV 1 hts gX3_text_X3_writeWholePart rfl rfl rfl (by decide +kernel) ⟨Nat.le_of_ble_eq_true rfl, Nat.le_of_ble_eq_true rfl⟩) (fk_preV 0 4 hK hN hP hD rfl rfl) rfl rfl hl.1 rfl (lv_room (Nat.le_of_ble_eq_true rfl)) dX3_text_80 ⟨Nat.le_of_ble_eq_true rfl, Nat.le_of_ble_eq_true rfl⟩) (fun u15 H locs hw hP hD hS => ?_)
        have hP : va_P D vwCl (fk_wx cJ cC cK ad kd (nI n) lo u15.1 (nI (40 - (fk_tl4 (fk_v (kf j) v) (fk_dn (kf j))).length)) u15.2 u2.2 f3 f4 f5 ++ tl) H := hP
        have hD : va_D A (fk_wx cJ cC cK ad kd (nI n) lo u15.1 (nI (40 - (fk_tl4 (fk_v (kf j) v) (fk_dn (kf j))).length)) u15.2 u2.2 f3 f4 f5 ++ tl) := hD
        have hT4 : fk_Tx (fk_tl4 (fk_v (kf j) v) (fk_dn (kf j))) u15.1 (40 - (fk_tl4 (fk_v (kf j) v) (fk_dn (kf j))).length) := hw
        have hl4 := fk_wl_len 24 39 (fk_ms (fk_v (kf j) v) (fk_dn (kf j)) / 1000000 / 10) (fk_pt (fk_pl 6 (fk_ms (fk_v (kf j) v) (fk_dn (kf j))) []) ++ [fk_dc (fk_ms (fk_v (kf j) v) (fk_dn (kf j)) / 1000000)]) (by omega) (by rw [show (10 : Int) ^ 24 = 1000000000000000000000000 by decide]; omega)
        simp only [List.length_append, List.length_singleton] at hl4
        have hl4 : (fk_tl4 (fk_v (kf j) v) (fk_dn (kf j))).length ≤ 33 := by rw [fk_tl4]; omega
        refine lv_iload hx hb dX3_text_83 (lv_at hl 0 rfl) ?_
        refine lv_if_eq (tgt := 94) hx hb dX3_text_85 (by decide) (fun c_85 => ?_) (fun c_85 => False.elim (absurd rfl c_85))
        have htx : fk_txt (fk_v (kf j) v) (fk_dn (kf j)) = fk_tl4 (fk_v (kf j) v) (fk_dn (kf j)) := by rw [fk_txt, if_neg hneg]
        rw [← htx] at hP hD hT4 hl4
        have hTf := hT4
        refine lv_bipush (v := 40) hx hb dX3_text_94 (by decide) ?_
        refine lv_aload_n hx hb dX3_text_96 rfl (lv_at hl 4 rfl) ?_
        refine va_get (D := D) (ci := 4) (v := .int (nI (40 - (fk_txt (fk_v (kf j) v) (fk_dn (kf j))).length))) (C := RX3) (T := TX3) (N := 8) hx hb hts k2 hown hK hP 0 rfl rfl 4 (by decide) k16 (fun _ h9 => h9) rfl dX3_text_97 ?_
        refine lv_isub hx hb dX3_text_100 ?_
        refine lv_topi (fun x17 ex17 => ?_)
        have ex17q : x17 = nI ((fk_txt (fk_v (kf j) v) (fk_dn (kf j))).length) := by
          rw [ex17, show (40 : Int32) = nI 40 from rfl, pk_sub (by omega), show 40 - (40 - (fk_txt (fk_v (kf j) v) (fk_dn (kf j))).length) = (fk_txt (fk_v (kf j) v) (fk_dn (kf j))).length by omega]
        subst ex17q
        rw [hQQ]
        exact W.iret (v := nI ((fk_txt (fk_v (kf j) v) (fk_dn (kf j))).length)) hx hb hr (fun t ht hW => ⟨⟨(nI ((fk_txt (fk_v (kf j) v) (fk_dn (kf j))).length)), (u15.1, 40 - (fk_txt (fk_v (kf j) v) (fk_dn (kf j))).length, u15.2, u2.2), rfl, Or.inr ⟨j, hj, rfl, rfl, rfl, by omega, hTf⟩, by rw [ht]; exact hP, va_K.moved hW.alike hK, hD⟩, hS.F ht⟩) hS.2.2 dX3_text_101
      · have p_c_55 : ¬ (fk_ms (fk_v (kf j) v) (fk_dn (kf j)) = 0) := by intro q; rw [z1, if_pos q] at c_55; exact absurd c_55 (by decide)
        have hneg : (fk_v (kf j) v) < 0 ∧ fk_ms (fk_v (kf j) v) (fk_dn (kf j)) ≠ 0 := ⟨p_c_47, p_c_55⟩
        refine lv_iconst (v := 1) hx hb dX3_text_58 (by decide) ?_
        refine lv_goto (tgt := 63) hx hb dX3_text_59 (by decide) ?_
        refine lv_istore (lv' := [(7, .int 1), (6, .ref (ad 4)), (5, .int r4), (4, .ref (ka j)), (0, .ref (ad 0)), (1, .int (nI (j + 1))), (2, .long v)]) hx hb dX3_text_63 hl (by decide) rfl (fun ls hl => ?_)
        refine lv_aload_n hx hb dX3_text_65 rfl (lv_at hl 4 rfl) ?_
        refine lv_bipush (v := 40) hx hb dX3_text_66 (by decide) ?_
        refine va_put (D := D) (ci := 4) (v := .int 40) (ty := (.int)) (C := RX3) (T := TX3) (N := 8) hx hb hts k2 tyX3 tyX3_ok nmX3 hown hK hP hD hS 0 rfl rfl 4 (by decide) k16 (fun _ h9 => h9) rfl (by decide +kernel) rfl rfl (Nat.le_of_ble_eq_true rfl) dX3_text_68 (fun H locs hP hD hS => ?_)
        have hP : va_P D vwCl (fk_wx cJ cC cK ad kd (nI n) lo ch 40 g5 u2.2 f3 f4 f5 ++ tl) H := hP
        have hD : va_D A (fk_wx cJ cC cK ad kd (nI n) lo ch 40 g5 u2.2 f3 f4 f5 ++ tl) := hD
        refine lv_aload_n hx hb dX3_text_71 rfl (lv_at hl 4 rfl) ?_
        refine lv_aload hx hb dX3_text_72 (lv_at hl 1 rfl) ?_
        refine fk_cv hD hS hA (va_runV (As := [.ref (ad 4)]) (rest := []) ⟨hx, hb, hml, hown, hts⟩ (kX3_writePlaces _ ad tl kd (nI n) lo ch g5 u2.2 f3 f4 f5 40 (fk_ms (fk_v (kf j) v) (fk_dn (kf j))) hM mb (fk_Tx_0 ch)) (cwV 1 hts gX3_text_X3_writePlaces rfl rfl rfl (by decide +kernel) ⟨Nat.le_of_ble_eq_true rfl, Nat.le_of_ble_eq_true rfl⟩) (fk_preV 0 4 hK hN hP hD rfl rfl) rfl rfl hl.1 rfl (lv_room (Nat.le_of_ble_eq_true rfl)) dX3_text_74 ⟨Nat.le_of_ble_eq_true rfl, Nat.le_of_ble_eq_true rfl⟩) (fun u18 H locs hw hP hD hS => ?_)
        have hP : va_P D vwCl (fk_wx cJ cC cK ad kd (nI n) lo u18.1 (nI (40 - (fk_pt (fk_pl 6 (fk_ms (fk_v (kf j) v) (fk_dn (kf j))) [])).length)) u18.2 u2.2 f3 f4 f5 ++ tl) H := hP
        have hD : va_D A (fk_wx cJ cC cK ad kd (nI n) lo u18.1 (nI (40 - (fk_pt (fk_pl 6 (fk_ms (fk_v (kf j) v) (fk_dn (kf j))) [])).length)) u18.2 u2.2 f3 f4 f5 ++ tl) := hD
        obtain ⟨hT1, hM1⟩ := hw
        have hl6 := fk_pl_len 6 (fk_ms (fk_v (kf j) v) (fk_dn (kf j))) []
        have hl7 : (fk_pt (fk_pl 6 (fk_ms (fk_v (kf j) v) (fk_dn (kf j))) [])).length ≤ 7 := by
          rw [fk_pt]; split
          · simp only [List.length_append, List.length_singleton]; simp at hl6; omega
          · simp at hl6; omega
        refine lv_aload_n hx hb dX3_text_77 rfl (lv_at hl 4 rfl) ?_
        refine lv_aload hx hb dX3_text_78 (lv_at hl 1 rfl) ?_
        refine fk_cv hD hS hA (va_runV (As := [.ref (ad 4)]) (rest := []) ⟨hx, hb, hml, hown, hts⟩ (kX3_writeWholePart _ ad tl kd (nI n) lo u18.1 u18.2 u2.2 f3 f4 f5 (40 - (fk_pt (fk_pl 6 (fk_ms (fk_v (kf j) v) (fk_dn (kf j))) [])).length) (fk_pt (fk_pl 6 (fk_ms (fk_v (kf j) v) (fk_dn (kf j))) [])) (fk_ms (fk_v (kf j) v) (fk_dn (kf j)) / 1000000) hM1 (by omega) hT1 (by omega)) (cwV 1 hts gX3_text_X3_writeWholePart rfl rfl rfl (by decide +kernel) ⟨Nat.le_of_ble_eq_true rfl, Nat.le_of_ble_eq_true rfl⟩) (fk_preV 0 4 hK hN hP hD rfl rfl) rfl rfl hl.1 rfl (lv_room (Nat.le_of_ble_eq_true rfl)) dX3_text_80 ⟨Nat.le_of_ble_eq_true rfl, Nat.le_of_ble_eq_true rfl⟩) (fun u20 H locs hw hP hD hS => ?_)
        have hP : va_P D vwCl (fk_wx cJ cC cK ad kd (nI n) lo u20.1 (nI (40 - (fk_tl4 (fk_v (kf j) v) (fk_dn (kf j))).length)) u20.2 u2.2 f3 f4 f5 ++ tl) H := hP
        have hD : va_D A (fk_wx cJ cC cK ad kd (nI n) lo u20.1 (nI (40 - (fk_tl4 (fk_v (kf j) v) (fk_dn (kf j))).length)) u20.2 u2.2 f3 f4 f5 ++ tl) := hD
        have hT4 : fk_Tx (fk_tl4 (fk_v (kf j) v) (fk_dn (kf j))) u20.1 (40 - (fk_tl4 (fk_v (kf j) v) (fk_dn (kf j))).length) := hw
        have hl4 := fk_wl_len 24 39 (fk_ms (fk_v (kf j) v) (fk_dn (kf j)) / 1000000 / 10) (fk_pt (fk_pl 6 (fk_ms (fk_v (kf j) v) (fk_dn (kf j))) []) ++ [fk_dc (fk_ms (fk_v (kf j) v) (fk_dn (kf j)) / 1000000)]) (by omega) (by rw [show (10 : Int) ^ 24 = 1000000000000000000000000 by decide]; omega)
        simp only [List.length_append, List.length_singleton] at hl4
        have hl4 : (fk_tl4 (fk_v (kf j) v) (fk_dn (kf j))).length ≤ 33 := by rw [fk_tl4]; omega
        refine lv_iload hx hb dX3_text_83 (lv_at hl 0 rfl) ?_
        refine lv_if_eq (tgt := 94) hx hb dX3_text_85 (by decide) (fun c_85 => False.elim (absurd c_85 (by decide))) (fun c_85 => ?_)
        refine lv_aload_n hx hb dX3_text_88 rfl (lv_at hl 4 rfl) ?_
        refine lv_bipush (v := 45) hx hb dX3_text_89 (by decide) ?_
        refine fk_cv hD hS hA (va_runV (As := [.int 45]) (rest := []) ⟨hx, hb, hml, hown, hts⟩ (kX3_writeBefore _ ad tl kd (nI n) lo u20.1 u20.2 u2.2 f3 f4 f5 (40 - (fk_tl4 (fk_v (kf j) v) (fk_dn (kf j))).length) (fk_tl4 (fk_v (kf j) v) (fk_dn (kf j))) 45 hT4 (by omega) (fk_nch 45 (by omega)).1) (cwV 1 hts gX3_text_X3_writeBefore rfl rfl rfl (by decide +kernel) ⟨Nat.le_of_ble_eq_true rfl, Nat.le_of_ble_eq_true rfl⟩) (fk_preV 0 4 hK hN hP hD rfl rfl) rfl rfl hl.1 rfl (lv_room (Nat.le_of_ble_eq_true rfl)) dX3_text_91 ⟨Nat.le_of_ble_eq_true rfl, Nat.le_of_ble_eq_true rfl⟩) (fun ch22 H locs hw hP hD hS => ?_)
        have hP : va_P D vwCl (fk_wx cJ cC cK ad kd (nI n) lo ch22 (nI (40 - (fk_tl4 (fk_v (kf j) v) (fk_dn (kf j))).length - 1)) u20.2 u2.2 f3 f4 f5 ++ tl) H := hP
        have hD : va_D A (fk_wx cJ cC cK ad kd (nI n) lo ch22 (nI (40 - (fk_tl4 (fk_v (kf j) v) (fk_dn (kf j))).length - 1)) u20.2 u2.2 f3 f4 f5 ++ tl) := hD
        have hT5 := hw
        have htx : fk_txt (fk_v (kf j) v) (fk_dn (kf j)) = fk_tl4 (fk_v (kf j) v) (fk_dn (kf j)) ++ [45] := by rw [fk_txt, if_pos hneg]
        have hlx : 40 - (fk_tl4 (fk_v (kf j) v) (fk_dn (kf j))).length - 1 = 40 - (fk_txt (fk_v (kf j) v) (fk_dn (kf j))).length := by rw [htx]; simp only [List.length_append, List.length_singleton]; omega
        rw [hlx] at hP hD hT5
        rw [← htx] at hT5
        have hTf := hT5
        have hl4 : (fk_txt (fk_v (kf j) v) (fk_dn (kf j))).length ≤ 34 := by rw [htx]; simp only [List.length_append, List.length_singleton]; omega
        refine lv_bipush (v := 40) hx hb dX3_text_94 (by decide) ?_
        refine lv_aload_n hx hb dX3_text_96 rfl (lv_at hl 4 rfl) ?_
        refine va_get (D := D) (ci := 4) (v := .int (nI (40 - (fk_txt (fk_v (kf j) v) (fk_dn (kf j))).length))) (C := RX3) (T := TX3) (N := 8) hx hb hts k2 hown hK hP 0 rfl rfl 4 (by decide) k16 (fun _ h9 => h9) rfl dX3_text_97 ?_
        refine lv_isub hx hb dX3_text_100 ?_
        refine lv_topi (fun x24 ex24 => ?_)
        have ex24q : x24 = nI ((fk_txt (fk_v (kf j) v) (fk_dn (kf j))).length) := by
          rw [ex24, show (40 : Int32) = nI 40 from rfl, pk_sub (by omega), show 40 - (40 - (fk_txt (fk_v (kf j) v) (fk_dn (kf j))).length) = (fk_txt (fk_v (kf j) v) (fk_dn (kf j))).length by omega]
        subst ex24q
        rw [hQQ]
        exact W.iret (v := nI ((fk_txt (fk_v (kf j) v) (fk_dn (kf j))).length)) hx hb hr (fun t ht hW => ⟨⟨(nI ((fk_txt (fk_v (kf j) v) (fk_dn (kf j))).length)), (ch22, 40 - (fk_txt (fk_v (kf j) v) (fk_dn (kf j))).length, u20.2, u2.2), rfl, Or.inr ⟨j, hj, rfl, rfl, rfl, by omega, hTf⟩, by rw [ht]; exact hP, va_K.moved hW.alike hK, hD⟩, hS.F ht⟩) hS.2.2 dX3_text_101
end
section
/-! New cells at the end of a world; what rule and kind refuse. -/
theorem fk_lastg (tl : va_W) (c : Nat × va_E) : (tl ++ [c])[tl.length]? = some c := by simp
theorem fk_setl (tl : va_W) (c d : Nat × va_E) : (tl ++ [c]).set tl.length d = tl ++ [d] := by simp
def fk_badR (ov rd : Int32) : Prop := ov.toInt < 0 ∨ 2 < ov.toInt ∨ rd.toInt < 0 ∨ 3 < rd.toInt
def fk_goodW (w sg : Int32) : Prop := 8 ≤ w.toInt ∧ w.toInt ≤ 64 ∧ (sg = 0 → w.toInt ≤ 63)
def fk_goodS (up dn : Int64) : Prop := (0 ≤ up.toInt ∧ up.toInt ≤ 1000) ∧ 1 ≤ dn.toInt ∧ dn.toInt ≤ 1000
def fk_goodO (of : Int64) : Prop := -1000000 ≤ of.toInt ∧ of.toInt ≤ 1000000
def fk_badK (w sg : Int32) (up dn of : Int64) : Prop := ¬ (fk_goodW w sg ∧ fk_goodS up dn ∧ fk_goodO of)
/-- the kind that a call of kind makes -/
def fk_mkK (w sg : Int32) (up dn of : Int64) : fk_K := (w.toInt.toNat, sg, up, dn, of, 0, 0)
theorem fk_cAeq {D : va_G} {cl : List vw_C} {t1 t2 : List (ClassId × FieldType)} {U : State} {ty : FieldType} {c1 c2 : ClassId} {i j : Nat} (h1 : va_K D cl t1 U) (h2 : va_K D cl t2 U) (e1 : t1[i]? = some (c1, ty)) (e2 : t2[j]? = some (c2, ty)) : c2 = c1 := by
  have a := (h1.2 i _ e1).2
  have b := (h2.2 j _ e2).2
  cases ty <;> first | exact Option.some.inj (b.symm.trans a) | (obtain ⟨_, _, _, _, _, a⟩ := a; obtain ⟨_, _, _, _, _, b⟩ := b; exact Option.some.inj (b.symm.trans a))
theorem fk_setapp {ws : va_W} {q0 : Nat} {c x y : Nat × va_E} (h : ws[q0]? = some y) : (ws ++ [c]).set q0 x = ws.set q0 x ++ [c] := by
  have hl : q0 < ws.length := (List.getElem?_eq_some_iff.mp h).1
  rw [List.set_append_left _ _ hl]
theorem fk_getapp {ws : va_W} {q0 : Nat} {y : Nat × va_E} (l : va_W) (h : ws[q0]? = some y) : (ws ++ l)[q0]? = some y := by
  have hl : q0 < ws.length := (List.getElem?_eq_some_iff.mp h).1
  rw [List.getElem?_append_left hl]; exact h
end
section
/-! FixedKinds: rule, kind, by program -/
abbrev rmX3_rule : Room := { frames := 1, cells := 0, slots := 0, locals := 21 }
set_option maxHeartbeats 4000000 in
set_option maxRecDepth 100000 in
/-- rule -/
theorem kX3_rule {l : Launch} {D : va_G} {cJ cC cI cZ cK : ClassId} (sz : Nat) (ad : Nat → Nat) (tl : va_W) (kd : Nat → Option Nat) (lo : Int32) (ch : Nat → Int32) (ts : Int32) (f1 f2 f3 f4 f5 : Nat → Int64) (n : Nat) (kf : Nat → fk_K) (ka kp : Nat → Nat) (num ov rd : Int32) (hKT : fk_KT n kf kd ka kp tl) : Met l yX3_rule wsX3_rule rmX3_rule (va_Pc [.ref (ad 0), .int num, .int ov, .int rd] (fk_pre D (fk_ty cJ cC cI cZ cK) (fk_wx cJ cC cK ad kd (nI n) lo ch ts f1 f2 f3 f4 f5 ++ tl) sz)) (va_Qi (fun (r : Int32) (u : va_W) => (fk_no n num ∧ r = -1 ∧ u = tl) ∨ (¬ fk_no n num ∧ fk_badR ov rd ∧ r = -2 ∧ u = tl) ∨ ∃ j, j < n ∧ num = nI (j + 1) ∧ ¬ fk_badR ov rd ∧ r = 1 ∧ u = tl.set (kp j) (ka j, fk_ke ((kf j).1, (kf j).2.1, (kf j).2.2.1, (kf j).2.2.2.1, (kf j).2.2.2.2.1, ov, rd))) (fk_Bd D (fk_ty cJ cC cI cZ cK) (va_A (fk_wx cJ cC cK ad kd (nI n) lo ch ts f1 f2 f3 f4 f5 ++ tl) sz) (fun u : va_W => fk_wx cJ cC cK ad kd (nI n) lo ch ts f1 f2 f3 f4 f5 ++ u)) (va_A (fk_wx cJ cC cK ad kd (nI n) lo ch ts f1 f2 f3 f4 f5 ++ tl) sz)) 0 0 (va_A (fk_wx cJ cC cK ad kd (nI n) lo ch ts f1 f2 f3 f4 f5 ++ tl) sz) := by
  refine fk_ofW cX3_rule 5 (some .int) (fun A => va_Qi (fun (r : Int32) (u : va_W) => (fk_no n num ∧ r = -1 ∧ u = tl) ∨ (¬ fk_no n num ∧ fk_badR ov rd ∧ r = -2 ∧ u = tl) ∨ ∃ j, j < n ∧ num = nI (j + 1) ∧ ¬ fk_badR ov rd ∧ r = 1 ∧ u = tl.set (kp j) (ka j, fk_ke ((kf j).1, (kf j).2.1, (kf j).2.2.1, (kf j).2.2.2.1, (kf j).2.2.2.2.1, ov, rd))) (fk_Bd D (fk_ty cJ cC cI cZ cK) A (fun u : va_W => fk_wx cJ cC cK ad kd (nI n) lo ch ts f1 f2 f3 f4 f5 ++ u)) A) rfl (by decide) (Nat.le_of_ble_eq_true rfl) ?_
  intro p e s m below meth c A ls args QQ hQQ hAt hP hK hN hD hA hS hl
  obtain ⟨⟨hx, hb, hml, hown, hts⟩, hr, hlocks, hin⟩ := hAt
  have hl : lv_has ls 5 [(0, .ref (ad 0)), (1, .int num), (2, .int ov), (3, .int rd)] := hl
  have k1 := hN _ fkn_X3_66
  have k2 := (by decide +kernel : ∀ w ∈ u_ws RX1 TX1 7, w ∈ wsX3_rule)
  have k3 := hN _ fkn_X3_69
  have hn40 := hKT.1
  refine lv_aload_n hx hb dX3_rule_0 rfl (lv_at hl 0 rfl) ?_
  refine lv_iload_n hx hb dX3_rule_1 rfl (lv_at hl 1 rfl) ?_
  refine fk_cq hD hS hA (va_runV (As := [.int num]) (rest := []) ⟨hx, hb, hml, hown, hts⟩ (kX3_find _ ad tl kd lo ch ts f1 f2 f3 f4 f5 n kf ka kp num hKT) (cwV 1 hts gX3_rule_X3_find rfl rfl rfl (by decide +kernel) ⟨Nat.le_of_ble_eq_true rfl, Nat.le_of_ble_eq_true rfl⟩) (fk_preV 0 4 hK hN hP hD rfl rfl) rfl rfl hl.1 rfl (lv_room (Nat.le_of_ble_eq_true rfl)) dX3_rule_2 ⟨Nat.le_of_ble_eq_true rfl, Nat.le_of_ble_eq_true rfl⟩) (fun r1 u H locs hw hP hD hS => ?_)
  have hP : va_P D vwCl (fk_wx cJ cC cK ad kd (nI n) lo ch ts f1 f2 f3 f4 f5 ++ tl) H := hP
  have hD : va_D A (fk_wx cJ cC cK ad kd (nI n) lo ch ts f1 f2 f3 f4 f5 ++ tl) := hD
  rcases hw with ⟨hr_j, hno_j⟩ | ⟨j, hj, hn_j, hr_j⟩
  · subst hr_j
    refine lv_astoreN (lv' := [(4, .null), (0, .ref (ad 0)), (1, .int num), (2, .int ov), (3, .int rd)]) hx hb dX3_rule_5 hl (by decide) rfl (fun ls hl => ?_)
    refine lv_aloadN hx hb dX3_rule_7 (lv_at hl 0 rfl) ?_
    refine lv_ifnonnullN hx hb dX3_rule_9 ?_
    refine lv_iconst (v := (-1)) hx hb dX3_rule_12 (by decide) ?_
    rw [hQQ]
    exact W.iret (v := (-1)) hx hb hr (fun t ht hW => ⟨⟨(-1), tl, rfl, Or.inl ⟨hno_j, rfl, rfl⟩, by rw [ht]; exact hP, va_K.moved hW.alike hK, hD⟩, hS.F ht⟩) hS.2.2 dX3_rule_13
  · subst hr_j
    subst hn_j
    have ok_j := (hKT.2.1 j hj).2.2
    obtain ⟨okd_j, oko_j, okr_j⟩ := id ok_j
    refine lv_astore (lv' := [(4, .ref (ka j)), (0, .ref (ad 0)), (1, .int (nI (j + 1))), (2, .int ov), (3, .int rd)]) hx hb dX3_rule_5 hl (by decide) rfl (fun ls hl => ?_)
    refine lv_aload hx hb dX3_rule_7 (lv_at hl 0 rfl) ?_
    refine lv_ifnonnull (tgt := 14) hx hb dX3_rule_9 (by decide) ?_
    refine lv_iload_n hx hb dX3_rule_14 rfl (lv_at hl 3 rfl) ?_
    refine lv_if_lt (tgt := 32) hx hb dX3_rule_15 (by decide) (fun c_15 => ?_) (fun c_15 => ?_)
    · rw [Int32.lt_iff_toInt_lt, show (0 : Int32).toInt = 0 by decide] at c_15
      refine lv_bipush (v := (-2)) hx hb dX3_rule_32 (by decide) ?_
      rw [hQQ]
      exact W.iret (v := (-2)) hx hb hr (fun t ht hW => ⟨⟨(-2), tl, rfl, Or.inr (Or.inl ⟨fk_no_j hj hn40, Or.inl c_15, rfl, rfl⟩), by rw [ht]; exact hP, va_K.moved hW.alike hK, hD⟩, hS.F ht⟩) hS.2.2 dX3_rule_34
    · rw [Int32.lt_iff_toInt_lt, show (0 : Int32).toInt = 0 by decide] at c_15
      refine lv_iload_n hx hb dX3_rule_18 rfl (lv_at hl 3 rfl) ?_
      refine lv_iconst (v := 2) hx hb dX3_rule_19 (by decide) ?_
      refine lv_icmp_gt (tgt := 32) hx hb dX3_rule_20 (by decide) (fun c_20 => ?_) (fun c_20 => ?_)
      · rw [Int32.lt_iff_toInt_lt, show (2 : Int32).toInt = 2 by decide] at c_20
        refine lv_bipush (v := (-2)) hx hb dX3_rule_32 (by decide) ?_
        rw [hQQ]
        exact W.iret (v := (-2)) hx hb hr (fun t ht hW => ⟨⟨(-2), tl, rfl, Or.inr (Or.inl ⟨fk_no_j hj hn40, Or.inr (Or.inl c_20), rfl, rfl⟩), by rw [ht]; exact hP, va_K.moved hW.alike hK, hD⟩, hS.F ht⟩) hS.2.2 dX3_rule_34
      · rw [Int32.lt_iff_toInt_lt, show (2 : Int32).toInt = 2 by decide] at c_20
        refine lv_iload_n hx hb dX3_rule_23 rfl (lv_at hl 4 rfl) ?_
        refine lv_if_lt (tgt := 32) hx hb dX3_rule_24 (by decide) (fun c_24 => ?_) (fun c_24 => ?_)
        · rw [Int32.lt_iff_toInt_lt, show (0 : Int32).toInt = 0 by decide] at c_24
          refine lv_bipush (v := (-2)) hx hb dX3_rule_32 (by decide) ?_
          rw [hQQ]
          exact W.iret (v := (-2)) hx hb hr (fun t ht hW => ⟨⟨(-2), tl, rfl, Or.inr (Or.inl ⟨fk_no_j hj hn40, Or.inr (Or.inr (Or.inl c_24)), rfl, rfl⟩), by rw [ht]; exact hP, va_K.moved hW.alike hK, hD⟩, hS.F ht⟩) hS.2.2 dX3_rule_34
        · rw [Int32.lt_iff_toInt_lt, show (0 : Int32).toInt = 0 by decide] at c_24
          refine lv_iload_n hx hb dX3_rule_27 rfl (lv_at hl 4 rfl) ?_
          refine lv_iconst (v := 3) hx hb dX3_rule_28 (by decide) ?_
          refine lv_icmp_le (tgt := 35) hx hb dX3_rule_29 (by decide) (fun c_29 => ?_) (fun c_29 => ?_)
          · rw [Int32.le_iff_toInt_le, show (3 : Int32).toInt = 3 by decide] at c_29
            refine lv_aload hx hb dX3_rule_35 (lv_at hl 0 rfl) ?_
            refine lv_iload_n hx hb dX3_rule_37 rfl (lv_at hl 3 rfl) ?_
            refine va_putN (D := D) (ci := 2) (v := .int ov) (ty := (.int)) (C := RX1) (T := TX1) (N := 7) hx hb hts k2 tyX1 tyX1_ok nmX1 hown hK hP hD hS (kp j + 15) (fk_tl (hKT.2.1 j hj).2.1) rfl 5 (by decide) (va_Nw.use rfl k1) (fun _ h9 => h9) rfl (by decide +kernel) rfl rfl (Nat.le_of_ble_eq_true rfl) dX3_rule_38 (fun H locs hP hD hS => ?_)
            have hP : va_P D vwCl (fk_wx cJ cC cK ad kd (nI n) lo ch ts f1 f2 f3 f4 f5 ++ (tl.set (kp j) ((ka j), .inr (2, [.int (nI (kf j).1), .int ((kf j).2.1), .long ((kf j).2.2.1), .long ((kf j).2.2.2.1), .long ((kf j).2.2.2.2.1), .int ov, .int ((kf j).2.2.2.2.2.2)])))) H := hP
            have hD : va_D A (fk_wx cJ cC cK ad kd (nI n) lo ch ts f1 f2 f3 f4 f5 ++ (tl.set (kp j) ((ka j), .inr (2, [.int (nI (kf j).1), .int ((kf j).2.1), .long ((kf j).2.2.1), .long ((kf j).2.2.2.1), .long ((kf j).2.2.2.2.1), .int ov, .int ((kf j).2.2.2.2.2.2)])))) := hD
            refine lv_aload hx hb dX3_rule_41 (lv_at hl 0 rfl) ?_
            refine lv_iload_n hx hb dX3_rule_43 rfl (lv_at hl 4 rfl) ?_
            refine va_putN (D := D) (ci := 2) (v := .int rd) (ty := (.int)) (C := RX1) (T := TX1) (N := 7) hx hb hts k2 tyX1 tyX1_ok nmX1 hown hK hP hD hS (kp j + 15) (fk_tl (fk_ss (hKT.2.1 j hj).2.1)) rfl 6 (by decide) (va_Nw.use rfl k3) (fun _ h9 => h9) rfl (by decide +kernel) rfl rfl (Nat.le_of_ble_eq_true rfl) dX3_rule_44 (fun H locs hP hD hS => ?_)
            have hP : va_P D vwCl (fk_wx cJ cC cK ad kd (nI n) lo ch ts f1 f2 f3 f4 f5 ++ ((tl.set (kp j) ((ka j), .inr (2, [.int (nI (kf j).1), .int ((kf j).2.1), .long ((kf j).2.2.1), .long ((kf j).2.2.2.1), .long ((kf j).2.2.2.2.1), .int ov, .int ((kf j).2.2.2.2.2.2)]))).set (kp j) ((ka j), .inr (2, [.int (nI (kf j).1), .int ((kf j).2.1), .long ((kf j).2.2.1), .long ((kf j).2.2.2.1), .long ((kf j).2.2.2.2.1), .int ov, .int rd])))) H := hP
            have hD : va_D A (fk_wx cJ cC cK ad kd (nI n) lo ch ts f1 f2 f3 f4 f5 ++ ((tl.set (kp j) ((ka j), .inr (2, [.int (nI (kf j).1), .int ((kf j).2.1), .long ((kf j).2.2.1), .long ((kf j).2.2.2.1), .long ((kf j).2.2.2.2.1), .int ov, .int ((kf j).2.2.2.2.2.2)]))).set (kp j) ((ka j), .inr (2, [.int (nI (kf j).1), .int ((kf j).2.1), .long ((kf j).2.2.1), .long ((kf j).2.2.2.1), .long ((kf j).2.2.2.2.1), .int ov, .int rd])))) := hD
            rw [fk_s2] at hP hD
            refine lv_iconst (v := 1) hx hb dX3_rule_47 (by decide) ?_
            rw [hQQ]
            exact W.iret (v := 1) hx hb hr (fun t ht hW => ⟨⟨1, (tl.set (kp j) ((ka j), .inr (2, [.int (nI (kf j).1), .int ((kf j).2.1), .long ((kf j).2.2.1), .long ((kf j).2.2.2.1), .long ((kf j).2.2.2.2.1), .int ov, .int rd]))), rfl, Or.inr (Or.inr ⟨j, hj, rfl, (fun q => by rcases q with q | q | q | q <;> omega), rfl, rfl⟩), by rw [ht]; exact hP, va_K.moved hW.alike hK, hD⟩, hS.F ht⟩) hS.2.2 dX3_rule_48
          · rw [Int32.le_iff_toInt_le, show (3 : Int32).toInt = 3 by decide] at c_29
            refine lv_bipush (v := (-2)) hx hb dX3_rule_32 (by decide) ?_
            rw [hQQ]
            exact W.iret (v := (-2)) hx hb hr (fun t ht hW => ⟨⟨(-2), tl, rfl, Or.inr (Or.inl ⟨fk_no_j hj hn40, Or.inr (Or.inr (Or.inr (by omega))), rfl, rfl⟩), by rw [ht]; exact hP, va_K.moved hW.alike hK, hD⟩, hS.F ht⟩) hS.2.2 dX3_rule_34
abbrev rmX3_kind : Room := { frames := 2, cells := 1, slots := 7, locals := 48 }
set_option maxHeartbeats 4000000 in
set_option maxRecDepth 100000 in
/-- kind -/
theorem kX3_kind {l : Launch} {D : va_G} {cJ cC cI cZ cK : ClassId} (sz : Nat) (ad : Nat → Nat) (tl : va_W) (kd : Nat → Option Nat) (lo : Int32) (ch : Nat → Int32) (ts : Int32) (f1 f2 f3 f4 f5 : Nat → Int64) (n : Nat) (kf : Nat → fk_K) (ka kp : Nat → Nat) (w0 sg : Int32) (up dn of : Int64) (hKT : fk_KT n kf kd ka kp tl) (hsg : sg = 0 ∨ sg = 1) : Met l yX3_kind wsX3_kind rmX3_kind (va_Pc [.ref (ad 0), .int w0, .int sg, .long up, .long dn, .long of] (fk_pre D (fk_ty cJ cC cI cZ cK) (fk_wx cJ cC cK ad kd (nI n) lo ch ts f1 f2 f3 f4 f5 ++ tl) sz)) (va_Qi (fun (r : Int32) (u : (Nat → Option Nat) × Nat × va_W) => (fk_badK w0 sg up dn of ∧ r = -2 ∧ u = (kd, n, tl)) ∨ (¬ fk_badK w0 sg up dn of ∧ n = 40 ∧ r = -4 ∧ u = (kd, n, tl)) ∨ (¬ fk_badK w0 sg up dn of ∧ n < 40 ∧ up = 0 ∧ r = 0 ∧ u = (kd, n, tl)) ∨ (¬ fk_badK w0 sg up dn of ∧ n < 40 ∧ up ≠ 0 ∧ r = nI (n + 1) ∧ ∃ q : Nat, u = (va_up kd n (some q), n + 1, tl ++ [(q, fk_ke (fk_mkK w0 sg up dn of))]))) (fk_Bd D (fk_ty cJ cC cI cZ cK) (va_A (fk_wx cJ cC cK ad kd (nI n) lo ch ts f1 f2 f3 f4 f5 ++ tl) sz) (fun u : (Nat → Option Nat) × Nat × va_W => fk_wx cJ cC cK ad u.1 (nI u.2.1) lo ch ts f1 f2 f3 f4 f5 ++ u.2.2)) (va_A (fk_wx cJ cC cK ad kd (nI n) lo ch ts f1 f2 f3 f4 f5 ++ tl) sz)) 1 7 (va_A (fk_wx cJ cC cK ad kd (nI n) lo ch ts f1 f2 f3 f4 f5 ++ tl) sz) := by
  refine fk_ofW cX3_kind 9 (some .int) (fun A => va_Qi (fun (r : Int32) (u : (Nat → Option Nat) × Nat × va_W) => (fk_badK w0 sg up dn of ∧ r = -2 ∧ u = (kd, n, tl)) ∨ (¬ fk_badK w0 sg up dn of ∧ n = 40 ∧ r = -4 ∧ u = (kd, n, tl)) ∨ (¬ fk_badK w0 sg up dn of ∧ n < 40 ∧ up = 0 ∧ r = 0 ∧ u = (kd, n, tl)) ∨ (¬ fk_badK w0 sg up dn of ∧ n < 40 ∧ up ≠ 0 ∧ r = nI (n + 1) ∧ ∃ q : Nat, u = (va_up kd n (some q), n + 1, tl ++ [(q, fk_ke (fk_mkK w0 sg up dn of))]))) (fk_Bd D (fk_ty cJ cC cI cZ cK) A (fun u : (Nat → Option Nat) × Nat × va_W => fk_wx cJ cC cK ad u.1 (nI u.2.1) lo ch ts f1 f2 f3 f4 f5 ++ u.2.2)) A) rfl (by decide) (Nat.le_of_ble_eq_true rfl) ?_
  intro p e s m below meth c A ls args QQ hQQ hAt hP hK hN hD hA hS hl
  obtain ⟨⟨hx, hb, hml, hown, hts⟩, hr, hlocks, hin⟩ := hAt
  have hl : lv_has ls 9 [(0, .ref (ad 0)), (1, .int w0), (2, .int sg), (3, .long up), (5, .long dn), (7, .long of)] := hl
  have k1 := hts (.fieldLink RX3 15 "FixedKinds" "kindCount" "I") (by decide +kernel)
  have k2 := (by decide +kernel : ∀ w ∈ u_ws RX3 TX3 8, w ∈ wsX3_kind)
  have k3 := hts (.fieldLink RX3 11 "FixedKinds" "kinds" "[LFixedKinds$Kind;") (by decide +kernel)
  have k4 := (by decide +kernel : ∀ w ∈ u_ws RX1 TX1 7, w ∈ wsX3_kind)
  have k5 := hts (.classLink RX3 9 RX1) (by decide +kernel)
  have k6 := hts (.instantiable RX1 7) (by decide +kernel)
  have k7 := hts (.initialized RX1) (by decide +kernel)
  have k8 := hN _ fkn_X3_59
  have k9 := hts (.instanceMethod yX1_init) (by decide +kernel)
  have hn40 := hKT.1
  refine lv_iload_n hx hb dX3_kind_0 rfl (lv_at hl 1 rfl) ?_
  refine lv_iload_n hx hb dX3_kind_1 rfl (lv_at hl 2 rfl) ?_
  refine fk_ci hD hS hA (va_runS (As := [.int w0, .int sg]) (rest := []) ⟨hx, hb, hml, hown, hts⟩ (kX3_isWidth _ _ w0 sg) (va_cwS 2 hts gX3_kind_X3_isWidth rfl rfl rfl (by decide +kernel) ⟨Nat.le_of_ble_eq_true rfl, Nat.le_of_ble_eq_true rfl⟩) (fk_preS hK hN hP hD) rfl rfl hl.1 rfl (lv_room (Nat.le_of_ble_eq_true rfl)) dX3_kind_2 ⟨Nat.le_of_ble_eq_true rfl, Nat.le_of_ble_eq_true rfl⟩) (fun r1 u H locs hw hP hD hS => ?_)
  have hP : va_P D vwCl (fk_wx cJ cC cK ad kd (nI n) lo ch ts f1 f2 f3 f4 f5 ++ tl) H := hP
  have hD : va_D A (fk_wx cJ cC cK ad kd (nI n) lo ch ts f1 f2 f3 f4 f5 ++ tl) := hD
  have z1 := hw
  refine lv_if_eq (tgt := 25) hx hb dX3_kind_5 (by decide) (fun c_5 => ?_) (fun c_5 => ?_)
  · have p_c_5 : ¬ (8 ≤ w0.toInt ∧ w0.toInt ≤ 64 ∧ (sg = 0 → w0.toInt ≤ 63)) := by intro q; rw [z1, if_pos q] at c_5; exact absurd c_5 (by decide)
    have hbad : fk_badK w0 sg up dn of := fun q => p_c_5 q.1
    refine lv_bipush (v := (-2)) hx hb dX3_kind_25 (by decide) ?_
    rw [hQQ]
    refine W.widen (k := 1) (n := 7) (by omega) (by omega) ?_
    exact W.iret (v := (-2)) hx hb hr (fun t ht hW => ⟨⟨(-2), (kd, n, tl), rfl, Or.inl ⟨hbad, rfl, rfl⟩, by rw [ht]; exact hP, va_K.moved hW.alike hK, hD⟩, hS.F ht⟩) hS.2.2 dX3_kind_27
  · have p_c_5 : 8 ≤ w0.toInt ∧ w0.toInt ≤ 64 ∧ (sg = 0 → w0.toInt ≤ 63) := by by_cases q : 8 ≤ w0.toInt ∧ w0.toInt ≤ 64 ∧ (sg = 0 → w0.toInt ≤ 63); exact q; rw [z1, if_neg q] at c_5; exact absurd rfl c_5
    refine lv_lload_n hx hb dX3_kind_8 rfl (lv_at hl 3 rfl) ?_
    refine lv_lload hx hb dX3_kind_9 (lv_at hl 4 rfl) ?_
    refine fk_ci hD hS hA (va_runS (As := [.long up, .long dn]) (rest := []) ⟨hx, hb, hml, hown, hts⟩ (kX3_isSlope _ _ up dn) (va_cwS 2 hts gX3_kind_X3_isSlope rfl rfl rfl (by decide +kernel) ⟨Nat.le_of_ble_eq_true rfl, Nat.le_of_ble_eq_true rfl⟩) (fk_preS hK hN hP hD) rfl rfl hl.1 rfl (lv_room (Nat.le_of_ble_eq_true rfl)) dX3_kind_11 ⟨Nat.le_of_ble_eq_true rfl, Nat.le_of_ble_eq_true rfl⟩) (fun r2 u H locs hw hP hD hS => ?_)
    have hP : va_P D vwCl (fk_wx cJ cC cK ad kd (nI n) lo ch ts f1 f2 f3 f4 f5 ++ tl) H := hP
    have hD : va_D A (fk_wx cJ cC cK ad kd (nI n) lo ch ts f1 f2 f3 f4 f5 ++ tl) := hD
    have z2 := hw
    refine lv_if_eq (tgt := 25) hx hb dX3_kind_14 (by decide) (fun c_14 => ?_) (fun c_14 => ?_)
    · have p_c_14 : ¬ ((0 ≤ up.toInt ∧ up.toInt ≤ 1000) ∧ 1 ≤ dn.toInt ∧ dn.toInt ≤ 1000) := by intro q; rw [z2, if_pos q] at c_14; exact absurd c_14 (by decide)
      have hbad : fk_badK w0 sg up dn of := fun q => p_c_14 q.2.1
      refine lv_bipush (v := (-2)) hx hb dX3_kind_25 (by decide) ?_
      rw [hQQ]
      refine W.widen (k := 1) (n := 7) (by omega) (by omega) ?_
      exact W.iret (v := (-2)) hx hb hr (fun t ht hW => ⟨⟨(-2), (kd, n, tl), rfl, Or.inl ⟨hbad, rfl, rfl⟩, by rw [ht]; exact hP, va_K.moved hW.alike hK, hD⟩, hS.F ht⟩) hS.2.2 dX3_kind_27
    · have p_c_14 : (0 ≤ up.toInt ∧ up.toInt ≤ 1000) ∧ 1 ≤ dn.toInt ∧ dn.toInt ≤ 1000 := by by_cases q : (0 ≤ up.toInt ∧ up.toInt ≤ 1000) ∧ 1 ≤ dn.toInt ∧ dn.toInt ≤ 1000; exact q; rw [z2, if_neg q] at c_14; exact absurd rfl c_14
      refine lv_lload hx hb dX3_kind_17 (lv_at hl 5 rfl) ?_
      refine fk_ci hD hS hA (va_runS (As := [.long of]) (rest := []) ⟨hx, hb, hml, hown, hts⟩ (kX3_isOffset _ _ of) (va_cwS 1 hts gX3_kind_X3_isOffset rfl rfl rfl (by decide +kernel) ⟨Nat.le_of_ble_eq_true rfl, Nat.le_of_ble_eq_true rfl⟩) (fk_preS hK hN hP hD) rfl rfl hl.1 rfl (lv_room (Nat.le_of_ble_eq_true rfl)) dX3_kind_19 ⟨Nat.le_of_ble_eq_true rfl, Nat.le_of_ble_eq_true rfl⟩) (fun r3 u H locs hw hP hD hS => ?_)
      have hP : va_P D vwCl (fk_wx cJ cC cK ad kd (nI n) lo ch ts f1 f2 f3 f4 f5 ++ tl) H := hP
      have hD : va_D A (fk_wx cJ cC cK ad kd (nI n) lo ch ts f1 f2 f3 f4 f5 ++ tl) := hD
      have z3 := hw
      refine lv_if_ne (tgt := 28) hx hb dX3_kind_22 (by decide) (fun c_22 => ?_) (fun c_22 => ?_)
      · have p_c_22 : -1000000 ≤ of.toInt ∧ of.toInt ≤ 1000000 := by by_cases q : -1000000 ≤ of.toInt ∧ of.toInt ≤ 1000000; exact q; rw [z3, if_neg q] at c_22; exact absurd rfl c_22
        have hgood : ¬ fk_badK w0 sg up dn of := fun q => q ⟨p_c_5, p_c_14, p_c_22⟩
        refine lv_aload_n hx hb dX3_kind_28 rfl (lv_at hl 0 rfl) ?_
        refine va_get (D := D) (ci := 4) (v := .int (nI n)) (C := RX3) (T := TX3) (N := 8) hx hb hts k2 hown hK hP 0 rfl rfl 1 (by decide) k1 (fun _ h9 => h9) rfl dX3_kind_29 ?_
        refine lv_if_lt (tgt := 44) hx hb dX3_kind_32 (by decide) (fun c_32 => False.elim (nI_pos (n := n) (by omega) c_32)) (fun c_32 => ?_)
        refine lv_aload_n hx hb dX3_kind_35 rfl (lv_at hl 0 rfl) ?_
        refine va_get (D := D) (ci := 4) (v := .int (nI n)) (C := RX3) (T := TX3) (N := 8) hx hb hts k2 hown hK hP 0 rfl rfl 1 (by decide) k1 (fun _ h9 => h9) rfl dX3_kind_36 ?_
        refine lv_bipush (v := 40) hx hb dX3_kind_39 (by decide) ?_
        refine lv_icmp_lt (tgt := 47) hx hb dX3_kind_41 (by decide) (fun c_41 => ?_) (fun c_41 => ?_)
        · rw [Int32.lt_iff_toInt_lt, nI_toInt (by omega), show (40 : Int32).toInt = 40 by decide] at c_41
          refine lv_lload_n hx hb dX3_kind_47 rfl (lv_at hl 3 rfl) ?_
          refine lv_lconst (v := 0) hx hb dX3_kind_48 (by decide) ?_
          refine W.lcmp hx hb dX3_kind_49 ?_
          refine lv_if_ne (tgt := 55) hx hb dX3_kind_50 (by decide) (fun c_50 => ?_) (fun c_50 => ?_)
          · rw [lg_cmp_eq] at c_50
            have hu1 : 1 ≤ up.toInt := by have q : up.toInt ≠ 0 := fun q => c_50 (Int64.toInt_inj.mp (by rw [q]; decide)); omega
            refine lv_aload_n hx hb dX3_kind_55 rfl (lv_at hl 0 rfl) ?_
            refine va_get (D := D) (ci := 4) (v := .ref (ad 1)) (C := RX3) (T := TX3) (N := 8) hx hb hts k2 hown hK hP 0 rfl rfl 0 (by decide) k3 (fun _ h9 => h9) rfl dX3_kind_56 ?_
            refine lv_aload_n hx hb dX3_kind_59 rfl (lv_at hl 0 rfl) ?_
            refine va_get (D := D) (ci := 4) (v := .int (nI n)) (C := RX3) (T := TX3) (N := 8) hx hb hts k2 hown hK hP 0 rfl rfl 1 (by decide) k1 (fun _ h9 => h9) rfl dX3_kind_60 ?_
            refine va_new (ci := 2) (fs := [.int 0, .int 0, .long 0, .long 0, .long 0, .int 0, .int 0]) (C := RX1) (T := TX1) (N := 7) hx hb hts k4 tyX1 tyX1_ok hown k5 k6 k7 hK hP hD hS hA rfl (fun j hj => by rcases (show j = 0 ∨ j = 1 ∨ j = 2 ∨ j = 3 ∨ j = 4 ∨ j = 5 ∨ j = 6 by omega) with rfl | rfl | rfl | rfl | rfl | rfl | rfl <;> rfl) (Nat.le_of_ble_eq_true rfl) (Nat.le_of_ble_eq_true rfl) dX3_kind_63 (fun q4 H hP hD hS => ?_)
            have hP : va_P D vwCl (fk_wx cJ cC cK ad kd (nI n) lo ch ts f1 f2 f3 f4 f5 ++ (tl ++ [(q4, .inr (2, [.int 0, .int 0, .long 0, .long 0, .long 0, .int 0, .int 0]))])) H := hP
            have hD : va_D A (fk_wx cJ cC cK ad kd (nI n) lo ch ts f1 f2 f3 f4 f5 ++ (tl ++ [(q4, .inr (2, [.int 0, .int 0, .long 0, .long 0, .long 0, .int 0, .int 0]))])) := hD
            refine lv_dup hx hb dX3_kind_66 rfl ?_
            refine lv_iload_n hx hb dX3_kind_67 rfl (lv_at hl 1 rfl) ?_
            refine lv_iload_n hx hb dX3_kind_68 rfl (lv_at hl 2 rfl) ?_
            refine lv_lload_n hx hb dX3_kind_69 rfl (lv_at hl 3 rfl) ?_
            refine lv_lload hx hb dX3_kind_70 (lv_at hl 4 rfl) ?_
            refine lv_lload hx hb dX3_kind_72 (lv_at hl 5 rfl) ?_
            refine fk_cv hD hS hA (va_runIN (As := [.int w0, .int sg, .long up, .long dn, .long of]) (rest := [.ref q4, .int (nI n), .ref (ad 1)]) ⟨hx, hb, hml, hown, hts⟩ (kX1_init _ _ q4 (tl.length + 15) w0 sg up dn of (fk_tl (fk_lastg tl _)) hsg) ⟨va_cnB 5 hts gX3_kind_X1_init_n59 rfl rfl rfl k8 k7 (by decide +kernel) ⟨Nat.le_of_ble_eq_true rfl, Nat.le_of_ble_eq_true rfl⟩, rfl, k9⟩ (fk_preS hK hN hP hD) rfl rfl hl.1 rfl (lv_room (Nat.le_of_ble_eq_true rfl)) dX3_kind_74 ⟨Nat.le_of_ble_eq_true rfl, Nat.le_of_ble_eq_true rfl⟩) (fun u H locs hw hP hD hS => ?_)
            have hP : va_P D vwCl (fk_wx cJ cC cK ad kd (nI n) lo ch ts f1 f2 f3 f4 f5 ++ (((tl ++ [(q4, .inr (2, [.int 0, .int 0, .long 0, .long 0, .long 0, .int 0, .int 0]))]) : va_W).set tl.length (q4, .inr (2, [.int w0, .int sg, .long up, .long dn, .long of, .int 0, .int 0])))) H := hP
            have hD : va_D A (fk_wx cJ cC cK ad kd (nI n) lo ch ts f1 f2 f3 f4 f5 ++ (((tl ++ [(q4, .inr (2, [.int 0, .int 0, .long 0, .long 0, .long 0, .int 0, .int 0]))]) : va_W).set tl.length (q4, .inr (2, [.int w0, .int sg, .long up, .long dn, .long of, .int 0, .int 0])))) := hD
            rw [fk_setl] at hP hD
            have hP : va_P D vwCl (fk_wx cJ cC cK ad kd (nI n) lo ch ts f1 f2 f3 f4 f5 ++ (tl ++ [(q4, .inr (2, [.int w0, .int sg, .long up, .long dn, .long of, .int 0, .int 0]))])) H := hP
            have hD : va_D A (fk_wx cJ cC cK ad kd (nI n) lo ch ts f1 f2 f3 f4 f5 ++ (tl ++ [(q4, .inr (2, [.int w0, .int sg, .long up, .long dn, .long of, .int 0, .int 0]))])) := hD
            refine va_astq hx hb hK hP hD hS 1 4 (tl.length + 15) 2 (r := (RX1, TX1, 7)) rfl rfl (fk_tl (fk_lastg tl _)) rfl (vp_in_nI (n := n) (N := 40) (by omega) (by omega)) dX3_kind_77 (fun H locs hP hD hS => ?_)
            rw [nI_clamp (by omega)] at hP hD
            have hP : va_P D vwCl (fk_wx cJ cC cK ad (va_up kd n (some q4)) (nI n) lo ch ts f1 f2 f3 f4 f5 ++ (tl ++ [(q4, .inr (2, [.int w0, .int sg, .long up, .long dn, .long of, .int 0, .int 0]))])) H := hP
            have hD : va_D A (fk_wx cJ cC cK ad (va_up kd n (some q4)) (nI n) lo ch ts f1 f2 f3 f4 f5 ++ (tl ++ [(q4, .inr (2, [.int w0, .int sg, .long up, .long dn, .long of, .int 0, .int 0]))])) := hD
            refine lv_aload_n hx hb dX3_kind_78 rfl (lv_at hl 0 rfl) ?_
            refine lv_dup hx hb dX3_kind_79 rfl ?_
            refine va_get (D := D) (ci := 4) (v := .int (nI n)) (C := RX3) (T := TX3) (N := 8) hx hb hts k2 hown hK hP 0 rfl rfl 1 (by decide) k1 (fun _ h9 => h9) rfl dX3_kind_80 ?_
            refine lv_iconst (v := 1) hx hb dX3_kind_83 (by decide) ?_
            refine lv_iadd hx hb dX3_kind_84 ?_
            refine lv_topi (fun x6 ex6 => ?_)
            have ex6q : x6 = nI (n + 1) := by
              rw [ex6]; exact nI_1 n
            subst ex6q
            refine va_put (D := D) (ci := 4) (v := .int (nI (n + 1))) (ty := (.int)) (C := RX3) (T := TX3) (N := 8) hx hb hts k2 tyX3 tyX3_ok nmX3 hown hK hP hD hS 0 rfl rfl 1 (by decide) k1 (fun _ h9 => h9) rfl (by decide +kernel) rfl rfl (Nat.le_of_ble_eq_true rfl) dX3_kind_85 (fun H locs hP hD hS => ?_)
            have hP : va_P D vwCl (fk_wx cJ cC cK ad (va_up kd n (some q4)) (nI (n + 1)) lo ch ts f1 f2 f3 f4 f5 ++ (tl ++ [(q4, .inr (2, [.int w0, .int sg, .long up, .long dn, .long of, .int 0, .int 0]))])) H := hP
            have hD : va_D A (fk_wx cJ cC cK ad (va_up kd n (some q4)) (nI (n + 1)) lo ch ts f1 f2 f3 f4 f5 ++ (tl ++ [(q4, .inr (2, [.int w0, .int sg, .long up, .long dn, .long of, .int 0, .int 0]))])) := hD
            refine lv_aload_n hx hb dX3_kind_88 rfl (lv_at hl 0 rfl) ?_
            refine va_get (D := D) (ci := 4) (v := .int (nI (n + 1))) (C := RX3) (T := TX3) (N := 8) hx hb hts k2 hown hK hP 0 rfl rfl 1 (by decide) k1 (fun _ h9 => h9) rfl dX3_kind_89 ?_
            have hw0 : w0 = nI w0.toInt.toNat := by apply Int32.toInt_inj.mp; rw [nI_toInt (by omega)]; omega
            rw [hw0] at hP hD
            rw [hQQ]
            exact W.iret (v := nI (n + 1)) hx hb hr (fun t ht hW => ⟨⟨(nI (n + 1)), (va_up kd n (some q4), n + 1, tl ++ [(q4, fk_ke (fk_mkK w0 sg up dn of))]), rfl, Or.inr (Or.inr (Or.inr ⟨hgood, by omega, c_50, rfl, q4, rfl⟩)), by rw [ht]; exact hP, va_K.moved hW.alike hK, hD⟩, hS.F ht⟩) hS.2.2 dX3_kind_92
          · rw [lg_cmp_eq] at c_50
            refine lv_iconst (v := 0) hx hb dX3_kind_53 (by decide) ?_
            rw [hQQ]
            refine W.widen (k := 1) (n := 7) (by omega) (by omega) ?_
            exact W.iret (v := 0) hx hb hr (fun t ht hW => ⟨⟨0, (kd, n, tl), rfl, Or.inr (Or.inr (Or.inl ⟨hgood, by omega, c_50, rfl, rfl⟩)), by rw [ht]; exact hP, va_K.moved hW.alike hK, hD⟩, hS.F ht⟩) hS.2.2 dX3_kind_54
        · rw [Int32.lt_iff_toInt_lt, nI_toInt (by omega), show (40 : Int32).toInt = 40 by decide] at c_41
          refine lv_bipush (v := (-4)) hx hb dX3_kind_44 (by decide) ?_
          rw [hQQ]
          refine W.widen (k := 1) (n := 7) (by omega) (by omega) ?_
          exact W.iret (v := (-4)) hx hb hr (fun t ht hW => ⟨⟨(-4), (kd, n, tl), rfl, Or.inr (Or.inl ⟨hgood, by omega, rfl, rfl⟩), by rw [ht]; exact hP, va_K.moved hW.alike hK, hD⟩, hS.F ht⟩) hS.2.2 dX3_kind_46
      · have p_c_22 : ¬ (-1000000 ≤ of.toInt ∧ of.toInt ≤ 1000000) := by intro q; rw [z3, if_pos q] at c_22; exact absurd c_22 (by decide)
        have hbad : fk_badK w0 sg up dn of := fun q => p_c_22 q.2.2
        refine lv_bipush (v := (-2)) hx hb dX3_kind_25 (by decide) ?_
        rw [hQQ]
        refine W.widen (k := 1) (n := 7) (by omega) (by omega) ?_
        exact W.iret (v := (-2)) hx hb hr (fun t ht hW => ⟨⟨(-2), (kd, n, tl), rfl, Or.inl ⟨hbad, rfl, rfl⟩, by rw [ht]; exact hP, va_K.moved hW.alike hK, hD⟩, hS.F ht⟩) hS.2.2 dX3_kind_27
end
