/-- the float with this exponent and this fraction -/
def zfb (E T : Nat) : UInt32 := UInt32.ofNat (E * 2 ^ 23 + T)
theorem zfb_n {E T : Nat} (h1 : E ≤ 254) (h2 : T < 2 ^ 23) : (zfb E T).toNat = E * 2 ^ 23 + T := by
  unfold zfb
  rw [UInt32.toNat_ofNat_of_lt' (show _ < 4294967296 by omega)]
theorem zfb_v {E T : Nat} (h0 : 1 ≤ E) (h1 : E ≤ 254) (h2 : T < 2 ^ 23) : FP.Core.val32 (zfb E T) = .fin false (2 ^ 23 + T) ((E : Int) - 150) := by
  have hE : FP.Core.fieldE FP.Core.b32 (E * 2 ^ 23 + T) = E := by
    unfold FP.Core.fieldE
    rw [FP.Core.tails_b32, show FP.Core.b32.exps = 256 from rfl]
    omega
  have hT : FP.Core.fieldT FP.Core.b32 (E * 2 ^ 23 + T) = T := by
    unfold FP.Core.fieldT
    rw [FP.Core.tails_b32]
    omega
  have hS : FP.Core.fieldS FP.Core.b32 (E * 2 ^ 23 + T) = false := by
    unfold FP.Core.fieldS
    rw [FP.Core.tails_b32, show FP.Core.b32.exps = 256 from rfl, show (E * 2 ^ 23 + T) / 2 ^ 23 / 256 % 2 = 0 by omega]
    rfl
  unfold FP.Core.val32 FP.Core.decode
  rw [zfb_n h1 h2, hE, hT, hS, FP.Core.exps_b32, FP.Core.tails_b32, FP.Core.qmin_b32, if_neg (by omega), if_neg (by omega)]
  congr 1
  omega
theorem zfb_ne {E T : Nat} (h0 : 1 ≤ E) (h1 : E ≤ 254) (h2 : T < 2 ^ 23) : FP.Core.val32 (zfb E T) ≠ .nan := by
  rw [zfb_v h0 h1 h2]; nofun
theorem zfb_fit {E T : Nat} (h0 : 1 ≤ E) (h1 : E ≤ 254) (h2 : T < 2 ^ 23) : FP.Core.fits FP.Core.b32 (.fin false (2 ^ 23 + T) ((E : Int) - 150)) := by
  rw [← zfb_v h0 h1 h2]
  exact FP.Core.val32_fits _
theorem val32_two : FP.Core.val32 FP.fconst2 = .fin false (2 ^ 23) (-22) := by decide +kernel
theorem val32_8m : FP.Core.val32 1258291200 = .fin false (2 ^ 23) 0 := by decide +kernel
theorem zfb_half {E T : Nat} (h0 : 2 ≤ E) (h1 : E ≤ 254) (h2 : T < 2 ^ 23) : FP.fdiv (zfb E T) FP.fconst2 = zfb (E - 1) T := by
  refine (FP.Core.val32_inj (zfb_ne (by omega) (by omega) h2) ?_).symm
  rw [show FP.fdiv (zfb E T) FP.fconst2 = FP.Core.fdiv (zfb E T) FP.fconst2 from rfl, FP.Core.val32_fdiv, val32_two, zfb_v (by omega) h1 h2, zfb_v (by omega) (by omega) h2]
  show _ = FP.Core.roundRatio FP.Core.b32 false (2 ^ 23 + T) (2 ^ 23) ((E : Int) - 150 - (-22))
  refine (FP.Core.roundRatio_exact FP.Core.good_b32 (by decide) (zfb_fit (E := E - 1) (by omega) (by omega) h2) ?_).symm
  rw [show ((E : Int) - 150 - (-22) - (((E - 1 : Nat) : Int) - 150)).toNat = 23 by omega, show ((((E - 1 : Nat) : Int) - 150) - ((E : Int) - 150 - (-22))).toNat = 0 by omega]
  simp
theorem zfb_dbl {E T : Nat} (h0 : 1 ≤ E) (h1 : E ≤ 253) (h2 : T < 2 ^ 23) : FP.fmul (zfb E T) FP.fconst2 = zfb (E + 1) T := by
  refine (FP.Core.val32_inj (zfb_ne (by omega) (by omega) h2) ?_).symm
  rw [show FP.fmul (zfb E T) FP.fconst2 = FP.Core.fmul (zfb E T) FP.fconst2 from rfl, FP.Core.val32_fmul, val32_two, zfb_v h0 (by omega) h2, zfb_v (by omega) (by omega) h2]
  show _ = FP.Core.roundRatio FP.Core.b32 false ((2 ^ 23 + T) * 2 ^ 23) 1 ((E : Int) - 150 + (-22))
  refine (FP.Core.roundRatio_exact FP.Core.good_b32 (by decide) (zfb_fit (E := E + 1) (by omega) (by omega) h2) ?_).symm
  rw [show ((E : Int) - 150 + (-22) - (((E + 1 : Nat) : Int) - 150)).toNat = 0 by omega, show ((((E + 1 : Nat) : Int) - 150) - ((E : Int) - 150 + (-22))).toNat = 23 by omega]
  simp
theorem zfb_k {E T : Nat} (h1 : E ≤ 254) (h2 : T < 2 ^ 23) : FP.Core.fkey (zfb E T) = ((E * 2 ^ 23 + T : Nat) : Int) := by
  unfold FP.Core.fkey
  rw [zfb_n h1 h2, if_neg (by omega)]
theorem zfc_cmp {a b : UInt32} (ha : FP.Core.val32 a ≠ .nan) (hb : FP.Core.val32 b ≠ .nan) (op : CmpOp) : ((Op.cmpValue (FP.fcmp a b) op).toInt < 0 ↔ FP.Core.fkey a < FP.Core.fkey b) ∧ ((Op.cmpValue (FP.fcmp a b) op).toInt = 0 ↔ FP.Core.fkey a = FP.Core.fkey b) := by
  rw [show FP.fcmp a b = some (compare (FP.Core.fkey a) (FP.Core.fkey b)) from FP.Core.fcmp_key ha hb]
  have h1 := FP.Core.compare_lt_iff (FP.Core.fkey a) (FP.Core.fkey b)
  have h2 := FP.Core.compare_eq_iff (FP.Core.fkey a) (FP.Core.fkey b)
  have h3 := FP.Core.compare_gt_iff (FP.Core.fkey a) (FP.Core.fkey b)
  cases e : compare (FP.Core.fkey a) (FP.Core.fkey b)
  · have := h1.mp e
    rw [show (Op.cmpValue (some Ordering.lt) op).toInt = -1 from rfl]; omega
  · have := h2.mp e
    rw [show (Op.cmpValue (some Ordering.eq) op).toInt = 0 from rfl]; omega
  · have := h3.mp e
    rw [show (Op.cmpValue (some Ordering.gt) op).toInt = 1 from rfl]; omega
theorem zfk0 : FP.Core.fkey FP.fconst0 = 0 := by decide +kernel
theorem zfk1 : FP.Core.fkey FP.fconst1 = 127 * 2 ^ 23 := by decide +kernel
theorem zfk2 : FP.Core.fkey FP.fconst2 = 128 * 2 ^ 23 := by decide +kernel
theorem zfn0 : FP.Core.val32 FP.fconst0 ≠ .nan := by rw [show FP.fconst0 = FP.Core.fconst0 from rfl, FP.Core.val32_fconst0]; nofun
theorem zfn1 : FP.Core.val32 FP.fconst1 ≠ .nan := by rw [show FP.fconst1 = FP.Core.fconst1 from rfl, FP.Core.val32_fconst1]; nofun
theorem zfn2 : FP.Core.val32 FP.fconst2 ≠ .nan := by rw [val32_two]; nofun
theorem zfb_sub {T : Nat} (h2 : T < 2 ^ 23) : ∃ c q, FP.Core.val32 (FP.fsub (zfb 127 T) FP.fconst1) = .fin false c q ∧ FP.Core.inUnits c q (-149) = T * 2 ^ 126 := by
  have e : FP.Core.val32 (FP.fsub (zfb 127 T) FP.fconst1) = FP.Core.round FP.Core.b32 (.fin false T (-23)) := by
    rw [show FP.fsub (zfb 127 T) FP.fconst1 = FP.Core.fsub (zfb 127 T) FP.Core.fconst1 from rfl, FP.Core.val32_fsub, FP.Core.val32_fconst1, zfb_v (by omega) (by omega) h2]
    have hu : FP.Core.sumUnits false (2 ^ 23 + T) (-23) true (2 ^ 23) (-23) (-23) = T := by
      unfold FP.Core.sumUnits FP.Core.inUnits FP.Core.signed
      simp
      omega
    show FP.Core.round FP.Core.b32 (.fin (FP.Core.sumSign false true (FP.Core.sumUnits false (2 ^ 23 + T) (-23) true (2 ^ 23) (-23) (-23))) (FP.Core.sumUnits false (2 ^ 23 + T) (-23) true (2 ^ 23) (-23) (-23)).natAbs (-23)) = _
    rw [hu]
    congr 2
    unfold FP.Core.sumSign
    split
    · rfl
    · exact decide_eq_false (by omega)
  rw [e]
  obtain ⟨c, q, h3, h4⟩ := FP.Core.round_exact FP.Core.good_b32 false (c := T) (q := -23) (show T < 2 ^ 24 by omega) (by decide) (by decide)
  refine ⟨c, q, h3, ?_⟩
  rw [FP.Core.qmin_b32] at h4
  rw [h4]
  rfl
theorem zfb_frac {T : Nat} (h2 : T < 2 ^ 23) : (FP.f2i (FP.fmul (FP.fsub (zfb 127 T) FP.fconst1) 1258291200)).toInt = T ∧ FP.Core.val32 (FP.fmul (FP.fsub (zfb 127 T) FP.fconst1) 1258291200) ≠ .nan ∧ FP.Core.val32 (FP.fsub (zfb 127 T) FP.fconst1) ≠ .nan := by
  obtain ⟨c, q, hv, hu⟩ := zfb_sub h2
  have hq : -149 ≤ q := by
    have := FP.Core.val32_fits (FP.fsub (zfb 127 T) FP.fconst1)
    rw [hv] at this
    have h := this.2.1
    rwa [FP.Core.qmin_b32] at h
  have hw : FP.Core.FInt (T : Int) (FP.fmul (FP.fsub (zfb 127 T) FP.fconst1) 1258291200) := by
    unfold FP.Core.FInt
    rw [show FP.fmul (FP.fsub (zfb 127 T) FP.fconst1) 1258291200 = FP.Core.fmul (FP.fsub (zfb 127 T) FP.fconst1) 1258291200 from rfl, FP.Core.val32_fmul, hv, val32_8m]
    refine FP.Core.whole_round FP.Core.good_b32 FP.Core.wide_b32 (show (T : Int).natAbs ≤ 2 ^ 24 by omega) ?_
    show FP.Core.signed (false != false) (c * 2 ^ 23 * 2 ^ (q + 0).toNat) = (T : Int) * ((2 ^ (-(q + 0)).toNat : Nat) : Int)
    have key : c * 2 ^ 23 * 2 ^ (q + 0).toNat = T * 2 ^ (-(q + 0)).toNat := by
      refine Nat.eq_of_mul_eq_mul_right (Nat.two_pow_pos 126) ?_
      unfold FP.Core.inUnits at hu
      have e : (q - -149).toNat + (-(q + 0)).toNat = 149 + (q + 0).toNat := by omega
      calc c * 2 ^ 23 * 2 ^ (q + 0).toNat * 2 ^ 126 = c * 2 ^ (149 + (q + 0).toNat) := by rw [Nat.pow_add, show (2 : Nat) ^ 149 = 2 ^ 23 * 2 ^ 126 from rfl]; ac_rfl
        _ = c * 2 ^ (q - -149).toNat * 2 ^ (-(q + 0)).toNat := by rw [← e, Nat.pow_add]; ac_rfl
        _ = T * 2 ^ (-(q + 0)).toNat * 2 ^ 126 := by rw [hu]; ac_rfl
    rw [key]
    show ((T * 2 ^ (-(q + 0)).toNat : Nat) : Int) = _
    rw [Int.natCast_mul]
  refine ⟨?_, FP.Core.FInt_ne_nan hw, by rw [hv]; nofun⟩
  have hi : (Int32.ofInt T).toInt = T := Int32.toInt_ofInt_of_le (by omega) (by omega)
  rw [show FP.f2i (FP.fmul (FP.fsub (zfb 127 T) FP.fconst1) 1258291200) = Int32.ofInt T from FP.Core.f2i_int (a := Int32.ofInt T) (by rw [hi]; exact hw), hi]
theorem zfb_or {E T : Nat} (h1 : E ≤ 254) (h2 : T < 2 ^ 23) : (Int32.ofInt (Int32.ofInt E <<< (Int32.ofInt 23 &&& 31)).toInt ||| Int32.ofInt T) = (zfb E T).toInt32 := by
  rw [Int32.ofInt_toInt, show (Int32.ofInt 23 &&& 31) = 23 from rfl]
  refine Int32.toBitVec_inj.mp (BitVec.eq_of_toNat_eq ?_)
  have ho := Nat.shiftLeft_add_eq_or_of_lt (a := E) (b := T) (i := 23) h2
  have hz := zfb_n (E := E) (T := T) h1 h2
  rw [Nat.shiftLeft_eq] at ho
  rw [show ((zfb E T).toInt32.toBitVec.toNat) = (zfb E T).toNat from rfl, hz, Int32.toBitVec_or, BitVec.toNat_or]
  have e1 : (Int32.ofInt (T : Int)).toBitVec.toNat = T := by
    show ((BitVec.ofInt 32 (T : Int))).toNat = T
    rw [BitVec.toNat_ofInt]
    omega
  have e2 : (Int32.ofInt (E : Int) <<< (23 : Int32)).toBitVec.toNat = E * 2 ^ 23 := by
    have : (Int32.ofInt (E : Int)).toBitVec.toNat = E := by
      show ((BitVec.ofInt 32 (E : Int))).toNat = E
      rw [BitVec.toNat_ofInt]
      omega
    show (((Int32.ofInt (E : Int)).toBitVec <<< ((23 : Int32).toBitVec.smod 32#32))).toNat = _
    rw [show ((23 : Int32).toBitVec.smod 32#32) = 23#32 from rfl, BitVec.shiftLeft_eq', BitVec.toNat_shiftLeft, this, Nat.shiftLeft_eq]
    show E * 2 ^ 23 % 2 ^ 32 = _
    omega
  rw [e1, e2, ← ho]
/-- the same, with the sign -/
def zfbn (E T : Nat) : UInt32 := zfb E T ^^^ 0x80000000
theorem zfbn_neg {E T : Nat} : FP.fneg (zfbn E T) = zfb E T := by
  unfold FP.fneg zfbn
  rw [UInt32.xor_assoc, UInt32.xor_self, UInt32.xor_zero]
theorem zxor31 {n : Nat} (h : n < 2 ^ 31) : n ^^^ 2147483648 = n + 2147483648 := by
  have h1 := Nat.two_pow_add_eq_or_of_lt h 1
  have h2 : n ^^^ 2147483648 = 2 ^ 31 * 1 ||| n := by
    refine Nat.eq_of_testBit_eq (fun i => ?_)
    rw [Nat.testBit_xor, Nat.testBit_or, show (2147483648 : Nat) = 2 ^ 31 from rfl, Nat.mul_one, Nat.testBit_two_pow]
    by_cases hi : 31 = i
    · subst hi
      rw [Nat.testBit_lt_two_pow h]; rfl
    · simp [hi]
  omega
theorem zfbn_n {E T : Nat} (h1 : E ≤ 254) (h2 : T < 2 ^ 23) : (zfbn E T).toNat = E * 2 ^ 23 + T + 2 ^ 31 := by
  unfold zfbn
  rw [UInt32.toNat_xor, zfb_n h1 h2]
  show (E * 2 ^ 23 + T) ^^^ 2147483648 = _
  rw [zxor31 (by omega)]
theorem zfbn_k {E T : Nat} (h1 : E ≤ 254) (h2 : T < 2 ^ 23) : FP.Core.fkey (zfbn E T) = -((E * 2 ^ 23 + T : Nat) : Int) := by
  unfold FP.Core.fkey
  rw [zfbn_n h1 h2, if_pos (by omega)]
  omega
theorem zfbn_ne {E T : Nat} (h1 : E ≤ 254) (h2 : T < 2 ^ 23) : FP.Core.val32 (zfbn E T) ≠ .nan := by
  refine (FP.Core.ne_nan32 _).mpr ?_
  rw [zfbn_n h1 h2]
  omega
theorem zfbn_or {E T : Nat} (h1 : E ≤ 254) (h2 : T < 2 ^ 23) : ((zfb E T).toInt32 ||| Int32.ofInt (-2147483648)) = (zfbn E T).toInt32 := by
  refine Int32.toBitVec_inj.mp (BitVec.eq_of_toNat_eq ?_)
  rw [Int32.toBitVec_or, BitVec.toNat_or, show ((zfbn E T).toInt32.toBitVec.toNat) = (zfbn E T).toNat from rfl, zfbn_n h1 h2, show ((zfb E T).toInt32.toBitVec.toNat) = (zfb E T).toNat from rfl, zfb_n h1 h2, show (Int32.ofInt (-2147483648)).toBitVec.toNat = 2 ^ 31 * 1 from rfl, Nat.or_comm, ← Nat.two_pow_add_eq_or_of_lt (by omega)]
  omega
