theorem ztm_zm {x : UInt64} {i : Int} (h : FP.Core.DInt i x) : FP.Core.zmag FP.Core.b64 (FP.Core.val64 x) = i.natAbs * FP.Core.one64 := by
  have hz := FP.Core.DInt_zval h
  have := congrArg Int.natAbs hz
  unfold FP.Core.zval at this
  rw [FP.Core.natAbs_signed, Int.natAbs_mul, Int.natAbs_natCast] at this
  exact this
theorem ztm_fin {a b : Int} (ha : 100 ≤ a ∧ a ≤ 45000) (hb : 1 ≤ b ∧ b ≤ 999) : 1019 * 2 ^ 52 ≤ (FP.ddiv (FP.i2d (Int32.ofInt a)) (FP.i2d (Int32.ofInt b))).toNat % 2 ^ 63 ∧ (FP.ddiv (FP.i2d (Int32.ofInt a)) (FP.i2d (Int32.ofInt b))).toNat % 2 ^ 63 < 1041 * 2 ^ 52 := by
  have h1 := FP.Core.i2d_int (Int32.ofInt a)
  have h2 := FP.Core.i2d_int (Int32.ofInt b)
  rw [zti (by omega)] at h1 h2
  have e1 := ztm_zm h1
  have e2 := ztm_zm h2
  obtain ⟨s, c, q, v1⟩ : FP.Core.DFin (FP.i2d (Int32.ofInt a)) := zi2f
  obtain ⟨t, d, r, v2⟩ : FP.Core.DFin (FP.i2d (Int32.ofInt b)) := zi2f
  have f1 := FP.Core.val64_fits (FP.i2d (Int32.ofInt a))
  have f2 := FP.Core.val64_fits (FP.i2d (Int32.ofInt b))
  rw [show FP.Core.val64 (FP.i2d (Int32.ofInt a)) = .fin s c q from v1] at e1 f1
  rw [show FP.Core.val64 (FP.i2d (Int32.ofInt b)) = .fin t d r from v2] at e2 f2
  have hd0 : d ≠ 0 := by
    rintro rfl
    have h9 : FP.Core.zmag FP.Core.b64 (.fin t 0 r) = 0 := Nat.zero_mul _
    rw [h9] at e2
    have : 0 < b.natAbs * FP.Core.one64 := Nat.mul_pos (by omega) FP.Core.one64_pos
    omega
  have hdv := FP.Core.val64_ddiv (FP.i2d (Int32.ofInt a)) (FP.i2d (Int32.ofInt b))
  rw [show FP.Core.val64 (FP.i2d (Int32.ofInt a)) = .fin s c q from v1, show FP.Core.val64 (FP.i2d (Int32.ofInt b)) = .fin t d r from v2] at hdv
  simp only [FP.Core.quotient, if_neg hd0] at hdv
  constructor
  · have hq := f1.2.1
    have hr := f2.2.1
    rw [FP.Core.qmin_b64] at hq hr
    have := FP.Core.mag_ge (f := FP.Core.b64) FP.Core.good_b64 (n := (FP.ddiv (FP.i2d (Int32.ofInt a)) (FP.i2d (Int32.ofInt b))).toNat) (m := 1019 * 2 ^ 52) (e0 := 2 * FP.Core.b64.qmin - r) hdv (by omega) (by rw [FP.Core.qmin_b64]; omega) (by rw [FP.Core.qmin_b64]; omega) (by rw [FP.Core.infBits_b64]; decide) ?_
    · rwa [FP.Core.mag_toNat64] at this
    · have es := FP.Core.unitsOf_start (f := FP.Core.b64) (K := 1019) (by decide)
      rw [FP.Core.tails_b64] at es
      rw [es]
      have e3 : FP.Core.inUnits c (q - r) (2 * FP.Core.b64.qmin - r) = a.natAbs * FP.Core.one64 * FP.Core.one64 := by
        rw [← e1, ← FP.Core.pow_qmin64]
        show c * _ = c * _ * _
        rw [Nat.mul_assoc, ← Nat.pow_add]
        refine congrArg (c * ·) (congrArg (2 ^ ·) ?_)
        rw [FP.Core.qmin_b64]
        omega
      have e4 : 2 ^ (FP.Core.b64.qmin - (2 * FP.Core.b64.qmin - r)).toNat * d = b.natAbs * FP.Core.one64 := by
        rw [← e2]
        show _ = d * _
        rw [Nat.mul_comm]
        refine congrArg (d * ·) (congrArg (2 ^ ·) ?_)
        rw [FP.Core.qmin_b64]
        omega
      rw [e3, Nat.mul_assoc, e4, ← Nat.mul_assoc]
      refine Nat.mul_le_mul_right _ ?_
      calc 2 ^ 52 * 2 ^ (1019 - 1) * b.natAbs ≤ 2 ^ 52 * 2 ^ (1019 - 1) * 999 := Nat.mul_le_mul_left _ (by omega)
        _ ≤ 100 * FP.Core.one64 := by decide +kernel
        _ ≤ a.natAbs * FP.Core.one64 := Nat.mul_le_mul_right _ (by omega)
  · have a1 := FP.Core.i2d_mag (Int32.ofInt a)
    have b1 := FP.Core.i2d_big (v := Int32.ofInt b) (by rw [zti (by omega)]; omega)
    have a2 : (FP.i2d (Int32.ofInt a)).toNat % 2 ^ 63 < 1040 * 2 ^ 52 := by
      have hn : FP.Core.val64 (FP.i2d (Int32.ofInt a)) ≠ .nan := zi2n
      have hm := FP.Core.zmag_bits hn
      rw [show FP.Core.val64 (FP.i2d (Int32.ofInt a)) = .fin s c q from v1, e1] at hm
      refine (FP.Core.unitsOf_lt_iff (f := FP.Core.b64)).mp ?_
      have es := FP.Core.unitsOf_start (f := FP.Core.b64) (K := 1040) (by decide)
      rw [FP.Core.tails_b64] at es
      rw [es, ← hm]
      calc a.natAbs * FP.Core.one64 ≤ 45000 * FP.Core.one64 := Nat.mul_le_mul_right _ (by omega)
        _ < 2 ^ 52 * 2 ^ (1040 - 1) := by decide +kernel
    have := FP.Core.ddiv_mag a2 b1.1 b1.2 (by decide) (by decide)
    exact Nat.lt_of_lt_of_le this (by decide)
/-- a time's float -/
theorem zfok_tm {a b : Int} (ha : 100 ≤ a ∧ a ≤ 45000) (hb : 1 ≤ b ∧ b ≤ 999) : FP.Core.val64 (FP.ddiv (FP.i2d (Int32.ofInt a)) (FP.i2d (Int32.ofInt b))) ≠ .nan ∧ zfok (FP.d2f (FP.ddiv (FP.i2d (Int32.ofInt a)) (FP.i2d (Int32.ofInt b)))) := by
  obtain ⟨l1, l2⟩ := ztm_fin ha hb
  have hf : FP.Core.DFin (FP.ddiv (FP.i2d (Int32.ofInt a)) (FP.i2d (Int32.ofInt b))) := zdd (by omega) (by omega)
  generalize FP.ddiv (FP.i2d (Int32.ofInt a)) (FP.i2d (Int32.ofInt b)) = t at l1 l2 hf
  have hn := zfn hf
  refine ⟨hn, zfok_m ?_⟩
  have hm := FP.Core.zmag_bits hn
  obtain ⟨s, c, q, v⟩ := hf
  have f1 := FP.Core.val64_fits t
  rw [show FP.Core.val64 t = .fin s c q from v] at hm f1
  have hq := f1.2.1
  rw [FP.Core.qmin_b64] at hq
  have hr : FP.Core.val32 (FP.Core.d2f t) = FP.Core.roundRatio FP.Core.b32 s c 1 q := by
    rw [FP.Core.val32_d2f, show FP.Core.val64 t = .fin s c q from v]
    rfl
  have lo : 2 ^ 52 * 2 ^ (1019 - 1) ≤ FP.Core.zmag FP.Core.b64 (.fin s c q) := by
    rw [hm]
    have es := FP.Core.unitsOf_start (f := FP.Core.b64) (K := 1019) (by decide)
    rw [FP.Core.tails_b64] at es
    rw [← es]
    exact FP.Core.unitsOf_le_iff.mpr l1
  have hi : FP.Core.zmag FP.Core.b64 (.fin s c q) ≤ 2 ^ 52 * 2 ^ (1041 - 1) := by
    rw [hm]
    have es := FP.Core.unitsOf_start (f := FP.Core.b64) (K := 1041) (by decide)
    rw [FP.Core.tails_b64] at es
    rw [← es]
    exact FP.Core.unitsOf_le_iff.mpr (Nat.le_of_lt l2)
  have eu : FP.Core.inUnits c q (-1074) = FP.Core.zmag FP.Core.b64 (.fin s c q) := rfl
  rw [zd2c hn]
  constructor
  · have := FP.Core.mag_ge (f := FP.Core.b32) FP.Core.good_b32 (n := (FP.Core.d2f t).toNat) (m := 1 * 2 ^ 23) (e0 := -1074) hr (by decide) (by rw [FP.Core.qmin_b32]; decide) hq (by rw [FP.Core.infBits_b32]; decide) ?_
    · rw [FP.Core.mag_toNat32] at this
      omega
    · have es := FP.Core.unitsOf_start (f := FP.Core.b32) (K := 1) (by decide)
      rw [FP.Core.tails_b32] at es
      rw [es, eu, FP.Core.qmin_b32]
      exact Nat.le_trans (by decide +kernel) lo
  · have := FP.Core.mag_le (f := FP.Core.b32) FP.Core.good_b32 (n := (FP.Core.d2f t).toNat) (m := 254 * 2 ^ 23) (e0 := -1074) hr (by decide) (by rw [FP.Core.qmin_b32]; decide) hq ?_
    · rw [FP.Core.mag_toNat32] at this
      omega
    · have es := FP.Core.unitsOf_start (f := FP.Core.b32) (K := 254) (by decide)
      rw [FP.Core.tails_b32] at es
      rw [es, eu, FP.Core.qmin_b32]
      exact Nat.le_trans hi (by decide +kernel)
/-- the times that are foretold -/
def zTmo (x : UInt64) : Prop := ∃ a b : Int, (100 ≤ a ∧ a ≤ 45000) ∧ (1 ≤ b ∧ b ≤ 999) ∧ x = FP.ddiv (FP.i2d (Int32.ofInt a)) (FP.i2d (Int32.ofInt b))
theorem zsc_t {s f : Int → Int} {g n : Int} {X : UInt64} (hg : 100 ≤ g ∧ g ≤ 5000) (hs : ∀ j, 0 ≤ j → j < n → 1 ≤ s j ∧ s j ≤ 1000) (hn : n ≤ 9) : ∀ k : Nat, (k : Int) ≤ n → (zsc s f g X k).1 = -1 ∨ zTmo (zsc s f g X k).2.2.1
  | 0, _ => Or.inl rfl
  | k + 1, hk => by
    have ih := zsc_t (f := f) (X := X) hg hs hn k (by omega)
    have hb := zsc_b (s := s) (f := f) (g := g) (X := X) k
    show (zsc1 s f g k (zsc s f g X k)).1 = -1 ∨ zTmo (zsc1 s f g k (zsc s f g X k)).2.2.1
    generalize zsc s f g X k = q at ih hb ⊢
    have key : ¬ q.2.2.2 = -1 → ¬ s k - s q.2.2.2 ≤ 0 → zTmo (ztm s g k q.2.2.2) := by
      intro h1 h2
      have s1 := hs k (by omega) (by omega)
      have s2 := hs q.2.2.2 (by omega) (by omega)
      have m1 := zmulb (a := k - q.2.2.2 - 1) (b := g) (A := 8) (B := 5000) (by omega) (by omega) (by omega) hg.2
      have m2 : ((k : Int) - q.2.2.2) * g = (k - q.2.2.2 - 1) * g + g := by
        rw [Int.sub_mul (k - q.2.2.2) 1 g, Int.one_mul]; omega
      exact ⟨(k - q.2.2.2) * g, s k - s q.2.2.2, by omega, by omega, rfl⟩
    unfold zsc1
    by_cases h0 : f k = 0
    · rw [if_pos h0]
      by_cases h1 : ¬ q.2.2.2 = -1
      · rw [if_pos h1]
        by_cases h2 : s k - s q.2.2.2 ≤ 0
        · rw [if_pos h2]; exact ih
        · rw [if_neg h2]
          (repeat' split) <;> first | exact ih | exact Or.inr (key h1 h2)
      · rw [if_neg h1]; exact ih
    · rw [if_neg h0]; exact ih
theorem zfi_t {s : Int → Int} {g n : Int} {X : UInt64} {A : zFA} (hg : 100 ≤ g ∧ g ≤ 5000) (hs : ∀ j, 0 ≤ j → j < n → 1 ≤ s j ∧ s j ≤ 1000) (hn : 0 ≤ n ∧ n ≤ 9) (h : A.2.1 = 0) : ∀ k : Nat, ∀ j, 0 ≤ j → j < (zfi n s g X A k).2.1 → zTmo ((zfi n s g X A k).2.2.2.2 j)
  | 0 => fun j a b => by have : j < A.2.1 := b; omega
  | k + 1 => by
    have ih := zfi_t (X := X) hg hs hn h k
    have ht := zsc_t (f := (zfi n s g X A k).1) (X := X) hg hs hn.2 n.toNat (by omega)
    show ∀ j, 0 ≤ j → j < (zf1 n s g X (zfi n s g X A k)).2.1 → zTmo ((zf1 n s g X (zfi n s g X A k)).2.2.2.2 j)
    generalize zfi n s g X A k = B at ih ht ⊢
    unfold zf1
    by_cases hq : (zsc s B.1 g X n.toNat).1 = -1
    · rw [if_pos hq]; exact ih
    · rw [if_neg hq]
      intro j a b
      have b' : j < B.2.1 + 1 := b
      show zTmo (zuD B.2.2.2.2 B.2.1 _ j)
      unfold zuD
      by_cases ej : j = B.2.1
      · rw [if_pos ej]; exact ht.resolve_left hq
      · rw [if_neg ej]; exact ih j a (by omega)
