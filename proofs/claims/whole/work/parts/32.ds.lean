theorem zd2f_int {a : UInt64} {i : Int} (h : FP.Core.DInt i a) (h1 : i.natAbs ≤ 2 ^ 24) : FP.Core.FInt i (FP.d2f a) := by
  rw [zd2c (FP.Core.DInt_ne_nan h)]
  unfold FP.Core.FInt
  rw [FP.Core.val32_d2f]
  exact FP.Core.whole_round FP.Core.good_b32 FP.Core.wide_b32 h1 h
theorem zfint_m {x : UInt32} {i : Int} (h : FP.Core.FInt i x) (h0 : i ≠ 0) (h1 : i.natAbs ≤ 2 ^ 24) : 127 * 2 ^ 23 ≤ x.toNat % 2 ^ 31 ∧ x.toNat % 2 ^ 31 < 255 * 2 ^ 23 := by
  have hn := FP.Core.FInt_ne_nan h
  have hz := FP.Core.FInt_zval h
  have hm := FP.Core.zmag_bits32 hn
  have e : FP.Core.unitsOf FP.Core.b32 (x.toNat % 2 ^ 31) = i.natAbs * FP.Core.one32 := by
    rw [← hm]
    have := congrArg Int.natAbs hz
    unfold FP.Core.zval at this
    rw [FP.Core.natAbs_signed, Int.natAbs_mul, Int.natAbs_natCast] at this
    exact this
  have e1 := FP.Core.unitsOf_start (f := FP.Core.b32) (K := 127) (by decide)
  have e2 := FP.Core.unitsOf_start (f := FP.Core.b32) (K := 255) (by decide)
  rw [FP.Core.tails_b32] at e1 e2
  constructor
  · refine (FP.Core.unitsOf_le_iff (f := FP.Core.b32)).mp ?_
    rw [e1, e]
    have h2 : 1 ≤ i.natAbs := by omega
    calc 2 ^ 23 * 2 ^ (127 - 1) = 1 * FP.Core.one32 := by decide
      _ ≤ i.natAbs * FP.Core.one32 := Nat.mul_le_mul_right _ h2
  · refine (FP.Core.unitsOf_lt_iff (f := FP.Core.b32)).mp ?_
    rw [e2, e]
    calc i.natAbs * FP.Core.one32 ≤ 2 ^ 24 * FP.Core.one32 := Nat.mul_le_mul_right _ h1
      _ < 2 ^ 23 * 2 ^ (255 - 1) := by decide
theorem zfok_m {x : UInt32} (h : 2 ^ 23 ≤ x.toNat % 2 ^ 31 ∧ x.toNat % 2 ^ 31 < 255 * 2 ^ 23) : zfok x := by
  refine Or.inl ⟨x.toNat % 2 ^ 31 / 2 ^ 23, x.toNat % 2 ^ 31 % 2 ^ 23, ⟨by omega, by omega, by omega⟩, ?_⟩
  have hx := x.toNat_lt
  by_cases hs : x.toNat < 2 ^ 31
  · left
    refine UInt32.toNat_inj.mp ?_
    rw [zfb_n (by omega) (by omega)]
    omega
  · right
    refine UInt32.toNat_inj.mp ?_
    rw [zfbn_n (by omega) (by omega)]
    omega
theorem zfok_int {x : UInt32} {i : Int} (h : FP.Core.FInt i x) (h0 : i ≠ 0) (h1 : i.natAbs ≤ 2 ^ 24) : zfok x := by
  have := zfint_m h h0 h1
  exact zfok_m (by omega)
/-- where a starter is -/
abbrev zpoV (s t e : Int) : UInt64 := FP.dsub (FP.dmul (FP.i2d (Int32.ofInt s)) (FP.i2d (Int32.ofInt t))) (FP.i2d (Int32.ofInt e))
theorem zpo_d {s t e : Int} (hs : 0 ≤ s ∧ s ≤ 1000) (ht : 0 ≤ t ∧ t ≤ 1000) (he : 0 ≤ e ∧ e ≤ 45000) : FP.Core.DInt (s * t) (FP.dmul (FP.i2d (Int32.ofInt s)) (FP.i2d (Int32.ofInt t))) ∧ FP.Core.DInt (s * t - e) (zpoV s t e) := by
  have hm := zmulb hs.1 hs.2 ht.1 ht.2
  have h1 := FP.Core.i2d_int (Int32.ofInt s)
  have h2 := FP.Core.i2d_int (Int32.ofInt t)
  have h3 := FP.Core.i2d_int (Int32.ofInt e)
  rw [zti (by omega)] at h1 h2 h3
  have h4 := FP.Core.dmul_int h1 h2 (by omega)
  exact ⟨h4, FP.Core.dsub_int h4 h3 (by omega)⟩
theorem zsub_0 {a b : UInt64} {i : Int} (ha : FP.Core.DInt i a) (hb : FP.Core.DInt i b) (hp : i ≠ 0 ∨ ∃ c q, FP.Core.val64 a = .fin false c q) : FP.dsub a b = FP.Core.dconst0 := by
  rcases hp with hi | ⟨c, q, hv⟩
  · rw [FP.Core.dint_unique hi ha hb]
    unfold FP.Core.DInt at hb
    cases e : FP.Core.val64 b with
    | nan => rw [e] at hb; exact hb.elim
    | inf t => rw [e] at hb; exact hb.elim
    | fin t d r => exact FP.Core.dsub_self e
  · have hs := FP.Core.whole_sum ha (FP.Core.whole_negate hb)
    refine (FP.Core.val64_inj (a := FP.Core.dconst0) (by rw [FP.Core.val64_dconst0]; nofun) ?_).symm
    rw [FP.Core.val64_dconst0, show FP.Core.val64 (FP.dsub a b) = FP.Core.round FP.Core.b64 (FP.Core.exactSum (FP.Core.val64 a) (FP.Core.negate (FP.Core.val64 b))) from FP.Core.val64_dsub a b]
    rw [hv] at hs ⊢
    unfold FP.Core.DInt at hb
    cases e : FP.Core.val64 b with
    | nan => rw [e] at hb; exact hb.elim
    | inf t => rw [e] at hb; exact hb.elim
    | fin t d r =>
      rw [e] at hs
      have h0 : (FP.Core.sumUnits false c q (!t) d r (min q r)).natAbs = 0 := (FP.Core.whole_zero (show FP.Core.Whole (i + -i) (.fin (FP.Core.sumSign false (!t) (FP.Core.sumUnits false c q (!t) d r (min q r))) (FP.Core.sumUnits false c q (!t) d r (min q r)).natAbs (min q r)) from hs)).mpr (by omega)
      show _ = FP.Core.roundRatio FP.Core.b64 (FP.Core.sumSign false (!t) (FP.Core.sumUnits false c q (!t) d r (min q r))) (FP.Core.sumUnits false c q (!t) d r (min q r)).natAbs 1 (min q r)
      have h1 : FP.Core.sumUnits false c q (!t) d r (min q r) = 0 := by omega
      rw [h1]
      rfl
theorem zpo_p {s t e : Int} (hs : 0 ≤ s ∧ s ≤ 1000) (ht : 0 ≤ t ∧ t ≤ 1000) (he : 0 ≤ e ∧ e ≤ 45000) (h0 : s * t - e = 0) : zpoV s t e = FP.Core.dconst0 := by
  have hd := zpo_d hs ht he
  have h3 := FP.Core.i2d_int (Int32.ofInt e)
  rw [zti (by omega)] at h3
  have h1 := hd.1
  rw [show s * t = e by omega] at h1
  refine zsub_0 h1 h3 ?_
  by_cases h9 : e = 0
  · right
    have hm := zmulb hs.1 hs.2 ht.1 ht.2
    have hz : FP.Core.DInt 0 (FP.dmul (FP.i2d (Int32.ofInt s)) (FP.i2d (Int32.ofInt t))) := by rw [h9] at h1; exact h1
    -- both numbers have no sign
    have hp : ∀ x : Int, 0 ≤ x → x ≤ 1000 → ∃ c q, FP.Core.val64 (FP.i2d (Int32.ofInt x)) = .fin false c q := by
      intro x hx0 hx1
      rw [show FP.Core.val64 (FP.i2d (Int32.ofInt x)) = FP.Core.round FP.Core.b64 (FP.Core.ofInt (Int32.ofInt x).toInt) from FP.Core.val64_i2d _, zti (by omega)]
      show ∃ c q, FP.Core.roundRatio FP.Core.b64 (decide (x < 0)) x.natAbs 1 0 = .fin false c q
      have hf := (zi2f (x := Int32.ofInt x))
      obtain ⟨s', c, q, e'⟩ := hf
      rw [show FP.Core.val64 (FP.i2d (Int32.ofInt x)) = FP.Core.round FP.Core.b64 (FP.Core.ofInt (Int32.ofInt x).toInt) from FP.Core.val64_i2d _, zti (by omega)] at e'
      have e2 : FP.Core.roundRatio FP.Core.b64 (decide (x < 0)) x.natAbs 1 0 = .fin s' c q := e'
      have hsg := FP.Core.sgn_roundRatio FP.Core.b64 (decide (x < 0)) x.natAbs 1 0
      rw [e2] at hsg
      have : s' = decide (x < 0) := hsg
      rw [decide_eq_false (by omega)] at this
      subst this
      exact ⟨c, q, e2⟩
    obtain ⟨c1, q1, e1⟩ := hp s hs.1 hs.2
    obtain ⟨c2, q2, e2⟩ := hp t ht.1 ht.2
    have hv : FP.Core.val64 (FP.dmul (FP.i2d (Int32.ofInt s)) (FP.i2d (Int32.ofInt t))) = FP.Core.roundRatio FP.Core.b64 false (c1 * c2) 1 (q1 + q2) := by
      rw [show FP.Core.val64 (FP.dmul (FP.i2d (Int32.ofInt s)) (FP.i2d (Int32.ofInt t))) = FP.Core.round FP.Core.b64 (FP.Core.exactProduct (FP.Core.val64 (FP.i2d (Int32.ofInt s))) (FP.Core.val64 (FP.i2d (Int32.ofInt t)))) from FP.Core.val64_dmul _ _, e1, e2]
      rfl
    have hsg := FP.Core.sgn_roundRatio FP.Core.b64 false (c1 * c2) 1 (q1 + q2)
    rw [← hv] at hsg
    unfold FP.Core.DInt at hz
    cases e' : FP.Core.val64 (FP.dmul (FP.i2d (Int32.ofInt s)) (FP.i2d (Int32.ofInt t))) with
    | nan => rw [e'] at hz; exact hz.elim
    | inf u => rw [e'] at hz; exact hz.elim
    | fin u c q =>
      rw [e'] at hsg
      have : u = false := hsg
      subst this
      exact ⟨c, q, rfl⟩
  · exact Or.inl h9
/-- the float of a distance -/
theorem zfok_dist {s1 t e1 s2 e2 : Int} (h1 : 0 ≤ s1 ∧ s1 ≤ 1000) (h2 : 0 ≤ s2 ∧ s2 ≤ 1000) (ht : 0 ≤ t ∧ t ≤ 1000) (g1 : 0 ≤ e1 ∧ e1 ≤ 45000) (g2 : 0 ≤ e2 ∧ e2 ≤ 45000) : FP.Core.val64 (FP.dsub (zpoV s1 t e1) (zpoV s2 t e2)) ≠ .nan ∧ zfok (FP.d2f (FP.dsub (zpoV s1 t e1) (zpoV s2 t e2))) := by
  have d1 := zpo_d h1 ht g1
  have d2 := zpo_d h2 ht g2
  have m1 := zmulb h1.1 h1.2 ht.1 ht.2
  have m2 := zmulb h2.1 h2.2 ht.1 ht.2
  have d3 := FP.Core.dsub_int d1.2 d2.2 (by omega)
  refine ⟨FP.Core.DInt_ne_nan d3, ?_⟩
  by_cases h0 : s1 * t - e1 - (s2 * t - e2) = 0
  · right
    have hz : FP.dsub (zpoV s1 t e1) (zpoV s2 t e2) = FP.Core.dconst0 := by
      have d2' := d2.2
      rw [show s2 * t - e2 = s1 * t - e1 by omega] at d2'
      refine zsub_0 d1.2 d2' ?_
      by_cases h9 : s1 * t - e1 = 0
      · right
        rw [zpo_p h1 ht g1 h9]
        exact ⟨_, _, FP.Core.val64_dconst0⟩
      · exact Or.inl h9
    rw [hz]
    decide +kernel
  · exact zfok_int (zd2f_int d3 (by omega)) h0 (by omega)
