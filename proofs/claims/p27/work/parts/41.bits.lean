/-! ===== bits of masks (the first rows: the kit's family on bits, pasted); sums; days ===== -/
def bt (x : Int32) (i : Nat) : Bool := x.toBitVec.getLsbD i
theorem b_ext {x y : Int32} (h : ∀ i, i < 32 → bt x i = bt y i) : x = y := Int32.toBitVec_inj.mp (BitVec.eq_of_getLsbD_eq (fun i hi => h i hi))
theorem b_or (x y : Int32) (i : Nat) : bt (x ||| y) i = (bt x i || bt y i) := by unfold bt; rw [Int32.toBitVec_or, BitVec.getLsbD_or]
theorem b_and (x y : Int32) (i : Nat) : bt (x &&& y) i = (bt x i && bt y i) := by unfold bt; rw [Int32.toBitVec_and, BitVec.getLsbD_and]
theorem b_0 (i : Nat) : bt 0 i = false := BitVec.getLsbD_zero
theorem s_l : ∀ n, n < 32 → ((nI n &&& 31).toBitVec.smod 32).toNat = n := by decide +kernel
theorem b_shl (n : Nat) (hn : n < 32) (x : Int32) {i : Nat} (hi : i < 32) : bt (x <<< (nI n &&& 31)) i = (decide (n ≤ i) && bt x (i - n)) := by
  unfold bt
  rw [Int32.toBitVec_shiftLeft]
  show (x.toBitVec <<< ((nI n &&& 31).toBitVec.smod 32).toNat).getLsbD i = _
  rw [s_l n hn, BitVec.getLsbD_shiftLeft]
  rcases Nat.lt_or_ge i n with h | h
  · simp [h, Nat.not_le.mpr h]
  · simp [hi, h, Nat.not_lt.mpr h]
theorem b_sshr (n : Nat) (hn : n < 32) (x : Int32) {i : Nat} (hi : i < 32) : bt (x >>> (nI n &&& 31)) i = if n + i < 32 then bt x (n + i) else bt x 31 := by
  unfold bt
  rw [Int32.toBitVec_shiftRight]
  show (x.toBitVec.sshiftRight ((nI n &&& 31).toBitVec.smod 32).toNat).getLsbD i = _
  rw [s_l n hn, BitVec.getLsbD_sshiftRight, BitVec.msb_eq_getLsbD_last]
  simp [hi]
/-- the mask of the first n of f -/
def zmk (f : Int → Int) : Nat → Int
  | 0 => 0
  | n + 1 => (Int32.ofInt (zmk f n) ||| Int32.ofInt (zsl1 (f n))).toInt
theorem zmk_r {f : Int → Int} : ∀ n : Nat, zr (zmk f n)
  | 0 => show zr 0 from ⟨by decide, by decide⟩
  | _ + 1 => zr_of _
theorem zmk_s {f : Int → Int} {k : Int} (h : 0 ≤ k) : zmk f (k + 1).toNat = (Int32.ofInt (zmk f k.toNat) ||| Int32.ofInt (zsl1 (f k))).toInt := by
  obtain ⟨j, rfl⟩ : ∃ j : Nat, k = j := ⟨k.toNat, by omega⟩
  rfl
theorem zb1_bt : ∀ i, i < 32 → bt (Int32.ofInt 1) i = decide (i = 0) := by decide +kernel
theorem zsl_bt {k : Int} (h0 : 0 ≤ k) (h1 : k < 32) {i : Nat} (hi : i < 32) : bt (Int32.ofInt (zsl1 k)) i = decide ((i : Int) = k) := by
  obtain ⟨j, rfl⟩ : ∃ j : Nat, k = j := ⟨k.toNat, by omega⟩
  unfold zsl1
  rw [Int32.ofInt_toInt]
  show bt (Int32.ofInt 1 <<< (nI j &&& 31)) i = _
  rw [b_shl j (by omega) _ hi]
  by_cases hj : j ≤ i
  · rw [zb1_bt _ (by omega), decide_eq_true hj, Bool.true_and]
    by_cases e : i = j
    · rw [decide_eq_true (show i - j = 0 by omega), decide_eq_true (show (i : Int) = (j : Int) by omega)]
    · rw [decide_eq_false (show ¬ i - j = 0 by omega), decide_eq_false (show ¬ (i : Int) = (j : Int) by omega)]
  · rw [decide_eq_false hj, Bool.false_and, decide_eq_false (show ¬ (i : Int) = (j : Int) by omega)]
theorem zmk_bt {f : Int → Int} {i : Nat} (hi : i < 32) : ∀ n : Nat, (∀ k, 0 ≤ k → k < (n : Int) → 0 ≤ f k ∧ f k < 32) → (bt (Int32.ofInt (zmk f n)) i = true ↔ ∃ k, 0 ≤ k ∧ k < (n : Int) ∧ f k = i)
  | 0, _ => by
    constructor
    · intro h
      have : bt (0 : Int32) i = true := h
      rw [b_0] at this
      exact absurd this (by decide)
    · rintro ⟨k, k0, k1, -⟩
      omega
  | n + 1, h => by
    have ih := zmk_bt hi n (fun k k0 k1 => h k k0 (by omega))
    have hn := h n (by omega) (by omega)
    show bt (Int32.ofInt (Int32.ofInt (zmk f n) ||| Int32.ofInt (zsl1 (f n))).toInt) i = true ↔ _
    rw [Int32.ofInt_toInt, b_or, zsl_bt hn.1 hn.2 hi, Bool.or_eq_true, ih, decide_eq_true_eq]
    constructor
    · rintro (⟨k, k0, k1, k2⟩ | e)
      · exact ⟨k, k0, by omega, k2⟩
      · exact ⟨n, by omega, by omega, e.symm⟩
    · rintro ⟨k, k0, k1, k2⟩
      by_cases e : k = n
      · subst e; exact Or.inr k2.symm
      · exact Or.inl ⟨k, k0, by omega, k2⟩
theorem zmk_free {f : Int → Int} {n : Nat} {c : Int} (hf : ∀ k, 0 ≤ k → k < (n : Int) → 0 ≤ f k ∧ f k < 32) (c0 : 0 ≤ c) (c1 : c < 31) (h : ¬ ∃ k, 0 ≤ k ∧ k < (n : Int) ∧ f k = c) : (Int32.ofInt (Int32.ofInt (zmk f n) >>> (Int32.ofInt c &&& 31)).toInt &&& Int32.ofInt 1).toInt = 0 := by
  obtain ⟨j, rfl⟩ : ∃ j : Nat, c = j := ⟨c.toNat, by omega⟩
  have e : (Int32.ofInt (Int32.ofInt (zmk f n) >>> (Int32.ofInt (j : Int) &&& 31)).toInt &&& Int32.ofInt 1) = 0 := by
    refine b_ext (fun i hi => ?_)
    rw [b_and, zb1_bt i hi, b_0, Int32.ofInt_toInt]
    by_cases h0 : i = 0
    · subst h0
      show (bt (Int32.ofInt (zmk f n) >>> (nI j &&& 31)) 0 && _) = false
      rw [b_sshr j (by omega) _ (by omega), if_pos (by omega), Nat.add_zero]
      have := (zmk_bt (f := f) (i := j) (by omega) n hf)
      cases hb : bt (Int32.ofInt (zmk f n)) j with
      | false => rfl
      | true => exact absurd (this.mp hb) h
    · rw [decide_eq_false h0, Bool.and_false]
  rw [e]
  rfl
theorem zmk_same {f g : Int → Int} {n m : Nat} (hf : ∀ k, 0 ≤ k → k < (n : Int) → 0 ≤ f k ∧ f k < 32) (hg : ∀ k, 0 ≤ k → k < (m : Int) → 0 ≤ g k ∧ g k < 32) (h : ∀ c, (∃ k, 0 ≤ k ∧ k < (n : Int) ∧ f k = c) ↔ ∃ k, 0 ≤ k ∧ k < (m : Int) ∧ g k = c) : zmk f n = zmk g m := by
  have e : Int32.ofInt (zmk f n) = Int32.ofInt (zmk g m) := by
    refine b_ext (fun i hi => ?_)
    rw [Bool.eq_iff_iff, zmk_bt hi n hf, zmk_bt hi m hg]
    exact h i
  rw [← zti (zmk_r (f := f) n), ← zti (zmk_r (f := g) m), e]
/-- sums -/
def zsm (f : Int → Int) : Nat → Int
  | 0 => 0
  | n + 1 => zsm f n + f n
theorem zsm_s {f : Int → Int} {k : Int} (h : 0 ≤ k) : zsm f (k + 1).toNat = zsm f k.toNat + f k := by
  obtain ⟨j, rfl⟩ : ∃ j : Nat, k = j := ⟨k.toNat, by omega⟩
  rfl
theorem zsm_b {f : Int → Int} (h : ∀ k, 0 ≤ f k ∧ f k ≤ 96) : ∀ n : Nat, 0 ≤ zsm f n ∧ zsm f n ≤ 96 * n
  | 0 => by simp [zsm]
  | n + 1 => by
    have ih := zsm_b h n
    have := h n
    unfold zsm
    omega
theorem zsm_add {f g : Int → Int} : ∀ n : Nat, zsm (fun k => f k + g k) n = zsm f n + zsm g n
  | 0 => rfl
  | n + 1 => by
    have ih := zsm_add (f := f) (g := g) n
    unfold zsm
    omega
theorem zsm_one {Pl Or : Int → Int} {N x q : Int} (hO : ∀ p, 0 ≤ p → p < N → Pl (Or p) = p) (q0 : 0 ≤ q) (q1 : q < N) (hx : Or q = x) : ∀ n : Nat, (n : Int) ≤ N → zsm (fun p => if x = Or p then 1 else 0) n = if q < n then 1 else 0
  | 0, _ => by
    rw [if_neg (by omega)]
    rfl
  | n + 1, hn => by
    have ih := zsm_one hO q0 q1 hx n (by omega)
    show zsm (fun p => if x = Or p then 1 else 0) n + (if x = Or n then 1 else 0) = _
    rw [ih]
    by_cases e : q = n
    · subst e
      rw [if_neg (by omega), if_pos hx.symm, if_pos (by omega)]
      rfl
    · have : ¬ x = Or n := by
        intro h9
        have a := hO q q0 q1
        have b := hO n (by omega) (by omega)
        rw [hx, h9, b] at a
        exact e a.symm
      rw [if_neg this]
      by_cases h1 : q < n
      · rw [if_pos h1, if_pos (by omega)]; rfl
      · rw [if_neg h1, if_neg (by omega)]; rfl
/-- all crews' counts together are all -/
theorem zsm_cnt {Pl Or u : Int → Int} {N : Int} (hO : ∀ p, 0 ≤ p → p < N → Pl (Or p) = p) (hP : ∀ c, 0 ≤ c → c < N → 0 ≤ Pl c ∧ Pl c < N ∧ Or (Pl c) = c) (hN : 0 ≤ N) : ∀ l : Nat, (∀ k, 0 ≤ k → k < (l : Int) → 0 ≤ u k ∧ u k < N) → zsm (fun p => zcnt u (Or p) l) N.toNat = l
  | 0, _ => by
    have : ∀ n : Nat, zsm (fun p => zcnt u (Or p) 0) n = 0 := by
      intro n
      induction n with
      | zero => rfl
      | succ n ih => show zsm (fun p => zcnt u (Or p) 0) n + 0 = 0; rw [ih]; rfl
    exact this _
  | l + 1, h => by
    have ih := zsm_cnt hO hP hN l (fun k k0 k1 => h k k0 (by omega))
    have hl := h l (by omega) (by omega)
    have hq := hP (u l) hl.1 hl.2
    show zsm (fun p => zcnt u (Or p) l + (if u l = Or p then 1 else 0)) N.toNat = _
    rw [zsm_add, ih, zsm_one hO hq.1 hq.2.1 hq.2.2 N.toNat (by omega), if_pos (by omega)]
    omega
/-- no day is one of a rise and of a fall -/
theorem zrf_b {g : Int → Int} : ∀ n : Nat, zris g n + zfal g n ≤ n
  | 0 => by simp [zris, zfal]
  | n + 1 => by
    have ih := zrf_b (g := g) n
    unfold zris zfal
    split <;> split <;> omega
/-- the exchanges leave no place without a crew -/
theorem zsw_on {u d : Int → Int} {N : Int} : ∀ n : Nat, (∀ k, 0 ≤ k → k < (n : Int) → (0 ≤ u k ∧ u k < N) ∧ (0 ≤ d k ∧ d k < N)) → ∀ q, 0 ≤ q → q < N → ∃ c, 0 ≤ c ∧ c < N ∧ zsw u d n c = q
  | 0, _, q, q0, q1 => ⟨q, q0, q1, rfl⟩
  | n + 1, h, q, q0, q1 => by
    obtain ⟨c, c0, c1, hc⟩ := zsw_on n (fun k k0 k1 => h k k0 (by omega)) q q0 q1
    have e := h n (by omega) (by omega)
    show ∃ c, 0 ≤ c ∧ c < N ∧ (if c = u n then zsw u d n (d n) else if c = d n then zsw u d n (u n) else zsw u d n c) = q
    by_cases h1 : c = u n
    · by_cases h2 : d n = u n
      · exact ⟨u n, e.1.1, e.1.2, by rw [if_pos rfl, h2, ← h1]; exact hc⟩
      · exact ⟨d n, e.2.1, e.2.2, by rw [if_neg h2, if_pos rfl, ← h1]; exact hc⟩
    · by_cases h2 : c = d n
      · exact ⟨u n, e.1.1, e.1.2, by rw [if_pos rfl, ← h2]; exact hc⟩
      · exact ⟨c, c0, c1, by rw [if_neg h1, if_neg h2]; exact hc⟩
/-- the best is behind none -/
theorem zbst_max {ri Or : Int → Int} : ∀ n : Nat, ∀ p, 0 ≤ p → p < (n : Int) → ri (Or p) ≤ ri (zbst ri Or n)
  | 0, p, p0, p1 => by omega
  | n + 1, p, p0, p1 => by
    have ih := zbst_max (ri := ri) (Or := Or) n
    unfold zbst
    by_cases h0 : n = 0
    · rw [if_pos h0]
      have : p = 0 := by omega
      rw [this]
      exact Int.le_refl _
    · rw [if_neg h0]
      by_cases e : p = n
      · subst e
        split
        · exact Int.le_refl _
        · omega
      · have := ih p p0 (by omega)
        split
        · omega
        · exact this
