theorem zdiv_b {a b : Int} (h : 0 ≤ a) (h2 : 0 < b) : 0 ≤ a / b ∧ a / b ≤ a := ⟨Int.ediv_nonneg h (by omega), Int.ediv_le_self _ h⟩
def zAnew (I : zI) (k : Int) : zI := fun r j => if (r = 4 ∨ r = 6 ∨ r = 8) ∧ 0 ≤ j ∧ j < k then (if r = 4 then 400 else j) else I r j
theorem zAnew_0 {I : zI} : zAnew I 0 = I := by
  funext r j
  exact if_neg (fun h => by omega)
theorem zAnew_s {I : zI} {k : Int} (h : 0 ≤ k) : zup (zup (zup (zAnew I k) 4 k 400) 8 k k) 6 k k = zAnew I (k + 1) := by
  funext r j
  unfold zup zAnew
  by_cases h4 : r = 4
  · subst h4
    by_cases hj : j = k
    · subst hj; simp; omega
    · simp [hj]
      by_cases h2 : 0 ≤ j ∧ j < k
      · rw [if_pos h2, if_pos (by omega)]
      · rw [if_neg h2, if_neg (by omega)]
  · by_cases h6 : r = 6
    · subst h6
      by_cases hj : j = k
      · subst hj; simp; omega
      · simp [hj]
        by_cases h2 : 0 ≤ j ∧ j < k
        · rw [if_pos h2, if_pos (by omega)]
        · rw [if_neg h2, if_neg (by omega)]
    · by_cases h8 : r = 8
      · subst h8
        by_cases hj : j = k
        · subst hj; simp; omega
        · simp [hj]
          by_cases h2 : 0 ≤ j ∧ j < k
          · rw [if_pos h2, if_pos (by omega)]
          · rw [if_neg h2, if_neg (by omega)]
      · simp [h4, h6, h8]
theorem zAnew_6 {I : zI} {k c : Int} : zAnew I k 6 c = if 0 ≤ c ∧ c < k then c else I 6 c := by
  unfold zAnew
  simp
/-- a chart begun anew, its numbers in place -/
def zBeg (J : zI) : zI := zup (zup (zup (zNote (zAnew J (J 2 5)) (J 2 5)) 9 2 0) 14 4 0) 2 9 ((J 2 5 + J 2 6 - 1) / J 2 6 - 1)
set_option maxRecDepth 20000 in
theorem m_div2 {I : zI} {π : Int → Nat} {D : zD}  (h5 : 0 ≤ I 2 5 ∧ I 2 5 ≤ 24) (h6 : 3 ≤ I 2 6 ∧ I 2 6 ≤ 8) : zMet 9 [vr 2] (I, zPp π, D, 137) (some (vi ((I 2 5 + I 2 6 - 1) / I 2 6))) (I, zPp π, D, 137) := by
  refine z_n 2 (4, [(0, vr 2)], [vi (I 2 6)], (I, zPp π, D, 137)) rfl trivial ?_
  refine z_br ((I 2 6) ≤ 0) 26 7 [] rfl (fun h => absurd h (show ¬ ((I 2 6) ≤ 0) from by omega)) (fun hx1 => ?_)
  refine z_n 11 (27, [(0, vr 2)], [vi ((((I 2 5) + (I 2 6)) - 1) / (I 2 6))], (I, zPp π, D, 137)) (G := (zr ((I 2 5) + (I 2 6))) ∧ (zr (((I 2 5) + (I 2 6)) - 1)) ∧ (0 ≤ (((I 2 5) + (I 2 6)) - 1) ∧ 0 < (I 2 6)) ∧ True) rfl ⟨by omega, by omega, by omega, trivial⟩ ?_
  first | exact z_ret rfl rfl rfl | exact z_ret rfl (zv1 (by omega)) rfl | (exfalso; omega)
set_option maxRecDepth 20000 in
theorem m_anew_l {J : zI} {π : Int → Nat} {D : zD} {a b c : Int} (hN : 2 ≤ J 2 5 ∧ J 2 5 ≤ 24) (hD : 3 ≤ J 2 6 ∧ J 2 6 ≤ 8) (hO : J 2 8 = 0) (hP : ∀ c, 0 ≤ c → c < 24 → 0 ≤ J 6 c ∧ J 6 c < 24) : ∀ (n : Nat) (k : Int), 0 ≤ k → k + n = J 2 5 → zRuns 5 23 [(4, vi k), (0, vr 2), (1, vi a), (2, vi b), (3, vi c)] [] ((zAnew J k), zPp π, D, 137) none ((zBeg J), zPp π, D, 137) := by
  have hdv := zdiv_b (a := J 2 5 + J 2 6 - 1) (b := J 2 6) (by omega) (by omega)
  intro n
  induction n with
  | zero =>
    intro k h0 hn
    refine z_n 3 (29, [(4, vi k), (0, vr 2), (1, vi a), (2, vi b), (3, vi c)], [vi (J 2 5), vi k], ((zAnew J k), zPp π, D, 137)) rfl trivial ?_
    refine z_br ((J 2 5) ≤ k) 58 32 [] rfl (fun hx1 => ?_) (fun h => absurd (show (J 2 5) ≤ k from by omega) h)
    refine z_n 1 (59, [(4, vi k), (0, vr 2), (1, vi a), (2, vi b), (3, vi c)], [vr 2], ((zAnew J k), zPp π, D, 137)) rfl trivial ?_
    refine z_cv 24 [vr 2] [] rfl (m_note (show 0 ≤ J 2 5 ∧ J 2 5 ≤ 24 from by omega) (show 0 ≤ J 2 8 ∧ J 2 8 ≤ 6 from by omega) (fun c a b => by rw [zAnew_6]; have := hP c a b; split <;> omega)) ?_
    refine z_n 6 (74, [(4, vi k), (0, vr 2), (1, vi a), (2, vi b), (3, vi c)], [vr 14], ((zup (zNote (zAnew J k) (J 2 5)) 9 2 0), zPp π, D, 137)) rfl trivial ?_
    refine z_cv 43 [vr 14] [] rfl (m_lempty) ?_
    refine z_n 2 (79, [(4, vi k), (0, vr 2), (1, vi a), (2, vi b), (3, vi c)], [vr 2, vr 2], ((zup (zup (zNote (zAnew J k) (J 2 5)) 9 2 0) 14 4 0), zPp π, D, 137)) rfl trivial ?_
    refine z_ci 9 [vr 2] [vr 2] rfl (m_div2 (show 0 ≤ J 2 5 ∧ J 2 5 ≤ 24 from by omega) (show 3 ≤ J 2 6 ∧ J 2 6 ≤ 8 from by omega)) ?_
    refine z_n 3 (87, [(4, vi k), (0, vr 2), (1, vi a), (2, vi b), (3, vi c)], [], ((zup (zup (zup (zNote (zAnew J k) (J 2 5)) 9 2 0) 14 4 0) 2 9 ((((J 2 5) + (J 2 6) - 1) / (J 2 6)) - 1)), zPp π, D, 137)) (G := (zr ((((J 2 5) + (J 2 6) - 1) / (J 2 6)) - 1)) ∧ True) rfl ⟨by omega, trivial⟩ ?_
    exact z_ret rfl rfl (by rw [show k = J 2 5 by omega]; rfl)
  | succ n ih =>
  intro k h0 hn
  refine z_n 3 (29, [(4, vi k), (0, vr 2), (1, vi a), (2, vi b), (3, vi c)], [vi (J 2 5), vi k], ((zAnew J k), zPp π, D, 137)) rfl trivial ?_
  refine z_br ((J 2 5) ≤ k) 58 32 [] rfl (fun h => absurd h (show ¬ ((J 2 5) ≤ k) from by omega)) (fun hx1 => ?_)
  refine z_n 4 (41, [(4, vi k), (0, vr 2), (1, vi a), (2, vi b), (3, vi c)], [vi 400, vi k, vr 3], ((zAnew J k), zPp π, D, 137)) rfl trivial ?_
  refine z_cv 2 [vr 3, vi k, vi 400] [] rfl (m_put (n := 24) ⟨rfl, rfl, rfl, rfl⟩ (by omega) (by omega)) ?_
  refine z_n 3 (49, [(4, vi k), (0, vr 2), (1, vi a), (2, vi b), (3, vi c)], [vi k, vi k, vr 2], ((zup (zAnew J k) 4 k 400), zPp π, D, 137)) rfl trivial ?_
  refine z_cv 11 [vr 2, vi k, vi k] [] rfl (m_putAt (by omega) (by omega) (by omega) (by omega)) ?_
  refine z_n 2 (23, [(4, vi (k + 1)), (0, vr 2), (1, vi a), (2, vi b), (3, vi c)], [], ((zup (zup (zup (zAnew J k) 4 k 400) 8 k k) 6 k k), zPp π, D, 137)) (G := (zr (k + 1)) ∧ True) rfl ⟨by omega, trivial⟩ ?_
  refine z_sub [(4, vi (k + 1)), (0, vr 2), (1, vi a), (2, vi b), (3, vi c)] [0, 1, 2, 3, 4] rfl ?_
  refine z_st (σ1 := (zAnew J (k + 1), zPp π, D, 137)) (by rw [← zAnew_s h0]) ?_
  exact ih (k + 1) (by omega) (by omega)
set_option maxRecDepth 20000 in
theorem m_anew {I : zI} {π : Int → Nat} {D : zD} {a b c : Int} (ha : 2 ≤ a ∧ a ≤ 24) (hb : 3 ≤ b ∧ b ≤ 8) (hc : 1 ≤ c ∧ c ≤ 6) (hP : ∀ c, 0 ≤ c → c < 24 → 0 ≤ I 6 c ∧ I 6 c < 24) : zMet 5 [vr 2, vi a, vi b, vi c] (I, zPp π, D, 137) none ((zBeg (zup (zup (zup (zup I 2 5 a) 2 6 b) 2 7 c) 2 8 0)), zPp π, D, 137) := by
  refine z_n 14 (23, [(4, vi 0), (0, vr 2), (1, vi a), (2, vi b), (3, vi c)], [], ((zup (zup (zup (zup I 2 5 a) 2 6 b) 2 7 c) 2 8 0), zPp π, D, 137)) rfl trivial ?_
  refine z_sub [(4, vi 0), (0, vr 2), (1, vi a), (2, vi b), (3, vi c)] [0, 1, 2, 3, 4] rfl ?_
  refine z_st (σ1 := (zAnew (zup (zup (zup (zup I 2 5 a) 2 6 b) 2 7 c) 2 8 0) 0, zPp π, D, 137)) (by rw [zAnew_0]) ?_
  exact m_anew_l (J := (zup (zup (zup (zup I 2 5 a) 2 6 b) 2 7 c) 2 8 0)) ha hb rfl hP a.toNat 0 (by omega) (show 0 + (a.toNat : Int) = a from by omega)
set_option maxRecDepth 20000 in
theorem m_endDayA {I : zI} {π : Int → Nat} {D : zD} (hN : 2 ≤ I 2 5 ∧ I 2 5 ≤ 24) (hD : 3 ≤ I 2 6 ∧ I 2 6 ≤ 8) (hO : 0 ≤ I 2 8 ∧ I 2 8 ≤ 5) (hP : ∀ c, 0 ≤ c → c < 24 → 0 ≤ I 6 c ∧ I 6 c < 24) (h : I 2 8 + 1 < I 2 7) : zMet 23 [vr 2] (I, zPp π, D, 137) none ((zup (zNote (zup I 2 8 (I 2 8 + 1)) (I 2 5)) 2 9 ((I 2 5 + I 2 6 - 1) / I 2 6 - 1)), zPp π, D, 137) := by
  have hdv := zdiv_b (a := I 2 5 + I 2 6 - 1) (b := I 2 6) (by omega) (by omega)
  refine z_n 7 (11, [(0, vr 2)], [vr 2], ((zup I 2 8 ((I 2 8) + 1)), zPp π, D, 137)) (G := (zr ((I 2 8) + 1)) ∧ True) rfl ⟨by omega, trivial⟩ ?_
  refine z_cv 24 [vr 2] [] rfl (m_note (show 0 ≤ I 2 5 ∧ I 2 5 ≤ 24 from by omega) (show 0 ≤ (I 2 8) + 1 ∧ (I 2 8) + 1 ≤ 6 from by omega) hP) ?_
  refine z_n 5 (23, [(0, vr 2)], [vi (I 2 7), vi ((I 2 8) + 1), vr 2], ((zNote (zup I 2 8 ((I 2 8) + 1)) (I 2 5)), zPp π, D, 137)) rfl trivial ?_
  refine z_br ((I 2 7) ≤ ((I 2 8) + 1)) 35 26 [vr 2] rfl (fun h => absurd h (show ¬ ((I 2 7) ≤ ((I 2 8) + 1)) from by omega)) (fun hx1 => ?_)
  refine z_n 1 (27, [(0, vr 2)], [vr 2, vr 2], ((zNote (zup I 2 8 ((I 2 8) + 1)) (I 2 5)), zPp π, D, 137)) rfl trivial ?_
  refine z_ci 9 [vr 2] [vr 2] rfl (m_div2 (show 0 ≤ I 2 5 ∧ I 2 5 ≤ 24 from by omega) (show 3 ≤ I 2 6 ∧ I 2 6 ≤ 8 from by omega)) ?_
  refine z_n 4 (39, [(0, vr 2)], [], ((zup (zNote (zup I 2 8 ((I 2 8) + 1)) (I 2 5)) 2 9 ((((I 2 5) + (I 2 6) - 1) / (I 2 6)) - 1)), zPp π, D, 137)) (G := (zr ((((I 2 5) + (I 2 6) - 1) / (I 2 6)) - 1)) ∧ True) rfl ⟨by omega, trivial⟩ ?_
  first | exact z_ret rfl rfl rfl | exact z_ret rfl (zv1 (by omega)) rfl | (exfalso; omega)
set_option maxRecDepth 20000 in
theorem m_endDayB {I : zI} {π : Int → Nat} {D : zD} (hN : 2 ≤ I 2 5 ∧ I 2 5 ≤ 24) (hD : 3 ≤ I 2 6 ∧ I 2 6 ≤ 8) (hO : 0 ≤ I 2 8 ∧ I 2 8 ≤ 5) (hP : ∀ c, 0 ≤ c → c < 24 → 0 ≤ I 6 c ∧ I 6 c < 24) (h : I 2 7 ≤ I 2 8 + 1) : zMet 23 [vr 2] (I, zPp π, D, 137) none ((zup (zNote (zup I 2 8 (I 2 8 + 1)) (I 2 5)) 2 9 (-1)), zPp π, D, 137) := by
  have hdv := zdiv_b (a := I 2 5 + I 2 6 - 1) (b := I 2 6) (by omega) (by omega)
  refine z_n 7 (11, [(0, vr 2)], [vr 2], ((zup I 2 8 ((I 2 8) + 1)), zPp π, D, 137)) (G := (zr ((I 2 8) + 1)) ∧ True) rfl ⟨by omega, trivial⟩ ?_
  refine z_cv 24 [vr 2] [] rfl (m_note (show 0 ≤ I 2 5 ∧ I 2 5 ≤ 24 from by omega) (show 0 ≤ (I 2 8) + 1 ∧ (I 2 8) + 1 ≤ 6 from by omega) hP) ?_
  refine z_n 5 (23, [(0, vr 2)], [vi (I 2 7), vi ((I 2 8) + 1), vr 2], ((zNote (zup I 2 8 ((I 2 8) + 1)) (I 2 5)), zPp π, D, 137)) rfl trivial ?_
  refine z_br ((I 2 7) ≤ ((I 2 8) + 1)) 35 26 [vr 2] rfl (fun hx1 => ?_) (fun h => absurd (show (I 2 7) ≤ ((I 2 8) + 1) from by omega) h)
  refine z_n 2 (39, [(0, vr 2)], [], ((zup (zNote (zup I 2 8 ((I 2 8) + 1)) (I 2 5)) 2 9 (-1)), zPp π, D, 137)) rfl trivial ?_
  first | exact z_ret rfl rfl rfl | exact z_ret rfl (zv1 (by omega)) rfl | (exfalso; omega)
/-- one bump of a race that ends: noted, and the two exchange their places -/
def zStep (J : zI) (u d : Int) : zI := zup (zup (zup (zup (zup (zup (zup (zup (zup J 16 (J 14 4) (J 2 8 + 1)) 18 (J 14 4) u) 20 (J 14 4) d) 22 (J 14 4) (J 6 u - J 6 d)) 14 4 (J 14 4 + 1)) 8 (J 6 d) u) 6 u (J 6 d)) 8 (J 6 u) d) 6 d (J 6 u)
def zER (I : zI) : Nat → zI
  | 0 => I
  | n + 1 => zStep (zER I n) (I 11 n) (I 13 n)
theorem zStep_out {J : zI} {u d : Int} {r : Nat} (h : r ≠ 6 ∧ r ≠ 8 ∧ r ≠ 14 ∧ r ≠ 16 ∧ r ≠ 18 ∧ r ≠ 20 ∧ r ≠ 22) : zStep J u d r = J r := by
  obtain ⟨h1, h2, h3, h4, h5, h6, h7⟩ := h
  unfold zStep
  rw [zup_ne h1, zup_ne h2, zup_ne h1, zup_ne h2, zup_ne h3, zup_ne h7, zup_ne h6, zup_ne h5, zup_ne h4]
theorem zER_out {I : zI} {r : Nat} (h : r ≠ 6 ∧ r ≠ 8 ∧ r ≠ 14 ∧ r ≠ 16 ∧ r ≠ 18 ∧ r ≠ 20 ∧ r ≠ 22) : ∀ n : Nat, zER I n r = I r
  | 0 => rfl
  | n + 1 => by
    show zStep (zER I n) _ _ r = _
    rw [zStep_out h, zER_out h n]
/-- the same, with what doesn't change in sight -/
def zERw (I : zI) (n : Nat) : zI := fun r j => if r = 6 ∨ r = 8 ∨ r = 14 ∨ r = 16 ∨ r = 18 ∨ r = 20 ∨ r = 22 then zER I n r j else I r j
theorem zERw_eq {I : zI} {n : Nat} : zERw I n = zER I n := by
  funext r j
  unfold zERw
  by_cases h : r = 6 ∨ r = 8 ∨ r = 14 ∨ r = 16 ∨ r = 18 ∨ r = 20 ∨ r = 22
  · rw [if_pos h]
  · rw [if_neg h, zER_out (by omega)]
theorem zERw_s {I : zI} {k : Int} (h : 0 ≤ k) : zStep (zERw I k.toNat) (I 11 k) (I 13 k) = zERw I (k + 1).toNat := by
  obtain ⟨n, rfl⟩ : ∃ n : Nat, k = n := ⟨k.toNat, by omega⟩
  rw [zERw_eq, zERw_eq]
  rfl
theorem zER_14 {I : zI} : ∀ n : Nat, zER I n 14 4 = I 14 4 + n
  | 0 => by simp [zER]
  | n + 1 => by
    have ih := zER_14 (I := I) n
    show zStep (zER I n) _ _ 14 4 = _
    unfold zStep
    simp [zup, ih]
    omega
theorem zStep_6 {J : zI} {u d c : Int} : zStep J u d 6 c = if c = d then J 6 u else if c = u then J 6 d else J 6 c := by
  unfold zStep
  simp [zup]
theorem zER_6 {I : zI} (hP : ∀ c, 0 ≤ c → c < 24 → 0 ≤ I 6 c ∧ I 6 c < 24) : ∀ n : Nat, (∀ k : Int, 0 ≤ k → k < n → (0 ≤ I 11 k ∧ I 11 k < 24) ∧ (0 ≤ I 13 k ∧ I 13 k < 24)) → ∀ c, 0 ≤ c → c < 24 → 0 ≤ zER I n 6 c ∧ zER I n 6 c < 24
  | 0, _ => hP
  | n + 1, hb => by
    intro c h0 h1
    have ih := zER_6 hP n (fun k a b => hb k a (by omega))
    obtain ⟨b1, b2⟩ := hb n (by omega) (by omega)
    show 0 ≤ zStep (zER I n) (I 11 n) (I 13 n) 6 c ∧ zStep (zER I n) (I 11 n) (I 13 n) 6 c < 24
    rw [zStep_6]
    split
    · exact ih _ b1.1 b1.2
    · split
      · exact ih _ b2.1 b2.2
      · exact ih c h0 h1
set_option maxRecDepth 20000 in
theorem m_erA_l {I : zI} {π : Int → Nat} {D : zD}  (hM : 0 ≤ I 9 2 ∧ I 9 2 ≤ 4) (hN : 2 ≤ I 2 5 ∧ I 2 5 ≤ 24) (hD : 3 ≤ I 2 6 ∧ I 2 6 ≤ 8) (hO : 0 ≤ I 2 8 ∧ I 2 8 ≤ 5) (hR : 0 ≤ I 2 9 ∧ I 2 9 ≤ 7) (hP : ∀ c, 0 ≤ c → c < 24 → 0 ≤ I 6 c ∧ I 6 c < 24) (hB : ∀ k, 0 ≤ k → k < I 9 2 → (0 ≤ I 11 k ∧ I 11 k < 24) ∧ (0 ≤ I 13 k ∧ I 13 k < 24)) (hl : 0 ≤ I 14 4 ∧ I 14 4 + I 9 2 ≤ 96) (h : 0 < I 2 9) : ∀ (n : Nat) (k : Int), 0 ≤ k → k + n = I 9 2 → zRuns 21 10 [(2, vi k), (1, vi (I 9 2)), (0, vr 2)] [] ((zERw I k.toNat), zPp π, D, 137) (some (vi (I 9 2))) ((zup (zup (zERw I (I 9 2).toNat) 9 2 0) 2 9 (I 2 9 - 1)), zPp π, D, 137) := by
  intro n
  induction n with
  | zero =>
    intro k h0 hn
    have e9 : k = I 9 2 := by omega
    have hPk : ∀ c, 0 ≤ c → c < 24 → 0 ≤ (zERw I k.toNat) 6 c ∧ (zERw I k.toNat) 6 c < 24 := by rw [zERw_eq]; exact zER_6 hP k.toNat (fun j a b => hB j a (by omega))
    refine z_n 2 (12, [(2, vi k), (1, vi (I 9 2)), (0, vr 2)], [vi (I 9 2), vi k], ((zERw I k.toNat), zPp π, D, 137)) rfl trivial ?_
    refine z_br ((I 9 2) ≤ k) 74 15 [] rfl (fun hx1 => ?_) (fun h => absurd (show (I 9 2) ≤ k from by omega) h)
    refine z_n 6 (86, [(2, vi k), (1, vi (I 9 2)), (0, vr 2)], [vi (I 2 9)], ((zup (zERw I k.toNat) 9 2 0), zPp π, D, 137)) rfl trivial ?_
    refine z_br ((I 2 9) ≤ 0) 102 89 [] rfl (fun h => absurd h (show ¬ ((I 2 9) ≤ 0) from by omega)) (fun hx2 => ?_)
    refine z_n 8 (107, [(2, vi k), (1, vi (I 9 2)), (0, vr 2)], [vi (I 9 2)], ((zup (zup (zERw I k.toNat) 9 2 0) 2 9 ((I 2 9) - 1)), zPp π, D, 137)) (G := (zr ((I 2 9) - 1)) ∧ True) rfl ⟨by omega, trivial⟩ ?_
    exact z_ret rfl rfl (by subst e9; rfl)
  | succ n ih =>
  intro k h0 hn
  have hPk : ∀ c, 0 ≤ c → c < 24 → 0 ≤ (zERw I k.toNat) 6 c ∧ (zERw I k.toNat) 6 c < 24 := by rw [zERw_eq]; exact zER_6 hP k.toNat (fun j a b => hB j a (by omega))
  have e14 : zERw I k.toNat 14 4 = I 14 4 + k := by rw [zERw_eq, zER_14]; omega
  obtain ⟨bu, bd⟩ := hB k h0 (by omega)
  have pu := hPk _ bu.1 bu.2
  have pd := hPk _ bd.1 bd.2
  refine z_n 2 (12, [(2, vi k), (1, vi (I 9 2)), (0, vr 2)], [vi (I 9 2), vi k], ((zERw I k.toNat), zPp π, D, 137)) rfl trivial ?_
  refine z_br ((I 9 2) ≤ k) 74 15 [] rfl (fun h => absurd h (show ¬ ((I 9 2) ≤ k) from by omega)) (fun hx1 => ?_)
  refine z_n 4 (23, [(2, vi k), (1, vi (I 9 2)), (0, vr 2)], [vi k, vr 10], ((zERw I k.toNat), zPp π, D, 137)) rfl trivial ?_
  refine z_ci 1 [vr 10, vi k] [] rfl (m_get (n := 4) ⟨rfl, rfl, rfl, rfl⟩ (by omega) (by omega)) ?_
  refine z_n 5 (35, [(3, vi (I 11 k)), (2, vi k), (1, vi (I 9 2)), (0, vr 2)], [vi k, vr 12], ((zERw I k.toNat), zPp π, D, 137)) rfl trivial ?_
  refine z_ci 1 [vr 12, vi k] [] rfl (m_get (n := 4) ⟨rfl, rfl, rfl, rfl⟩ (by omega) (by omega)) ?_
  refine z_n 11 (55, [(4, vi (I 13 k)), (3, vi (I 11 k)), (2, vi k), (1, vi (I 9 2)), (0, vr 2)], [vi k, vr 2, vi (I 13 k), vi (I 11 k), vi ((I 2 8) + 1), vr 14], ((zERw I k.toNat), zPp π, D, 137)) (G := (zr ((I 2 8) + 1)) ∧ True) rfl ⟨by omega, trivial⟩ ?_
  refine z_ci 17 [vr 2, vi k] [vi (I 13 k), vi (I 11 k), vi ((I 2 8) + 1), vr 14] rfl (m_span (by omega) (by omega) bu bd pu pd) ?_
  refine z_cv 44 [vr 14, vi ((I 2 8) + 1), vi (I 11 k), vi (I 13 k), vi ((zERw I k.toNat) 6 (I 11 k) - (zERw I k.toNat) 6 (I 13 k))] [] rfl (m_ladd (show 0 ≤ (zERw I k.toNat) 14 4 ∧ (zERw I k.toNat) 14 4 < 96 from by omega)) ?_
  refine z_n 3 (65, [(4, vi (I 13 k)), (3, vi (I 11 k)), (2, vi k), (1, vi (I 9 2)), (0, vr 2)], [vi (I 13 k), vi (I 11 k), vr 2], ((zup (zup (zup (zup (zup (zERw I k.toNat) 16 ((zERw I k.toNat) 14 4) ((I 2 8) + 1)) 18 ((zERw I k.toNat) 14 4) (I 11 k)) 20 ((zERw I k.toNat) 14 4) (I 13 k)) 22 ((zERw I k.toNat) 14 4) ((zERw I k.toNat) 6 (I 11 k) - (zERw I k.toNat) 6 (I 13 k))) 14 4 ((zERw I k.toNat) 14 4 + 1)), zPp π, D, 137)) rfl trivial ?_
  refine z_cv 22 [vr 2, vi (I 11 k), vi (I 13 k)] [] rfl (m_exch bu bd pu pd) ?_
  refine z_n 2 (10, [(2, vi (k + 1)), (4, vi (I 13 k)), (3, vi (I 11 k)), (1, vi (I 9 2)), (0, vr 2)], [], ((zup (zup (zup (zup (zup (zup (zup (zup (zup (zERw I k.toNat) 16 ((zERw I k.toNat) 14 4) ((I 2 8) + 1)) 18 ((zERw I k.toNat) 14 4) (I 11 k)) 20 ((zERw I k.toNat) 14 4) (I 13 k)) 22 ((zERw I k.toNat) 14 4) ((zERw I k.toNat) 6 (I 11 k) - (zERw I k.toNat) 6 (I 13 k))) 14 4 ((zERw I k.toNat) 14 4 + 1)) 8 ((zERw I k.toNat) 6 (I 13 k)) (I 11 k)) 6 (I 11 k) ((zERw I k.toNat) 6 (I 13 k))) 8 ((zERw I k.toNat) 6 (I 11 k)) (I 13 k)) 6 (I 13 k) ((zERw I k.toNat) 6 (I 11 k))), zPp π, D, 137)) (G := (zr (k + 1)) ∧ True) rfl ⟨by omega, trivial⟩ ?_
  refine z_sub [(2, vi (k + 1)), (1, vi (I 9 2)), (0, vr 2)] [0, 3, 4] rfl ?_
  refine z_st (σ1 := (zERw I (k + 1).toNat, zPp π, D, 137)) (by rw [← zERw_s h0]; rfl) ?_
  exact ih (k + 1) (by omega) (by omega)
set_option maxRecDepth 20000 in
theorem m_endRaceA {I : zI} {π : Int → Nat} {D : zD}  (hM : 0 ≤ I 9 2 ∧ I 9 2 ≤ 4) (hN : 2 ≤ I 2 5 ∧ I 2 5 ≤ 24) (hD : 3 ≤ I 2 6 ∧ I 2 6 ≤ 8) (hO : 0 ≤ I 2 8 ∧ I 2 8 ≤ 5) (hR : 0 ≤ I 2 9 ∧ I 2 9 ≤ 7) (hP : ∀ c, 0 ≤ c → c < 24 → 0 ≤ I 6 c ∧ I 6 c < 24) (hB : ∀ k, 0 ≤ k → k < I 9 2 → (0 ≤ I 11 k ∧ I 11 k < 24) ∧ (0 ≤ I 13 k ∧ I 13 k < 24)) (hl : 0 ≤ I 14 4 ∧ I 14 4 + I 9 2 ≤ 96) (h : 0 < I 2 9) : zMet 21 [vr 2] (I, zPp π, D, 137) (some (vi (I 9 2))) ((zup (zup (zERw I (I 9 2).toNat) 9 2 0) 2 9 (I 2 9 - 1)), zPp π, D, 137) := by
  refine z_n 6 (10, [(2, vi 0), (1, vi (I 9 2)), (0, vr 2)], [], (I, zPp π, D, 137)) rfl trivial ?_
  refine z_sub [(2, vi 0), (1, vi (I 9 2)), (0, vr 2)] [0, 1, 2] rfl ?_
  refine z_st (σ1 := (zERw I (0 : Int).toNat, zPp π, D, 137)) (by rw [zERw_eq]; rfl) ?_
  exact m_erA_l hM hN hD hO hR hP hB hl h (I 9 2).toNat 0 (by omega) (by omega)
set_option maxRecDepth 20000 in
theorem m_erB_l {I : zI} {π : Int → Nat} {D : zD}  (hM : 0 ≤ I 9 2 ∧ I 9 2 ≤ 4) (hN : 2 ≤ I 2 5 ∧ I 2 5 ≤ 24) (hD : 3 ≤ I 2 6 ∧ I 2 6 ≤ 8) (hO : 0 ≤ I 2 8 ∧ I 2 8 ≤ 5) (hR : 0 ≤ I 2 9 ∧ I 2 9 ≤ 7) (hP : ∀ c, 0 ≤ c → c < 24 → 0 ≤ I 6 c ∧ I 6 c < 24) (hB : ∀ k, 0 ≤ k → k < I 9 2 → (0 ≤ I 11 k ∧ I 11 k < 24) ∧ (0 ≤ I 13 k ∧ I 13 k < 24)) (hl : 0 ≤ I 14 4 ∧ I 14 4 + I 9 2 ≤ 96) (h : I 2 9 = 0) (h2 : I 2 8 + 1 < I 2 7) : ∀ (n : Nat) (k : Int), 0 ≤ k → k + n = I 9 2 → zRuns 21 10 [(2, vi k), (1, vi (I 9 2)), (0, vr 2)] [] ((zERw I k.toNat), zPp π, D, 137) (some (vi (I 9 2))) ((zup (zNote (zup (zup (zERw I (I 9 2).toNat) 9 2 0) 2 8 (I 2 8 + 1)) (I 2 5)) 2 9 ((I 2 5 + I 2 6 - 1) / I 2 6 - 1)), zPp π, D, 137) := by
  intro n
  induction n with
  | zero =>
    intro k h0 hn
    have e9 : k = I 9 2 := by omega
    have hPk : ∀ c, 0 ≤ c → c < 24 → 0 ≤ (zERw I k.toNat) 6 c ∧ (zERw I k.toNat) 6 c < 24 := by rw [zERw_eq]; exact zER_6 hP k.toNat (fun j a b => hB j a (by omega))
    refine z_n 2 (12, [(2, vi k), (1, vi (I 9 2)), (0, vr 2)], [vi (I 9 2), vi k], ((zERw I k.toNat), zPp π, D, 137)) rfl trivial ?_
    refine z_br ((I 9 2) ≤ k) 74 15 [] rfl (fun hx1 => ?_) (fun h => absurd (show (I 9 2) ≤ k from by omega) h)
    refine z_n 6 (86, [(2, vi k), (1, vi (I 9 2)), (0, vr 2)], [vi (I 2 9)], ((zup (zERw I k.toNat) 9 2 0), zPp π, D, 137)) rfl trivial ?_
    refine z_br ((I 2 9) ≤ 0) 102 89 [] rfl (fun hx2 => ?_) (fun h => absurd (show (I 2 9) ≤ 0 from by omega) h)
    refine z_n 1 (103, [(2, vi k), (1, vi (I 9 2)), (0, vr 2)], [vr 2], ((zup (zERw I k.toNat) 9 2 0), zPp π, D, 137)) rfl trivial ?_
    refine z_cv 23 [vr 2] [] rfl (m_endDayA (show 2 ≤ I 2 5 ∧ I 2 5 ≤ 24 from hN) (show 3 ≤ I 2 6 ∧ I 2 6 ≤ 8 from hD) (show 0 ≤ I 2 8 ∧ I 2 8 ≤ 5 from hO) hPk h2) ?_
    refine z_n 1 (107, [(2, vi k), (1, vi (I 9 2)), (0, vr 2)], [vi (I 9 2)], ((zup (zNote (zup (zup (zERw I k.toNat) 9 2 0) 2 8 (I 2 8 + 1)) (I 2 5)) 2 9 ((I 2 5 + I 2 6 - 1) / I 2 6 - 1)), zPp π, D, 137)) rfl trivial ?_
    exact z_ret rfl rfl (by subst e9; rfl)
  | succ n ih =>
  intro k h0 hn
  have hPk : ∀ c, 0 ≤ c → c < 24 → 0 ≤ (zERw I k.toNat) 6 c ∧ (zERw I k.toNat) 6 c < 24 := by rw [zERw_eq]; exact zER_6 hP k.toNat (fun j a b => hB j a (by omega))
  have e14 : zERw I k.toNat 14 4 = I 14 4 + k := by rw [zERw_eq, zER_14]; omega
  obtain ⟨bu, bd⟩ := hB k h0 (by omega)
  have pu := hPk _ bu.1 bu.2
  have pd := hPk _ bd.1 bd.2
  refine z_n 2 (12, [(2, vi k), (1, vi (I 9 2)), (0, vr 2)], [vi (I 9 2), vi k], ((zERw I k.toNat), zPp π, D, 137)) rfl trivial ?_
  refine z_br ((I 9 2) ≤ k) 74 15 [] rfl (fun h => absurd h (show ¬ ((I 9 2) ≤ k) from by omega)) (fun hx1 => ?_)
  refine z_n 4 (23, [(2, vi k), (1, vi (I 9 2)), (0, vr 2)], [vi k, vr 10], ((zERw I k.toNat), zPp π, D, 137)) rfl trivial ?_
  refine z_ci 1 [vr 10, vi k] [] rfl (m_get (n := 4) ⟨rfl, rfl, rfl, rfl⟩ (by omega) (by omega)) ?_
  refine z_n 5 (35, [(3, vi (I 11 k)), (2, vi k), (1, vi (I 9 2)), (0, vr 2)], [vi k, vr 12], ((zERw I k.toNat), zPp π, D, 137)) rfl trivial ?_
  refine z_ci 1 [vr 12, vi k] [] rfl (m_get (n := 4) ⟨rfl, rfl, rfl, rfl⟩ (by omega) (by omega)) ?_
  refine z_n 11 (55, [(4, vi (I 13 k)), (3, vi (I 11 k)), (2, vi k), (1, vi (I 9 2)), (0, vr 2)], [vi k, vr 2, vi (I 13 k), vi (I 11 k), vi ((I 2 8) + 1), vr 14], ((zERw I k.toNat), zPp π, D, 137)) (G := (zr ((I 2 8) + 1)) ∧ True) rfl ⟨by omega, trivial⟩ ?_
  refine z_ci 17 [vr 2, vi k] [vi (I 13 k), vi (I 11 k), vi ((I 2 8) + 1), vr 14] rfl (m_span (by omega) (by omega) bu bd pu pd) ?_
  refine z_cv 44 [vr 14, vi ((I 2 8) + 1), vi (I 11 k), vi (I 13 k), vi ((zERw I k.toNat) 6 (I 11 k) - (zERw I k.toNat) 6 (I 13 k))] [] rfl (m_ladd (show 0 ≤ (zERw I k.toNat) 14 4 ∧ (zERw I k.toNat) 14 4 < 96 from by omega)) ?_
  refine z_n 3 (65, [(4, vi (I 13 k)), (3, vi (I 11 k)), (2, vi k), (1, vi (I 9 2)), (0, vr 2)], [vi (I 13 k), vi (I 11 k), vr 2], ((zup (zup (zup (zup (zup (zERw I k.toNat) 16 ((zERw I k.toNat) 14 4) ((I 2 8) + 1)) 18 ((zERw I k.toNat) 14 4) (I 11 k)) 20 ((zERw I k.toNat) 14 4) (I 13 k)) 22 ((zERw I k.toNat) 14 4) ((zERw I k.toNat) 6 (I 11 k) - (zERw I k.toNat) 6 (I 13 k))) 14 4 ((zERw I k.toNat) 14 4 + 1)), zPp π, D, 137)) rfl trivial ?_
  refine z_cv 22 [vr 2, vi (I 11 k), vi (I 13 k)] [] rfl (m_exch bu bd pu pd) ?_
  refine z_n 2 (10, [(2, vi (k + 1)), (4, vi (I 13 k)), (3, vi (I 11 k)), (1, vi (I 9 2)), (0, vr 2)], [], ((zup (zup (zup (zup (zup (zup (zup (zup (zup (zERw I k.toNat) 16 ((zERw I k.toNat) 14 4) ((I 2 8) + 1)) 18 ((zERw I k.toNat) 14 4) (I 11 k)) 20 ((zERw I k.toNat) 14 4) (I 13 k)) 22 ((zERw I k.toNat) 14 4) ((zERw I k.toNat) 6 (I 11 k) - (zERw I k.toNat) 6 (I 13 k))) 14 4 ((zERw I k.toNat) 14 4 + 1)) 8 ((zERw I k.toNat) 6 (I 13 k)) (I 11 k)) 6 (I 11 k) ((zERw I k.toNat) 6 (I 13 k))) 8 ((zERw I k.toNat) 6 (I 11 k)) (I 13 k)) 6 (I 13 k) ((zERw I k.toNat) 6 (I 11 k))), zPp π, D, 137)) (G := (zr (k + 1)) ∧ True) rfl ⟨by omega, trivial⟩ ?_
  refine z_sub [(2, vi (k + 1)), (1, vi (I 9 2)), (0, vr 2)] [0, 3, 4] rfl ?_
  refine z_st (σ1 := (zERw I (k + 1).toNat, zPp π, D, 137)) (by rw [← zERw_s h0]; rfl) ?_
  exact ih (k + 1) (by omega) (by omega)
set_option maxRecDepth 20000 in
theorem m_endRaceB {I : zI} {π : Int → Nat} {D : zD}  (hM : 0 ≤ I 9 2 ∧ I 9 2 ≤ 4) (hN : 2 ≤ I 2 5 ∧ I 2 5 ≤ 24) (hD : 3 ≤ I 2 6 ∧ I 2 6 ≤ 8) (hO : 0 ≤ I 2 8 ∧ I 2 8 ≤ 5) (hR : 0 ≤ I 2 9 ∧ I 2 9 ≤ 7) (hP : ∀ c, 0 ≤ c → c < 24 → 0 ≤ I 6 c ∧ I 6 c < 24) (hB : ∀ k, 0 ≤ k → k < I 9 2 → (0 ≤ I 11 k ∧ I 11 k < 24) ∧ (0 ≤ I 13 k ∧ I 13 k < 24)) (hl : 0 ≤ I 14 4 ∧ I 14 4 + I 9 2 ≤ 96) (h : I 2 9 = 0) (h2 : I 2 8 + 1 < I 2 7) : zMet 21 [vr 2] (I, zPp π, D, 137) (some (vi (I 9 2))) ((zup (zNote (zup (zup (zERw I (I 9 2).toNat) 9 2 0) 2 8 (I 2 8 + 1)) (I 2 5)) 2 9 ((I 2 5 + I 2 6 - 1) / I 2 6 - 1)), zPp π, D, 137) := by
  refine z_n 6 (10, [(2, vi 0), (1, vi (I 9 2)), (0, vr 2)], [], (I, zPp π, D, 137)) rfl trivial ?_
  refine z_sub [(2, vi 0), (1, vi (I 9 2)), (0, vr 2)] [0, 1, 2] rfl ?_
  refine z_st (σ1 := (zERw I (0 : Int).toNat, zPp π, D, 137)) (by rw [zERw_eq]; rfl) ?_
  exact m_erB_l hM hN hD hO hR hP hB hl h h2 (I 9 2).toNat 0 (by omega) (by omega)
set_option maxRecDepth 20000 in
theorem m_erC_l {I : zI} {π : Int → Nat} {D : zD}  (hM : 0 ≤ I 9 2 ∧ I 9 2 ≤ 4) (hN : 2 ≤ I 2 5 ∧ I 2 5 ≤ 24) (hD : 3 ≤ I 2 6 ∧ I 2 6 ≤ 8) (hO : 0 ≤ I 2 8 ∧ I 2 8 ≤ 5) (hR : 0 ≤ I 2 9 ∧ I 2 9 ≤ 7) (hP : ∀ c, 0 ≤ c → c < 24 → 0 ≤ I 6 c ∧ I 6 c < 24) (hB : ∀ k, 0 ≤ k → k < I 9 2 → (0 ≤ I 11 k ∧ I 11 k < 24) ∧ (0 ≤ I 13 k ∧ I 13 k < 24)) (hl : 0 ≤ I 14 4 ∧ I 14 4 + I 9 2 ≤ 96) (h : I 2 9 = 0) (h2 : I 2 7 ≤ I 2 8 + 1) : ∀ (n : Nat) (k : Int), 0 ≤ k → k + n = I 9 2 → zRuns 21 10 [(2, vi k), (1, vi (I 9 2)), (0, vr 2)] [] ((zERw I k.toNat), zPp π, D, 137) (some (vi (I 9 2))) ((zup (zNote (zup (zup (zERw I (I 9 2).toNat) 9 2 0) 2 8 (I 2 8 + 1)) (I 2 5)) 2 9 (-1)), zPp π, D, 137) := by
  intro n
  induction n with
  | zero =>
    intro k h0 hn
    have e9 : k = I 9 2 := by omega
    have hPk : ∀ c, 0 ≤ c → c < 24 → 0 ≤ (zERw I k.toNat) 6 c ∧ (zERw I k.toNat) 6 c < 24 := by rw [zERw_eq]; exact zER_6 hP k.toNat (fun j a b => hB j a (by omega))
    refine z_n 2 (12, [(2, vi k), (1, vi (I 9 2)), (0, vr 2)], [vi (I 9 2), vi k], ((zERw I k.toNat), zPp π, D, 137)) rfl trivial ?_
    refine z_br ((I 9 2) ≤ k) 74 15 [] rfl (fun hx1 => ?_) (fun h => absurd (show (I 9 2) ≤ k from by omega) h)
    refine z_n 6 (86, [(2, vi k), (1, vi (I 9 2)), (0, vr 2)], [vi (I 2 9)], ((zup (zERw I k.toNat) 9 2 0), zPp π, D, 137)) rfl trivial ?_
    refine z_br ((I 2 9) ≤ 0) 102 89 [] rfl (fun hx2 => ?_) (fun h => absurd (show (I 2 9) ≤ 0 from by omega) h)
    refine z_n 1 (103, [(2, vi k), (1, vi (I 9 2)), (0, vr 2)], [vr 2], ((zup (zERw I k.toNat) 9 2 0), zPp π, D, 137)) rfl trivial ?_
    refine z_cv 23 [vr 2] [] rfl (m_endDayB (show 2 ≤ I 2 5 ∧ I 2 5 ≤ 24 from hN) (show 3 ≤ I 2 6 ∧ I 2 6 ≤ 8 from hD) (show 0 ≤ I 2 8 ∧ I 2 8 ≤ 5 from hO) hPk h2) ?_
    refine z_n 1 (107, [(2, vi k), (1, vi (I 9 2)), (0, vr 2)], [vi (I 9 2)], ((zup (zNote (zup (zup (zERw I k.toNat) 9 2 0) 2 8 (I 2 8 + 1)) (I 2 5)) 2 9 (-1)), zPp π, D, 137)) rfl trivial ?_
    exact z_ret rfl rfl (by subst e9; rfl)
  | succ n ih =>
  intro k h0 hn
  have hPk : ∀ c, 0 ≤ c → c < 24 → 0 ≤ (zERw I k.toNat) 6 c ∧ (zERw I k.toNat) 6 c < 24 := by rw [zERw_eq]; exact zER_6 hP k.toNat (fun j a b => hB j a (by omega))
  have e14 : zERw I k.toNat 14 4 = I 14 4 + k := by rw [zERw_eq, zER_14]; omega
  obtain ⟨bu, bd⟩ := hB k h0 (by omega)
  have pu := hPk _ bu.1 bu.2
  have pd := hPk _ bd.1 bd.2
  refine z_n 2 (12, [(2, vi k), (1, vi (I 9 2)), (0, vr 2)], [vi (I 9 2), vi k], ((zERw I k.toNat), zPp π, D, 137)) rfl trivial ?_
  refine z_br ((I 9 2) ≤ k) 74 15 [] rfl (fun h => absurd h (show ¬ ((I 9 2) ≤ k) from by omega)) (fun hx1 => ?_)
  refine z_n 4 (23, [(2, vi k), (1, vi (I 9 2)), (0, vr 2)], [vi k, vr 10], ((zERw I k.toNat), zPp π, D, 137)) rfl trivial ?_
  refine z_ci 1 [vr 10, vi k] [] rfl (m_get (n := 4) ⟨rfl, rfl, rfl, rfl⟩ (by omega) (by omega)) ?_
  refine z_n 5 (35, [(3, vi (I 11 k)), (2, vi k), (1, vi (I 9 2)), (0, vr 2)], [vi k, vr 12], ((zERw I k.toNat), zPp π, D, 137)) rfl trivial ?_
  refine z_ci 1 [vr 12, vi k] [] rfl (m_get (n := 4) ⟨rfl, rfl, rfl, rfl⟩ (by omega) (by omega)) ?_
  refine z_n 11 (55, [(4, vi (I 13 k)), (3, vi (I 11 k)), (2, vi k), (1, vi (I 9 2)), (0, vr 2)], [vi k, vr 2, vi (I 13 k), vi (I 11 k), vi ((I 2 8) + 1), vr 14], ((zERw I k.toNat), zPp π, D, 137)) (G := (zr ((I 2 8) + 1)) ∧ True) rfl ⟨by omega, trivial⟩ ?_
  refine z_ci 17 [vr 2, vi k] [vi (I 13 k), vi (I 11 k), vi ((I 2 8) + 1), vr 14] rfl (m_span (by omega) (by omega) bu bd pu pd) ?_
  refine z_cv 44 [vr 14, vi ((I 2 8) + 1), vi (I 11 k), vi (I 13 k), vi ((zERw I k.toNat) 6 (I 11 k) - (zERw I k.toNat) 6 (I 13 k))] [] rfl (m_ladd (show 0 ≤ (zERw I k.toNat) 14 4 ∧ (zERw I k.toNat) 14 4 < 96 from by omega)) ?_
  refine z_n 3 (65, [(4, vi (I 13 k)), (3, vi (I 11 k)), (2, vi k), (1, vi (I 9 2)), (0, vr 2)], [vi (I 13 k), vi (I 11 k), vr 2], ((zup (zup (zup (zup (zup (zERw I k.toNat) 16 ((zERw I k.toNat) 14 4) ((I 2 8) + 1)) 18 ((zERw I k.toNat) 14 4) (I 11 k)) 20 ((zERw I k.toNat) 14 4) (I 13 k)) 22 ((zERw I k.toNat) 14 4) ((zERw I k.toNat) 6 (I 11 k) - (zERw I k.toNat) 6 (I 13 k))) 14 4 ((zERw I k.toNat) 14 4 + 1)), zPp π, D, 137)) rfl trivial ?_
  refine z_cv 22 [vr 2, vi (I 11 k), vi (I 13 k)] [] rfl (m_exch bu bd pu pd) ?_
  refine z_n 2 (10, [(2, vi (k + 1)), (4, vi (I 13 k)), (3, vi (I 11 k)), (1, vi (I 9 2)), (0, vr 2)], [], ((zup (zup (zup (zup (zup (zup (zup (zup (zup (zERw I k.toNat) 16 ((zERw I k.toNat) 14 4) ((I 2 8) + 1)) 18 ((zERw I k.toNat) 14 4) (I 11 k)) 20 ((zERw I k.toNat) 14 4) (I 13 k)) 22 ((zERw I k.toNat) 14 4) ((zERw I k.toNat) 6 (I 11 k) - (zERw I k.toNat) 6 (I 13 k))) 14 4 ((zERw I k.toNat) 14 4 + 1)) 8 ((zERw I k.toNat) 6 (I 13 k)) (I 11 k)) 6 (I 11 k) ((zERw I k.toNat) 6 (I 13 k))) 8 ((zERw I k.toNat) 6 (I 11 k)) (I 13 k)) 6 (I 13 k) ((zERw I k.toNat) 6 (I 11 k))), zPp π, D, 137)) (G := (zr (k + 1)) ∧ True) rfl ⟨by omega, trivial⟩ ?_
  refine z_sub [(2, vi (k + 1)), (1, vi (I 9 2)), (0, vr 2)] [0, 3, 4] rfl ?_
  refine z_st (σ1 := (zERw I (k + 1).toNat, zPp π, D, 137)) (by rw [← zERw_s h0]; rfl) ?_
  exact ih (k + 1) (by omega) (by omega)
set_option maxRecDepth 20000 in
theorem m_endRaceC {I : zI} {π : Int → Nat} {D : zD}  (hM : 0 ≤ I 9 2 ∧ I 9 2 ≤ 4) (hN : 2 ≤ I 2 5 ∧ I 2 5 ≤ 24) (hD : 3 ≤ I 2 6 ∧ I 2 6 ≤ 8) (hO : 0 ≤ I 2 8 ∧ I 2 8 ≤ 5) (hR : 0 ≤ I 2 9 ∧ I 2 9 ≤ 7) (hP : ∀ c, 0 ≤ c → c < 24 → 0 ≤ I 6 c ∧ I 6 c < 24) (hB : ∀ k, 0 ≤ k → k < I 9 2 → (0 ≤ I 11 k ∧ I 11 k < 24) ∧ (0 ≤ I 13 k ∧ I 13 k < 24)) (hl : 0 ≤ I 14 4 ∧ I 14 4 + I 9 2 ≤ 96) (h : I 2 9 = 0) (h2 : I 2 7 ≤ I 2 8 + 1) : zMet 21 [vr 2] (I, zPp π, D, 137) (some (vi (I 9 2))) ((zup (zNote (zup (zup (zERw I (I 9 2).toNat) 9 2 0) 2 8 (I 2 8 + 1)) (I 2 5)) 2 9 (-1)), zPp π, D, 137) := by
  refine z_n 6 (10, [(2, vi 0), (1, vi (I 9 2)), (0, vr 2)], [], (I, zPp π, D, 137)) rfl trivial ?_
  refine z_sub [(2, vi 0), (1, vi (I 9 2)), (0, vr 2)] [0, 1, 2] rfl ?_
  refine z_st (σ1 := (zERw I (0 : Int).toNat, zPp π, D, 137)) (by rw [zERw_eq]; rfl) ?_
  exact m_erC_l hM hN hD hO hR hP hB hl h h2 (I 9 2).toNat 0 (by omega) (by omega)
