/-- the first k crews anew -/
def zBg (J : zI) (k : Int) : zI := fun r j => if r = 138 ∧ 7 ≤ j ∧ j < 7 + k then 400 else if r = 138 ∧ 31 ≤ j ∧ j < 31 + k then j - 31 else J r j
theorem zBg_0 {J : zI} : zBg J 0 = J := by
  funext r j
  unfold zBg
  rw [if_neg (by omega), if_neg (by omega)]
theorem zBg_s {J : zI} {k : Int} (h : 0 ≤ k) (h2 : k < 24) : zup (zup (zBg J k) 138 (7 + k) 400) 138 (31 + k) k = zBg J (k + 1) := by
  funext r j
  unfold zup zBg
  (repeat' split) <;> first | rfl | (exfalso; omega) | omega
set_option maxRecDepth 20000 in
theorem m_begins_l {J : zI} {π : Int → Nat} {D : zD} {a b : Int} (j0 : J 138 0 = a) (j1 : J 138 1 = b) (j3 : J 138 3 = 0) (ha : 2 ≤ a ∧ a ≤ 24) (hb : 3 ≤ b ∧ b ≤ 8) : ∀ (N : Nat) (k : Int), 0 ≤ k → k + N = 24 → zRuns 98 47 [(4, vi k), (0, vr 137)] [] ((zBg J k), zPp π, D, 147) none ((zCr (zup (zBg J 24) 138 4 ((a + b - 1) / b - 1)) 0 24), zPp π, D, 147) := by
  intro N
  induction N with
  | zero =>
    intro k h0 hN
    have hzd := zdiv_b (a := a + b - 1) (b := b) (by omega) (by omega)
    have hdv : zMet 95 [vr 137] ((zBg J k), zPp π, D, 147) (some (vi ((a + b - 1) / b))) ((zBg J k), zPp π, D, 147) := by
      have h := m_mdiv (I := zBg J k) (π := π) (D := D) (show 0 ≤ J 138 0 ∧ J 138 0 ≤ 24 from by omega) (show 3 ≤ J 138 1 ∧ J 138 1 ≤ 8 from by omega)
      rw [show zBg J k 138 0 = a from j0, show zBg J k 138 1 = b from j1] at h
      exact h
    refine z_n 2 (51, [(4, vi k), (0, vr 137)], [vi 24, vi k], ((zBg J k), zPp π, D, 147)) rfl trivial ?_
    refine z_br (24 ≤ k) 85 54 [] rfl (fun hx1 => ?_) (fun h => absurd (show 24 ≤ k from by omega) h)
    refine z_n 4 (91, [(4, vi k), (0, vr 137)], [vr 137, vi 4, vr 138], ((zBg J k), zPp π, D, 147)) rfl trivial ?_
    refine z_ci 95 [vr 137] [vi 4, vr 138] rfl (hdv) ?_
    refine z_n 4 (98, [(4, vi k), (0, vr 137)], [vr 137], ((zup (zBg J k) 138 4 (((a + b - 1) / b) - 1)), zPp π, D, 147)) (G := (zr (((a + b - 1) / b) - 1)) ∧ (0 ≤ 4 ∧ 4 < 585) ∧ True) rfl ⟨by omega, by omega, trivial⟩ ?_
    refine z_cv 97 [vr 137] [] rfl (m_charts (I := zup (zBg J k) 138 4 ((a + b - 1) / b - 1)) (O := 0) j3 ⟨by omega, by omega⟩) ?_
    exact z_ret rfl rfl (by rw [show k = 24 by omega])
  | succ N ih =>
  intro k h0 hN
  refine z_n 2 (51, [(4, vi k), (0, vr 137)], [vi 24, vi k], ((zBg J k), zPp π, D, 147)) rfl trivial ?_
  refine z_br (24 ≤ k) 85 54 [] rfl (fun h => absurd h (show ¬ (24 ≤ k) from by omega)) (fun hx1 => ?_)
  refine z_n 16 (47, [(4, vi (k + 1)), (0, vr 137)], [], ((zup (zup (zBg J k) 138 (7 + k) 400) 138 (31 + k) k), zPp π, D, 147)) (G := (zr (7 + k)) ∧ (0 ≤ (7 + k) ∧ (7 + k) < 585) ∧ (zr (31 + k)) ∧ (0 ≤ (31 + k) ∧ (31 + k) < 585) ∧ (zr (k + 1)) ∧ True) rfl ⟨by omega, by omega, by omega, by omega, by omega, trivial⟩ ?_
  refine z_sub [(4, vi (k + 1)), (0, vr 137)] [0, 1] rfl ?_
  refine z_st (σ1 := ((zBg J (k + 1)), zPp π, D, 147)) (by rw [← zBg_s h0 (by omega)]) ?_
  exact ih (k + 1) (by omega) (by omega)
set_option maxRecDepth 20000 in
theorem m_begins {I : zI} {π : Int → Nat} {D : zD} {a b c : Int} (ha : 2 ≤ a ∧ a ≤ 24) (hb : 3 ≤ b ∧ b ≤ 8) : zMet 98 [vr 137, vi a, vi b, vi c] (I, zPp π, D, 147) none ((zCr (zup (zBg (zup (zup (zup (zup (zup (zup I 138 0 a) 138 1 b) 138 2 c) 138 3 0) 138 55 0) 138 80 0) 24) 138 4 ((a + b - 1) / b - 1)) 0 24), zPp π, D, 147) := by
  refine z_n 32 (47, [(4, vi 0), (0, vr 137), (1, vi a), (2, vi b), (3, vi c)], [], ((zup (zup (zup (zup (zup (zup I 138 0 a) 138 1 b) 138 2 c) 138 3 0) 138 55 0) 138 80 0), zPp π, D, 147)) (G := (0 ≤ 0 ∧ 0 < 585) ∧ (0 ≤ 1 ∧ 1 < 585) ∧ (0 ≤ 2 ∧ 2 < 585) ∧ (0 ≤ 3 ∧ 3 < 585) ∧ (0 ≤ 55 ∧ 55 < 585) ∧ (0 ≤ 80 ∧ 80 < 585) ∧ True) rfl ⟨by omega, by omega, by omega, by omega, by omega, by omega, trivial⟩ ?_
  refine z_sub [(4, vi 0), (0, vr 137)] [0, 1] rfl ?_
  refine z_st (σ1 := (zBg (zup (zup (zup (zup (zup (zup I 138 0 a) 138 1 b) 138 2 c) 138 3 0) 138 55 0) 138 80 0) 0, zPp π, D, 147)) (by rw [zBg_0]) ?_
  exact m_begins_l (J := (zup (zup (zup (zup (zup (zup I 138 0 a) 138 1 b) 138 2 c) 138 3 0) 138 55 0) 138 80 0)) rfl rfl rfl ha hb 24 0 (by omega) (by omega)
