/-- the past charts are four -/
def zPi (π : Int → Nat) : Prop := ∀ k, 0 ≤ k → k < 4 → π k = 27 ∨ π k = 50 ∨ π k = 73 ∨ π k = 96
theorem zPi_ob {π : Int → Nat} (h : zPi π) {k : Int} (h0 : 0 ≤ k) (h1 : k < 4) : zob (π k) 1 137 = true := by
  rcases h k h0 h1 with e | e | e | e <;> rw [e] <;> rfl
/-- the oldest goes behind the others -/
def zrot (π : Int → Nat) : Int → Nat := fun k => if k = 3 then π 0 else if k = 2 then π 3 else if k = 1 then π 2 else if k = 0 then π 1 else π k
theorem zrot_P {π : Int → Nat} : zupP (zupP (zupP (zupP (zupP (zupP (zPp π) 26 0 (π 1)) 26 1 (π 0)) 26 1 (π 2)) 26 2 (π 0)) 26 2 (π 3)) 26 3 (π 0) = zPp (zrot π) := by
  funext r j
  by_cases hr : r = 26
  · subst hr
    simp only [zupP, zPp, zrot, true_and, Nat.beq_refl, cond_true]
    by_cases h3 : j = 3
    · simp [h3]
    · by_cases h2 : j = 2
      · simp [h2]
      · by_cases h1 : j = 1
        · simp [h1]
        · by_cases h0 : j = 0
          · simp [h0]
          · simp [h0, h1, h2, h3]
  · have hb : Nat.beq r 26 = false := zbeq_f hr
    simp only [zupP, zPp, hr, false_and, if_false, hb, cond_false]
/-- what becomes of the history when a state is kept -/
def zkp (k : Int) : Int := if k < 4 then k + 1 else 4
def zkd (π : Int → Nat) (k : Int) : Nat := if k < 4 then π k else π 0
def zkr (π : Int → Nat) (k : Int) : Int → Nat := if k < 4 then π else zrot π
set_option maxRecDepth 20000 in
theorem m_latest {I : zI} {π : Int → Nat} {D : zD} {d : Nat} (h : 0 < I 25 1 ∧ I 25 1 ≤ 4) (hd : π (I 25 1 - 1) = d) : zMet 40 [vr 25] (I, zPp π, D, 137) (some (vr d)) (I, zPp π, D, 137) := by
  refine z_n 2 (4, [(0, vr 25)], [vi (I 25 1)], (I, zPp π, D, 137)) rfl trivial ?_
  refine z_br ((I 25 1) ≤ 0) 33 7 [] rfl (fun h => absurd h (show ¬ ((I 25 1) ≤ 0) from by omega)) (fun hx1 => ?_)
  refine z_n 5 (16, [(0, vr 25)], [vi 4, vi (I 25 1)], (I, zPp π, D, 137)) rfl trivial ?_
  refine z_br (4 < (I 25 1)) 33 19 [] rfl (fun h => absurd h (show ¬ (4 < (I 25 1)) from by omega)) (fun hx2 => ?_)
  refine z_n 8 (34, [(0, vr 25)], [vr (π ((I 25 1) - 1))], (I, zPp π, D, 137)) (G := (zr ((I 25 1) - 1)) ∧ (0 ≤ ((I 25 1) - 1) ∧ ((I 25 1) - 1) < 4) ∧ True) rfl ⟨by omega, by omega, trivial⟩ ?_
  exact z_ret rfl (by rw [hd]) rfl
set_option maxRecDepth 20000 in
theorem m_latest0 {I : zI} {π : Int → Nat} {D : zD}  (h : I 25 1 = 0) : zMet 40 [vr 25] (I, zPp π, D, 137) (some (vr 0)) (I, zPp π, D, 137) := by
  refine z_n 2 (4, [(0, vr 25)], [vi (I 25 1)], (I, zPp π, D, 137)) rfl trivial ?_
  refine z_br ((I 25 1) ≤ 0) 33 7 [] rfl (fun hx1 => ?_) (fun h => absurd (show (I 25 1) ≤ 0 from by omega) h)
  refine z_n 1 (34, [(0, vr 25)], [vr 0], (I, zPp π, D, 137)) rfl trivial ?_
  first | exact z_ret rfl rfl rfl | exact z_ret rfl (zv1 (by omega)) rfl | (exfalso; omega)
set_option maxRecDepth 20000 in
theorem m_drop {I : zI} {π : Int → Nat} {D : zD}  (h : 0 < I 25 1 ∧ I 25 1 ≤ 4) : zMet 41 [vr 25] (I, zPp π, D, 137) none ((zup I 25 1 (I 25 1 - 1)), zPp π, D, 137) := by
  refine z_n 2 (4, [(0, vr 25)], [vi (I 25 1)], (I, zPp π, D, 137)) rfl trivial ?_
  refine z_br ((I 25 1) ≤ 0) 17 7 [] rfl (fun h => absurd h (show ¬ ((I 25 1) ≤ 0) from by omega)) (fun hx1 => ?_)
  refine z_n 6 (17, [(0, vr 25)], [], ((zup I 25 1 ((I 25 1) - 1)), zPp π, D, 137)) (G := (zr ((I 25 1) - 1)) ∧ True) rfl ⟨by omega, trivial⟩ ?_
  first | exact z_ret rfl rfl rfl | exact z_ret rfl (zv1 (by omega)) rfl | (exfalso; omega)
set_option maxRecDepth 20000 in
theorem m_move {I : zI} {π : Int → Nat} {D : zD}  (hπ : zPi π) : zMet 39 [vr 25] (I, zPp π, D, 137) none (I, zPp (zrot π), D, 137) := by
  refine z_n 6 (8, [(1, vi 1), (0, vr 25)], [vi 4, vi 1], (I, zPp π, D, 137)) rfl trivial ?_
  refine z_br (4 ≤ (1 : Int)) 47 11 [] rfl (fun h => absurd h (show ¬ (4 ≤ (1 : Int)) from by decide)) (fun hx1 => ?_)
  refine z_n 28 (8, [(1, vi 2), (2, vr (π 0)), (0, vr 25)], [vi 4, vi 2], (I, (zupP (zupP (zPp π) 26 0 (π 1)) 26 1 (π 0)), D, 137)) (G := (zr 0) ∧ (0 ≤ 0 ∧ 0 < 4) ∧ (zr 0) ∧ (0 ≤ 1 ∧ 1 < 4) ∧ ((0 ≤ 0 ∧ 0 < 4) ∧ zob (π 1) 1 137 = true) ∧ ((0 ≤ 1 ∧ 1 < 4) ∧ zob (π 0) 1 137 = true) ∧ (zr 2) ∧ True) rfl ⟨by omega, by omega, by omega, by omega, ⟨by omega, zPi_ob hπ (by omega) (by omega)⟩, ⟨by omega, zPi_ob hπ (by omega) (by omega)⟩, by omega, trivial⟩ ?_
  refine z_br (4 ≤ (2 : Int)) 47 11 [] rfl (fun h => absurd h (show ¬ (4 ≤ (2 : Int)) from by decide)) (fun hx2 => ?_)
  refine z_n 28 (8, [(1, vi 3), (2, vr (π 0)), (0, vr 25)], [vi 4, vi 3], (I, (zupP (zupP (zupP (zupP (zPp π) 26 0 (π 1)) 26 1 (π 0)) 26 1 (π 2)) 26 2 (π 0)), D, 137)) (G := (zr 1) ∧ (0 ≤ 1 ∧ 1 < 4) ∧ (zr 1) ∧ (0 ≤ 2 ∧ 2 < 4) ∧ ((0 ≤ 1 ∧ 1 < 4) ∧ zob (π 2) 1 137 = true) ∧ ((0 ≤ 2 ∧ 2 < 4) ∧ zob (π 0) 1 137 = true) ∧ (zr 3) ∧ True) rfl ⟨by omega, by omega, by omega, by omega, ⟨by omega, zPi_ob hπ (by omega) (by omega)⟩, ⟨by omega, zPi_ob hπ (by omega) (by omega)⟩, by omega, trivial⟩ ?_
  refine z_br (4 ≤ (3 : Int)) 47 11 [] rfl (fun h => absurd h (show ¬ (4 ≤ (3 : Int)) from by decide)) (fun hx3 => ?_)
  refine z_n 28 (8, [(1, vi 4), (2, vr (π 0)), (0, vr 25)], [vi 4, vi 4], (I, (zupP (zupP (zupP (zupP (zupP (zupP (zPp π) 26 0 (π 1)) 26 1 (π 0)) 26 1 (π 2)) 26 2 (π 0)) 26 2 (π 3)) 26 3 (π 0)), D, 137)) (G := (zr 2) ∧ (0 ≤ 2 ∧ 2 < 4) ∧ (zr 2) ∧ (0 ≤ 3 ∧ 3 < 4) ∧ ((0 ≤ 2 ∧ 2 < 4) ∧ zob (π 3) 1 137 = true) ∧ ((0 ≤ 3 ∧ 3 < 4) ∧ zob (π 0) 1 137 = true) ∧ (zr 4) ∧ True) rfl ⟨by omega, by omega, by omega, by omega, ⟨by omega, zPi_ob hπ (by omega) (by omega)⟩, ⟨by omega, zPi_ob hπ (by omega) (by omega)⟩, by omega, trivial⟩ ?_
  refine z_br (4 ≤ (4 : Int)) 47 11 [] rfl (fun hx4 => ?_) (fun h => absurd (show 4 ≤ (4 : Int) from by decide) h)
  exact z_ret rfl rfl (congrArg (fun Q : zP => ((I, Q, D, 137) : zS)) zrot_P)
set_option maxRecDepth 20000 in
theorem m_keepA27 {I : zI} {π : Int → Nat} {D : zD}  (h : 0 ≤ I 25 1 ∧ I 25 1 < 4) (hd : π (I 25 1) = 27) : zMet 38 [vr 25, vr 2] (I, zPp π, D, 137) none ((zcpC (zup I 25 1 (I 25 1 + 1)) 27 2), zPp π, D, 137) := by
  refine z_n 5 (9, [(0, vr 25), (1, vr 2)], [vi 4, vi (I 25 1)], (I, zPp π, D, 137)) rfl trivial ?_
  refine z_br (4 ≤ (I 25 1)) 25 12 [] rfl (fun h => absurd h (show ¬ (4 ≤ (I 25 1)) from by omega)) (fun hx1 => ?_)
  refine z_n 8 (30, [(0, vr 25), (1, vr 2)], [vr 25], ((zup I 25 1 ((I 25 1) + 1)), zPp π, D, 137)) (G := (zr ((I 25 1) + 1)) ∧ True) rfl ⟨by omega, trivial⟩ ?_
  refine z_ci 40 [vr 25] [] rfl (m_latest (show 0 < I 25 1 + 1 ∧ I 25 1 + 1 ≤ 4 from by omega) (show π (I 25 1 + 1 - 1) = 27 from by rw [show I 25 1 + 1 - 1 = I 25 1 by omega]; exact hd)) ?_
  refine z_n 5 (40, [(2, vr 27), (0, vr 25), (1, vr 2)], [vr 2, vr 27], ((zup I 25 1 ((I 25 1) + 1)), zPp π, D, 137)) rfl trivial ?_
  refine z_cv 30 [vr 27, vr 2] [] rfl (m_ccp_27_2) ?_
  first | exact z_ret rfl rfl rfl | exact z_ret rfl (zv1 (by omega)) rfl | (exfalso; omega)
set_option maxRecDepth 20000 in
theorem m_keepB27 {I : zI} {π : Int → Nat} {D : zD}  (hπ : zPi π) (h : I 25 1 = 4) (hd : π 0 = 27) : zMet 38 [vr 25, vr 2] (I, zPp π, D, 137) none ((zcpC I 27 2), zPp (zrot π), D, 137) := by
  refine z_n 5 (9, [(0, vr 25), (1, vr 2)], [vi 4, vi (I 25 1)], (I, zPp π, D, 137)) rfl trivial ?_
  refine z_br (4 ≤ (I 25 1)) 25 12 [] rfl (fun hx1 => ?_) (fun h => absurd (show 4 ≤ (I 25 1) from by omega) h)
  refine z_n 1 (26, [(0, vr 25), (1, vr 2)], [vr 25], (I, zPp π, D, 137)) rfl trivial ?_
  refine z_cv 39 [vr 25] [] rfl (m_move hπ) ?_
  refine z_n 1 (30, [(0, vr 25), (1, vr 2)], [vr 25], (I, zPp (zrot π), D, 137)) rfl trivial ?_
  refine z_ci 40 [vr 25] [] rfl (m_latest (by omega) (show zrot π (I 25 1 - 1) = 27 from by rw [h]; exact hd)) ?_
  refine z_n 5 (40, [(2, vr 27), (0, vr 25), (1, vr 2)], [vr 2, vr 27], (I, zPp (zrot π), D, 137)) rfl trivial ?_
  refine z_cv 30 [vr 27, vr 2] [] rfl (m_ccp_27_2) ?_
  first | exact z_ret rfl rfl rfl | exact z_ret rfl (zv1 (by omega)) rfl | (exfalso; omega)
set_option maxRecDepth 20000 in
theorem m_keepA50 {I : zI} {π : Int → Nat} {D : zD}  (h : 0 ≤ I 25 1 ∧ I 25 1 < 4) (hd : π (I 25 1) = 50) : zMet 38 [vr 25, vr 2] (I, zPp π, D, 137) none ((zcpC (zup I 25 1 (I 25 1 + 1)) 50 2), zPp π, D, 137) := by
  refine z_n 5 (9, [(0, vr 25), (1, vr 2)], [vi 4, vi (I 25 1)], (I, zPp π, D, 137)) rfl trivial ?_
  refine z_br (4 ≤ (I 25 1)) 25 12 [] rfl (fun h => absurd h (show ¬ (4 ≤ (I 25 1)) from by omega)) (fun hx1 => ?_)
  refine z_n 8 (30, [(0, vr 25), (1, vr 2)], [vr 25], ((zup I 25 1 ((I 25 1) + 1)), zPp π, D, 137)) (G := (zr ((I 25 1) + 1)) ∧ True) rfl ⟨by omega, trivial⟩ ?_
  refine z_ci 40 [vr 25] [] rfl (m_latest (show 0 < I 25 1 + 1 ∧ I 25 1 + 1 ≤ 4 from by omega) (show π (I 25 1 + 1 - 1) = 50 from by rw [show I 25 1 + 1 - 1 = I 25 1 by omega]; exact hd)) ?_
  refine z_n 5 (40, [(2, vr 50), (0, vr 25), (1, vr 2)], [vr 2, vr 50], ((zup I 25 1 ((I 25 1) + 1)), zPp π, D, 137)) rfl trivial ?_
  refine z_cv 30 [vr 50, vr 2] [] rfl (m_ccp_50_2) ?_
  first | exact z_ret rfl rfl rfl | exact z_ret rfl (zv1 (by omega)) rfl | (exfalso; omega)
set_option maxRecDepth 20000 in
theorem m_keepB50 {I : zI} {π : Int → Nat} {D : zD}  (hπ : zPi π) (h : I 25 1 = 4) (hd : π 0 = 50) : zMet 38 [vr 25, vr 2] (I, zPp π, D, 137) none ((zcpC I 50 2), zPp (zrot π), D, 137) := by
  refine z_n 5 (9, [(0, vr 25), (1, vr 2)], [vi 4, vi (I 25 1)], (I, zPp π, D, 137)) rfl trivial ?_
  refine z_br (4 ≤ (I 25 1)) 25 12 [] rfl (fun hx1 => ?_) (fun h => absurd (show 4 ≤ (I 25 1) from by omega) h)
  refine z_n 1 (26, [(0, vr 25), (1, vr 2)], [vr 25], (I, zPp π, D, 137)) rfl trivial ?_
  refine z_cv 39 [vr 25] [] rfl (m_move hπ) ?_
  refine z_n 1 (30, [(0, vr 25), (1, vr 2)], [vr 25], (I, zPp (zrot π), D, 137)) rfl trivial ?_
  refine z_ci 40 [vr 25] [] rfl (m_latest (by omega) (show zrot π (I 25 1 - 1) = 50 from by rw [h]; exact hd)) ?_
  refine z_n 5 (40, [(2, vr 50), (0, vr 25), (1, vr 2)], [vr 2, vr 50], (I, zPp (zrot π), D, 137)) rfl trivial ?_
  refine z_cv 30 [vr 50, vr 2] [] rfl (m_ccp_50_2) ?_
  first | exact z_ret rfl rfl rfl | exact z_ret rfl (zv1 (by omega)) rfl | (exfalso; omega)
set_option maxRecDepth 20000 in
theorem m_keepA73 {I : zI} {π : Int → Nat} {D : zD}  (h : 0 ≤ I 25 1 ∧ I 25 1 < 4) (hd : π (I 25 1) = 73) : zMet 38 [vr 25, vr 2] (I, zPp π, D, 137) none ((zcpC (zup I 25 1 (I 25 1 + 1)) 73 2), zPp π, D, 137) := by
  refine z_n 5 (9, [(0, vr 25), (1, vr 2)], [vi 4, vi (I 25 1)], (I, zPp π, D, 137)) rfl trivial ?_
  refine z_br (4 ≤ (I 25 1)) 25 12 [] rfl (fun h => absurd h (show ¬ (4 ≤ (I 25 1)) from by omega)) (fun hx1 => ?_)
  refine z_n 8 (30, [(0, vr 25), (1, vr 2)], [vr 25], ((zup I 25 1 ((I 25 1) + 1)), zPp π, D, 137)) (G := (zr ((I 25 1) + 1)) ∧ True) rfl ⟨by omega, trivial⟩ ?_
  refine z_ci 40 [vr 25] [] rfl (m_latest (show 0 < I 25 1 + 1 ∧ I 25 1 + 1 ≤ 4 from by omega) (show π (I 25 1 + 1 - 1) = 73 from by rw [show I 25 1 + 1 - 1 = I 25 1 by omega]; exact hd)) ?_
  refine z_n 5 (40, [(2, vr 73), (0, vr 25), (1, vr 2)], [vr 2, vr 73], ((zup I 25 1 ((I 25 1) + 1)), zPp π, D, 137)) rfl trivial ?_
  refine z_cv 30 [vr 73, vr 2] [] rfl (m_ccp_73_2) ?_
  first | exact z_ret rfl rfl rfl | exact z_ret rfl (zv1 (by omega)) rfl | (exfalso; omega)
set_option maxRecDepth 20000 in
theorem m_keepB73 {I : zI} {π : Int → Nat} {D : zD}  (hπ : zPi π) (h : I 25 1 = 4) (hd : π 0 = 73) : zMet 38 [vr 25, vr 2] (I, zPp π, D, 137) none ((zcpC I 73 2), zPp (zrot π), D, 137) := by
  refine z_n 5 (9, [(0, vr 25), (1, vr 2)], [vi 4, vi (I 25 1)], (I, zPp π, D, 137)) rfl trivial ?_
  refine z_br (4 ≤ (I 25 1)) 25 12 [] rfl (fun hx1 => ?_) (fun h => absurd (show 4 ≤ (I 25 1) from by omega) h)
  refine z_n 1 (26, [(0, vr 25), (1, vr 2)], [vr 25], (I, zPp π, D, 137)) rfl trivial ?_
  refine z_cv 39 [vr 25] [] rfl (m_move hπ) ?_
  refine z_n 1 (30, [(0, vr 25), (1, vr 2)], [vr 25], (I, zPp (zrot π), D, 137)) rfl trivial ?_
  refine z_ci 40 [vr 25] [] rfl (m_latest (by omega) (show zrot π (I 25 1 - 1) = 73 from by rw [h]; exact hd)) ?_
  refine z_n 5 (40, [(2, vr 73), (0, vr 25), (1, vr 2)], [vr 2, vr 73], (I, zPp (zrot π), D, 137)) rfl trivial ?_
  refine z_cv 30 [vr 73, vr 2] [] rfl (m_ccp_73_2) ?_
  first | exact z_ret rfl rfl rfl | exact z_ret rfl (zv1 (by omega)) rfl | (exfalso; omega)
set_option maxRecDepth 20000 in
theorem m_keepA96 {I : zI} {π : Int → Nat} {D : zD}  (h : 0 ≤ I 25 1 ∧ I 25 1 < 4) (hd : π (I 25 1) = 96) : zMet 38 [vr 25, vr 2] (I, zPp π, D, 137) none ((zcpC (zup I 25 1 (I 25 1 + 1)) 96 2), zPp π, D, 137) := by
  refine z_n 5 (9, [(0, vr 25), (1, vr 2)], [vi 4, vi (I 25 1)], (I, zPp π, D, 137)) rfl trivial ?_
  refine z_br (4 ≤ (I 25 1)) 25 12 [] rfl (fun h => absurd h (show ¬ (4 ≤ (I 25 1)) from by omega)) (fun hx1 => ?_)
  refine z_n 8 (30, [(0, vr 25), (1, vr 2)], [vr 25], ((zup I 25 1 ((I 25 1) + 1)), zPp π, D, 137)) (G := (zr ((I 25 1) + 1)) ∧ True) rfl ⟨by omega, trivial⟩ ?_
  refine z_ci 40 [vr 25] [] rfl (m_latest (show 0 < I 25 1 + 1 ∧ I 25 1 + 1 ≤ 4 from by omega) (show π (I 25 1 + 1 - 1) = 96 from by rw [show I 25 1 + 1 - 1 = I 25 1 by omega]; exact hd)) ?_
  refine z_n 5 (40, [(2, vr 96), (0, vr 25), (1, vr 2)], [vr 2, vr 96], ((zup I 25 1 ((I 25 1) + 1)), zPp π, D, 137)) rfl trivial ?_
  refine z_cv 30 [vr 96, vr 2] [] rfl (m_ccp_96_2) ?_
  first | exact z_ret rfl rfl rfl | exact z_ret rfl (zv1 (by omega)) rfl | (exfalso; omega)
set_option maxRecDepth 20000 in
theorem m_keepB96 {I : zI} {π : Int → Nat} {D : zD}  (hπ : zPi π) (h : I 25 1 = 4) (hd : π 0 = 96) : zMet 38 [vr 25, vr 2] (I, zPp π, D, 137) none ((zcpC I 96 2), zPp (zrot π), D, 137) := by
  refine z_n 5 (9, [(0, vr 25), (1, vr 2)], [vi 4, vi (I 25 1)], (I, zPp π, D, 137)) rfl trivial ?_
  refine z_br (4 ≤ (I 25 1)) 25 12 [] rfl (fun hx1 => ?_) (fun h => absurd (show 4 ≤ (I 25 1) from by omega) h)
  refine z_n 1 (26, [(0, vr 25), (1, vr 2)], [vr 25], (I, zPp π, D, 137)) rfl trivial ?_
  refine z_cv 39 [vr 25] [] rfl (m_move hπ) ?_
  refine z_n 1 (30, [(0, vr 25), (1, vr 2)], [vr 25], (I, zPp (zrot π), D, 137)) rfl trivial ?_
  refine z_ci 40 [vr 25] [] rfl (m_latest (by omega) (show zrot π (I 25 1 - 1) = 96 from by rw [h]; exact hd)) ?_
  refine z_n 5 (40, [(2, vr 96), (0, vr 25), (1, vr 2)], [vr 2, vr 96], (I, zPp (zrot π), D, 137)) rfl trivial ?_
  refine z_cv 30 [vr 96, vr 2] [] rfl (m_ccp_96_2) ?_
  first | exact z_ret rfl rfl rfl | exact z_ret rfl (zv1 (by omega)) rfl | (exfalso; omega)
theorem zup_id {I : zI} {r : Nat} {k : Int} : zup I r k (I r k) = I := by
  funext r' k'
  unfold zup
  split
  · next h => rw [h.1, h.2]
  · rfl
theorem m_keep {I : zI} {π : Int → Nat} {D : zD} (hπ : zPi π) (h : 0 ≤ I 25 1 ∧ I 25 1 ≤ 4) : zMet 38 [vr 25, vr 2] (I, zPp π, D, 137) none (zcpC (zup I 25 1 (zkp (I 25 1))) (zkd π (I 25 1)) 2, zPp (zkr π (I 25 1)), D, 137) := by
  by_cases hk : I 25 1 < 4
  · rw [zkp, zkd, zkr, if_pos hk, if_pos hk, if_pos hk]
    rcases hπ (I 25 1) h.1 hk with e | e | e | e <;> rw [e]
    · exact m_keepA27 ⟨h.1, hk⟩ e
    · exact m_keepA50 ⟨h.1, hk⟩ e
    · exact m_keepA73 ⟨h.1, hk⟩ e
    · exact m_keepA96 ⟨h.1, hk⟩ e
  · have h4 : I 25 1 = 4 := by omega
    rw [zkp, zkd, zkr, if_neg hk, if_neg hk, if_neg hk]
    rw [show zup I 25 1 4 = I by rw [← h4]; exact zup_id]
    rcases hπ 0 (by omega) (by omega) with e | e | e | e <;> rw [e]
    · exact m_keepB27 hπ h4 e
    · exact m_keepB50 hπ h4 e
    · exact m_keepB73 hπ h4 e
    · exact m_keepB96 hπ h4 e
set_option maxRecDepth 20000 in
theorem m_add9 {I : zI} {π : Int → Nat} {D : zD} {a b : Int} (h : 0 ≤ I 9 2 ∧ I 9 2 < 4) : zMet 52 [vr 9, vi a, vi b] (I, zPp π, D, 137) none ((zup (zup (zup I 11 (I 9 2) a) 13 (I 9 2) b) 9 2 (I 9 2 + 1)), zPp π, D, 137) := by
  refine z_n 3 (5, [(0, vr 9), (1, vi a), (2, vi b)], [vi 4, vi (I 9 2)], (I, zPp π, D, 137)) rfl trivial ?_
  refine z_br (4 ≤ (I 9 2)) 42 8 [] rfl (fun h => absurd h (show ¬ (4 ≤ (I 9 2)) from by omega)) (fun hx1 => ?_)
  refine z_n 5 (17, [(0, vr 9), (1, vi a), (2, vi b)], [vi a, vi (I 9 2), vr 10], (I, zPp π, D, 137)) rfl trivial ?_
  refine z_cv 2 [vr 10, vi (I 9 2), vi a] [] rfl (m_put (n := 4) ⟨rfl, rfl, rfl, rfl⟩ (by omega) (by omega)) ?_
  refine z_n 5 (29, [(0, vr 9), (1, vi a), (2, vi b)], [vi b, vi (I 9 2), vr 12], ((zup I 11 (I 9 2) a), zPp π, D, 137)) rfl trivial ?_
  refine z_cv 2 [vr 12, vi (I 9 2), vi b] [] rfl (m_put (n := 4) ⟨rfl, rfl, rfl, rfl⟩ (by omega) (by omega)) ?_
  refine z_n 6 (42, [(0, vr 9), (1, vi a), (2, vi b)], [], ((zup (zup (zup I 11 (I 9 2) a) 13 (I 9 2) b) 9 2 ((I 9 2) + 1)), zPp π, D, 137)) (G := (zr ((I 9 2) + 1)) ∧ True) rfl ⟨by omega, trivial⟩ ?_
  first | exact z_ret rfl rfl rfl | exact z_ret rfl (zv1 (by omega)) rfl | (exfalso; omega)
set_option maxRecDepth 20000 in
theorem m_ladd {I : zI} {π : Int → Nat} {D : zD} {d a b s : Int} (h : 0 ≤ I 14 4 ∧ I 14 4 < 96) : zMet 44 [vr 14, vi d, vi a, vi b, vi s] (I, zPp π, D, 137) none ((zup (zup (zup (zup (zup I 16 (I 14 4) d) 18 (I 14 4) a) 20 (I 14 4) b) 22 (I 14 4) s) 14 4 (I 14 4 + 1)), zPp π, D, 137) := by
  refine z_n 3 (6, [(0, vr 14), (1, vi d), (2, vi a), (3, vi b), (4, vi s)], [vi 96, vi (I 14 4)], (I, zPp π, D, 137)) rfl trivial ?_
  refine z_br (96 ≤ (I 14 4)) 68 9 [] rfl (fun h => absurd h (show ¬ (96 ≤ (I 14 4)) from by omega)) (fun hx1 => ?_)
  refine z_n 5 (18, [(0, vr 14), (1, vi d), (2, vi a), (3, vi b), (4, vi s)], [vi d, vi (I 14 4), vr 15], (I, zPp π, D, 137)) rfl trivial ?_
  refine z_cv 2 [vr 15, vi (I 14 4), vi d] [] rfl (m_put (n := 96) ⟨rfl, rfl, rfl, rfl⟩ (by omega) (by omega)) ?_
  refine z_n 5 (30, [(0, vr 14), (1, vi d), (2, vi a), (3, vi b), (4, vi s)], [vi a, vi (I 14 4), vr 17], ((zup I 16 (I 14 4) d), zPp π, D, 137)) rfl trivial ?_
  refine z_cv 2 [vr 17, vi (I 14 4), vi a] [] rfl (m_put (n := 96) ⟨rfl, rfl, rfl, rfl⟩ (by omega) (by omega)) ?_
  refine z_n 5 (42, [(0, vr 14), (1, vi d), (2, vi a), (3, vi b), (4, vi s)], [vi b, vi (I 14 4), vr 19], ((zup (zup I 16 (I 14 4) d) 18 (I 14 4) a), zPp π, D, 137)) rfl trivial ?_
  refine z_cv 2 [vr 19, vi (I 14 4), vi b] [] rfl (m_put (n := 96) ⟨rfl, rfl, rfl, rfl⟩ (by omega) (by omega)) ?_
  refine z_n 5 (55, [(0, vr 14), (1, vi d), (2, vi a), (3, vi b), (4, vi s)], [vi s, vi (I 14 4), vr 21], ((zup (zup (zup I 16 (I 14 4) d) 18 (I 14 4) a) 20 (I 14 4) b), zPp π, D, 137)) rfl trivial ?_
  refine z_cv 2 [vr 21, vi (I 14 4), vi s] [] rfl (m_put (n := 96) ⟨rfl, rfl, rfl, rfl⟩ (by omega) (by omega)) ?_
  refine z_n 6 (68, [(0, vr 14), (1, vi d), (2, vi a), (3, vi b), (4, vi s)], [], ((zup (zup (zup (zup (zup I 16 (I 14 4) d) 18 (I 14 4) a) 20 (I 14 4) b) 22 (I 14 4) s) 14 4 ((I 14 4) + 1)), zPp π, D, 137)) (G := (zr ((I 14 4) + 1)) ∧ True) rfl ⟨by omega, trivial⟩ ?_
  first | exact z_ret rfl rfl rfl | exact z_ret rfl (zv1 (by omega)) rfl | (exfalso; omega)
set_option maxRecDepth 20000 in
theorem m_lempty {I : zI} {π : Int → Nat} {D : zD}   : zMet 43 [vr 14] (I, zPp π, D, 137) none ((zup I 14 4 0), zPp π, D, 137) := by
  refine z_n 3 (5, [(0, vr 14)], [], ((zup I 14 4 0), zPp π, D, 137)) rfl trivial ?_
  first | exact z_ret rfl rfl rfl | exact z_ret rfl (zv1 (by omega)) rfl | (exfalso; omega)
set_option maxRecDepth 20000 in
theorem m_exch {I : zI} {π : Int → Nat} {D : zD} {a b : Int} (h0 : 0 ≤ a ∧ a < 24) (h1 : 0 ≤ b ∧ b < 24) (h2 : 0 ≤ I 6 a ∧ I 6 a < 24) (h3 : 0 ≤ I 6 b ∧ I 6 b < 24) : zMet 22 [vr 2, vi a, vi b] (I, zPp π, D, 137) none ((zup (zup (zup (zup I 8 (I 6 b) a) 6 a (I 6 b)) 8 (I 6 a) b) 6 b (I 6 a)), zPp π, D, 137) := by
  refine z_n 3 (5, [(0, vr 2), (1, vi a), (2, vi b)], [vi a, vr 5], (I, zPp π, D, 137)) rfl trivial ?_
  refine z_ci 1 [vr 5, vi a] [] rfl (m_get (n := 24) ⟨rfl, rfl, rfl, rfl⟩ (by omega) (by omega)) ?_
  refine z_n 4 (14, [(3, vi (I 6 a)), (0, vr 2), (1, vi a), (2, vi b)], [vi b, vr 5], (I, zPp π, D, 137)) rfl trivial ?_
  refine z_ci 1 [vr 5, vi b] [] rfl (m_get (n := 24) ⟨rfl, rfl, rfl, rfl⟩ (by omega) (by omega)) ?_
  refine z_n 4 (23, [(4, vi (I 6 b)), (3, vi (I 6 a)), (0, vr 2), (1, vi a), (2, vi b)], [vi a, vi (I 6 b), vr 2], (I, zPp π, D, 137)) rfl trivial ?_
  refine z_cv 11 [vr 2, vi (I 6 b), vi a] [] rfl (m_putAt h3.1 h3.2 h0.1 h0.2) ?_
  refine z_n 3 (29, [(4, vi (I 6 b)), (3, vi (I 6 a)), (0, vr 2), (1, vi a), (2, vi b)], [vi b, vi (I 6 a), vr 2], ((zup (zup I 8 (I 6 b) a) 6 a (I 6 b)), zPp π, D, 137)) rfl trivial ?_
  refine z_cv 11 [vr 2, vi (I 6 a), vi b] [] rfl (m_putAt h2.1 h2.2 h1.1 h1.2) ?_
  first | exact z_ret rfl rfl rfl | exact z_ret rfl (zv1 (by omega)) rfl | (exfalso; omega)
/-- the first k places noted after the days that are over -/
def zNote (I : zI) (k : Int) : zI := fun r j => if r = 24 ∧ I 2 8 * 24 ≤ j ∧ j < I 2 8 * 24 + k then I 6 (j - I 2 8 * 24) else I r j
theorem zNote_0 {I : zI} : zNote I 0 = I := by
  funext r j
  exact if_neg (fun h => by omega)
theorem zNote_s {I : zI} {k : Int} (h : 0 ≤ k) : zup (zNote I k) 24 (I 2 8 * 24 + k) (I 6 k) = zNote I (k + 1) := by
  funext r j
  unfold zup zNote
  by_cases hr : r = 24
  · subst hr
    by_cases hj : j = I 2 8 * 24 + k
    · subst hj
      rw [if_pos ⟨rfl, rfl⟩, if_pos ⟨rfl, by omega, by omega⟩, show I 2 8 * 24 + k - I 2 8 * 24 = k by omega]
    · rw [if_neg (fun h => hj h.2)]
      by_cases h2 : I 2 8 * 24 ≤ j ∧ j < I 2 8 * 24 + k
      · rw [if_pos ⟨rfl, h2⟩, if_pos ⟨rfl, by omega, by omega⟩]
      · rw [if_neg (fun h => h2 h.2), if_neg (fun h => h2 (by omega))]
  · rw [if_neg (fun h => hr h.1), if_neg (fun h => hr h.1), if_neg (fun h => hr h.1)]
theorem zNote_ne {I : zI} {k : Int} {r : Nat} (h : r ≠ 24) : zNote I k r = I r := by
  funext j
  exact if_neg (fun h1 => h h1.1)
set_option maxRecDepth 20000 in
theorem m_note_l {I : zI} {π : Int → Nat} {D : zD}  (hN : 0 ≤ I 2 5 ∧ I 2 5 ≤ 24) (hO : 0 ≤ I 2 8 ∧ I 2 8 ≤ 6) (hP : ∀ c, 0 ≤ c → c < 24 → 0 ≤ I 6 c ∧ I 6 c < 24) : ∀ (n : Nat) (k : Int), 0 ≤ k → k + n = I 2 5 → zRuns 24 2 [(1, vi k), (0, vr 2)] [] ((zNote I k), zPp π, D, 137) none ((zNote I (I 2 5)), zPp π, D, 137) := by
  intro n
  induction n with
  | zero =>
    intro k h0 hn
    refine z_n 3 (7, [(1, vi k), (0, vr 2)], [vi (I 2 5), vi k], ((zNote I k), zPp π, D, 137)) rfl trivial ?_
    refine z_br ((I 2 5) ≤ k) 40 10 [] rfl (fun hx1 => ?_) (fun h => absurd (show (I 2 5) ≤ k from by omega) h)
    exact z_ret rfl rfl (by rw [show k = I 2 5 by omega])
  | succ n ih =>
  intro k h0 hn
  have hp := hP k h0 (by omega)
  refine z_n 3 (7, [(1, vi k), (0, vr 2)], [vi (I 2 5), vi k], ((zNote I k), zPp π, D, 137)) rfl trivial ?_
  refine z_br ((I 2 5) ≤ k) 40 10 [] rfl (fun h => absurd h (show ¬ ((I 2 5) ≤ k) from by omega)) (fun hx1 => ?_)
  refine z_n 11 (28, [(1, vi k), (0, vr 2)], [vi k, vr 5, vi (((I 2 8) * 24) + k), vr 23], ((zNote I k), zPp π, D, 137)) (G := (zr ((I 2 8) * 24)) ∧ (zr (((I 2 8) * 24) + k)) ∧ True) rfl ⟨by omega, by omega, trivial⟩ ?_
  refine z_ci 1 [vr 5, vi k] [vi (((I 2 8) * 24) + k), vr 23] rfl (m_get (n := 24) ⟨rfl, rfl, rfl, rfl⟩ (by omega) (by omega)) ?_
  refine z_cv 2 [vr 23, vi (((I 2 8) * 24) + k), vi (I 6 k)] [] rfl (m_put (n := 168) ⟨rfl, rfl, rfl, rfl⟩ (by omega) (by omega)) ?_
  refine z_n 2 (2, [(1, vi (k + 1)), (0, vr 2)], [], ((zup (zNote I k) 24 (((I 2 8) * 24) + k) (I 6 k)), zPp π, D, 137)) (G := (zr (k + 1)) ∧ True) rfl ⟨by omega, trivial⟩ ?_
  refine z_sub [(1, vi (k + 1)), (0, vr 2)] [0, 1] rfl ?_
  refine z_st (σ1 := (zNote I (k + 1), zPp π, D, 137)) (by rw [← zNote_s h0]) ?_
  exact ih (k + 1) (by omega) (by omega)
set_option maxRecDepth 20000 in
theorem m_note {I : zI} {π : Int → Nat} {D : zD}  (hN : 0 ≤ I 2 5 ∧ I 2 5 ≤ 24) (hO : 0 ≤ I 2 8 ∧ I 2 8 ≤ 6) (hP : ∀ c, 0 ≤ c → c < 24 → 0 ≤ I 6 c ∧ I 6 c < 24) : zMet 24 [vr 2] (I, zPp π, D, 137) none ((zNote I (I 2 5)), zPp π, D, 137) := by
  refine z_n 2 (2, [(1, vi 0), (0, vr 2)], [], (I, zPp π, D, 137)) rfl trivial ?_
  refine z_sub [(1, vi 0), (0, vr 2)] [0, 1] rfl ?_
  refine z_st (σ1 := (zNote I 0, zPp π, D, 137)) (by rw [zNote_0]) ?_
  exact m_note_l hN hO hP (I 2 5).toNat 0 (by omega) (by omega)
