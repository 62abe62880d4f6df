/-- one row of numbers is another's copy -/
def zcpR (I : zI) (a b : Nat) : zI := fun r j => if r = a then I b j else I r j
theorem z_acp {y pc : Nat} {L : zL} {st : List zV} {σ τ : zS} {r : Option zV} {k b q1 q0 n : Nat} {x : Int} (hi : zi y pc = some (.invokestatic k, 3, 1000, b)) (h0 : zob q0 10 σ.2.2.2 = true) (h1 : zob q1 10 σ.2.2.2 = true) (n0 : (zsh q0).2 = n) (n1 : (zsh q1).2 = n) (hst : zcats st ≤ 8) (hx : x = n) (kk : zRuns y (pc + 3) L st (zcpR σ.1 q1 q0, σ.2) r τ) : zRuns y pc L (vi x :: vi 0 :: vr q1 :: vi 0 :: vr q0 :: st) σ r τ := by
  subst hx
  refine z_s (g := some ((0 : Int) ≤ 0 ∧ (0 : Int) ≤ 0 ∧ 0 ≤ (n : Int) ∧ 0 + (n : Int) ≤ ((zsh q0).2 : Nat) ∧ 0 + (n : Int) ≤ ((zsh q1).2 : Nat))) (σ1 := (fun r' k => if r' = q1 ∧ 0 ≤ k ∧ k < 0 + (n : Int) then σ.1 q0 (0 + (k - 0)) else σ.1 r' k, σ.2)) (L1 := L) (pc1 := pc + 3) (st1 := st) ?_ (fun P hP => by cases hP; rw [n0, n1]; omega) (z_eqs ?_ kk)
  · have h8 : Nat.ble (zcats st) 8 = true := Nat.ble_eq_true_of_le hst
    simp only [zst, hi, zx, Nat.beq_refl, cond_true, h0, h1, h8, Bool.and_self]
  · obtain ⟨-, -, -, e4⟩ := zob_spec h1 (by decide)
    refine ⟨rfl, fun j => ?_, fun r' hr' j hj => ⟨?_, rfl, rfl⟩⟩
    · show zcpR σ.1 q1 q0 1000 j = if 1000 = q1 ∧ _ then _ else _
      rw [if_neg (fun h => e4 h.1.symm), zcpR, if_neg (fun h => e4 h.symm)]
    · show zcpR σ.1 q1 q0 r' j = if r' = q1 ∧ (0 : Int) ≤ j ∧ (j : Int) < 0 + (n : Int) then σ.1 q0 (0 + ((j : Int) - 0)) else σ.1 r' j
      unfold zcpR
      by_cases e : r' = q1
      · subst e
        rw [n1] at hj
        rw [if_pos rfl, if_pos (by omega), show (0 : Int) + ((j : Int) - 0) = j by omega]
      · rw [if_neg e, if_neg (fun h => e h.1)]
theorem m_copy {I : zI} {P : zP} {D : zD} {c r q n : Nat} (h : zCel P c r n) (h2 : zCel P c q n) : zMet 3 [vr r, vr q] (I, P, D, c) none (zcpR I (r + 1) (q + 1), P, D, c) := by
  obtain ⟨a1, a2, a3, a4⟩ := h
  obtain ⟨b1, b2, b3, b4⟩ := h2
  refine z_n 1 (1, [(0, vr r), (1, vr q)], [vr q], (I, P, D, c)) rfl trivial ?_
  refine z_getr rfl b1 rfl b4 ?_
  refine z_n 2 (6, [(0, vr r), (1, vr q)], [vr r, vi 0, vr (q + 1)], (I, P, D, c)) rfl trivial ?_
  refine z_getr rfl a1 rfl a4 ?_
  refine z_n 2 (11, [(0, vr r), (1, vr q)], [vr q, vi 0, vr (r + 1), vi 0, vr (q + 1)], (I, P, D, c)) rfl trivial ?_
  refine z_getr rfl b1 rfl b4 ?_
  refine z_len rfl rfl b2 b3 ?_
  refine z_n 1 (16, [(0, vr r), (1, vr q)], [vr r, vi n, vi 0, vr (r + 1), vi 0, vr (q + 1)], (I, P, D, c)) rfl trivial ?_
  refine z_getr rfl a1 rfl a4 ?_
  refine z_len rfl rfl a2 a3 ?_
  refine z_ci 78 [vi n, vi n] [vi 0, vr (r + 1), vi 0, vr (q + 1)] rfl m_min ?_
  refine z_acp rfl b2 a2 b3 a3 (by decide) (by omega) ?_
  exact z_ret rfl rfl rfl
/-- which of a chart's numbers are its own: rows and fields, by the place of the object in the chart -/
def zcm (k : Nat) (j : Int) : Prop := k = 2 ∨ k = 4 ∨ k = 6 ∨ k = 9 ∨ k = 11 ∨ k = 14 ∨ k = 16 ∨ k = 18 ∨ k = 20 ∨ k = 22 ∨ (k = 0 ∧ 5 ≤ j ∧ j ≤ 11) ∨ (k = 7 ∧ j = 2) ∨ (k = 12 ∧ j = 4)
noncomputable def zcpC (I : zI) (a b : Nat) : zI := fun r j => @ite Int (a ≤ r ∧ r < a + 23 ∧ zcm (r - a) j) (Classical.propDecidable _) (I (r - a + b) j) (I r j)
theorem zcpC_in {I : zI} {a b r : Nat} {j : Int} (h1 : a ≤ r) (h2 : r < a + 23) (h3 : zcm (r - a) j) : zcpC I a b r j = I (r - a + b) j := if_pos ⟨h1, h2, h3⟩
theorem zcpC_row {I : zI} {a b : Nat} (k : Nat) (hk : k = 2 ∨ k = 4 ∨ k = 6 ∨ k = 9 ∨ k = 11 ∨ k = 14 ∨ k = 16 ∨ k = 18 ∨ k = 20 ∨ k = 22) : zcpC I a b (a + k) = I (b + k) := by
  funext j
  rw [zcpC_in (by omega) (by omega) (by unfold zcm; omega), show a + k - a + b = b + k by omega]
theorem zcpC_out {I : zI} {a b r : Nat} (h : r < a ∨ a + 23 ≤ r) : zcpC I a b r = I r := by
  funext j
  exact if_neg (fun h1 => by omega)
theorem zcpC_no {I : zI} {a b r : Nat} {j : Int} (h : ¬ zcm (r - a) j) : zcpC I a b r j = I r j := if_neg (fun h1 => h h1.2.2)

set_option maxRecDepth 20000 in
theorem m_rcp_34_9 {I : zI} {π : Int → Nat} {D : zD}   : zMet 55 [vr 34, vr 9] (I, zPp π, D, 137) none ((zup (zcpR (zcpR I 36 11) 38 13) 34 2 (I 9 2)), zPp π, D, 137) := by
  refine z_n 4 (8, [(0, vr 34), (1, vr 9)], [vr 10, vr 35], (I, zPp π, D, 137)) rfl trivial ?_
  refine z_cv 3 [vr 35, vr 10] [] rfl (m_copy (n := 4) ⟨rfl, rfl, rfl, rfl⟩ ⟨rfl, rfl, rfl, rfl⟩) ?_
  refine z_n 4 (19, [(0, vr 34), (1, vr 9)], [vr 12, vr 37], ((zcpR I 36 11), zPp π, D, 137)) rfl trivial ?_
  refine z_cv 3 [vr 37, vr 12] [] rfl (m_copy (n := 4) ⟨rfl, rfl, rfl, rfl⟩ ⟨rfl, rfl, rfl, rfl⟩) ?_
  refine z_n 4 (30, [(0, vr 34), (1, vr 9)], [], ((zup (zcpR (zcpR I 36 11) 38 13) 34 2 (I 9 2)), zPp π, D, 137)) rfl trivial ?_
  first | exact z_ret rfl rfl rfl | exact z_ret rfl (zv1 (by omega)) rfl | (exfalso; omega)
set_option maxRecDepth 20000 in
theorem m_lcp_39_14 {I : zI} {π : Int → Nat} {D : zD}   : zMet 49 [vr 39, vr 14] (I, zPp π, D, 137) none ((zup (zcpR (zcpR (zcpR (zcpR I 41 16) 43 18) 45 20) 47 22) 39 4 (I 14 4)), zPp π, D, 137) := by
  refine z_n 4 (8, [(0, vr 39), (1, vr 14)], [vr 15, vr 40], (I, zPp π, D, 137)) rfl trivial ?_
  refine z_cv 3 [vr 40, vr 15] [] rfl (m_copy (n := 96) ⟨rfl, rfl, rfl, rfl⟩ ⟨rfl, rfl, rfl, rfl⟩) ?_
  refine z_n 4 (19, [(0, vr 39), (1, vr 14)], [vr 17, vr 42], ((zcpR I 41 16), zPp π, D, 137)) rfl trivial ?_
  refine z_cv 3 [vr 42, vr 17] [] rfl (m_copy (n := 96) ⟨rfl, rfl, rfl, rfl⟩ ⟨rfl, rfl, rfl, rfl⟩) ?_
  refine z_n 4 (30, [(0, vr 39), (1, vr 14)], [vr 19, vr 44], ((zcpR (zcpR I 41 16) 43 18), zPp π, D, 137)) rfl trivial ?_
  refine z_cv 3 [vr 44, vr 19] [] rfl (m_copy (n := 96) ⟨rfl, rfl, rfl, rfl⟩ ⟨rfl, rfl, rfl, rfl⟩) ?_
  refine z_n 4 (41, [(0, vr 39), (1, vr 14)], [vr 21, vr 46], ((zcpR (zcpR (zcpR I 41 16) 43 18) 45 20), zPp π, D, 137)) rfl trivial ?_
  refine z_cv 3 [vr 46, vr 21] [] rfl (m_copy (n := 96) ⟨rfl, rfl, rfl, rfl⟩ ⟨rfl, rfl, rfl, rfl⟩) ?_
  refine z_n 4 (52, [(0, vr 39), (1, vr 14)], [], ((zup (zcpR (zcpR (zcpR (zcpR I 41 16) 43 18) 45 20) 47 22) 39 4 (I 14 4)), zPp π, D, 137)) rfl trivial ?_
  first | exact z_ret rfl rfl rfl | exact z_ret rfl (zv1 (by omega)) rfl | (exfalso; omega)
set_option maxRecDepth 20000 in
theorem m_ccp_27_2 {I : zI} {π : Int → Nat} {D : zD}   : zMet 30 [vr 27, vr 2] (I, zPp π, D, 137) none ((zcpC I 27 2), zPp π, D, 137) := by
  refine z_n 4 (8, [(0, vr 27), (1, vr 2)], [vr 3, vr 28], (I, zPp π, D, 137)) rfl trivial ?_
  refine z_cv 3 [vr 28, vr 3] [] rfl (m_copy (n := 24) ⟨rfl, rfl, rfl, rfl⟩ ⟨rfl, rfl, rfl, rfl⟩) ?_
  refine z_n 4 (19, [(0, vr 27), (1, vr 2)], [vr 5, vr 30], ((zcpR I 29 4), zPp π, D, 137)) rfl trivial ?_
  refine z_cv 3 [vr 30, vr 5] [] rfl (m_copy (n := 24) ⟨rfl, rfl, rfl, rfl⟩ ⟨rfl, rfl, rfl, rfl⟩) ?_
  refine z_n 4 (30, [(0, vr 27), (1, vr 2)], [vr 7, vr 32], ((zcpR (zcpR I 29 4) 31 6), zPp π, D, 137)) rfl trivial ?_
  refine z_cv 3 [vr 32, vr 7] [] rfl (m_copy (n := 24) ⟨rfl, rfl, rfl, rfl⟩ ⟨rfl, rfl, rfl, rfl⟩) ?_
  refine z_n 4 (41, [(0, vr 27), (1, vr 2)], [vr 9, vr 34], ((zcpR (zcpR (zcpR I 29 4) 31 6) 33 8), zPp π, D, 137)) rfl trivial ?_
  refine z_cv 55 [vr 34, vr 9] [] rfl (m_rcp_34_9) ?_
  refine z_n 4 (52, [(0, vr 27), (1, vr 2)], [vr 14, vr 39], ((zup (zcpR (zcpR (zcpR (zcpR (zcpR I 29 4) 31 6) 33 8) 36 11) 38 13) 34 2 (I 9 2)), zPp π, D, 137)) rfl trivial ?_
  refine z_cv 49 [vr 39, vr 14] [] rfl (m_lcp_39_14) ?_
  refine z_n 4 (63, [(0, vr 27), (1, vr 2)], [vr 23, vr 48], ((zup (zcpR (zcpR (zcpR (zcpR (zup (zcpR (zcpR (zcpR (zcpR (zcpR I 29 4) 31 6) 33 8) 36 11) 38 13) 34 2 (I 9 2)) 41 16) 43 18) 45 20) 47 22) 39 4 (I 14 4)), zPp π, D, 137)) rfl trivial ?_
  refine z_cv 3 [vr 48, vr 23] [] rfl (m_copy (n := 168) ⟨rfl, rfl, rfl, rfl⟩ ⟨rfl, rfl, rfl, rfl⟩) ?_
  refine z_n 28 (122, [(0, vr 27), (1, vr 2)], [], ((zup (zup (zup (zup (zup (zup (zup (zcpR (zup (zcpR (zcpR (zcpR (zcpR (zup (zcpR (zcpR (zcpR (zcpR (zcpR I 29 4) 31 6) 33 8) 36 11) 38 13) 34 2 (I 9 2)) 41 16) 43 18) 45 20) 47 22) 39 4 (I 14 4)) 49 24) 27 5 (I 2 5)) 27 6 (I 2 6)) 27 7 (I 2 7)) 27 8 (I 2 8)) 27 9 (I 2 9)) 27 10 (I 2 10)) 27 11 (I 2 11)), zPp π, D, 137)) rfl trivial ?_
  exact z_ret rfl rfl (by
    refine congrArg (fun J : zI => ((J, zPp π, D, 137) : zS)) ?_
    funext r j
    by_cases hr : 27 ≤ r ∧ r < 50
    · rcases (by omega : r = 27 ∨ r = 28 ∨ r = 29 ∨ r = 30 ∨ r = 31 ∨ r = 32 ∨ r = 33 ∨ r = 34 ∨ r = 35 ∨ r = 36 ∨ r = 37 ∨ r = 38 ∨ r = 39 ∨ r = 40 ∨ r = 41 ∨ r = 42 ∨ r = 43 ∨ r = 44 ∨ r = 45 ∨ r = 46 ∨ r = 47 ∨ r = 48 ∨ r = 49) with rfl | rfl | rfl | rfl | rfl | rfl | rfl | rfl | rfl | rfl | rfl | rfl | rfl | rfl | rfl | rfl | rfl | rfl | rfl | rfl | rfl | rfl | rfl
      · by_cases hj : 5 ≤ j ∧ j ≤ 11
        · rw [zcpC_in (by decide) (by decide) (by unfold zcm; omega)]
          rcases (by omega : j = 5 ∨ j = 6 ∨ j = 7 ∨ j = 8 ∨ j = 9 ∨ j = 10 ∨ j = 11) with rfl | rfl | rfl | rfl | rfl | rfl | rfl <;> rfl
        · rw [zcpC_no (by unfold zcm; omega)]
          simp only [zup, zcpR]
          simp [show ¬ j = 5 by omega, show ¬ j = 6 by omega, show ¬ j = 7 by omega, show ¬ j = 8 by omega, show ¬ j = 9 by omega, show ¬ j = 10 by omega, show ¬ j = 11 by omega]
      · rw [zcpC_no (by unfold zcm; omega)]; rfl
      · rw [zcpC_in (by decide) (by decide) (by unfold zcm; simp)]; rfl
      · rw [zcpC_no (by unfold zcm; omega)]; rfl
      · rw [zcpC_in (by decide) (by decide) (by unfold zcm; simp)]; rfl
      · rw [zcpC_no (by unfold zcm; omega)]; rfl
      · rw [zcpC_in (by decide) (by decide) (by unfold zcm; simp)]; rfl
      · by_cases hj : j = 2
        · subst hj; rw [zcpC_in (by decide) (by decide) (by unfold zcm; simp)]; rfl
        · rw [zcpC_no (by unfold zcm; omega)]
          simp only [zup, zcpR]
          simp [hj]
      · rw [zcpC_no (by unfold zcm; omega)]; rfl
      · rw [zcpC_in (by decide) (by decide) (by unfold zcm; simp)]; rfl
      · rw [zcpC_no (by unfold zcm; omega)]; rfl
      · rw [zcpC_in (by decide) (by decide) (by unfold zcm; simp)]; rfl
      · by_cases hj : j = 4
        · subst hj; rw [zcpC_in (by decide) (by decide) (by unfold zcm; simp)]; rfl
        · rw [zcpC_no (by unfold zcm; omega)]
          simp only [zup, zcpR]
          simp [hj]
      · rw [zcpC_no (by unfold zcm; omega)]; rfl
      · rw [zcpC_in (by decide) (by decide) (by unfold zcm; simp)]; rfl
      · rw [zcpC_no (by unfold zcm; omega)]; rfl
      · rw [zcpC_in (by decide) (by decide) (by unfold zcm; simp)]; rfl
      · rw [zcpC_no (by unfold zcm; omega)]; rfl
      · rw [zcpC_in (by decide) (by decide) (by unfold zcm; simp)]; rfl
      · rw [zcpC_no (by unfold zcm; omega)]; rfl
      · rw [zcpC_in (by decide) (by decide) (by unfold zcm; simp)]; rfl
      · rw [zcpC_no (by unfold zcm; omega)]; rfl
      · rw [zcpC_in (by decide) (by decide) (by unfold zcm; simp)]; rfl
    · rw [zcpC_out (by omega)]
      simp only [zup, zcpR, show (r = 27) = False by simp; omega, show (r = 29) = False by simp; omega, show (r = 31) = False by simp; omega, show (r = 33) = False by simp; omega, show (r = 34) = False by simp; omega, show (r = 36) = False by simp; omega, show (r = 38) = False by simp; omega, show (r = 39) = False by simp; omega, show (r = 41) = False by simp; omega, show (r = 43) = False by simp; omega, show (r = 45) = False by simp; omega, show (r = 47) = False by simp; omega, show (r = 49) = False by simp; omega, false_and, if_false])
set_option maxRecDepth 20000 in
theorem m_rcp_9_34 {I : zI} {π : Int → Nat} {D : zD}   : zMet 55 [vr 9, vr 34] (I, zPp π, D, 137) none ((zup (zcpR (zcpR I 11 36) 13 38) 9 2 (I 34 2)), zPp π, D, 137) := by
  refine z_n 4 (8, [(0, vr 9), (1, vr 34)], [vr 35, vr 10], (I, zPp π, D, 137)) rfl trivial ?_
  refine z_cv 3 [vr 10, vr 35] [] rfl (m_copy (n := 4) ⟨rfl, rfl, rfl, rfl⟩ ⟨rfl, rfl, rfl, rfl⟩) ?_
  refine z_n 4 (19, [(0, vr 9), (1, vr 34)], [vr 37, vr 12], ((zcpR I 11 36), zPp π, D, 137)) rfl trivial ?_
  refine z_cv 3 [vr 12, vr 37] [] rfl (m_copy (n := 4) ⟨rfl, rfl, rfl, rfl⟩ ⟨rfl, rfl, rfl, rfl⟩) ?_
  refine z_n 4 (30, [(0, vr 9), (1, vr 34)], [], ((zup (zcpR (zcpR I 11 36) 13 38) 9 2 (I 34 2)), zPp π, D, 137)) rfl trivial ?_
  first | exact z_ret rfl rfl rfl | exact z_ret rfl (zv1 (by omega)) rfl | (exfalso; omega)
set_option maxRecDepth 20000 in
theorem m_lcp_14_39 {I : zI} {π : Int → Nat} {D : zD}   : zMet 49 [vr 14, vr 39] (I, zPp π, D, 137) none ((zup (zcpR (zcpR (zcpR (zcpR I 16 41) 18 43) 20 45) 22 47) 14 4 (I 39 4)), zPp π, D, 137) := by
  refine z_n 4 (8, [(0, vr 14), (1, vr 39)], [vr 40, vr 15], (I, zPp π, D, 137)) rfl trivial ?_
  refine z_cv 3 [vr 15, vr 40] [] rfl (m_copy (n := 96) ⟨rfl, rfl, rfl, rfl⟩ ⟨rfl, rfl, rfl, rfl⟩) ?_
  refine z_n 4 (19, [(0, vr 14), (1, vr 39)], [vr 42, vr 17], ((zcpR I 16 41), zPp π, D, 137)) rfl trivial ?_
  refine z_cv 3 [vr 17, vr 42] [] rfl (m_copy (n := 96) ⟨rfl, rfl, rfl, rfl⟩ ⟨rfl, rfl, rfl, rfl⟩) ?_
  refine z_n 4 (30, [(0, vr 14), (1, vr 39)], [vr 44, vr 19], ((zcpR (zcpR I 16 41) 18 43), zPp π, D, 137)) rfl trivial ?_
  refine z_cv 3 [vr 19, vr 44] [] rfl (m_copy (n := 96) ⟨rfl, rfl, rfl, rfl⟩ ⟨rfl, rfl, rfl, rfl⟩) ?_
  refine z_n 4 (41, [(0, vr 14), (1, vr 39)], [vr 46, vr 21], ((zcpR (zcpR (zcpR I 16 41) 18 43) 20 45), zPp π, D, 137)) rfl trivial ?_
  refine z_cv 3 [vr 21, vr 46] [] rfl (m_copy (n := 96) ⟨rfl, rfl, rfl, rfl⟩ ⟨rfl, rfl, rfl, rfl⟩) ?_
  refine z_n 4 (52, [(0, vr 14), (1, vr 39)], [], ((zup (zcpR (zcpR (zcpR (zcpR I 16 41) 18 43) 20 45) 22 47) 14 4 (I 39 4)), zPp π, D, 137)) rfl trivial ?_
  first | exact z_ret rfl rfl rfl | exact z_ret rfl (zv1 (by omega)) rfl | (exfalso; omega)
set_option maxRecDepth 20000 in
theorem m_ccp_2_27 {I : zI} {π : Int → Nat} {D : zD}   : zMet 30 [vr 2, vr 27] (I, zPp π, D, 137) none ((zcpC I 2 27), zPp π, D, 137) := by
  refine z_n 4 (8, [(0, vr 2), (1, vr 27)], [vr 28, vr 3], (I, zPp π, D, 137)) rfl trivial ?_
  refine z_cv 3 [vr 3, vr 28] [] rfl (m_copy (n := 24) ⟨rfl, rfl, rfl, rfl⟩ ⟨rfl, rfl, rfl, rfl⟩) ?_
  refine z_n 4 (19, [(0, vr 2), (1, vr 27)], [vr 30, vr 5], ((zcpR I 4 29), zPp π, D, 137)) rfl trivial ?_
  refine z_cv 3 [vr 5, vr 30] [] rfl (m_copy (n := 24) ⟨rfl, rfl, rfl, rfl⟩ ⟨rfl, rfl, rfl, rfl⟩) ?_
  refine z_n 4 (30, [(0, vr 2), (1, vr 27)], [vr 32, vr 7], ((zcpR (zcpR I 4 29) 6 31), zPp π, D, 137)) rfl trivial ?_
  refine z_cv 3 [vr 7, vr 32] [] rfl (m_copy (n := 24) ⟨rfl, rfl, rfl, rfl⟩ ⟨rfl, rfl, rfl, rfl⟩) ?_
  refine z_n 4 (41, [(0, vr 2), (1, vr 27)], [vr 34, vr 9], ((zcpR (zcpR (zcpR I 4 29) 6 31) 8 33), zPp π, D, 137)) rfl trivial ?_
  refine z_cv 55 [vr 9, vr 34] [] rfl (m_rcp_9_34) ?_
  refine z_n 4 (52, [(0, vr 2), (1, vr 27)], [vr 39, vr 14], ((zup (zcpR (zcpR (zcpR (zcpR (zcpR I 4 29) 6 31) 8 33) 11 36) 13 38) 9 2 (I 34 2)), zPp π, D, 137)) rfl trivial ?_
  refine z_cv 49 [vr 14, vr 39] [] rfl (m_lcp_14_39) ?_
  refine z_n 4 (63, [(0, vr 2), (1, vr 27)], [vr 48, vr 23], ((zup (zcpR (zcpR (zcpR (zcpR (zup (zcpR (zcpR (zcpR (zcpR (zcpR I 4 29) 6 31) 8 33) 11 36) 13 38) 9 2 (I 34 2)) 16 41) 18 43) 20 45) 22 47) 14 4 (I 39 4)), zPp π, D, 137)) rfl trivial ?_
  refine z_cv 3 [vr 23, vr 48] [] rfl (m_copy (n := 168) ⟨rfl, rfl, rfl, rfl⟩ ⟨rfl, rfl, rfl, rfl⟩) ?_
  refine z_n 28 (122, [(0, vr 2), (1, vr 27)], [], ((zup (zup (zup (zup (zup (zup (zup (zcpR (zup (zcpR (zcpR (zcpR (zcpR (zup (zcpR (zcpR (zcpR (zcpR (zcpR I 4 29) 6 31) 8 33) 11 36) 13 38) 9 2 (I 34 2)) 16 41) 18 43) 20 45) 22 47) 14 4 (I 39 4)) 24 49) 2 5 (I 27 5)) 2 6 (I 27 6)) 2 7 (I 27 7)) 2 8 (I 27 8)) 2 9 (I 27 9)) 2 10 (I 27 10)) 2 11 (I 27 11)), zPp π, D, 137)) rfl trivial ?_
  exact z_ret rfl rfl (by
    refine congrArg (fun J : zI => ((J, zPp π, D, 137) : zS)) ?_
    funext r j
    by_cases hr : 2 ≤ r ∧ r < 25
    · rcases (by omega : r = 2 ∨ r = 3 ∨ r = 4 ∨ r = 5 ∨ r = 6 ∨ r = 7 ∨ r = 8 ∨ r = 9 ∨ r = 10 ∨ r = 11 ∨ r = 12 ∨ r = 13 ∨ r = 14 ∨ r = 15 ∨ r = 16 ∨ r = 17 ∨ r = 18 ∨ r = 19 ∨ r = 20 ∨ r = 21 ∨ r = 22 ∨ r = 23 ∨ r = 24) with rfl | rfl | rfl | rfl | rfl | rfl | rfl | rfl | rfl | rfl | rfl | rfl | rfl | rfl | rfl | rfl | rfl | rfl | rfl | rfl | rfl | rfl | rfl
      · by_cases hj : 5 ≤ j ∧ j ≤ 11
        · rw [zcpC_in (by decide) (by decide) (by unfold zcm; omega)]
          rcases (by omega : j = 5 ∨ j = 6 ∨ j = 7 ∨ j = 8 ∨ j = 9 ∨ j = 10 ∨ j = 11) with rfl | rfl | rfl | rfl | rfl | rfl | rfl <;> rfl
        · rw [zcpC_no (by unfold zcm; omega)]
          simp only [zup, zcpR]
          simp [show ¬ j = 5 by omega, show ¬ j = 6 by omega, show ¬ j = 7 by omega, show ¬ j = 8 by omega, show ¬ j = 9 by omega, show ¬ j = 10 by omega, show ¬ j = 11 by omega]
      · rw [zcpC_no (by unfold zcm; omega)]; rfl
      · rw [zcpC_in (by decide) (by decide) (by unfold zcm; simp)]; rfl
      · rw [zcpC_no (by unfold zcm; omega)]; rfl
      · rw [zcpC_in (by decide) (by decide) (by unfold zcm; simp)]; rfl
      · rw [zcpC_no (by unfold zcm; omega)]; rfl
      · rw [zcpC_in (by decide) (by decide) (by unfold zcm; simp)]; rfl
      · by_cases hj : j = 2
        · subst hj; rw [zcpC_in (by decide) (by decide) (by unfold zcm; simp)]; rfl
        · rw [zcpC_no (by unfold zcm; omega)]
          simp only [zup, zcpR]
          simp [hj]
      · rw [zcpC_no (by unfold zcm; omega)]; rfl
      · rw [zcpC_in (by decide) (by decide) (by unfold zcm; simp)]; rfl
      · rw [zcpC_no (by unfold zcm; omega)]; rfl
      · rw [zcpC_in (by decide) (by decide) (by unfold zcm; simp)]; rfl
      · by_cases hj : j = 4
        · subst hj; rw [zcpC_in (by decide) (by decide) (by unfold zcm; simp)]; rfl
        · rw [zcpC_no (by unfold zcm; omega)]
          simp only [zup, zcpR]
          simp [hj]
      · rw [zcpC_no (by unfold zcm; omega)]; rfl
      · rw [zcpC_in (by decide) (by decide) (by unfold zcm; simp)]; rfl
      · rw [zcpC_no (by unfold zcm; omega)]; rfl
      · rw [zcpC_in (by decide) (by decide) (by unfold zcm; simp)]; rfl
      · rw [zcpC_no (by unfold zcm; omega)]; rfl
      · rw [zcpC_in (by decide) (by decide) (by unfold zcm; simp)]; rfl
      · rw [zcpC_no (by unfold zcm; omega)]; rfl
      · rw [zcpC_in (by decide) (by decide) (by unfold zcm; simp)]; rfl
      · rw [zcpC_no (by unfold zcm; omega)]; rfl
      · rw [zcpC_in (by decide) (by decide) (by unfold zcm; simp)]; rfl
    · rw [zcpC_out (by omega)]
      simp only [zup, zcpR, show (r = 2) = False by simp; omega, show (r = 4) = False by simp; omega, show (r = 6) = False by simp; omega, show (r = 8) = False by simp; omega, show (r = 9) = False by simp; omega, show (r = 11) = False by simp; omega, show (r = 13) = False by simp; omega, show (r = 14) = False by simp; omega, show (r = 16) = False by simp; omega, show (r = 18) = False by simp; omega, show (r = 20) = False by simp; omega, show (r = 22) = False by simp; omega, show (r = 24) = False by simp; omega, false_and, if_false])
set_option maxRecDepth 20000 in
theorem m_rcp_57_9 {I : zI} {π : Int → Nat} {D : zD}   : zMet 55 [vr 57, vr 9] (I, zPp π, D, 137) none ((zup (zcpR (zcpR I 59 11) 61 13) 57 2 (I 9 2)), zPp π, D, 137) := by
  refine z_n 4 (8, [(0, vr 57), (1, vr 9)], [vr 10, vr 58], (I, zPp π, D, 137)) rfl trivial ?_
  refine z_cv 3 [vr 58, vr 10] [] rfl (m_copy (n := 4) ⟨rfl, rfl, rfl, rfl⟩ ⟨rfl, rfl, rfl, rfl⟩) ?_
  refine z_n 4 (19, [(0, vr 57), (1, vr 9)], [vr 12, vr 60], ((zcpR I 59 11), zPp π, D, 137)) rfl trivial ?_
  refine z_cv 3 [vr 60, vr 12] [] rfl (m_copy (n := 4) ⟨rfl, rfl, rfl, rfl⟩ ⟨rfl, rfl, rfl, rfl⟩) ?_
  refine z_n 4 (30, [(0, vr 57), (1, vr 9)], [], ((zup (zcpR (zcpR I 59 11) 61 13) 57 2 (I 9 2)), zPp π, D, 137)) rfl trivial ?_
  first | exact z_ret rfl rfl rfl | exact z_ret rfl (zv1 (by omega)) rfl | (exfalso; omega)
set_option maxRecDepth 20000 in
theorem m_lcp_62_14 {I : zI} {π : Int → Nat} {D : zD}   : zMet 49 [vr 62, vr 14] (I, zPp π, D, 137) none ((zup (zcpR (zcpR (zcpR (zcpR I 64 16) 66 18) 68 20) 70 22) 62 4 (I 14 4)), zPp π, D, 137) := by
  refine z_n 4 (8, [(0, vr 62), (1, vr 14)], [vr 15, vr 63], (I, zPp π, D, 137)) rfl trivial ?_
  refine z_cv 3 [vr 63, vr 15] [] rfl (m_copy (n := 96) ⟨rfl, rfl, rfl, rfl⟩ ⟨rfl, rfl, rfl, rfl⟩) ?_
  refine z_n 4 (19, [(0, vr 62), (1, vr 14)], [vr 17, vr 65], ((zcpR I 64 16), zPp π, D, 137)) rfl trivial ?_
  refine z_cv 3 [vr 65, vr 17] [] rfl (m_copy (n := 96) ⟨rfl, rfl, rfl, rfl⟩ ⟨rfl, rfl, rfl, rfl⟩) ?_
  refine z_n 4 (30, [(0, vr 62), (1, vr 14)], [vr 19, vr 67], ((zcpR (zcpR I 64 16) 66 18), zPp π, D, 137)) rfl trivial ?_
  refine z_cv 3 [vr 67, vr 19] [] rfl (m_copy (n := 96) ⟨rfl, rfl, rfl, rfl⟩ ⟨rfl, rfl, rfl, rfl⟩) ?_
  refine z_n 4 (41, [(0, vr 62), (1, vr 14)], [vr 21, vr 69], ((zcpR (zcpR (zcpR I 64 16) 66 18) 68 20), zPp π, D, 137)) rfl trivial ?_
  refine z_cv 3 [vr 69, vr 21] [] rfl (m_copy (n := 96) ⟨rfl, rfl, rfl, rfl⟩ ⟨rfl, rfl, rfl, rfl⟩) ?_
  refine z_n 4 (52, [(0, vr 62), (1, vr 14)], [], ((zup (zcpR (zcpR (zcpR (zcpR I 64 16) 66 18) 68 20) 70 22) 62 4 (I 14 4)), zPp π, D, 137)) rfl trivial ?_
  first | exact z_ret rfl rfl rfl | exact z_ret rfl (zv1 (by omega)) rfl | (exfalso; omega)
set_option maxRecDepth 20000 in
theorem m_ccp_50_2 {I : zI} {π : Int → Nat} {D : zD}   : zMet 30 [vr 50, vr 2] (I, zPp π, D, 137) none ((zcpC I 50 2), zPp π, D, 137) := by
  refine z_n 4 (8, [(0, vr 50), (1, vr 2)], [vr 3, vr 51], (I, zPp π, D, 137)) rfl trivial ?_
  refine z_cv 3 [vr 51, vr 3] [] rfl (m_copy (n := 24) ⟨rfl, rfl, rfl, rfl⟩ ⟨rfl, rfl, rfl, rfl⟩) ?_
  refine z_n 4 (19, [(0, vr 50), (1, vr 2)], [vr 5, vr 53], ((zcpR I 52 4), zPp π, D, 137)) rfl trivial ?_
  refine z_cv 3 [vr 53, vr 5] [] rfl (m_copy (n := 24) ⟨rfl, rfl, rfl, rfl⟩ ⟨rfl, rfl, rfl, rfl⟩) ?_
  refine z_n 4 (30, [(0, vr 50), (1, vr 2)], [vr 7, vr 55], ((zcpR (zcpR I 52 4) 54 6), zPp π, D, 137)) rfl trivial ?_
  refine z_cv 3 [vr 55, vr 7] [] rfl (m_copy (n := 24) ⟨rfl, rfl, rfl, rfl⟩ ⟨rfl, rfl, rfl, rfl⟩) ?_
  refine z_n 4 (41, [(0, vr 50), (1, vr 2)], [vr 9, vr 57], ((zcpR (zcpR (zcpR I 52 4) 54 6) 56 8), zPp π, D, 137)) rfl trivial ?_
  refine z_cv 55 [vr 57, vr 9] [] rfl (m_rcp_57_9) ?_
  refine z_n 4 (52, [(0, vr 50), (1, vr 2)], [vr 14, vr 62], ((zup (zcpR (zcpR (zcpR (zcpR (zcpR I 52 4) 54 6) 56 8) 59 11) 61 13) 57 2 (I 9 2)), zPp π, D, 137)) rfl trivial ?_
  refine z_cv 49 [vr 62, vr 14] [] rfl (m_lcp_62_14) ?_
  refine z_n 4 (63, [(0, vr 50), (1, vr 2)], [vr 23, vr 71], ((zup (zcpR (zcpR (zcpR (zcpR (zup (zcpR (zcpR (zcpR (zcpR (zcpR I 52 4) 54 6) 56 8) 59 11) 61 13) 57 2 (I 9 2)) 64 16) 66 18) 68 20) 70 22) 62 4 (I 14 4)), zPp π, D, 137)) rfl trivial ?_
  refine z_cv 3 [vr 71, vr 23] [] rfl (m_copy (n := 168) ⟨rfl, rfl, rfl, rfl⟩ ⟨rfl, rfl, rfl, rfl⟩) ?_
  refine z_n 28 (122, [(0, vr 50), (1, vr 2)], [], ((zup (zup (zup (zup (zup (zup (zup (zcpR (zup (zcpR (zcpR (zcpR (zcpR (zup (zcpR (zcpR (zcpR (zcpR (zcpR I 52 4) 54 6) 56 8) 59 11) 61 13) 57 2 (I 9 2)) 64 16) 66 18) 68 20) 70 22) 62 4 (I 14 4)) 72 24) 50 5 (I 2 5)) 50 6 (I 2 6)) 50 7 (I 2 7)) 50 8 (I 2 8)) 50 9 (I 2 9)) 50 10 (I 2 10)) 50 11 (I 2 11)), zPp π, D, 137)) rfl trivial ?_
  exact z_ret rfl rfl (by
    refine congrArg (fun J : zI => ((J, zPp π, D, 137) : zS)) ?_
    funext r j
    by_cases hr : 50 ≤ r ∧ r < 73
    · rcases (by omega : r = 50 ∨ r = 51 ∨ r = 52 ∨ r = 53 ∨ r = 54 ∨ r = 55 ∨ r = 56 ∨ r = 57 ∨ r = 58 ∨ r = 59 ∨ r = 60 ∨ r = 61 ∨ r = 62 ∨ r = 63 ∨ r = 64 ∨ r = 65 ∨ r = 66 ∨ r = 67 ∨ r = 68 ∨ r = 69 ∨ r = 70 ∨ r = 71 ∨ r = 72) with rfl | rfl | rfl | rfl | rfl | rfl | rfl | rfl | rfl | rfl | rfl | rfl | rfl | rfl | rfl | rfl | rfl | rfl | rfl | rfl | rfl | rfl | rfl
      · by_cases hj : 5 ≤ j ∧ j ≤ 11
        · rw [zcpC_in (by decide) (by decide) (by unfold zcm; omega)]
          rcases (by omega : j = 5 ∨ j = 6 ∨ j = 7 ∨ j = 8 ∨ j = 9 ∨ j = 10 ∨ j = 11) with rfl | rfl | rfl | rfl | rfl | rfl | rfl <;> rfl
        · rw [zcpC_no (by unfold zcm; omega)]
          simp only [zup, zcpR]
          simp [show ¬ j = 5 by omega, show ¬ j = 6 by omega, show ¬ j = 7 by omega, show ¬ j = 8 by omega, show ¬ j = 9 by omega, show ¬ j = 10 by omega, show ¬ j = 11 by omega]
      · rw [zcpC_no (by unfold zcm; omega)]; rfl
      · rw [zcpC_in (by decide) (by decide) (by unfold zcm; simp)]; rfl
      · rw [zcpC_no (by unfold zcm; omega)]; rfl
      · rw [zcpC_in (by decide) (by decide) (by unfold zcm; simp)]; rfl
      · rw [zcpC_no (by unfold zcm; omega)]; rfl
      · rw [zcpC_in (by decide) (by decide) (by unfold zcm; simp)]; rfl
      · by_cases hj : j = 2
        · subst hj; rw [zcpC_in (by decide) (by decide) (by unfold zcm; simp)]; rfl
        · rw [zcpC_no (by unfold zcm; omega)]
          simp only [zup, zcpR]
          simp [hj]
      · rw [zcpC_no (by unfold zcm; omega)]; rfl
      · rw [zcpC_in (by decide) (by decide) (by unfold zcm; simp)]; rfl
      · rw [zcpC_no (by unfold zcm; omega)]; rfl
      · rw [zcpC_in (by decide) (by decide) (by unfold zcm; simp)]; rfl
      · by_cases hj : j = 4
        · subst hj; rw [zcpC_in (by decide) (by decide) (by unfold zcm; simp)]; rfl
        · rw [zcpC_no (by unfold zcm; omega)]
          simp only [zup, zcpR]
          simp [hj]
      · rw [zcpC_no (by unfold zcm; omega)]; rfl
      · rw [zcpC_in (by decide) (by decide) (by unfold zcm; simp)]; rfl
      · rw [zcpC_no (by unfold zcm; omega)]; rfl
      · rw [zcpC_in (by decide) (by decide) (by unfold zcm; simp)]; rfl
      · rw [zcpC_no (by unfold zcm; omega)]; rfl
      · rw [zcpC_in (by decide) (by decide) (by unfold zcm; simp)]; rfl
      · rw [zcpC_no (by unfold zcm; omega)]; rfl
      · rw [zcpC_in (by decide) (by decide) (by unfold zcm; simp)]; rfl
      · rw [zcpC_no (by unfold zcm; omega)]; rfl
      · rw [zcpC_in (by decide) (by decide) (by unfold zcm; simp)]; rfl
    · rw [zcpC_out (by omega)]
      simp only [zup, zcpR, show (r = 50) = False by simp; omega, show (r = 52) = False by simp; omega, show (r = 54) = False by simp; omega, show (r = 56) = False by simp; omega, show (r = 57) = False by simp; omega, show (r = 59) = False by simp; omega, show (r = 61) = False by simp; omega, show (r = 62) = False by simp; omega, show (r = 64) = False by simp; omega, show (r = 66) = False by simp; omega, show (r = 68) = False by simp; omega, show (r = 70) = False by simp; omega, show (r = 72) = False by simp; omega, false_and, if_false])
set_option maxRecDepth 20000 in
theorem m_rcp_9_57 {I : zI} {π : Int → Nat} {D : zD}   : zMet 55 [vr 9, vr 57] (I, zPp π, D, 137) none ((zup (zcpR (zcpR I 11 59) 13 61) 9 2 (I 57 2)), zPp π, D, 137) := by
  refine z_n 4 (8, [(0, vr 9), (1, vr 57)], [vr 58, vr 10], (I, zPp π, D, 137)) rfl trivial ?_
  refine z_cv 3 [vr 10, vr 58] [] rfl (m_copy (n := 4) ⟨rfl, rfl, rfl, rfl⟩ ⟨rfl, rfl, rfl, rfl⟩) ?_
  refine z_n 4 (19, [(0, vr 9), (1, vr 57)], [vr 60, vr 12], ((zcpR I 11 59), zPp π, D, 137)) rfl trivial ?_
  refine z_cv 3 [vr 12, vr 60] [] rfl (m_copy (n := 4) ⟨rfl, rfl, rfl, rfl⟩ ⟨rfl, rfl, rfl, rfl⟩) ?_
  refine z_n 4 (30, [(0, vr 9), (1, vr 57)], [], ((zup (zcpR (zcpR I 11 59) 13 61) 9 2 (I 57 2)), zPp π, D, 137)) rfl trivial ?_
  first | exact z_ret rfl rfl rfl | exact z_ret rfl (zv1 (by omega)) rfl | (exfalso; omega)
set_option maxRecDepth 20000 in
theorem m_lcp_14_62 {I : zI} {π : Int → Nat} {D : zD}   : zMet 49 [vr 14, vr 62] (I, zPp π, D, 137) none ((zup (zcpR (zcpR (zcpR (zcpR I 16 64) 18 66) 20 68) 22 70) 14 4 (I 62 4)), zPp π, D, 137) := by
  refine z_n 4 (8, [(0, vr 14), (1, vr 62)], [vr 63, vr 15], (I, zPp π, D, 137)) rfl trivial ?_
  refine z_cv 3 [vr 15, vr 63] [] rfl (m_copy (n := 96) ⟨rfl, rfl, rfl, rfl⟩ ⟨rfl, rfl, rfl, rfl⟩) ?_
  refine z_n 4 (19, [(0, vr 14), (1, vr 62)], [vr 65, vr 17], ((zcpR I 16 64), zPp π, D, 137)) rfl trivial ?_
  refine z_cv 3 [vr 17, vr 65] [] rfl (m_copy (n := 96) ⟨rfl, rfl, rfl, rfl⟩ ⟨rfl, rfl, rfl, rfl⟩) ?_
  refine z_n 4 (30, [(0, vr 14), (1, vr 62)], [vr 67, vr 19], ((zcpR (zcpR I 16 64) 18 66), zPp π, D, 137)) rfl trivial ?_
  refine z_cv 3 [vr 19, vr 67] [] rfl (m_copy (n := 96) ⟨rfl, rfl, rfl, rfl⟩ ⟨rfl, rfl, rfl, rfl⟩) ?_
  refine z_n 4 (41, [(0, vr 14), (1, vr 62)], [vr 69, vr 21], ((zcpR (zcpR (zcpR I 16 64) 18 66) 20 68), zPp π, D, 137)) rfl trivial ?_
  refine z_cv 3 [vr 21, vr 69] [] rfl (m_copy (n := 96) ⟨rfl, rfl, rfl, rfl⟩ ⟨rfl, rfl, rfl, rfl⟩) ?_
  refine z_n 4 (52, [(0, vr 14), (1, vr 62)], [], ((zup (zcpR (zcpR (zcpR (zcpR I 16 64) 18 66) 20 68) 22 70) 14 4 (I 62 4)), zPp π, D, 137)) rfl trivial ?_
  first | exact z_ret rfl rfl rfl | exact z_ret rfl (zv1 (by omega)) rfl | (exfalso; omega)
set_option maxRecDepth 20000 in
theorem m_ccp_2_50 {I : zI} {π : Int → Nat} {D : zD}   : zMet 30 [vr 2, vr 50] (I, zPp π, D, 137) none ((zcpC I 2 50), zPp π, D, 137) := by
  refine z_n 4 (8, [(0, vr 2), (1, vr 50)], [vr 51, vr 3], (I, zPp π, D, 137)) rfl trivial ?_
  refine z_cv 3 [vr 3, vr 51] [] rfl (m_copy (n := 24) ⟨rfl, rfl, rfl, rfl⟩ ⟨rfl, rfl, rfl, rfl⟩) ?_
  refine z_n 4 (19, [(0, vr 2), (1, vr 50)], [vr 53, vr 5], ((zcpR I 4 52), zPp π, D, 137)) rfl trivial ?_
  refine z_cv 3 [vr 5, vr 53] [] rfl (m_copy (n := 24) ⟨rfl, rfl, rfl, rfl⟩ ⟨rfl, rfl, rfl, rfl⟩) ?_
  refine z_n 4 (30, [(0, vr 2), (1, vr 50)], [vr 55, vr 7], ((zcpR (zcpR I 4 52) 6 54), zPp π, D, 137)) rfl trivial ?_
  refine z_cv 3 [vr 7, vr 55] [] rfl (m_copy (n := 24) ⟨rfl, rfl, rfl, rfl⟩ ⟨rfl, rfl, rfl, rfl⟩) ?_
  refine z_n 4 (41, [(0, vr 2), (1, vr 50)], [vr 57, vr 9], ((zcpR (zcpR (zcpR I 4 52) 6 54) 8 56), zPp π, D, 137)) rfl trivial ?_
  refine z_cv 55 [vr 9, vr 57] [] rfl (m_rcp_9_57) ?_
  refine z_n 4 (52, [(0, vr 2), (1, vr 50)], [vr 62, vr 14], ((zup (zcpR (zcpR (zcpR (zcpR (zcpR I 4 52) 6 54) 8 56) 11 59) 13 61) 9 2 (I 57 2)), zPp π, D, 137)) rfl trivial ?_
  refine z_cv 49 [vr 14, vr 62] [] rfl (m_lcp_14_62) ?_
  refine z_n 4 (63, [(0, vr 2), (1, vr 50)], [vr 71, vr 23], ((zup (zcpR (zcpR (zcpR (zcpR (zup (zcpR (zcpR (zcpR (zcpR (zcpR I 4 52) 6 54) 8 56) 11 59) 13 61) 9 2 (I 57 2)) 16 64) 18 66) 20 68) 22 70) 14 4 (I 62 4)), zPp π, D, 137)) rfl trivial ?_
  refine z_cv 3 [vr 23, vr 71] [] rfl (m_copy (n := 168) ⟨rfl, rfl, rfl, rfl⟩ ⟨rfl, rfl, rfl, rfl⟩) ?_
  refine z_n 28 (122, [(0, vr 2), (1, vr 50)], [], ((zup (zup (zup (zup (zup (zup (zup (zcpR (zup (zcpR (zcpR (zcpR (zcpR (zup (zcpR (zcpR (zcpR (zcpR (zcpR I 4 52) 6 54) 8 56) 11 59) 13 61) 9 2 (I 57 2)) 16 64) 18 66) 20 68) 22 70) 14 4 (I 62 4)) 24 72) 2 5 (I 50 5)) 2 6 (I 50 6)) 2 7 (I 50 7)) 2 8 (I 50 8)) 2 9 (I 50 9)) 2 10 (I 50 10)) 2 11 (I 50 11)), zPp π, D, 137)) rfl trivial ?_
  exact z_ret rfl rfl (by
    refine congrArg (fun J : zI => ((J, zPp π, D, 137) : zS)) ?_
    funext r j
    by_cases hr : 2 ≤ r ∧ r < 25
    · rcases (by omega : r = 2 ∨ r = 3 ∨ r = 4 ∨ r = 5 ∨ r = 6 ∨ r = 7 ∨ r = 8 ∨ r = 9 ∨ r = 10 ∨ r = 11 ∨ r = 12 ∨ r = 13 ∨ r = 14 ∨ r = 15 ∨ r = 16 ∨ r = 17 ∨ r = 18 ∨ r = 19 ∨ r = 20 ∨ r = 21 ∨ r = 22 ∨ r = 23 ∨ r = 24) with rfl | rfl | rfl | rfl | rfl | rfl | rfl | rfl | rfl | rfl | rfl | rfl | rfl | rfl | rfl | rfl | rfl | rfl | rfl | rfl | rfl | rfl | rfl
      · by_cases hj : 5 ≤ j ∧ j ≤ 11
        · rw [zcpC_in (by decide) (by decide) (by unfold zcm; omega)]
          rcases (by omega : j = 5 ∨ j = 6 ∨ j = 7 ∨ j = 8 ∨ j = 9 ∨ j = 10 ∨ j = 11) with rfl | rfl | rfl | rfl | rfl | rfl | rfl <;> rfl
        · rw [zcpC_no (by unfold zcm; omega)]
          simp only [zup, zcpR]
          simp [show ¬ j = 5 by omega, show ¬ j = 6 by omega, show ¬ j = 7 by omega, show ¬ j = 8 by omega, show ¬ j = 9 by omega, show ¬ j = 10 by omega, show ¬ j = 11 by omega]
      · rw [zcpC_no (by unfold zcm; omega)]; rfl
      · rw [zcpC_in (by decide) (by decide) (by unfold zcm; simp)]; rfl
      · rw [zcpC_no (by unfold zcm; omega)]; rfl
      · rw [zcpC_in (by decide) (by decide) (by unfold zcm; simp)]; rfl
      · rw [zcpC_no (by unfold zcm; omega)]; rfl
      · rw [zcpC_in (by decide) (by decide) (by unfold zcm; simp)]; rfl
      · by_cases hj : j = 2
        · subst hj; rw [zcpC_in (by decide) (by decide) (by unfold zcm; simp)]; rfl
        · rw [zcpC_no (by unfold zcm; omega)]
          simp only [zup, zcpR]
          simp [hj]
      · rw [zcpC_no (by unfold zcm; omega)]; rfl
      · rw [zcpC_in (by decide) (by decide) (by unfold zcm; simp)]; rfl
      · rw [zcpC_no (by unfold zcm; omega)]; rfl
      · rw [zcpC_in (by decide) (by decide) (by unfold zcm; simp)]; rfl
      · by_cases hj : j = 4
        · subst hj; rw [zcpC_in (by decide) (by decide) (by unfold zcm; simp)]; rfl
        · rw [zcpC_no (by unfold zcm; omega)]
          simp only [zup, zcpR]
          simp [hj]
      · rw [zcpC_no (by unfold zcm; omega)]; rfl
      · rw [zcpC_in (by decide) (by decide) (by unfold zcm; simp)]; rfl
      · rw [zcpC_no (by unfold zcm; omega)]; rfl
      · rw [zcpC_in (by decide) (by decide) (by unfold zcm; simp)]; rfl
      · rw [zcpC_no (by unfold zcm; omega)]; rfl
      · rw [zcpC_in (by decide) (by decide) (by unfold zcm; simp)]; rfl
      · rw [zcpC_no (by unfold zcm; omega)]; rfl
      · rw [zcpC_in (by decide) (by decide) (by unfold zcm; simp)]; rfl
      · rw [zcpC_no (by unfold zcm; omega)]; rfl
      · rw [zcpC_in (by decide) (by decide) (by unfold zcm; simp)]; rfl
    · rw [zcpC_out (by omega)]
      simp only [zup, zcpR, show (r = 2) = False by simp; omega, show (r = 4) = False by simp; omega, show (r = 6) = False by simp; omega, show (r = 8) = False by simp; omega, show (r = 9) = False by simp; omega, show (r = 11) = False by simp; omega, show (r = 13) = False by simp; omega, show (r = 14) = False by simp; omega, show (r = 16) = False by simp; omega, show (r = 18) = False by simp; omega, show (r = 20) = False by simp; omega, show (r = 22) = False by simp; omega, show (r = 24) = False by simp; omega, false_and, if_false])
set_option maxRecDepth 20000 in
theorem m_rcp_80_9 {I : zI} {π : Int → Nat} {D : zD}   : zMet 55 [vr 80, vr 9] (I, zPp π, D, 137) none ((zup (zcpR (zcpR I 82 11) 84 13) 80 2 (I 9 2)), zPp π, D, 137) := by
  refine z_n 4 (8, [(0, vr 80), (1, vr 9)], [vr 10, vr 81], (I, zPp π, D, 137)) rfl trivial ?_
  refine z_cv 3 [vr 81, vr 10] [] rfl (m_copy (n := 4) ⟨rfl, rfl, rfl, rfl⟩ ⟨rfl, rfl, rfl, rfl⟩) ?_
  refine z_n 4 (19, [(0, vr 80), (1, vr 9)], [vr 12, vr 83], ((zcpR I 82 11), zPp π, D, 137)) rfl trivial ?_
  refine z_cv 3 [vr 83, vr 12] [] rfl (m_copy (n := 4) ⟨rfl, rfl, rfl, rfl⟩ ⟨rfl, rfl, rfl, rfl⟩) ?_
  refine z_n 4 (30, [(0, vr 80), (1, vr 9)], [], ((zup (zcpR (zcpR I 82 11) 84 13) 80 2 (I 9 2)), zPp π, D, 137)) rfl trivial ?_
  first | exact z_ret rfl rfl rfl | exact z_ret rfl (zv1 (by omega)) rfl | (exfalso; omega)
set_option maxRecDepth 20000 in
theorem m_lcp_85_14 {I : zI} {π : Int → Nat} {D : zD}   : zMet 49 [vr 85, vr 14] (I, zPp π, D, 137) none ((zup (zcpR (zcpR (zcpR (zcpR I 87 16) 89 18) 91 20) 93 22) 85 4 (I 14 4)), zPp π, D, 137) := by
  refine z_n 4 (8, [(0, vr 85), (1, vr 14)], [vr 15, vr 86], (I, zPp π, D, 137)) rfl trivial ?_
  refine z_cv 3 [vr 86, vr 15] [] rfl (m_copy (n := 96) ⟨rfl, rfl, rfl, rfl⟩ ⟨rfl, rfl, rfl, rfl⟩) ?_
  refine z_n 4 (19, [(0, vr 85), (1, vr 14)], [vr 17, vr 88], ((zcpR I 87 16), zPp π, D, 137)) rfl trivial ?_
  refine z_cv 3 [vr 88, vr 17] [] rfl (m_copy (n := 96) ⟨rfl, rfl, rfl, rfl⟩ ⟨rfl, rfl, rfl, rfl⟩) ?_
  refine z_n 4 (30, [(0, vr 85), (1, vr 14)], [vr 19, vr 90], ((zcpR (zcpR I 87 16) 89 18), zPp π, D, 137)) rfl trivial ?_
  refine z_cv 3 [vr 90, vr 19] [] rfl (m_copy (n := 96) ⟨rfl, rfl, rfl, rfl⟩ ⟨rfl, rfl, rfl, rfl⟩) ?_
  refine z_n 4 (41, [(0, vr 85), (1, vr 14)], [vr 21, vr 92], ((zcpR (zcpR (zcpR I 87 16) 89 18) 91 20), zPp π, D, 137)) rfl trivial ?_
  refine z_cv 3 [vr 92, vr 21] [] rfl (m_copy (n := 96) ⟨rfl, rfl, rfl, rfl⟩ ⟨rfl, rfl, rfl, rfl⟩) ?_
  refine z_n 4 (52, [(0, vr 85), (1, vr 14)], [], ((zup (zcpR (zcpR (zcpR (zcpR I 87 16) 89 18) 91 20) 93 22) 85 4 (I 14 4)), zPp π, D, 137)) rfl trivial ?_
  first | exact z_ret rfl rfl rfl | exact z_ret rfl (zv1 (by omega)) rfl | (exfalso; omega)
set_option maxRecDepth 20000 in
theorem m_ccp_73_2 {I : zI} {π : Int → Nat} {D : zD}   : zMet 30 [vr 73, vr 2] (I, zPp π, D, 137) none ((zcpC I 73 2), zPp π, D, 137) := by
  refine z_n 4 (8, [(0, vr 73), (1, vr 2)], [vr 3, vr 74], (I, zPp π, D, 137)) rfl trivial ?_
  refine z_cv 3 [vr 74, vr 3] [] rfl (m_copy (n := 24) ⟨rfl, rfl, rfl, rfl⟩ ⟨rfl, rfl, rfl, rfl⟩) ?_
  refine z_n 4 (19, [(0, vr 73), (1, vr 2)], [vr 5, vr 76], ((zcpR I 75 4), zPp π, D, 137)) rfl trivial ?_
  refine z_cv 3 [vr 76, vr 5] [] rfl (m_copy (n := 24) ⟨rfl, rfl, rfl, rfl⟩ ⟨rfl, rfl, rfl, rfl⟩) ?_
  refine z_n 4 (30, [(0, vr 73), (1, vr 2)], [vr 7, vr 78], ((zcpR (zcpR I 75 4) 77 6), zPp π, D, 137)) rfl trivial ?_
  refine z_cv 3 [vr 78, vr 7] [] rfl (m_copy (n := 24) ⟨rfl, rfl, rfl, rfl⟩ ⟨rfl, rfl, rfl, rfl⟩) ?_
  refine z_n 4 (41, [(0, vr 73), (1, vr 2)], [vr 9, vr 80], ((zcpR (zcpR (zcpR I 75 4) 77 6) 79 8), zPp π, D, 137)) rfl trivial ?_
  refine z_cv 55 [vr 80, vr 9] [] rfl (m_rcp_80_9) ?_
  refine z_n 4 (52, [(0, vr 73), (1, vr 2)], [vr 14, vr 85], ((zup (zcpR (zcpR (zcpR (zcpR (zcpR I 75 4) 77 6) 79 8) 82 11) 84 13) 80 2 (I 9 2)), zPp π, D, 137)) rfl trivial ?_
  refine z_cv 49 [vr 85, vr 14] [] rfl (m_lcp_85_14) ?_
  refine z_n 4 (63, [(0, vr 73), (1, vr 2)], [vr 23, vr 94], ((zup (zcpR (zcpR (zcpR (zcpR (zup (zcpR (zcpR (zcpR (zcpR (zcpR I 75 4) 77 6) 79 8) 82 11) 84 13) 80 2 (I 9 2)) 87 16) 89 18) 91 20) 93 22) 85 4 (I 14 4)), zPp π, D, 137)) rfl trivial ?_
  refine z_cv 3 [vr 94, vr 23] [] rfl (m_copy (n := 168) ⟨rfl, rfl, rfl, rfl⟩ ⟨rfl, rfl, rfl, rfl⟩) ?_
  refine z_n 28 (122, [(0, vr 73), (1, vr 2)], [], ((zup (zup (zup (zup (zup (zup (zup (zcpR (zup (zcpR (zcpR (zcpR (zcpR (zup (zcpR (zcpR (zcpR (zcpR (zcpR I 75 4) 77 6) 79 8) 82 11) 84 13) 80 2 (I 9 2)) 87 16) 89 18) 91 20) 93 22) 85 4 (I 14 4)) 95 24) 73 5 (I 2 5)) 73 6 (I 2 6)) 73 7 (I 2 7)) 73 8 (I 2 8)) 73 9 (I 2 9)) 73 10 (I 2 10)) 73 11 (I 2 11)), zPp π, D, 137)) rfl trivial ?_
  exact z_ret rfl rfl (by
    refine congrArg (fun J : zI => ((J, zPp π, D, 137) : zS)) ?_
    funext r j
    by_cases hr : 73 ≤ r ∧ r < 96
    · rcases (by omega : r = 73 ∨ r = 74 ∨ r = 75 ∨ r = 76 ∨ r = 77 ∨ r = 78 ∨ r = 79 ∨ r = 80 ∨ r = 81 ∨ r = 82 ∨ r = 83 ∨ r = 84 ∨ r = 85 ∨ r = 86 ∨ r = 87 ∨ r = 88 ∨ r = 89 ∨ r = 90 ∨ r = 91 ∨ r = 92 ∨ r = 93 ∨ r = 94 ∨ r = 95) with rfl | rfl | rfl | rfl | rfl | rfl | rfl | rfl | rfl | rfl | rfl | rfl | rfl | rfl | rfl | rfl | rfl | rfl | rfl | rfl | rfl | rfl | rfl
      · by_cases hj : 5 ≤ j ∧ j ≤ 11
        · rw [zcpC_in (by decide) (by decide) (by unfold zcm; omega)]
          rcases (by omega : j = 5 ∨ j = 6 ∨ j = 7 ∨ j = 8 ∨ j = 9 ∨ j = 10 ∨ j = 11) with rfl | rfl | rfl | rfl | rfl | rfl | rfl <;> rfl
        · rw [zcpC_no (by unfold zcm; omega)]
          simp only [zup, zcpR]
          simp [show ¬ j = 5 by omega, show ¬ j = 6 by omega, show ¬ j = 7 by omega, show ¬ j = 8 by omega, show ¬ j = 9 by omega, show ¬ j = 10 by omega, show ¬ j = 11 by omega]
      · rw [zcpC_no (by unfold zcm; omega)]; rfl
      · rw [zcpC_in (by decide) (by decide) (by unfold zcm; simp)]; rfl
      · rw [zcpC_no (by unfold zcm; omega)]; rfl
      · rw [zcpC_in (by decide) (by decide) (by unfold zcm; simp)]; rfl
      · rw [zcpC_no (by unfold zcm; omega)]; rfl
      · rw [zcpC_in (by decide) (by decide) (by unfold zcm; simp)]; rfl
      · by_cases hj : j = 2
        · subst hj; rw [zcpC_in (by decide) (by decide) (by unfold zcm; simp)]; rfl
        · rw [zcpC_no (by unfold zcm; omega)]
          simp only [zup, zcpR]
          simp [hj]
      · rw [zcpC_no (by unfold zcm; omega)]; rfl
      · rw [zcpC_in (by decide) (by decide) (by unfold zcm; simp)]; rfl
      · rw [zcpC_no (by unfold zcm; omega)]; rfl
      · rw [zcpC_in (by decide) (by decide) (by unfold zcm; simp)]; rfl
      · by_cases hj : j = 4
        · subst hj; rw [zcpC_in (by decide) (by decide) (by unfold zcm; simp)]; rfl
        · rw [zcpC_no (by unfold zcm; omega)]
          simp only [zup, zcpR]
          simp [hj]
      · rw [zcpC_no (by unfold zcm; omega)]; rfl
      · rw [zcpC_in (by decide) (by decide) (by unfold zcm; simp)]; rfl
      · rw [zcpC_no (by unfold zcm; omega)]; rfl
      · rw [zcpC_in (by decide) (by decide) (by unfold zcm; simp)]; rfl
      · rw [zcpC_no (by unfold zcm; omega)]; rfl
      · rw [zcpC_in (by decide) (by decide) (by unfold zcm; simp)]; rfl
      · rw [zcpC_no (by unfold zcm; omega)]; rfl
      · rw [zcpC_in (by decide) (by decide) (by unfold zcm; simp)]; rfl
      · rw [zcpC_no (by unfold zcm; omega)]; rfl
      · rw [zcpC_in (by decide) (by decide) (by unfold zcm; simp)]; rfl
    · rw [zcpC_out (by omega)]
      simp only [zup, zcpR, show (r = 73) = False by simp; omega, show (r = 75) = False by simp; omega, show (r = 77) = False by simp; omega, show (r = 79) = False by simp; omega, show (r = 80) = False by simp; omega, show (r = 82) = False by simp; omega, show (r = 84) = False by simp; omega, show (r = 85) = False by simp; omega, show (r = 87) = False by simp; omega, show (r = 89) = False by simp; omega, show (r = 91) = False by simp; omega, show (r = 93) = False by simp; omega, show (r = 95) = False by simp; omega, false_and, if_false])
set_option maxRecDepth 20000 in
theorem m_rcp_9_80 {I : zI} {π : Int → Nat} {D : zD}   : zMet 55 [vr 9, vr 80] (I, zPp π, D, 137) none ((zup (zcpR (zcpR I 11 82) 13 84) 9 2 (I 80 2)), zPp π, D, 137) := by
  refine z_n 4 (8, [(0, vr 9), (1, vr 80)], [vr 81, vr 10], (I, zPp π, D, 137)) rfl trivial ?_
  refine z_cv 3 [vr 10, vr 81] [] rfl (m_copy (n := 4) ⟨rfl, rfl, rfl, rfl⟩ ⟨rfl, rfl, rfl, rfl⟩) ?_
  refine z_n 4 (19, [(0, vr 9), (1, vr 80)], [vr 83, vr 12], ((zcpR I 11 82), zPp π, D, 137)) rfl trivial ?_
  refine z_cv 3 [vr 12, vr 83] [] rfl (m_copy (n := 4) ⟨rfl, rfl, rfl, rfl⟩ ⟨rfl, rfl, rfl, rfl⟩) ?_
  refine z_n 4 (30, [(0, vr 9), (1, vr 80)], [], ((zup (zcpR (zcpR I 11 82) 13 84) 9 2 (I 80 2)), zPp π, D, 137)) rfl trivial ?_
  first | exact z_ret rfl rfl rfl | exact z_ret rfl (zv1 (by omega)) rfl | (exfalso; omega)
set_option maxRecDepth 20000 in
theorem m_lcp_14_85 {I : zI} {π : Int → Nat} {D : zD}   : zMet 49 [vr 14, vr 85] (I, zPp π, D, 137) none ((zup (zcpR (zcpR (zcpR (zcpR I 16 87) 18 89) 20 91) 22 93) 14 4 (I 85 4)), zPp π, D, 137) := by
  refine z_n 4 (8, [(0, vr 14), (1, vr 85)], [vr 86, vr 15], (I, zPp π, D, 137)) rfl trivial ?_
  refine z_cv 3 [vr 15, vr 86] [] rfl (m_copy (n := 96) ⟨rfl, rfl, rfl, rfl⟩ ⟨rfl, rfl, rfl, rfl⟩) ?_
  refine z_n 4 (19, [(0, vr 14), (1, vr 85)], [vr 88, vr 17], ((zcpR I 16 87), zPp π, D, 137)) rfl trivial ?_
  refine z_cv 3 [vr 17, vr 88] [] rfl (m_copy (n := 96) ⟨rfl, rfl, rfl, rfl⟩ ⟨rfl, rfl, rfl, rfl⟩) ?_
  refine z_n 4 (30, [(0, vr 14), (1, vr 85)], [vr 90, vr 19], ((zcpR (zcpR I 16 87) 18 89), zPp π, D, 137)) rfl trivial ?_
  refine z_cv 3 [vr 19, vr 90] [] rfl (m_copy (n := 96) ⟨rfl, rfl, rfl, rfl⟩ ⟨rfl, rfl, rfl, rfl⟩) ?_
  refine z_n 4 (41, [(0, vr 14), (1, vr 85)], [vr 92, vr 21], ((zcpR (zcpR (zcpR I 16 87) 18 89) 20 91), zPp π, D, 137)) rfl trivial ?_
  refine z_cv 3 [vr 21, vr 92] [] rfl (m_copy (n := 96) ⟨rfl, rfl, rfl, rfl⟩ ⟨rfl, rfl, rfl, rfl⟩) ?_
  refine z_n 4 (52, [(0, vr 14), (1, vr 85)], [], ((zup (zcpR (zcpR (zcpR (zcpR I 16 87) 18 89) 20 91) 22 93) 14 4 (I 85 4)), zPp π, D, 137)) rfl trivial ?_
  first | exact z_ret rfl rfl rfl | exact z_ret rfl (zv1 (by omega)) rfl | (exfalso; omega)
set_option maxRecDepth 20000 in
theorem m_ccp_2_73 {I : zI} {π : Int → Nat} {D : zD}   : zMet 30 [vr 2, vr 73] (I, zPp π, D, 137) none ((zcpC I 2 73), zPp π, D, 137) := by
  refine z_n 4 (8, [(0, vr 2), (1, vr 73)], [vr 74, vr 3], (I, zPp π, D, 137)) rfl trivial ?_
  refine z_cv 3 [vr 3, vr 74] [] rfl (m_copy (n := 24) ⟨rfl, rfl, rfl, rfl⟩ ⟨rfl, rfl, rfl, rfl⟩) ?_
  refine z_n 4 (19, [(0, vr 2), (1, vr 73)], [vr 76, vr 5], ((zcpR I 4 75), zPp π, D, 137)) rfl trivial ?_
  refine z_cv 3 [vr 5, vr 76] [] rfl (m_copy (n := 24) ⟨rfl, rfl, rfl, rfl⟩ ⟨rfl, rfl, rfl, rfl⟩) ?_
  refine z_n 4 (30, [(0, vr 2), (1, vr 73)], [vr 78, vr 7], ((zcpR (zcpR I 4 75) 6 77), zPp π, D, 137)) rfl trivial ?_
  refine z_cv 3 [vr 7, vr 78] [] rfl (m_copy (n := 24) ⟨rfl, rfl, rfl, rfl⟩ ⟨rfl, rfl, rfl, rfl⟩) ?_
  refine z_n 4 (41, [(0, vr 2), (1, vr 73)], [vr 80, vr 9], ((zcpR (zcpR (zcpR I 4 75) 6 77) 8 79), zPp π, D, 137)) rfl trivial ?_
  refine z_cv 55 [vr 9, vr 80] [] rfl (m_rcp_9_80) ?_
  refine z_n 4 (52, [(0, vr 2), (1, vr 73)], [vr 85, vr 14], ((zup (zcpR (zcpR (zcpR (zcpR (zcpR I 4 75) 6 77) 8 79) 11 82) 13 84) 9 2 (I 80 2)), zPp π, D, 137)) rfl trivial ?_
  refine z_cv 49 [vr 14, vr 85] [] rfl (m_lcp_14_85) ?_
  refine z_n 4 (63, [(0, vr 2), (1, vr 73)], [vr 94, vr 23], ((zup (zcpR (zcpR (zcpR (zcpR (zup (zcpR (zcpR (zcpR (zcpR (zcpR I 4 75) 6 77) 8 79) 11 82) 13 84) 9 2 (I 80 2)) 16 87) 18 89) 20 91) 22 93) 14 4 (I 85 4)), zPp π, D, 137)) rfl trivial ?_
  refine z_cv 3 [vr 23, vr 94] [] rfl (m_copy (n := 168) ⟨rfl, rfl, rfl, rfl⟩ ⟨rfl, rfl, rfl, rfl⟩) ?_
  refine z_n 28 (122, [(0, vr 2), (1, vr 73)], [], ((zup (zup (zup (zup (zup (zup (zup (zcpR (zup (zcpR (zcpR (zcpR (zcpR (zup (zcpR (zcpR (zcpR (zcpR (zcpR I 4 75) 6 77) 8 79) 11 82) 13 84) 9 2 (I 80 2)) 16 87) 18 89) 20 91) 22 93) 14 4 (I 85 4)) 24 95) 2 5 (I 73 5)) 2 6 (I 73 6)) 2 7 (I 73 7)) 2 8 (I 73 8)) 2 9 (I 73 9)) 2 10 (I 73 10)) 2 11 (I 73 11)), zPp π, D, 137)) rfl trivial ?_
  exact z_ret rfl rfl (by
    refine congrArg (fun J : zI => ((J, zPp π, D, 137) : zS)) ?_
    funext r j
    by_cases hr : 2 ≤ r ∧ r < 25
    · rcases (by omega : r = 2 ∨ r = 3 ∨ r = 4 ∨ r = 5 ∨ r = 6 ∨ r = 7 ∨ r = 8 ∨ r = 9 ∨ r = 10 ∨ r = 11 ∨ r = 12 ∨ r = 13 ∨ r = 14 ∨ r = 15 ∨ r = 16 ∨ r = 17 ∨ r = 18 ∨ r = 19 ∨ r = 20 ∨ r = 21 ∨ r = 22 ∨ r = 23 ∨ r = 24) with rfl | rfl | rfl | rfl | rfl | rfl | rfl | rfl | rfl | rfl | rfl | rfl | rfl | rfl | rfl | rfl | rfl | rfl | rfl | rfl | rfl | rfl | rfl
      · by_cases hj : 5 ≤ j ∧ j ≤ 11
        · rw [zcpC_in (by decide) (by decide) (by unfold zcm; omega)]
          rcases (by omega : j = 5 ∨ j = 6 ∨ j = 7 ∨ j = 8 ∨ j = 9 ∨ j = 10 ∨ j = 11) with rfl | rfl | rfl | rfl | rfl | rfl | rfl <;> rfl
        · rw [zcpC_no (by unfold zcm; omega)]
          simp only [zup, zcpR]
          simp [show ¬ j = 5 by omega, show ¬ j = 6 by omega, show ¬ j = 7 by omega, show ¬ j = 8 by omega, show ¬ j = 9 by omega, show ¬ j = 10 by omega, show ¬ j = 11 by omega]
      · rw [zcpC_no (by unfold zcm; omega)]; rfl
      · rw [zcpC_in (by decide) (by decide) (by unfold zcm; simp)]; rfl
      · rw [zcpC_no (by unfold zcm; omega)]; rfl
      · rw [zcpC_in (by decide) (by decide) (by unfold zcm; simp)]; rfl
      · rw [zcpC_no (by unfold zcm; omega)]; rfl
      · rw [zcpC_in (by decide) (by decide) (by unfold zcm; simp)]; rfl
      · by_cases hj : j = 2
        · subst hj; rw [zcpC_in (by decide) (by decide) (by unfold zcm; simp)]; rfl
        · rw [zcpC_no (by unfold zcm; omega)]
          simp only [zup, zcpR]
          simp [hj]
      · rw [zcpC_no (by unfold zcm; omega)]; rfl
      · rw [zcpC_in (by decide) (by decide) (by unfold zcm; simp)]; rfl
      · rw [zcpC_no (by unfold zcm; omega)]; rfl
      · rw [zcpC_in (by decide) (by decide) (by unfold zcm; simp)]; rfl
      · by_cases hj : j = 4
        · subst hj; rw [zcpC_in (by decide) (by decide) (by unfold zcm; simp)]; rfl
        · rw [zcpC_no (by unfold zcm; omega)]
          simp only [zup, zcpR]
          simp [hj]
      · rw [zcpC_no (by unfold zcm; omega)]; rfl
      · rw [zcpC_in (by decide) (by decide) (by unfold zcm; simp)]; rfl
      · rw [zcpC_no (by unfold zcm; omega)]; rfl
      · rw [zcpC_in (by decide) (by decide) (by unfold zcm; simp)]; rfl
      · rw [zcpC_no (by unfold zcm; omega)]; rfl
      · rw [zcpC_in (by decide) (by decide) (by unfold zcm; simp)]; rfl
      · rw [zcpC_no (by unfold zcm; omega)]; rfl
      · rw [zcpC_in (by decide) (by decide) (by unfold zcm; simp)]; rfl
      · rw [zcpC_no (by unfold zcm; omega)]; rfl
      · rw [zcpC_in (by decide) (by decide) (by unfold zcm; simp)]; rfl
    · rw [zcpC_out (by omega)]
      simp only [zup, zcpR, show (r = 2) = False by simp; omega, show (r = 4) = False by simp; omega, show (r = 6) = False by simp; omega, show (r = 8) = False by simp; omega, show (r = 9) = False by simp; omega, show (r = 11) = False by simp; omega, show (r = 13) = False by simp; omega, show (r = 14) = False by simp; omega, show (r = 16) = False by simp; omega, show (r = 18) = False by simp; omega, show (r = 20) = False by simp; omega, show (r = 22) = False by simp; omega, show (r = 24) = False by simp; omega, false_and, if_false])
set_option maxRecDepth 20000 in
theorem m_rcp_103_9 {I : zI} {π : Int → Nat} {D : zD}   : zMet 55 [vr 103, vr 9] (I, zPp π, D, 137) none ((zup (zcpR (zcpR I 105 11) 107 13) 103 2 (I 9 2)), zPp π, D, 137) := by
  refine z_n 4 (8, [(0, vr 103), (1, vr 9)], [vr 10, vr 104], (I, zPp π, D, 137)) rfl trivial ?_
  refine z_cv 3 [vr 104, vr 10] [] rfl (m_copy (n := 4) ⟨rfl, rfl, rfl, rfl⟩ ⟨rfl, rfl, rfl, rfl⟩) ?_
  refine z_n 4 (19, [(0, vr 103), (1, vr 9)], [vr 12, vr 106], ((zcpR I 105 11), zPp π, D, 137)) rfl trivial ?_
  refine z_cv 3 [vr 106, vr 12] [] rfl (m_copy (n := 4) ⟨rfl, rfl, rfl, rfl⟩ ⟨rfl, rfl, rfl, rfl⟩) ?_
  refine z_n 4 (30, [(0, vr 103), (1, vr 9)], [], ((zup (zcpR (zcpR I 105 11) 107 13) 103 2 (I 9 2)), zPp π, D, 137)) rfl trivial ?_
  first | exact z_ret rfl rfl rfl | exact z_ret rfl (zv1 (by omega)) rfl | (exfalso; omega)
set_option maxRecDepth 20000 in
theorem m_lcp_108_14 {I : zI} {π : Int → Nat} {D : zD}   : zMet 49 [vr 108, vr 14] (I, zPp π, D, 137) none ((zup (zcpR (zcpR (zcpR (zcpR I 110 16) 112 18) 114 20) 116 22) 108 4 (I 14 4)), zPp π, D, 137) := by
  refine z_n 4 (8, [(0, vr 108), (1, vr 14)], [vr 15, vr 109], (I, zPp π, D, 137)) rfl trivial ?_
  refine z_cv 3 [vr 109, vr 15] [] rfl (m_copy (n := 96) ⟨rfl, rfl, rfl, rfl⟩ ⟨rfl, rfl, rfl, rfl⟩) ?_
  refine z_n 4 (19, [(0, vr 108), (1, vr 14)], [vr 17, vr 111], ((zcpR I 110 16), zPp π, D, 137)) rfl trivial ?_
  refine z_cv 3 [vr 111, vr 17] [] rfl (m_copy (n := 96) ⟨rfl, rfl, rfl, rfl⟩ ⟨rfl, rfl, rfl, rfl⟩) ?_
  refine z_n 4 (30, [(0, vr 108), (1, vr 14)], [vr 19, vr 113], ((zcpR (zcpR I 110 16) 112 18), zPp π, D, 137)) rfl trivial ?_
  refine z_cv 3 [vr 113, vr 19] [] rfl (m_copy (n := 96) ⟨rfl, rfl, rfl, rfl⟩ ⟨rfl, rfl, rfl, rfl⟩) ?_
  refine z_n 4 (41, [(0, vr 108), (1, vr 14)], [vr 21, vr 115], ((zcpR (zcpR (zcpR I 110 16) 112 18) 114 20), zPp π, D, 137)) rfl trivial ?_
  refine z_cv 3 [vr 115, vr 21] [] rfl (m_copy (n := 96) ⟨rfl, rfl, rfl, rfl⟩ ⟨rfl, rfl, rfl, rfl⟩) ?_
  refine z_n 4 (52, [(0, vr 108), (1, vr 14)], [], ((zup (zcpR (zcpR (zcpR (zcpR I 110 16) 112 18) 114 20) 116 22) 108 4 (I 14 4)), zPp π, D, 137)) rfl trivial ?_
  first | exact z_ret rfl rfl rfl | exact z_ret rfl (zv1 (by omega)) rfl | (exfalso; omega)
set_option maxRecDepth 20000 in
theorem m_ccp_96_2 {I : zI} {π : Int → Nat} {D : zD}   : zMet 30 [vr 96, vr 2] (I, zPp π, D, 137) none ((zcpC I 96 2), zPp π, D, 137) := by
  refine z_n 4 (8, [(0, vr 96), (1, vr 2)], [vr 3, vr 97], (I, zPp π, D, 137)) rfl trivial ?_
  refine z_cv 3 [vr 97, vr 3] [] rfl (m_copy (n := 24) ⟨rfl, rfl, rfl, rfl⟩ ⟨rfl, rfl, rfl, rfl⟩) ?_
  refine z_n 4 (19, [(0, vr 96), (1, vr 2)], [vr 5, vr 99], ((zcpR I 98 4), zPp π, D, 137)) rfl trivial ?_
  refine z_cv 3 [vr 99, vr 5] [] rfl (m_copy (n := 24) ⟨rfl, rfl, rfl, rfl⟩ ⟨rfl, rfl, rfl, rfl⟩) ?_
  refine z_n 4 (30, [(0, vr 96), (1, vr 2)], [vr 7, vr 101], ((zcpR (zcpR I 98 4) 100 6), zPp π, D, 137)) rfl trivial ?_
  refine z_cv 3 [vr 101, vr 7] [] rfl (m_copy (n := 24) ⟨rfl, rfl, rfl, rfl⟩ ⟨rfl, rfl, rfl, rfl⟩) ?_
  refine z_n 4 (41, [(0, vr 96), (1, vr 2)], [vr 9, vr 103], ((zcpR (zcpR (zcpR I 98 4) 100 6) 102 8), zPp π, D, 137)) rfl trivial ?_
  refine z_cv 55 [vr 103, vr 9] [] rfl (m_rcp_103_9) ?_
  refine z_n 4 (52, [(0, vr 96), (1, vr 2)], [vr 14, vr 108], ((zup (zcpR (zcpR (zcpR (zcpR (zcpR I 98 4) 100 6) 102 8) 105 11) 107 13) 103 2 (I 9 2)), zPp π, D, 137)) rfl trivial ?_
  refine z_cv 49 [vr 108, vr 14] [] rfl (m_lcp_108_14) ?_
  refine z_n 4 (63, [(0, vr 96), (1, vr 2)], [vr 23, vr 117], ((zup (zcpR (zcpR (zcpR (zcpR (zup (zcpR (zcpR (zcpR (zcpR (zcpR I 98 4) 100 6) 102 8) 105 11) 107 13) 103 2 (I 9 2)) 110 16) 112 18) 114 20) 116 22) 108 4 (I 14 4)), zPp π, D, 137)) rfl trivial ?_
  refine z_cv 3 [vr 117, vr 23] [] rfl (m_copy (n := 168) ⟨rfl, rfl, rfl, rfl⟩ ⟨rfl, rfl, rfl, rfl⟩) ?_
  refine z_n 28 (122, [(0, vr 96), (1, vr 2)], [], ((zup (zup (zup (zup (zup (zup (zup (zcpR (zup (zcpR (zcpR (zcpR (zcpR (zup (zcpR (zcpR (zcpR (zcpR (zcpR I 98 4) 100 6) 102 8) 105 11) 107 13) 103 2 (I 9 2)) 110 16) 112 18) 114 20) 116 22) 108 4 (I 14 4)) 118 24) 96 5 (I 2 5)) 96 6 (I 2 6)) 96 7 (I 2 7)) 96 8 (I 2 8)) 96 9 (I 2 9)) 96 10 (I 2 10)) 96 11 (I 2 11)), zPp π, D, 137)) rfl trivial ?_
  exact z_ret rfl rfl (by
    refine congrArg (fun J : zI => ((J, zPp π, D, 137) : zS)) ?_
    funext r j
    by_cases hr : 96 ≤ r ∧ r < 119
    · rcases (by omega : r = 96 ∨ r = 97 ∨ r = 98 ∨ r = 99 ∨ r = 100 ∨ r = 101 ∨ r = 102 ∨ r = 103 ∨ r = 104 ∨ r = 105 ∨ r = 106 ∨ r = 107 ∨ r = 108 ∨ r = 109 ∨ r = 110 ∨ r = 111 ∨ r = 112 ∨ r = 113 ∨ r = 114 ∨ r = 115 ∨ r = 116 ∨ r = 117 ∨ r = 118) with rfl | rfl | rfl | rfl | rfl | rfl | rfl | rfl | rfl | rfl | rfl | rfl | rfl | rfl | rfl | rfl | rfl | rfl | rfl | rfl | rfl | rfl | rfl
      · by_cases hj : 5 ≤ j ∧ j ≤ 11
        · rw [zcpC_in (by decide) (by decide) (by unfold zcm; omega)]
          rcases (by omega : j = 5 ∨ j = 6 ∨ j = 7 ∨ j = 8 ∨ j = 9 ∨ j = 10 ∨ j = 11) with rfl | rfl | rfl | rfl | rfl | rfl | rfl <;> rfl
        · rw [zcpC_no (by unfold zcm; omega)]
          simp only [zup, zcpR]
          simp [show ¬ j = 5 by omega, show ¬ j = 6 by omega, show ¬ j = 7 by omega, show ¬ j = 8 by omega, show ¬ j = 9 by omega, show ¬ j = 10 by omega, show ¬ j = 11 by omega]
      · rw [zcpC_no (by unfold zcm; omega)]; rfl
      · rw [zcpC_in (by decide) (by decide) (by unfold zcm; simp)]; rfl
      · rw [zcpC_no (by unfold zcm; omega)]; rfl
      · rw [zcpC_in (by decide) (by decide) (by unfold zcm; simp)]; rfl
      · rw [zcpC_no (by unfold zcm; omega)]; rfl
      · rw [zcpC_in (by decide) (by decide) (by unfold zcm; simp)]; rfl
      · by_cases hj : j = 2
        · subst hj; rw [zcpC_in (by decide) (by decide) (by unfold zcm; simp)]; rfl
        · rw [zcpC_no (by unfold zcm; omega)]
          simp only [zup, zcpR]
          simp [hj]
      · rw [zcpC_no (by unfold zcm; omega)]; rfl
      · rw [zcpC_in (by decide) (by decide) (by unfold zcm; simp)]; rfl
      · rw [zcpC_no (by unfold zcm; omega)]; rfl
      · rw [zcpC_in (by decide) (by decide) (by unfold zcm; simp)]; rfl
      · by_cases hj : j = 4
        · subst hj; rw [zcpC_in (by decide) (by decide) (by unfold zcm; simp)]; rfl
        · rw [zcpC_no (by unfold zcm; omega)]
          simp only [zup, zcpR]
          simp [hj]
      · rw [zcpC_no (by unfold zcm; omega)]; rfl
      · rw [zcpC_in (by decide) (by decide) (by unfold zcm; simp)]; rfl
      · rw [zcpC_no (by unfold zcm; omega)]; rfl
      · rw [zcpC_in (by decide) (by decide) (by unfold zcm; simp)]; rfl
      · rw [zcpC_no (by unfold zcm; omega)]; rfl
      · rw [zcpC_in (by decide) (by decide) (by unfold zcm; simp)]; rfl
      · rw [zcpC_no (by unfold zcm; omega)]; rfl
      · rw [zcpC_in (by decide) (by decide) (by unfold zcm; simp)]; rfl
      · rw [zcpC_no (by unfold zcm; omega)]; rfl
      · rw [zcpC_in (by decide) (by decide) (by unfold zcm; simp)]; rfl
    · rw [zcpC_out (by omega)]
      simp only [zup, zcpR, show (r = 96) = False by simp; omega, show (r = 98) = False by simp; omega, show (r = 100) = False by simp; omega, show (r = 102) = False by simp; omega, show (r = 103) = False by simp; omega, show (r = 105) = False by simp; omega, show (r = 107) = False by simp; omega, show (r = 108) = False by simp; omega, show (r = 110) = False by simp; omega, show (r = 112) = False by simp; omega, show (r = 114) = False by simp; omega, show (r = 116) = False by simp; omega, show (r = 118) = False by simp; omega, false_and, if_false])
set_option maxRecDepth 20000 in
theorem m_rcp_9_103 {I : zI} {π : Int → Nat} {D : zD}   : zMet 55 [vr 9, vr 103] (I, zPp π, D, 137) none ((zup (zcpR (zcpR I 11 105) 13 107) 9 2 (I 103 2)), zPp π, D, 137) := by
  refine z_n 4 (8, [(0, vr 9), (1, vr 103)], [vr 104, vr 10], (I, zPp π, D, 137)) rfl trivial ?_
  refine z_cv 3 [vr 10, vr 104] [] rfl (m_copy (n := 4) ⟨rfl, rfl, rfl, rfl⟩ ⟨rfl, rfl, rfl, rfl⟩) ?_
  refine z_n 4 (19, [(0, vr 9), (1, vr 103)], [vr 106, vr 12], ((zcpR I 11 105), zPp π, D, 137)) rfl trivial ?_
  refine z_cv 3 [vr 12, vr 106] [] rfl (m_copy (n := 4) ⟨rfl, rfl, rfl, rfl⟩ ⟨rfl, rfl, rfl, rfl⟩) ?_
  refine z_n 4 (30, [(0, vr 9), (1, vr 103)], [], ((zup (zcpR (zcpR I 11 105) 13 107) 9 2 (I 103 2)), zPp π, D, 137)) rfl trivial ?_
  first | exact z_ret rfl rfl rfl | exact z_ret rfl (zv1 (by omega)) rfl | (exfalso; omega)
set_option maxRecDepth 20000 in
theorem m_lcp_14_108 {I : zI} {π : Int → Nat} {D : zD}   : zMet 49 [vr 14, vr 108] (I, zPp π, D, 137) none ((zup (zcpR (zcpR (zcpR (zcpR I 16 110) 18 112) 20 114) 22 116) 14 4 (I 108 4)), zPp π, D, 137) := by
  refine z_n 4 (8, [(0, vr 14), (1, vr 108)], [vr 109, vr 15], (I, zPp π, D, 137)) rfl trivial ?_
  refine z_cv 3 [vr 15, vr 109] [] rfl (m_copy (n := 96) ⟨rfl, rfl, rfl, rfl⟩ ⟨rfl, rfl, rfl, rfl⟩) ?_
  refine z_n 4 (19, [(0, vr 14), (1, vr 108)], [vr 111, vr 17], ((zcpR I 16 110), zPp π, D, 137)) rfl trivial ?_
  refine z_cv 3 [vr 17, vr 111] [] rfl (m_copy (n := 96) ⟨rfl, rfl, rfl, rfl⟩ ⟨rfl, rfl, rfl, rfl⟩) ?_
  refine z_n 4 (30, [(0, vr 14), (1, vr 108)], [vr 113, vr 19], ((zcpR (zcpR I 16 110) 18 112), zPp π, D, 137)) rfl trivial ?_
  refine z_cv 3 [vr 19, vr 113] [] rfl (m_copy (n := 96) ⟨rfl, rfl, rfl, rfl⟩ ⟨rfl, rfl, rfl, rfl⟩) ?_
  refine z_n 4 (41, [(0, vr 14), (1, vr 108)], [vr 115, vr 21], ((zcpR (zcpR (zcpR I 16 110) 18 112) 20 114), zPp π, D, 137)) rfl trivial ?_
  refine z_cv 3 [vr 21, vr 115] [] rfl (m_copy (n := 96) ⟨rfl, rfl, rfl, rfl⟩ ⟨rfl, rfl, rfl, rfl⟩) ?_
  refine z_n 4 (52, [(0, vr 14), (1, vr 108)], [], ((zup (zcpR (zcpR (zcpR (zcpR I 16 110) 18 112) 20 114) 22 116) 14 4 (I 108 4)), zPp π, D, 137)) rfl trivial ?_
  first | exact z_ret rfl rfl rfl | exact z_ret rfl (zv1 (by omega)) rfl | (exfalso; omega)
set_option maxRecDepth 20000 in
theorem m_ccp_2_96 {I : zI} {π : Int → Nat} {D : zD}   : zMet 30 [vr 2, vr 96] (I, zPp π, D, 137) none ((zcpC I 2 96), zPp π, D, 137) := by
  refine z_n 4 (8, [(0, vr 2), (1, vr 96)], [vr 97, vr 3], (I, zPp π, D, 137)) rfl trivial ?_
  refine z_cv 3 [vr 3, vr 97] [] rfl (m_copy (n := 24) ⟨rfl, rfl, rfl, rfl⟩ ⟨rfl, rfl, rfl, rfl⟩) ?_
  refine z_n 4 (19, [(0, vr 2), (1, vr 96)], [vr 99, vr 5], ((zcpR I 4 98), zPp π, D, 137)) rfl trivial ?_
  refine z_cv 3 [vr 5, vr 99] [] rfl (m_copy (n := 24) ⟨rfl, rfl, rfl, rfl⟩ ⟨rfl, rfl, rfl, rfl⟩) ?_
  refine z_n 4 (30, [(0, vr 2), (1, vr 96)], [vr 101, vr 7], ((zcpR (zcpR I 4 98) 6 100), zPp π, D, 137)) rfl trivial ?_
  refine z_cv 3 [vr 7, vr 101] [] rfl (m_copy (n := 24) ⟨rfl, rfl, rfl, rfl⟩ ⟨rfl, rfl, rfl, rfl⟩) ?_
  refine z_n 4 (41, [(0, vr 2), (1, vr 96)], [vr 103, vr 9], ((zcpR (zcpR (zcpR I 4 98) 6 100) 8 102), zPp π, D, 137)) rfl trivial ?_
  refine z_cv 55 [vr 9, vr 103] [] rfl (m_rcp_9_103) ?_
  refine z_n 4 (52, [(0, vr 2), (1, vr 96)], [vr 108, vr 14], ((zup (zcpR (zcpR (zcpR (zcpR (zcpR I 4 98) 6 100) 8 102) 11 105) 13 107) 9 2 (I 103 2)), zPp π, D, 137)) rfl trivial ?_
  refine z_cv 49 [vr 14, vr 108] [] rfl (m_lcp_14_108) ?_
  refine z_n 4 (63, [(0, vr 2), (1, vr 96)], [vr 117, vr 23], ((zup (zcpR (zcpR (zcpR (zcpR (zup (zcpR (zcpR (zcpR (zcpR (zcpR I 4 98) 6 100) 8 102) 11 105) 13 107) 9 2 (I 103 2)) 16 110) 18 112) 20 114) 22 116) 14 4 (I 108 4)), zPp π, D, 137)) rfl trivial ?_
  refine z_cv 3 [vr 23, vr 117] [] rfl (m_copy (n := 168) ⟨rfl, rfl, rfl, rfl⟩ ⟨rfl, rfl, rfl, rfl⟩) ?_
  refine z_n 28 (122, [(0, vr 2), (1, vr 96)], [], ((zup (zup (zup (zup (zup (zup (zup (zcpR (zup (zcpR (zcpR (zcpR (zcpR (zup (zcpR (zcpR (zcpR (zcpR (zcpR I 4 98) 6 100) 8 102) 11 105) 13 107) 9 2 (I 103 2)) 16 110) 18 112) 20 114) 22 116) 14 4 (I 108 4)) 24 118) 2 5 (I 96 5)) 2 6 (I 96 6)) 2 7 (I 96 7)) 2 8 (I 96 8)) 2 9 (I 96 9)) 2 10 (I 96 10)) 2 11 (I 96 11)), zPp π, D, 137)) rfl trivial ?_
  exact z_ret rfl rfl (by
    refine congrArg (fun J : zI => ((J, zPp π, D, 137) : zS)) ?_
    funext r j
    by_cases hr : 2 ≤ r ∧ r < 25
    · rcases (by omega : r = 2 ∨ r = 3 ∨ r = 4 ∨ r = 5 ∨ r = 6 ∨ r = 7 ∨ r = 8 ∨ r = 9 ∨ r = 10 ∨ r = 11 ∨ r = 12 ∨ r = 13 ∨ r = 14 ∨ r = 15 ∨ r = 16 ∨ r = 17 ∨ r = 18 ∨ r = 19 ∨ r = 20 ∨ r = 21 ∨ r = 22 ∨ r = 23 ∨ r = 24) with rfl | rfl | rfl | rfl | rfl | rfl | rfl | rfl | rfl | rfl | rfl | rfl | rfl | rfl | rfl | rfl | rfl | rfl | rfl | rfl | rfl | rfl | rfl
      · by_cases hj : 5 ≤ j ∧ j ≤ 11
        · rw [zcpC_in (by decide) (by decide) (by unfold zcm; omega)]
          rcases (by omega : j = 5 ∨ j = 6 ∨ j = 7 ∨ j = 8 ∨ j = 9 ∨ j = 10 ∨ j = 11) with rfl | rfl | rfl | rfl | rfl | rfl | rfl <;> rfl
        · rw [zcpC_no (by unfold zcm; omega)]
          simp only [zup, zcpR]
          simp [show ¬ j = 5 by omega, show ¬ j = 6 by omega, show ¬ j = 7 by omega, show ¬ j = 8 by omega, show ¬ j = 9 by omega, show ¬ j = 10 by omega, show ¬ j = 11 by omega]
      · rw [zcpC_no (by unfold zcm; omega)]; rfl
      · rw [zcpC_in (by decide) (by decide) (by unfold zcm; simp)]; rfl
      · rw [zcpC_no (by unfold zcm; omega)]; rfl
      · rw [zcpC_in (by decide) (by decide) (by unfold zcm; simp)]; rfl
      · rw [zcpC_no (by unfold zcm; omega)]; rfl
      · rw [zcpC_in (by decide) (by decide) (by unfold zcm; simp)]; rfl
      · by_cases hj : j = 2
        · subst hj; rw [zcpC_in (by decide) (by decide) (by unfold zcm; simp)]; rfl
        · rw [zcpC_no (by unfold zcm; omega)]
          simp only [zup, zcpR]
          simp [hj]
      · rw [zcpC_no (by unfold zcm; omega)]; rfl
      · rw [zcpC_in (by decide) (by decide) (by unfold zcm; simp)]; rfl
      · rw [zcpC_no (by unfold zcm; omega)]; rfl
      · rw [zcpC_in (by decide) (by decide) (by unfold zcm; simp)]; rfl
      · by_cases hj : j = 4
        · subst hj; rw [zcpC_in (by decide) (by decide) (by unfold zcm; simp)]; rfl
        · rw [zcpC_no (by unfold zcm; omega)]
          simp only [zup, zcpR]
          simp [hj]
      · rw [zcpC_no (by unfold zcm; omega)]; rfl
      · rw [zcpC_in (by decide) (by decide) (by unfold zcm; simp)]; rfl
      · rw [zcpC_no (by unfold zcm; omega)]; rfl
      · rw [zcpC_in (by decide) (by decide) (by unfold zcm; simp)]; rfl
      · rw [zcpC_no (by unfold zcm; omega)]; rfl
      · rw [zcpC_in (by decide) (by decide) (by unfold zcm; simp)]; rfl
      · rw [zcpC_no (by unfold zcm; omega)]; rfl
      · rw [zcpC_in (by decide) (by decide) (by unfold zcm; simp)]; rfl
      · rw [zcpC_no (by unfold zcm; omega)]; rfl
      · rw [zcpC_in (by decide) (by decide) (by unfold zcm; simp)]; rfl
    · rw [zcpC_out (by omega)]
      simp only [zup, zcpR, show (r = 2) = False by simp; omega, show (r = 4) = False by simp; omega, show (r = 6) = False by simp; omega, show (r = 8) = False by simp; omega, show (r = 9) = False by simp; omega, show (r = 11) = False by simp; omega, show (r = 13) = False by simp; omega, show (r = 14) = False by simp; omega, show (r = 16) = False by simp; omega, show (r = 18) = False by simp; omega, show (r = 20) = False by simp; omega, show (r = 22) = False by simp; omega, show (r = 24) = False by simp; omega, false_and, if_false])
