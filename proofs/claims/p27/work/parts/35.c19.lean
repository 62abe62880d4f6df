/-- the first k of the foretold bumps made -/
def zRw (K : zI) (k : Int) : zI := fun r j => if r = 9 ∧ j = 2 then k else if r = 11 ∧ 0 ≤ j ∧ j < k then K 8 (K 2 9 * K 2 6 + K 121 j) else if r = 13 ∧ 0 ≤ j ∧ j < k then K 8 (K 2 9 * K 2 6 + K 123 j) else K r j
theorem zRw_0 {K : zI} (h : K 9 2 = 0) : zRw K 0 = K := by
  funext r j
  unfold zRw
  by_cases h1 : r = 9 ∧ j = 2
  · rw [if_pos h1, h1.1, h1.2, h]
  · rw [if_neg h1, if_neg (by omega), if_neg (by omega)]
theorem zRw_s {K : zI} {k : Int} (h : 0 ≤ k) : zup (zup (zup (zRw K k) 11 k (K 8 (K 2 9 * K 2 6 + K 121 k))) 13 k (K 8 (K 2 9 * K 2 6 + K 123 k))) 9 2 (k + 1) = zRw K (k + 1) := by
  funext r j
  unfold zup zRw
  by_cases h9 : r = 9
  · subst h9
    by_cases h2 : j = 2
    · subst h2; simp
    · simp [h2]
  · by_cases h11 : r = 11
    · subst h11
      by_cases hj : j = k
      · subst hj; simp; omega
      · by_cases hk : 0 ≤ j ∧ j < k
        · rw [if_neg (by omega), if_neg (by omega), if_neg (by omega), if_neg (by omega), if_pos ⟨rfl, hk⟩, if_neg (by omega), if_pos (by omega)]
        · rw [if_neg (by omega), if_neg (by omega), if_neg (by omega), if_neg (by omega), if_neg (by omega), if_neg (by omega), if_neg (by omega), if_neg (by omega), if_neg (by omega)]
    · by_cases h13 : r = 13
      · subst h13
        by_cases hj : j = k
        · subst hj; simp; omega
        · by_cases hk : 0 ≤ j ∧ j < k
          · rw [if_neg (by omega), if_neg (by omega), if_neg (by omega), if_neg (by omega), if_neg (by omega), if_pos ⟨rfl, hk⟩, if_neg (by omega), if_neg (by omega), if_pos (by omega)]
          · rw [if_neg (by omega), if_neg (by omega), if_neg (by omega), if_neg (by omega), if_neg (by omega), if_neg (by omega), if_neg (by omega), if_neg (by omega), if_neg (by omega)]
      · simp [h9, h11, h13]
set_option maxRecDepth 20000 in
theorem m_row_l {K : zI} {ρ : Int → Nat} {E : zD} {x : Int} {τ : zS} (w : zW1 (K 2)) (hf : 0 ≤ K 119 2 ∧ K 119 2 ≤ 4) (hu : ∀ j, 0 ≤ j → j < K 119 2 → (0 ≤ K 121 j ∧ K 121 j < zns (K 2)) ∧ (0 ≤ K 123 j ∧ K 123 j < zns (K 2))) (hend : zMet 21 [vr 2] ((zRw K (K 119 2)), zPp ρ, E, 137) (some (vi x)) τ) : ∀ (N : Nat) (k : Int), 0 ≤ k → k + N = K 119 2 → zRuns 72 51 [(1, vi k), (0, vr 1)] [] ((zRw K k), zPp ρ, E, 137) (some (vi x)) τ := by
  have hzb := zns_b w
  intro N
  induction N with
  | zero =>
    intro k h0 hN
    obtain rfl : k = K 119 2 := by omega
    refine z_n 4 (59, [(1, vi (K 119 2)), (0, vr 1)], [vi (K 119 2), vi (K 119 2)], ((zRw K (K 119 2)), zPp ρ, E, 137)) rfl trivial ?_
    refine z_br ((K 119 2) ≤ (K 119 2)) 114 62 [] rfl (fun hx1 => ?_) (fun h => absurd (show (K 119 2) ≤ (K 119 2) from by omega) h)
    refine z_n 2 (118, [(1, vi (K 119 2)), (0, vr 1)], [vr 2], ((zRw K (K 119 2)), zPp ρ, E, 137)) rfl trivial ?_
    refine z_ci 21 [vr 2] [] rfl (hend) ?_
    exact z_ret rfl rfl rfl
  | succ N ih =>
  intro k h0 hN
  have hk := hu k h0 (by omega)
  refine z_n 4 (59, [(1, vi k), (0, vr 1)], [vi (K 119 2), vi k], ((zRw K k), zPp ρ, E, 137)) rfl trivial ?_
  refine z_br ((K 119 2) ≤ k) 114 62 [] rfl (fun h => absurd h (show ¬ ((K 119 2) ≤ k) from by omega)) (fun hx1 => ?_)
  refine z_n 9 (81, [(1, vi k), (0, vr 1)], [vi k, vr 120, vr 2, vr 9], ((zRw K k), zPp ρ, E, 137)) rfl trivial ?_
  refine z_ci 1 [vr 120, vi k] [vr 2, vr 9] rfl (m_get (n := 4) ⟨rfl, rfl, rfl, rfl⟩ (by omega) (by omega)) ?_
  refine z_ci 13 [vr 2, vi (K 121 k)] [vr 9] rfl (m_starterAt (show zW1 (K 2) from w) (show 0 ≤ K 2 9 * K 2 6 + K 121 k from by omega) (show K 2 9 * K 2 6 + K 121 k < 24 from by omega)) ?_
  refine z_n 6 (99, [(1, vi k), (0, vr 1)], [vi k, vr 122, vr 2, vi (K 8 (K 2 9 * K 2 6 + K 121 k)), vr 9], ((zRw K k), zPp ρ, E, 137)) rfl trivial ?_
  refine z_ci 1 [vr 122, vi k] [vr 2, vi (K 8 (K 2 9 * K 2 6 + K 121 k)), vr 9] rfl (m_get (n := 4) ⟨rfl, rfl, rfl, rfl⟩ (by omega) (by omega)) ?_
  refine z_ci 13 [vr 2, vi (K 123 k)] [vi (K 8 (K 2 9 * K 2 6 + K 121 k)), vr 9] rfl (m_starterAt (show zW1 (K 2) from w) (show 0 ≤ K 2 9 * K 2 6 + K 123 k from by omega) (show K 2 9 * K 2 6 + K 123 k < 24 from by omega)) ?_
  refine z_cv 52 [vr 9, vi (K 8 (K 2 9 * K 2 6 + K 121 k)), vi (K 8 (K 2 9 * K 2 6 + K 123 k))] [] rfl (m_add9 (show 0 ≤ k ∧ k < 4 from by omega)) ?_
  refine z_n 2 (51, [(1, vi (k + 1)), (0, vr 1)], [], ((zup (zup (zup (zRw K k) 11 k (K 8 (K 2 9 * K 2 6 + K 121 k))) 13 k (K 8 (K 2 9 * K 2 6 + K 123 k))) 9 2 (k + 1)), zPp ρ, E, 137)) (G := (zr (k + 1)) ∧ True) rfl ⟨by omega, trivial⟩ ?_
  refine z_sub [(1, vi (k + 1)), (0, vr 1)] [0, 1] rfl ?_
  refine z_st (σ1 := ((zRw K (k + 1)), zPp ρ, E, 137)) (by rw [← zRw_s h0]) ?_
  exact ih (k + 1) (by omega) (by omega)
set_option maxRecDepth 20000 in
theorem m_row0 {I : zI} {π : Int → Nat} {D : zD}  (hM : 0 ≤ I 9 2) (hq : ¬ (¬ I 2 9 = -1 ∧ I 9 2 = 0)) : zMet 72 [vr 1] (I, zPp π, D, 137) (some (vi (-1002))) (I, zPp π, D, 137) := by
  refine z_n 2 (4, [(0, vr 1)], [vr 2], (I, zPp π, D, 137)) rfl trivial ?_
  by_cases hx1 : ¬ I 2 9 = -1
  · refine z_ci 8 [vr 2] [] rfl (m_hasRace1 hx1) ?_
    refine z_br ((1 : Int) = 0) 23 10 [] rfl (fun h => absurd h (show ¬ ((1 : Int) = 0) from by decide)) (fun hx2 => ?_)
    refine z_n 4 (20, [(0, vr 1)], [vi (I 9 2)], (I, zPp π, D, 137)) rfl trivial ?_
    refine z_br ((I 9 2) ≤ 0) 27 23 [] rfl (fun h => absurd h (show ¬ ((I 9 2) ≤ 0) from by omega)) (fun hx3 => ?_)
    refine z_n 1 (26, [(0, vr 1)], [vi (-1002)], (I, zPp π, D, 137)) rfl trivial ?_
    exact z_ret rfl rfl rfl
  · refine z_ci 8 [vr 2] [] rfl (m_hasRace0 hx1) ?_
    refine z_br ((0 : Int) = 0) 23 10 [] rfl (fun hx4 => ?_) (fun h => absurd (show (0 : Int) = 0 from by decide) h)
    refine z_n 1 (26, [(0, vr 1)], [vi (-1002)], (I, zPp π, D, 137)) rfl trivial ?_
    exact z_ret rfl rfl rfl
set_option maxRecDepth 20000 in
theorem m_row1 {I : zI} {π : Int → Nat} {D : zD} {J : zI} {x : Int} {τ : zS} (hq : ¬ I 2 9 = -1 ∧ I 9 2 = 0) (w : zW1 (I 2)) (v : zW2 (I 2) (I 6) (I 8)) (hsp : ∀ c, 0 ≤ c → c < I 2 5 → 0 ≤ I 4 c ∧ I 4 c ≤ 1000) (hπ : zPi π) (hk : 0 ≤ I 25 1 ∧ I 25 1 ≤ 4) (eJ : J = zKe I π) (hend : zMet 21 [vr 2] (zRw (zFI J D (-1) 0) ((zFI J D (-1) 0) 119 2), zPp (zkr π (I 25 1)), zFDR J D (-1) 0, 137) (some (vi x)) τ) : zMet 72 [vr 1] (I, zPp π, D, 137) (some (vi x)) τ := by
  have hkp : zMet 38 [vr 25, vr 2] (I, zPp π, D, 137) none (J, zPp (zkr π (I 25 1)), D, 137) := by rw [eJ]; exact m_keep hπ hk
  have hJ : ∀ r, r < 25 → J r = I r := by rw [eJ]; exact fun r h => zKe_lt hπ hk h
  have w' : zW1 (J 2) := by rw [hJ 2 (by decide)]; exact w
  have v' : zW2 (J 2) (J 6) (J 8) := by rw [hJ 2 (by decide), hJ 6 (by decide), hJ 8 (by decide)]; exact v
  have hsp' : ∀ c, 0 ≤ c → c < J 2 5 → 0 ≤ J 4 c ∧ J 4 c ≤ 1000 := by rw [hJ 2 (by decide), hJ 4 (by decide)]; exact hsp
  have hin := zFR_in (I := J) (D := D) (c := -1) (v := 0) w'
  refine z_n 2 (4, [(0, vr 1)], [vr 2], (I, zPp π, D, 137)) rfl trivial ?_
  refine z_ci 8 [vr 2] [] rfl (m_hasRace1 hq.1) ?_
  refine z_br ((1 : Int) = 0) 23 10 [] rfl (fun h => absurd h (show ¬ ((1 : Int) = 0) from by decide)) (fun hx1 => ?_)
  refine z_n 4 (20, [(0, vr 1)], [vi (I 9 2)], (I, zPp π, D, 137)) rfl trivial ?_
  refine z_br ((I 9 2) ≤ 0) 27 23 [] rfl (fun hx2 => ?_) (fun h => absurd (show (I 9 2) ≤ 0 from by omega) h)
  refine z_n 4 (35, [(0, vr 1)], [vr 2, vr 25], (I, zPp π, D, 137)) rfl trivial ?_
  refine z_cv 38 [vr 25, vr 2] [] rfl (hkp) ?_
  refine z_n 4 (46, [(0, vr 1)], [vr 2, vr 119], (J, zPp (zkr π (I 25 1)), D, 137)) rfl trivial ?_
  refine z_cv 32 [vr 119, vr 2] [] rfl (m_fore w' v' hsp') ?_
  refine z_n 2 (51, [(1, vi 0), (0, vr 1)], [], ((zFI J D (-1) 0), zPp (zkr π (I 25 1)), (zFDR J D (-1) 0), 137)) rfl trivial ?_
  refine z_sub [(1, vi 0), (0, vr 1)] [0, 1] rfl ?_
  refine z_st (σ1 := (zRw (zFI J D (-1) 0) 0, zPp (zkr π (I 25 1)), zFDR J D (-1) 0, 137)) (by rw [zRw_0 (K := zFI J D (-1) 0) (show J 9 2 = 0 from by rw [hJ 9 (by decide)]; exact hq.2)]) ?_
  exact m_row_l (K := zFI J D (-1) 0) w' hin.1 (fun j a b => ⟨(hin.2 j a b).1, (hin.2 j a b).2.1, Int.lt_trans (hin.2 j a b).2.2 (hin.2 j a b).1.2⟩) hend ((zFI J D (-1) 0) 119 2).toNat 0 (by omega) (by have := hin.1.1; show 0 + ((((zFR J D (-1) 0).2.1).toNat : Nat) : Int) = (zFR J D (-1) 0).2.1; omega)
