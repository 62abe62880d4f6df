theorem z_top {y pc : Nat} {L : zL} {st : List zV} {σ τ : zS} {r : Option zV} {a b : Int} (h : a = b) (kk : zRuns y pc L (vi b :: st) σ r τ) : zRuns y pc L (vi a :: st) σ r τ := by rw [h]; exact kk
theorem zup_at {I : zI} {r : Nat} {k v j : Int} : zup I r k v r j = if j = k then v else I r j := by simp [zup]
/-- the places of the first k crews charted for the day O -/
def zCr (I : zI) (O k : Int) : zI := fun r j => if r = 138 ∧ 417 + 24 * O ≤ j ∧ j < 417 + 24 * O + k then I 138 (31 + (j - (417 + 24 * O))) else I r j
theorem zCr_0 {I : zI} {O : Int} : zCr I O 0 = I := by
  funext r j
  exact if_neg (by omega)
theorem zCr_s {I : zI} {O k : Int} (h : 0 ≤ k) : zup (zCr I O k) 138 (417 + 24 * O + k) (I 138 (31 + k)) = zCr I O (k + 1) := by
  funext r j
  unfold zup zCr
  (repeat' split) <;> first | rfl | (exfalso; omega) | (rw [show 31 + (j - (417 + 24 * O)) = 31 + k by omega])
theorem zCr_lo {I : zI} {O k j : Int} (hO : 0 ≤ O) (h : j < 417) : zCr I O k 138 j = I 138 j := if_neg (by omega)
set_option maxRecDepth 20000 in
theorem m_puts {I : zI} {π : Int → Nat} {D : zD} {a b m : Int} (mb : I 138 55 = m) (hm : 0 ≤ m ∧ m < 12) : zMet 104 [vr 137, vi a, vi b] (I, zPp π, D, 147) (some (vi m)) ((zup (zup (zup I 138 (56 + m) a) 138 (68 + m) b) 138 55 (m + 1)), zPp π, D, 147) := by
  refine z_n 7 (13, [(0, vr 137), (1, vi a), (2, vi b)], [vi (I 138 55), vi 56, vr 138], (I, zPp π, D, 147)) (G := (0 ≤ 55 ∧ 55 < 585) ∧ True) rfl ⟨by omega, trivial⟩ ?_
  refine z_top (b := m) (mb) ?_
  refine z_n 10 (29, [(0, vr 137), (1, vi a), (2, vi b)], [vi ((zup I 138 (56 + m) a) 138 55), vi 68, vr 138], ((zup I 138 (56 + m) a), zPp π, D, 147)) (G := (zr (56 + m)) ∧ (0 ≤ (56 + m) ∧ (56 + m) < 585) ∧ (0 ≤ 55 ∧ 55 < 585) ∧ True) rfl ⟨by omega, by omega, by omega, trivial⟩ ?_
  refine z_top (b := m) (by rw [zup_at, if_neg (by omega)]; exact mb) ?_
  refine z_n 8 (40, [(0, vr 137), (1, vi a), (2, vi b)], [vi ((zup (zup I 138 (56 + m) a) 138 (68 + m) b) 138 55), vi 55, vr 138], ((zup (zup I 138 (56 + m) a) 138 (68 + m) b), zPp π, D, 147)) (G := (zr (68 + m)) ∧ (0 ≤ (68 + m) ∧ (68 + m) < 585) ∧ (0 ≤ 55 ∧ 55 < 585) ∧ True) rfl ⟨by omega, by omega, by omega, trivial⟩ ?_
  refine z_top (b := m) (by rw [zup_at, if_neg (by omega), zup_at, if_neg (by omega)]; exact mb) ?_
  refine z_n 9 (52, [(0, vr 137), (1, vi a), (2, vi b)], [vi ((m + 1) - 1)], ((zup (zup (zup I 138 (56 + m) a) 138 (68 + m) b) 138 55 (m + 1)), zPp π, D, 147)) (G := (zr (m + 1)) ∧ (0 ≤ 55 ∧ 55 < 585) ∧ (0 ≤ 55 ∧ 55 < 585) ∧ (zr ((m + 1) - 1)) ∧ True) rfl ⟨by omega, by omega, by omega, by omega, trivial⟩ ?_
  exact z_ret rfl (zv1 (by omega)) rfl
set_option maxRecDepth 20000 in
theorem m_charts_l {I : zI} {π : Int → Nat} {D : zD} {O : Int} (m3 : I 138 3 = O) (hO : 0 ≤ O ∧ O ≤ 6) : ∀ (N : Nat) (k : Int), 0 ≤ k → k + N = 24 → zRuns 97 2 [(1, vi k), (0, vr 137)] [] ((zCr I O k), zPp π, D, 147) none ((zCr I O 24), zPp π, D, 147) := by
  intro N
  induction N with
  | zero =>
    intro k h0 hN
    refine z_n 2 (5, [(1, vi k), (0, vr 137)], [vi 24, vi k], ((zCr I O k), zPp π, D, 147)) rfl trivial ?_
    refine z_br (24 ≤ k) 43 8 [] rfl (fun hx1 => ?_) (fun h => absurd (show 24 ≤ k from by omega) h)
    exact z_ret rfl rfl (by rw [show k = 24 by omega])
  | succ N ih =>
  intro k h0 hN
  refine z_n 2 (5, [(1, vi k), (0, vr 137)], [vi 24, vi k], ((zCr I O k), zPp π, D, 147)) rfl trivial ?_
  refine z_br (24 ≤ k) 43 8 [] rfl (fun h => absurd h (show ¬ (24 ≤ k) from by omega)) (fun hx1 => ?_)
  refine z_n 8 (23, [(1, vi k), (0, vr 137)], [vi ((zCr I O k) 138 3), vi 24, vi 417, vr 138], ((zCr I O k), zPp π, D, 147)) (G := (0 ≤ 3 ∧ 3 < 585) ∧ True) rfl ⟨by omega, trivial⟩ ?_
  refine z_top (b := O) ((zCr_lo hO.1 (by omega)).trans m3) ?_
  refine z_n 10 (36, [(1, vi k), (0, vr 137)], [vi ((zCr I O k) 138 (31 + k)), vi ((417 + (24 * O)) + k), vr 138], ((zCr I O k), zPp π, D, 147)) (G := (zr (24 * O)) ∧ (zr (417 + (24 * O))) ∧ (zr ((417 + (24 * O)) + k)) ∧ (zr (31 + k)) ∧ (0 ≤ (31 + k) ∧ (31 + k) < 585) ∧ True) rfl ⟨by omega, by omega, by omega, by omega, by omega, trivial⟩ ?_
  refine z_top (b := I 138 (31 + k)) (zCr_lo hO.1 (by omega)) ?_
  refine z_n 3 (2, [(1, vi (k + 1)), (0, vr 137)], [], ((zup (zCr I O k) 138 ((417 + (24 * O)) + k) (I 138 (31 + k))), zPp π, D, 147)) (G := (0 ≤ ((417 + (24 * O)) + k) ∧ ((417 + (24 * O)) + k) < 585) ∧ (zr (k + 1)) ∧ True) rfl ⟨by omega, by omega, trivial⟩ ?_
  refine z_sub [(1, vi (k + 1)), (0, vr 137)] [0, 1] rfl ?_
  refine z_st (σ1 := ((zCr I O (k + 1)), zPp π, D, 147)) (by rw [← zCr_s h0]) ?_
  exact ih (k + 1) (by omega) (by omega)
set_option maxRecDepth 20000 in
theorem m_charts {I : zI} {π : Int → Nat} {D : zD} {O : Int} (m3 : I 138 3 = O) (hO : 0 ≤ O ∧ O ≤ 6) : zMet 97 [vr 137] (I, zPp π, D, 147) none ((zCr I O 24), zPp π, D, 147) := by
  refine z_n 2 (2, [(1, vi 0), (0, vr 137)], [], (I, zPp π, D, 147)) rfl trivial ?_
  refine z_sub [(1, vi 0), (0, vr 137)] [0, 1] rfl ?_
  refine z_st (σ1 := ((zCr I O 0), zPp π, D, 147)) (by rw [zCr_0]) ?_
  exact m_charts_l m3 hO 24 0 (by omega) (by omega)
