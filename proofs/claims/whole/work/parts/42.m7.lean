/-- the first k numbers moved one state down -/
def zMv (I : zI) (k : Int) : zI := fun r j => if r = 139 ∧ 0 ≤ j ∧ j < k then I 139 (j + 585) else I r j
theorem zMv_0 {I : zI} : zMv I 0 = I := by
  funext r j
  exact if_neg (by omega)
theorem zMv_s {I : zI} {k : Int} (h : 0 ≤ k) : zup (zMv I k) 139 k (I 139 (k + 585)) = zMv I (k + 1) := by
  funext r j
  unfold zup zMv
  (repeat' split) <;> first | rfl | (exfalso; omega) | (rw [show j = k by omega])
theorem zMv_hi {I : zI} {k : Int} : zMv I k 139 (k + 585) = I 139 (k + 585) := if_neg (by omega)
/-- the first k numbers of the state recorded as the s-th -/
def zRc (I : zI) (s k : Int) : zI := fun r j => if r = 139 ∧ 585 * s ≤ j ∧ j < 585 * s + k then I 138 (j - 585 * s) else I r j
theorem zRc_0 {I : zI} {s : Int} : zRc I s 0 = I := by
  funext r j
  exact if_neg (by omega)
theorem zRc_s {I : zI} {s k : Int} (h : 0 ≤ k) : zup (zRc I s k) 139 (585 * s + k) (I 138 k) = zRc I s (k + 1) := by
  funext r j
  unfold zup zRc
  (repeat' split) <;> first | rfl | (exfalso; omega) | (rw [show j - 585 * s = k by omega])
set_option maxRecDepth 20000 in
theorem m_rec_l {I : zI} {π : Int → Nat} {D : zD} (hs : 0 ≤ I 137 2 ∧ I 137 2 ≤ 3) : ∀ (N : Nat) (k : Int), 0 ≤ k → k + N = 585 → zRuns 96 51 [(1, vi k), (0, vr 137)] [] ((zRc I (I 137 2) k), zPp π, D, 147) none ((zup (zRc I (I 137 2) 585) 137 2 (I 137 2 + 1)), zPp π, D, 147) := by
  intro N
  induction N with
  | zero =>
    intro k h0 hN
    refine z_n 2 (55, [(1, vi k), (0, vr 137)], [vi 585, vi k], ((zRc I (I 137 2) k), zPp π, D, 147)) rfl trivial ?_
    refine z_br (585 ≤ k) 85 58 [] rfl (fun hx1 => ?_) (fun h => absurd (show 585 ≤ k from by omega) h)
    refine z_n 6 (95, [(1, vi k), (0, vr 137)], [], ((zup (zRc I (I 137 2) k) 137 2 ((I 137 2) + 1)), zPp π, D, 147)) (G := (zr ((I 137 2) + 1)) ∧ True) rfl ⟨by omega, trivial⟩ ?_
    exact z_ret rfl rfl (by rw [show k = 585 by omega])
  | succ N ih =>
  intro k h0 hN
  refine z_n 2 (55, [(1, vi k), (0, vr 137)], [vi 585, vi k], ((zRc I (I 137 2) k), zPp π, D, 147)) rfl trivial ?_
  refine z_br (585 ≤ k) 85 58 [] rfl (fun h => absurd h (show ¬ (585 ≤ k) from by omega)) (fun hx1 => ?_)
  refine z_n 15 (51, [(1, vi (k + 1)), (0, vr 137)], [], ((zup (zRc I (I 137 2) k) 139 ((585 * (I 137 2)) + k) (I 138 k)), zPp π, D, 147)) (G := (zr (585 * (I 137 2))) ∧ (zr ((585 * (I 137 2)) + k)) ∧ (0 ≤ k ∧ k < 585) ∧ (0 ≤ ((585 * (I 137 2)) + k) ∧ ((585 * (I 137 2)) + k) < 2340) ∧ (zr (k + 1)) ∧ True) rfl ⟨by omega, by omega, by omega, by omega, by omega, trivial⟩ ?_
  refine z_sub [(1, vi (k + 1)), (0, vr 137)] [0, 1] rfl ?_
  refine z_st (σ1 := ((zRc I (I 137 2) (k + 1)), zPp π, D, 147)) (by rw [← zRc_s h0]) ?_
  exact ih (k + 1) (by omega) (by omega)
set_option maxRecDepth 20000 in
theorem m_rec3 {I : zI} {π : Int → Nat} {D : zD}  (hs : 0 ≤ I 137 2 ∧ I 137 2 ≤ 3) : zMet 96 [vr 137] (I, zPp π, D, 147) none ((zup (zRc I (I 137 2) 585) 137 2 (I 137 2 + 1)), zPp π, D, 147) := by
  refine z_n 3 (5, [(0, vr 137)], [vi 4, vi (I 137 2)], (I, zPp π, D, 147)) rfl trivial ?_
  refine z_br (¬ (I 137 2) = 4) 49 8 [] rfl (fun hx1 => ?_) (fun h => absurd (show ¬ (I 137 2) = 4 from by omega) h)
  refine z_n 2 (51, [(1, vi 0), (0, vr 137)], [], (I, zPp π, D, 147)) rfl trivial ?_
  refine z_sub [(1, vi 0), (0, vr 137)] [0, 1] rfl ?_
  refine z_st (σ1 := ((zRc I (I 137 2) 0), zPp π, D, 147)) (by rw [zRc_0]) ?_
  exact m_rec_l hs 585 0 (by omega) (by omega)
set_option maxRecDepth 20000 in
theorem m_rec4_l {I : zI} {π : Int → Nat} {D : zD} (h4 : I 137 2 = 4) : ∀ (N : Nat) (k : Int), 0 ≤ k → k + N = 1755 → zRuns 96 10 [(1, vi k), (0, vr 137)] [] ((zMv I k), zPp π, D, 147) none ((zup (zRc (zup (zMv I 1755) 137 2 3) 3 585) 137 2 4), zPp π, D, 147) := by
  intro N
  induction N with
  | zero =>
    intro k h0 hN
    refine z_n 2 (14, [(1, vi k), (0, vr 137)], [vi 1755, vi k], ((zMv I k), zPp π, D, 147)) rfl trivial ?_
    refine z_br (1755 ≤ k) 39 17 [] rfl (fun hx1 => ?_) (fun h => absurd (show 1755 ≤ k from by omega) h)
    refine z_n 8 (51, [(1, vi 0), (0, vr 137)], [], ((zup (zMv I k) 137 2 ((I 137 2) - 1)), zPp π, D, 147)) (G := (zr ((I 137 2) - 1)) ∧ True) rfl ⟨by omega, trivial⟩ ?_
    refine z_sub [(1, vi 0), (0, vr 137)] [0, 1] rfl ?_
    refine z_st (σ1 := (zRc (zup (zMv I 1755) 137 2 3) 3 0, zPp π, D, 147)) (by rw [zRc_0, show k = 1755 by omega, show I 137 2 - 1 = 3 by omega]) ?_
    exact m_rec_l (I := (zup (zMv I 1755) 137 2 3)) (show (0 : Int) ≤ 3 ∧ (3 : Int) ≤ 3 from by omega) 585 0 (by omega) (by omega)
  | succ N ih =>
  intro k h0 hN
  refine z_n 2 (14, [(1, vi k), (0, vr 137)], [vi 1755, vi k], ((zMv I k), zPp π, D, 147)) rfl trivial ?_
  refine z_br (1755 ≤ k) 39 17 [] rfl (fun h => absurd h (show ¬ (1755 ≤ k) from by omega)) (fun hx1 => ?_)
  refine z_n 9 (32, [(1, vi k), (0, vr 137)], [vi ((zMv I k) 139 (k + 585)), vi k, vr 139], ((zMv I k), zPp π, D, 147)) (G := (zr (k + 585)) ∧ (0 ≤ (k + 585) ∧ (k + 585) < 2340) ∧ True) rfl ⟨by omega, by omega, trivial⟩ ?_
  refine z_top (b := I 139 (k + 585)) (zMv_hi) ?_
  refine z_n 3 (10, [(1, vi (k + 1)), (0, vr 137)], [], ((zup (zMv I k) 139 k (I 139 (k + 585))), zPp π, D, 147)) (G := (0 ≤ k ∧ k < 2340) ∧ (zr (k + 1)) ∧ True) rfl ⟨by omega, by omega, trivial⟩ ?_
  refine z_sub [(1, vi (k + 1)), (0, vr 137)] [0, 1] rfl ?_
  refine z_st (σ1 := ((zMv I (k + 1)), zPp π, D, 147)) (by rw [← zMv_s h0]) ?_
  exact ih (k + 1) (by omega) (by omega)
set_option maxRecDepth 20000 in
theorem m_rec4 {I : zI} {π : Int → Nat} {D : zD}  (h4 : I 137 2 = 4) : zMet 96 [vr 137] (I, zPp π, D, 147) none ((zup (zRc (zup (zMv I 1755) 137 2 3) 3 585) 137 2 4), zPp π, D, 147) := by
  refine z_n 3 (5, [(0, vr 137)], [vi 4, vi (I 137 2)], (I, zPp π, D, 147)) rfl trivial ?_
  refine z_br (¬ (I 137 2) = 4) 49 8 [] rfl (fun h => absurd h (show ¬ (¬ (I 137 2) = 4) from fun h9 => h9 h4)) (fun hx1 => ?_)
  refine z_n 2 (10, [(1, vi 0), (0, vr 137)], [], (I, zPp π, D, 147)) rfl trivial ?_
  refine z_sub [(1, vi 0), (0, vr 137)] [0, 1] rfl ?_
  refine z_st (σ1 := ((zMv I 0), zPp π, D, 147)) (by rw [zMv_0]) ?_
  exact m_rec4_l h4 1755 0 (by omega) (by omega)
