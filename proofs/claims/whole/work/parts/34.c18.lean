/-- alike outside the forecast -/
def zagr (J I : zI) : Prop := ∀ r, r ≠ 119 → r ≠ 121 → r ≠ 123 → r ≠ 126 → r ≠ 128 → J r = I r
theorem zFI_agr {I : zI} {D : zD} {c v : Int} : zagr (zFI I D c v) I := by
  intro r h1 h2 h3 h4 h5
  funext j
  unfold zFI zFS
  rw [if_neg h4, if_neg h5, if_neg h2, if_neg h3, if_neg (fun h => h1 h.1), if_neg (fun h => h1 h.1)]
theorem zagr_tr {A B C : zI} (h : zagr A B) (h2 : zagr B C) : zagr A C := fun r a b c d e => (h r a b c d e).trans (h2 r a b c d e)
/-- with the speed s the starter nb hunts -/
def zhu (I : zI) (c nb s : Int) : Prop := ∃ j, 0 ≤ j ∧ j < (zFo (zns (I 2)) (zsp I c s) (I 2 10) (FP.i2d (Int32.ofInt (I 2 11)))).2.1 ∧ (zFo (zns (I 2)) (zsp I c s) (I 2 10) (FP.i2d (Int32.ofInt (I 2 11)))).2.2.1 j = nb
/-- the least speed from 1 to 1000 that has P, else -1004 -/
def zSf (P : Int → Prop) (res : Int) : Prop := (1 ≤ res ∧ res ≤ 1000 ∧ P res ∧ ∀ s, 1 ≤ s → s < res → ¬ P s) ∨ (res = -1004 ∧ ∀ s, 1 ≤ s → s ≤ 1000 → ¬ P s)
theorem zhu_iff {J I : zI} {D : zD} {c nb s : Int} (w : zW1 (I 2)) (ha : zagr J I) : (∃ j, 0 ≤ j ∧ j < (zFI J D c s) 119 2 ∧ (zFI J D c s) 121 j = nb) ↔ zhu I c nb s := by
  have e2 : J 2 = I 2 := ha 2 (by decide) (by decide) (by decide) (by decide) (by decide)
  have e4 : J 4 = I 4 := ha 4 (by decide) (by decide) (by decide) (by decide) (by decide)
  have e8 : J 8 = I 8 := ha 8 (by decide) (by decide) (by decide) (by decide) (by decide)
  have hz := zFR_Fo (I := J) (D := D) (c := c) (v := s) (by rw [e2]; exact w)
  have es : zsp J c s = zsp I c s := by
    funext j
    unfold zsp
    rw [e2, e4, e8]
  rw [es, e2] at hz
  obtain ⟨-, h2, -, h4⟩ := hz
  unfold zhu
  constructor
  · rintro ⟨j, j0, j1, j2⟩
    have j1' : j < (zFR J D c s).2.1 := j1
    have j2' : (zFR J D c s).2.2.1 j = nb := j2
    exact ⟨j, j0, by rw [← h2]; exact j1', by rw [← (h4 j j0 j1').1]; exact j2'⟩
  · rintro ⟨j, j0, j1, j2⟩
    rw [← h2] at j1
    refine ⟨j, j0, j1, ?_⟩
    show (zFR J D c s).2.2.1 j = nb
    rw [(h4 j j0 j1).1]; exact j2
set_option maxRecDepth 20000 in
theorem m_sf_l {I : zI} {π : Int → Nat} {c nb : Int} (w : zW1 (I 2)) (v : zW2 (I 2) (I 6) (I 8)) (hsp : ∀ c, 0 ≤ c → c < I 2 5 → 0 ≤ I 4 c ∧ I 4 c ≤ 1000) : ∀ (N : Nat) (k : Int) (J : zI) (E : zD), 1 ≤ k → k + N = 1001 → zagr J I → (∀ s, 1 ≤ s → s < k → ¬ zhu I c nb s) → ∃ (res : Int) (I2 : zI) (D2 : zD), zagr I2 I ∧ zSf (zhu I c nb) res ∧ zRuns 83 35 [(3, vi k), (2, vi nb), (0, vr 1), (1, vi c)] [] (J, zPp π, E, 147) (some (vi res)) (I2, zPp π, D2, 147) := by
  intro N
  induction N with
  | zero =>
    intro k J E k0 kN ha hno
    refine ⟨-1004, J, E, ha, Or.inr ⟨rfl, fun s s0 s1 => hno s s0 (by omega)⟩, ?_⟩
    refine z_n 2 (39, [(3, vi k), (2, vi nb), (0, vr 1), (1, vi c)], [vi 1000, vi k], (J, zPp π, E, 147)) rfl trivial ?_
    refine z_br (1000 < k) 74 42 [] rfl (fun hx1 => ?_) (fun h => absurd (show 1000 < k from by omega) h)
    refine z_n 1 (77, [(3, vi k), (2, vi nb), (0, vr 1), (1, vi c)], [vi (-1004)], (J, zPp π, E, 147)) rfl trivial ?_
    exact z_ret rfl rfl rfl
  | succ N ih =>
  intro k J E k0 kN ha hno
  have e2 : J 2 = I 2 := ha 2 (by decide) (by decide) (by decide) (by decide) (by decide)
  have e4 : J 4 = I 4 := ha 4 (by decide) (by decide) (by decide) (by decide) (by decide)
  have e6 : J 6 = I 6 := ha 6 (by decide) (by decide) (by decide) (by decide) (by decide)
  have e8 : J 8 = I 8 := ha 8 (by decide) (by decide) (by decide) (by decide) (by decide)
  have w' : zW1 (J 2) := by rw [e2]; exact w
  have v' : zW2 (J 2) (J 6) (J 8) := by rw [e2, e6, e8]; exact v
  have hsp' : ∀ c, 0 ≤ c → c < J 2 5 → 0 ≤ J 4 c ∧ J 4 c ≤ 1000 := by rw [e2, e4]; exact hsp
  have hM' : 0 ≤ (zFI J E c k) 119 2 ∧ (zFI J E c k) 119 2 ≤ 4 := (zFR_in (I := J) (D := E) (c := c) (v := k) w').1
  by_cases hP : zhu I c nb k
  · refine ⟨k, zFI J E c k, zFDR J E c k, zagr_tr zFI_agr ha, Or.inl ⟨k0, by omega, hP, hno⟩, ?_⟩
    refine z_n 2 (39, [(3, vi k), (2, vi nb), (0, vr 1), (1, vi c)], [vi 1000, vi k], (J, zPp π, E, 147)) rfl trivial ?_
    refine z_br (1000 < k) 74 42 [] rfl (fun h => absurd h (show ¬ (1000 < k) from by omega)) (fun hx1 => ?_)
    refine z_n 6 (52, [(3, vi k), (2, vi nb), (0, vr 1), (1, vi c)], [vi k, vi c, vr 2, vr 119], (J, zPp π, E, 147)) rfl trivial ?_
    refine z_cv 34 [vr 119, vr 2, vi c, vi k] [] rfl (m_fwith w' v' hsp' ⟨by omega, by omega⟩) ?_
    refine z_n 3 (60, [(3, vi k), (2, vi nb), (0, vr 1), (1, vi c)], [vi nb, vr 119], ((zFI J E c k), zPp π, (zFDR J E c k), 147)) rfl trivial ?_
    refine z_ci 38 [vr 119, vi nb] [] rfl (m_hup1 (I := zFI J E c k) hM' ((zhu_iff w ha).mpr hP)) ?_
    refine z_br ((1 : Int) = 0) 68 66 [] rfl (fun h => absurd h (show ¬ ((1 : Int) = 0) from by decide)) (fun hx2 => ?_)
    refine z_n 1 (67, [(3, vi k), (2, vi nb), (0, vr 1), (1, vi c)], [vi k], ((zFI J E c k), zPp π, (zFDR J E c k), 147)) rfl trivial ?_
    exact z_ret rfl rfl rfl
  · obtain ⟨res, I2, D2, ha2, hsf, hrun⟩ := ih (k + 1) (zFI J E c k) (zFDR J E c k) (by omega) (by omega) (zagr_tr zFI_agr ha) (fun s s0 s1 => by
      by_cases e : s = k
      · rw [e]; exact hP
      · exact hno s s0 (by omega))
    refine ⟨res, I2, D2, ha2, hsf, ?_⟩
    refine z_n 2 (39, [(3, vi k), (2, vi nb), (0, vr 1), (1, vi c)], [vi 1000, vi k], (J, zPp π, E, 147)) rfl trivial ?_
    refine z_br (1000 < k) 74 42 [] rfl (fun h => absurd h (show ¬ (1000 < k) from by omega)) (fun hx1 => ?_)
    refine z_n 6 (52, [(3, vi k), (2, vi nb), (0, vr 1), (1, vi c)], [vi k, vi c, vr 2, vr 119], (J, zPp π, E, 147)) rfl trivial ?_
    refine z_cv 34 [vr 119, vr 2, vi c, vi k] [] rfl (m_fwith w' v' hsp' ⟨by omega, by omega⟩) ?_
    refine z_n 3 (60, [(3, vi k), (2, vi nb), (0, vr 1), (1, vi c)], [vi nb, vr 119], ((zFI J E c k), zPp π, (zFDR J E c k), 147)) rfl trivial ?_
    refine z_ci 38 [vr 119, vi nb] [] rfl (m_hup0 (I := zFI J E c k) hM' (fun h9 => hP ((zhu_iff w ha).mp h9))) ?_
    refine z_br ((0 : Int) = 0) 68 66 [] rfl (fun hx2 => ?_) (fun h => absurd (show (0 : Int) = 0 from by decide) h)
    refine z_n 2 (35, [(3, vi (k + 1)), (2, vi nb), (0, vr 1), (1, vi c)], [], ((zFI J E c k), zPp π, (zFDR J E c k), 147)) (G := (zr (k + 1)) ∧ True) rfl ⟨by omega, trivial⟩ ?_
    refine z_sub [(3, vi (k + 1)), (2, vi nb), (0, vr 1), (1, vi c)] [0, 1, 2, 3] rfl ?_
    exact hrun
set_option maxRecDepth 20000 in
theorem m_speedForx {I : zI} {π : Int → Nat} {D : zD} {c : Int} (hq : ¬ (0 ≤ c ∧ c < I 2 5)) : zMet 83 [vr 1, vi c] (I, zPp π, D, 147) (some (vi (-1001))) (I, zPp π, D, 147) := by
  refine z_n 3 (5, [(0, vr 1), (1, vi c)], [vi c, vr 2], (I, zPp π, D, 147)) rfl trivial ?_
  refine z_ci 6 [vr 2, vi c] [] rfl (m_hasCrew0 hq) ?_
  refine z_br (¬ (0 : Int) = 0) 15 11 [] rfl (fun h => absurd h (show ¬ (¬ (0 : Int) = 0) from by decide)) (fun hx1 => ?_)
  refine z_n 1 (14, [(0, vr 1), (1, vi c)], [vi (-1001)], (I, zPp π, D, 147)) rfl trivial ?_
  first | exact z_ret rfl rfl rfl | exact z_ret rfl (zv1 (by omega)) rfl | (exfalso; omega)
set_option maxRecDepth 20000 in
theorem m_speedForn {I : zI} {π : Int → Nat} {D : zD} {c : Int} (w : zW1 (I 2)) (v : zW2 (I 2) (I 6) (I 8)) (hsp : ∀ c, 0 ≤ c → c < I 2 5 → 0 ≤ I 4 c ∧ I 4 c ≤ 1000) (hq : 0 ≤ c ∧ c < I 2 5) (hs : ¬ zIs (I 2) (I 6) c) : zMet 83 [vr 1, vi c] (I, zPp π, D, 147) (some (vi (-1004))) (I, zPp π, D, 147) := by
  refine z_n 3 (5, [(0, vr 1), (1, vi c)], [vi c, vr 2], (I, zPp π, D, 147)) rfl trivial ?_
  refine z_ci 6 [vr 2, vi c] [] rfl (m_hasCrew1 hq) ?_
  refine z_br (¬ (1 : Int) = 0) 15 11 [] rfl (fun hx1 => ?_) (fun h => absurd (show ¬ (1 : Int) = 0 from by decide) h)
  refine z_n 3 (20, [(0, vr 1), (1, vi c)], [vi c, vr 2], (I, zPp π, D, 147)) rfl trivial ?_
  refine z_ci 14 [vr 2, vi c] [] rfl (m_startNumber0 w v hs) ?_
  refine z_n 3 (26, [(2, vi (-1)), (0, vr 1), (1, vi c)], [vi 1, vi (-1)], (I, zPp π, D, 147)) rfl trivial ?_
  refine z_br (1 ≤ (-1 : Int)) 33 29 [] rfl (fun h => absurd h (show ¬ (1 ≤ (-1 : Int)) from by decide)) (fun hx2 => ?_)
  refine z_n 1 (32, [(2, vi (-1)), (0, vr 1), (1, vi c)], [vi (-1004)], (I, zPp π, D, 147)) rfl trivial ?_
  first | exact z_ret rfl rfl rfl | exact z_ret rfl (zv1 (by omega)) rfl | (exfalso; omega)
set_option maxRecDepth 20000 in
theorem m_speedForz {I : zI} {π : Int → Nat} {D : zD} {c : Int} (w : zW1 (I 2)) (v : zW2 (I 2) (I 6) (I 8)) (hsp : ∀ c, 0 ≤ c → c < I 2 5 → 0 ≤ I 4 c ∧ I 4 c ≤ 1000) (hq : 0 ≤ c ∧ c < I 2 5) (hs : zIs (I 2) (I 6) c) (h0 : I 6 c - I 2 9 * I 2 6 < 1) : zMet 83 [vr 1, vi c] (I, zPp π, D, 147) (some (vi (-1004))) (I, zPp π, D, 147) := by
  refine z_n 3 (5, [(0, vr 1), (1, vi c)], [vi c, vr 2], (I, zPp π, D, 147)) rfl trivial ?_
  refine z_ci 6 [vr 2, vi c] [] rfl (m_hasCrew1 hq) ?_
  refine z_br (¬ (1 : Int) = 0) 15 11 [] rfl (fun hx1 => ?_) (fun h => absurd (show ¬ (1 : Int) = 0 from by decide) h)
  refine z_n 3 (20, [(0, vr 1), (1, vi c)], [vi c, vr 2], (I, zPp π, D, 147)) rfl trivial ?_
  refine z_ci 14 [vr 2, vi c] [] rfl (m_startNumber1 w v hs) ?_
  refine z_n 3 (26, [(2, vi (I 6 c - I 2 9 * I 2 6)), (0, vr 1), (1, vi c)], [vi 1, vi (I 6 c - I 2 9 * I 2 6)], (I, zPp π, D, 147)) rfl trivial ?_
  refine z_br (1 ≤ (I 6 c - I 2 9 * I 2 6)) 33 29 [] rfl (fun h => absurd h (show ¬ (1 ≤ (I 6 c - I 2 9 * I 2 6)) from by omega)) (fun hx2 => ?_)
  refine z_n 1 (32, [(2, vi (I 6 c - I 2 9 * I 2 6)), (0, vr 1), (1, vi c)], [vi (-1004)], (I, zPp π, D, 147)) rfl trivial ?_
  first | exact z_ret rfl rfl rfl | exact z_ret rfl (zv1 (by omega)) rfl | (exfalso; omega)
