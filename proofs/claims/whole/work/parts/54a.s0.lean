set_option maxRecDepth 20000 in
theorem m_fault0 {I : zI} {π : Int → Nat} {D : zD}  (w : zW1 (I 2)) (v : zW2 (I 2) (I 6) (I 8)) (hl : 0 ≤ I 129 0 ∧ I 129 0 ≤ 80) (ht : ∀ p, 0 ≤ p → p < 80 → 0 ≤ I 136 p ∧ I 136 p ≤ 126) (hM : 0 ≤ I 9 2) (hd : zDis (I 2) (I 6) (I 9 2) (I 11) (I 13)) : ∃ (q : zCo) (a2 b2 e2 : Int), zCk (I 2) (I 6) (I 8) (zsg (I 136) (I 129 0)) (I 129 0) 80 0 (I 9 2) (I 11) (I 13) 0 q ∧ zMet 90 [vr 1, vi 0] (I, zPp π, D, 147) (some (vi (if q.1 = 0 then -1004 else q.2.1))) ((zup (zTS I q.2.2.1 q.2.2.2.1 q.2.2.2.2.1 q.1 q.2.2.2.2.2 a2 b2 e2) 129 2 q.2.1), zPp π, D, 147) := by
  obtain ⟨q, a2, b2, e2, hckq, hrun⟩ := m_check (π := π) (D := D) w v hl ht hM hd
  refine ⟨q, a2, b2, e2, hckq, ?_⟩
  refine z_n 1 (1, [(0, vr 1), (1, vi 0)], [vi 0], (I, zPp π, D, 147)) rfl trivial ?_
  refine z_br ((0 : Int) < 0) 9 4 [] rfl (fun h => absurd h (show ¬ ((0 : Int) < 0) from by decide)) (fun hx1 => ?_)
  refine z_n 2 (6, [(0, vr 1), (1, vi 0)], [vi 1, vi 0], (I, zPp π, D, 147)) rfl trivial ?_
  refine z_br ((0 : Int) ≤ 1) 13 9 [] rfl (fun hx2 => ?_) (fun h => absurd (show (0 : Int) ≤ 1 from by decide) h)
  refine z_n 4 (21, [(0, vr 1), (1, vi 0)], [vr 2, vr 129], (I, zPp π, D, 147)) rfl trivial ?_
  refine z_cv 60 [vr 129, vr 2] [] rfl (hrun) ?_
  refine z_n 3 (31, [(0, vr 1), (1, vi 0)], [vi q.1], ((zup (zTS I q.2.2.1 q.2.2.2.1 q.2.2.2.2.1 q.1 q.2.2.2.2.2 a2 b2 e2) 129 2 q.2.1), zPp π, D, 147)) rfl trivial ?_
  refine z_br (¬ q.1 = 0) 38 34 [] rfl (fun hx3 => ?_) (fun hx3 => ?_)
  · refine z_n 1 (39, [(0, vr 1), (1, vi 0)], [vi 0], ((zup (zTS I q.2.2.1 q.2.2.2.1 q.2.2.2.2.1 q.1 q.2.2.2.2.2 a2 b2 e2) 129 2 q.2.1), zPp π, D, 147)) rfl trivial ?_
    refine z_br (¬ (0 : Int) = 0) 52 42 [] rfl (fun h => absurd h (show ¬ (¬ (0 : Int) = 0) from by decide)) (fun hx4 => ?_)
    refine z_n 4 (59, [(0, vr 1), (1, vi 0)], [vi q.2.1], ((zup (zTS I q.2.2.1 q.2.2.2.1 q.2.2.2.2.1 q.1 q.2.2.2.2.2 a2 b2 e2) 129 2 q.2.1), zPp π, D, 147)) rfl trivial ?_
    exact z_ret rfl (zv1 (by omega)) rfl
  · refine z_n 1 (37, [(0, vr 1), (1, vi 0)], [vi (-1004)], ((zup (zTS I q.2.2.1 q.2.2.2.1 q.2.2.2.2.1 q.1 q.2.2.2.2.2 a2 b2 e2) 129 2 q.2.1), zPp π, D, 147)) rfl trivial ?_
    exact z_ret rfl (zv1 (by omega)) rfl
set_option maxRecDepth 20000 in
theorem m_fault1 {I : zI} {π : Int → Nat} {D : zD}  (w : zW1 (I 2)) (v : zW2 (I 2) (I 6) (I 8)) (hl : 0 ≤ I 129 0 ∧ I 129 0 ≤ 80) (ht : ∀ p, 0 ≤ p → p < 80 → 0 ≤ I 136 p ∧ I 136 p ≤ 126) (hM : 0 ≤ I 9 2) (hd : zDis (I 2) (I 6) (I 9 2) (I 11) (I 13)) : ∃ (q : zCo) (a2 b2 e2 : Int), zCk (I 2) (I 6) (I 8) (zsg (I 136) (I 129 0)) (I 129 0) 80 0 (I 9 2) (I 11) (I 13) 0 q ∧ zMet 90 [vr 1, vi 1] (I, zPp π, D, 147) (some (vi (if q.1 = 0 then -1004 else q.1))) ((zup (zTS I q.2.2.1 q.2.2.2.1 q.2.2.2.2.1 q.1 q.2.2.2.2.2 a2 b2 e2) 129 2 q.2.1), zPp π, D, 147) := by
  obtain ⟨q, a2, b2, e2, hckq, hrun⟩ := m_check (π := π) (D := D) w v hl ht hM hd
  refine ⟨q, a2, b2, e2, hckq, ?_⟩
  refine z_n 1 (1, [(0, vr 1), (1, vi 1)], [vi 1], (I, zPp π, D, 147)) rfl trivial ?_
  refine z_br ((1 : Int) < 0) 9 4 [] rfl (fun h => absurd h (show ¬ ((1 : Int) < 0) from by decide)) (fun hx1 => ?_)
  refine z_n 2 (6, [(0, vr 1), (1, vi 1)], [vi 1, vi 1], (I, zPp π, D, 147)) rfl trivial ?_
  refine z_br ((1 : Int) ≤ 1) 13 9 [] rfl (fun hx2 => ?_) (fun h => absurd (show (1 : Int) ≤ 1 from by decide) h)
  refine z_n 4 (21, [(0, vr 1), (1, vi 1)], [vr 2, vr 129], (I, zPp π, D, 147)) rfl trivial ?_
  refine z_cv 60 [vr 129, vr 2] [] rfl (hrun) ?_
  refine z_n 3 (31, [(0, vr 1), (1, vi 1)], [vi q.1], ((zup (zTS I q.2.2.1 q.2.2.2.1 q.2.2.2.2.1 q.1 q.2.2.2.2.2 a2 b2 e2) 129 2 q.2.1), zPp π, D, 147)) rfl trivial ?_
  refine z_br (¬ q.1 = 0) 38 34 [] rfl (fun hx3 => ?_) (fun hx3 => ?_)
  · refine z_n 1 (39, [(0, vr 1), (1, vi 1)], [vi 1], ((zup (zTS I q.2.2.1 q.2.2.2.1 q.2.2.2.2.1 q.1 q.2.2.2.2.2 a2 b2 e2) 129 2 q.2.1), zPp π, D, 147)) rfl trivial ?_
    refine z_br (¬ (1 : Int) = 0) 52 42 [] rfl (fun hx4 => ?_) (fun h => absurd (show ¬ (1 : Int) = 0 from by decide) h)
    refine z_n 3 (59, [(0, vr 1), (1, vi 1)], [vi q.1], ((zup (zTS I q.2.2.1 q.2.2.2.1 q.2.2.2.2.1 q.1 q.2.2.2.2.2 a2 b2 e2) 129 2 q.2.1), zPp π, D, 147)) rfl trivial ?_
    exact z_ret rfl (zv1 (by omega)) rfl
  · refine z_n 1 (37, [(0, vr 1), (1, vi 1)], [vi (-1004)], ((zup (zTS I q.2.2.1 q.2.2.2.1 q.2.2.2.2.1 q.1 q.2.2.2.2.2 a2 b2 e2) 129 2 q.2.1), zPp π, D, 147)) rfl trivial ?_
    exact z_ret rfl (zv1 (by omega)) rfl
set_option maxRecDepth 20000 in
theorem m_enter {I : zI} {π : Int → Nat} {D : zD}  (w : zW1 (I 2)) (v : zW2 (I 2) (I 6) (I 8)) (hl : 0 ≤ I 129 0 ∧ I 129 0 ≤ 80) (ht : ∀ p, 0 ≤ p → p < 80 → 0 ≤ I 136 p ∧ I 136 p ≤ 126) (hM : 0 ≤ I 9 2) (hd : zDis (I 2) (I 6) (I 9 2) (I 11) (I 13)) (hπ : zPi π) (hk : 0 ≤ I 25 1 ∧ I 25 1 ≤ 4) : ∃ (q : zCo) (a2 b2 e2 : Int) (J : zI), zCk (I 2) (I 6) (I 8) (zsg (I 136) (I 129 0)) (I 129 0) 80 0 (I 9 2) (I 11) (I 13) 0 q ∧ J = zKe (zup (zTS I q.2.2.1 q.2.2.2.1 q.2.2.2.2.1 q.1 q.2.2.2.2.2 a2 b2 e2) 129 2 q.2.1) π ∧ (¬ q.1 = 0 → zMet 91 [vr 1] (I, zPp π, D, 147) (some (vi (-1002))) ((zup (zTS I q.2.2.1 q.2.2.2.1 q.2.2.2.2.1 q.1 q.2.2.2.2.2 a2 b2 e2) 129 2 q.2.1), zPp π, D, 147)) ∧ (q.1 = 0 → zMet 91 [vr 1] (I, zPp π, D, 147) (some (vi q.2.2.2.2.2)) ((zup (zcpR (zcpR J 11 132) 13 134) 9 2 (J 130 2)), zPp (zkr π (I 25 1)), D, 147)) := by
  obtain ⟨q, a2, b2, e2, hckq, hrun⟩ := m_check (π := π) (D := D) w v hl ht hM hd
  obtain ⟨J, eJ⟩ : ∃ J, J = zKe (zup (zTS I q.2.2.1 q.2.2.2.1 q.2.2.2.2.1 q.1 q.2.2.2.2.2 a2 b2 e2) 129 2 q.2.1) π := ⟨_, rfl⟩
  have hkp : zMet 40 [vr 25, vr 2] ((zup (zTS I q.2.2.1 q.2.2.2.1 q.2.2.2.2.1 q.1 q.2.2.2.2.2 a2 b2 e2) 129 2 q.2.1), zPp π, D, 147) none (J, zPp (zkr π (I 25 1)), D, 147) := by rw [eJ]; exact m_keep (I := (zup (zTS I q.2.2.1 q.2.2.2.1 q.2.2.2.2.1 q.1 q.2.2.2.2.2 a2 b2 e2) 129 2 q.2.1)) hπ hk
  have hJ : ∀ r, (r < 25 ∨ 119 ≤ r) → J r = (zup (zTS I q.2.2.1 q.2.2.2.1 q.2.2.2.2.1 q.1 q.2.2.2.2.2 a2 b2 e2) 129 2 q.2.1) r := by
    intro r h9
    rw [eJ]
    rcases h9 with h9 | h9
    · exact zKe_lt (I := (zup (zTS I q.2.2.1 q.2.2.2.1 q.2.2.2.2.1 q.1 q.2.2.2.2.2 a2 b2 e2) 129 2 q.2.1)) hπ hk h9
    · exact zKe_gt (I := (zup (zTS I q.2.2.1 q.2.2.2.1 q.2.2.2.2.1 q.1 q.2.2.2.2.2 a2 b2 e2) 129 2 q.2.1)) hπ hk h9
  refine ⟨q, a2, b2, e2, J, hckq, eJ, fun h0 => ?_, fun h0 => ?_⟩
  · refine z_n 4 (8, [(0, vr 1)], [vr 2, vr 129], (I, zPp π, D, 147)) rfl trivial ?_
    refine z_cv 60 [vr 129, vr 2] [] rfl (hrun) ?_
    refine z_n 3 (18, [(0, vr 1)], [vi q.1], ((zup (zTS I q.2.2.1 q.2.2.2.1 q.2.2.2.2.1 q.1 q.2.2.2.2.2 a2 b2 e2) 129 2 q.2.1), zPp π, D, 147)) rfl trivial ?_
    refine z_br (q.1 = 0) 25 21 [] rfl (fun h => absurd h (show ¬ (q.1 = 0) from h0)) (fun hx1 => ?_)
    refine z_n 1 (24, [(0, vr 1)], [vi (-1002)], ((zup (zTS I q.2.2.1 q.2.2.2.1 q.2.2.2.2.1 q.1 q.2.2.2.2.2 a2 b2 e2) 129 2 q.2.1), zPp π, D, 147)) rfl trivial ?_
    exact z_ret rfl rfl rfl
  · refine z_n 4 (8, [(0, vr 1)], [vr 2, vr 129], (I, zPp π, D, 147)) rfl trivial ?_
    refine z_cv 60 [vr 129, vr 2] [] rfl (hrun) ?_
    refine z_n 3 (18, [(0, vr 1)], [vi q.1], ((zup (zTS I q.2.2.1 q.2.2.2.1 q.2.2.2.2.1 q.1 q.2.2.2.2.2 a2 b2 e2) 129 2 q.2.1), zPp π, D, 147)) rfl trivial ?_
    refine z_br (q.1 = 0) 25 21 [] rfl (fun hx1 => ?_) (fun h => absurd (show q.1 = 0 from h0) h)
    refine z_n 4 (33, [(0, vr 1)], [vr 2, vr 25], ((zup (zTS I q.2.2.1 q.2.2.2.1 q.2.2.2.2.1 q.1 q.2.2.2.2.2 a2 b2 e2) 129 2 q.2.1), zPp π, D, 147)) rfl trivial ?_
    refine z_cv 40 [vr 25, vr 2] [] rfl (hkp) ?_
    refine z_n 6 (50, [(0, vr 1)], [vr 130, vr 9], (J, zPp (zkr π (I 25 1)), D, 147)) rfl trivial ?_
    refine z_cv 57 [vr 9, vr 130] [] rfl (m_rcp_9_130) ?_
    refine z_n 3 (60, [(0, vr 1)], [vi (J 129 3)], ((zup (zcpR (zcpR J 11 132) 13 134) 9 2 (J 130 2)), zPp (zkr π (I 25 1)), D, 147)) rfl trivial ?_
    exact z_ret rfl (zv1 (by rw [hJ 129 (by decide)]; rfl)) rfl
set_option maxRecDepth 20000 in
theorem m_speedFor1 {I : zI} {π : Int → Nat} {D : zD} {c : Int} (w : zW1 (I 2)) (v : zW2 (I 2) (I 6) (I 8)) (hsp : ∀ c, 0 ≤ c → c < I 2 5 → 0 ≤ I 4 c ∧ I 4 c ≤ 1000) (hq : 0 ≤ c ∧ c < I 2 5) (hs : zIs (I 2) (I 6) c) (h0 : 1 ≤ I 6 c - I 2 9 * I 2 6) : ∃ (res : Int) (I2 : zI) (D2 : zD), zagr I2 I ∧ zSf (zhu I c (I 6 c - I 2 9 * I 2 6)) res ∧ zMet 83 [vr 1, vi c] (I, zPp π, D, 147) (some (vi res)) (I2, zPp π, D2, 147) := by
  obtain ⟨res, I2, D2, ha, hsf, hrun⟩ := m_sf_l (π := π) (c := c) (nb := I 6 c - I 2 9 * I 2 6) w v hsp 1000 1 I D (by omega) (by omega) (fun _ _ _ _ _ _ => rfl) (fun s s0 s1 => by omega)
  refine ⟨res, I2, D2, ha, hsf, ?_⟩
  refine z_n 3 (5, [(0, vr 1), (1, vi c)], [vi c, vr 2], (I, zPp π, D, 147)) rfl trivial ?_
  refine z_ci 6 [vr 2, vi c] [] rfl (m_hasCrew1 hq) ?_
  refine z_br (¬ (1 : Int) = 0) 15 11 [] rfl (fun hx1 => ?_) (fun h => absurd (show ¬ (1 : Int) = 0 from by decide) h)
  refine z_n 3 (20, [(0, vr 1), (1, vi c)], [vi c, vr 2], (I, zPp π, D, 147)) rfl trivial ?_
  refine z_ci 14 [vr 2, vi c] [] rfl (m_startNumber1 w v hs) ?_
  refine z_n 3 (26, [(2, vi (I 6 c - I 2 9 * I 2 6)), (0, vr 1), (1, vi c)], [vi 1, vi (I 6 c - I 2 9 * I 2 6)], (I, zPp π, D, 147)) rfl trivial ?_
  refine z_br (1 ≤ (I 6 c - I 2 9 * I 2 6)) 33 29 [] rfl (fun hx2 => ?_) (fun h => absurd (show 1 ≤ (I 6 c - I 2 9 * I 2 6) from by omega) h)
  refine z_n 2 (35, [(3, vi 1), (2, vi (I 6 c - I 2 9 * I 2 6)), (0, vr 1), (1, vi c)], [], (I, zPp π, D, 147)) rfl trivial ?_
  refine z_sub [(3, vi 1), (2, vi (I 6 c - I 2 9 * I 2 6)), (0, vr 1), (1, vi c)] [0, 1, 2, 3] rfl ?_
  exact hrun
