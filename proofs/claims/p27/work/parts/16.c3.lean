set_option maxRecDepth 20000 in
theorem m_cnt17_l {I : zI} {π : Int → Nat} {D : zD} {c : Int} (hl : 0 ≤ I 14 4 ∧ I 14 4 ≤ 96) : ∀ (n : Nat) (k : Int), 0 ≤ k → k + n = I 14 4 → zRuns 47 5 [(4, vi k), (3, vi (zcnt (I 18) c k.toNat)), (0, vr 14), (1, vr 17), (2, vi c)] [] (I, zPp π, D, 137) (some (vi (zcnt (I 18) c (I 14 4).toNat))) (I, zPp π, D, 137) := by
  intro n
  induction n with
  | zero =>
    intro k h0 hn; have hb := zcnt_b (f := I 18) (c := c) k.toNat
    refine z_n 3 (11, [(4, vi k), (3, vi (zcnt (I 18) c k.toNat)), (0, vr 14), (1, vr 17), (2, vi c)], [vi (I 14 4), vi k], (I, zPp π, D, 137)) rfl trivial ?_
    refine z_br ((I 14 4) ≤ k) 38 14 [] rfl (fun hx1 => ?_) (fun h => absurd (show (I 14 4) ≤ k from by omega) h)
    refine z_n 1 (39, [(4, vi k), (3, vi (zcnt (I 18) c k.toNat)), (0, vr 14), (1, vr 17), (2, vi c)], [vi (zcnt (I 18) c k.toNat)], (I, zPp π, D, 137)) rfl trivial ?_
    exact z_ret rfl (zv1 (by rw [show k = I 14 4 by omega])) rfl
  | succ n ih =>
  intro k h0 hn; have hb := zcnt_b (f := I 18) (c := c) k.toNat
  refine z_n 3 (11, [(4, vi k), (3, vi (zcnt (I 18) c k.toNat)), (0, vr 14), (1, vr 17), (2, vi c)], [vi (I 14 4), vi k], (I, zPp π, D, 137)) rfl trivial ?_
  refine z_br ((I 14 4) ≤ k) 38 14 [] rfl (fun h => absurd h (show ¬ ((I 14 4) ≤ k) from by omega)) (fun hx1 => ?_)
  refine z_n 3 (18, [(4, vi k), (3, vi (zcnt (I 18) c k.toNat)), (0, vr 14), (1, vr 17), (2, vi c)], [vi k, vr 17, vi (zcnt (I 18) c k.toNat)], (I, zPp π, D, 137)) rfl trivial ?_
  refine z_ci 1 [vr 17, vi k] [vi (zcnt (I 18) c k.toNat)] rfl (m_get (n := 96) ⟨rfl, rfl, rfl, rfl⟩ (by omega) (by omega)) ?_
  refine z_n 1 (22, [(4, vi k), (3, vi (zcnt (I 18) c k.toNat)), (0, vr 14), (1, vr 17), (2, vi c)], [vi c, vi (I 18 k), vi (zcnt (I 18) c k.toNat)], (I, zPp π, D, 137)) rfl trivial ?_
  refine z_br (¬ (I 18 k) = c) 29 25 [vi (zcnt (I 18) c k.toNat)] rfl (fun hx2 => ?_) (fun hx2 => ?_)
  · refine z_n 5 (5, [(4, vi (k + 1)), (3, vi ((zcnt (I 18) c k.toNat) + 0)), (0, vr 14), (1, vr 17), (2, vi c)], [], (I, zPp π, D, 137)) (G := (zr ((zcnt (I 18) c k.toNat) + 0)) ∧ (zr (k + 1)) ∧ True) rfl ⟨by omega, by omega, trivial⟩ ?_
    refine z_sub [(4, vi (k + 1)), (3, vi ((zcnt (I 18) c k.toNat) + 0)), (0, vr 14), (1, vr 17), (2, vi c)] [0, 1, 2, 3, 4] rfl ?_
    refine z_lk (L1 := [(4, vi (k + 1)), (3, vi (zcnt (I 18) c (k + 1).toNat)), (0, vr 14), (1, vr 17), (2, vi c)]) (by rw [zcnt_s h0]; first | rw [if_pos (by omega)] | rw [if_neg (by omega)]) ?_
    exact ih (k + 1) (by omega) (by omega)
  · refine z_n 6 (5, [(4, vi (k + 1)), (3, vi ((zcnt (I 18) c k.toNat) + 1)), (0, vr 14), (1, vr 17), (2, vi c)], [], (I, zPp π, D, 137)) (G := (zr ((zcnt (I 18) c k.toNat) + 1)) ∧ (zr (k + 1)) ∧ True) rfl ⟨by omega, by omega, trivial⟩ ?_
    refine z_sub [(4, vi (k + 1)), (3, vi ((zcnt (I 18) c k.toNat) + 1)), (0, vr 14), (1, vr 17), (2, vi c)] [0, 1, 2, 3, 4] rfl ?_
    refine z_lk (L1 := [(4, vi (k + 1)), (3, vi (zcnt (I 18) c (k + 1).toNat)), (0, vr 14), (1, vr 17), (2, vi c)]) (by rw [zcnt_s h0]; first | rw [if_pos (by omega)] | rw [if_neg (by omega)]) ?_
    exact ih (k + 1) (by omega) (by omega)
set_option maxRecDepth 20000 in
theorem m_cnt17 {I : zI} {π : Int → Nat} {D : zD} {c : Int} (hl : 0 ≤ I 14 4 ∧ I 14 4 ≤ 96) : zMet 47 [vr 14, vr 17, vi c] (I, zPp π, D, 137) (some (vi (zcnt (I 18) c (I 14 4).toNat))) (I, zPp π, D, 137) := by
  refine z_n 4 (5, [(4, vi 0), (3, vi 0), (0, vr 14), (1, vr 17), (2, vi c)], [], (I, zPp π, D, 137)) rfl trivial ?_
  refine z_sub [(4, vi 0), (3, vi 0), (0, vr 14), (1, vr 17), (2, vi c)] [0, 1, 2, 3, 4] rfl ?_
  exact m_cnt17_l hl (I 14 4).toNat 0 (by omega) (by omega)
set_option maxRecDepth 20000 in
theorem m_cnt19_l {I : zI} {π : Int → Nat} {D : zD} {c : Int} (hl : 0 ≤ I 14 4 ∧ I 14 4 ≤ 96) : ∀ (n : Nat) (k : Int), 0 ≤ k → k + n = I 14 4 → zRuns 47 5 [(4, vi k), (3, vi (zcnt (I 20) c k.toNat)), (0, vr 14), (1, vr 19), (2, vi c)] [] (I, zPp π, D, 137) (some (vi (zcnt (I 20) c (I 14 4).toNat))) (I, zPp π, D, 137) := by
  intro n
  induction n with
  | zero =>
    intro k h0 hn; have hb := zcnt_b (f := I 20) (c := c) k.toNat
    refine z_n 3 (11, [(4, vi k), (3, vi (zcnt (I 20) c k.toNat)), (0, vr 14), (1, vr 19), (2, vi c)], [vi (I 14 4), vi k], (I, zPp π, D, 137)) rfl trivial ?_
    refine z_br ((I 14 4) ≤ k) 38 14 [] rfl (fun hx1 => ?_) (fun h => absurd (show (I 14 4) ≤ k from by omega) h)
    refine z_n 1 (39, [(4, vi k), (3, vi (zcnt (I 20) c k.toNat)), (0, vr 14), (1, vr 19), (2, vi c)], [vi (zcnt (I 20) c k.toNat)], (I, zPp π, D, 137)) rfl trivial ?_
    exact z_ret rfl (zv1 (by rw [show k = I 14 4 by omega])) rfl
  | succ n ih =>
  intro k h0 hn; have hb := zcnt_b (f := I 20) (c := c) k.toNat
  refine z_n 3 (11, [(4, vi k), (3, vi (zcnt (I 20) c k.toNat)), (0, vr 14), (1, vr 19), (2, vi c)], [vi (I 14 4), vi k], (I, zPp π, D, 137)) rfl trivial ?_
  refine z_br ((I 14 4) ≤ k) 38 14 [] rfl (fun h => absurd h (show ¬ ((I 14 4) ≤ k) from by omega)) (fun hx1 => ?_)
  refine z_n 3 (18, [(4, vi k), (3, vi (zcnt (I 20) c k.toNat)), (0, vr 14), (1, vr 19), (2, vi c)], [vi k, vr 19, vi (zcnt (I 20) c k.toNat)], (I, zPp π, D, 137)) rfl trivial ?_
  refine z_ci 1 [vr 19, vi k] [vi (zcnt (I 20) c k.toNat)] rfl (m_get (n := 96) ⟨rfl, rfl, rfl, rfl⟩ (by omega) (by omega)) ?_
  refine z_n 1 (22, [(4, vi k), (3, vi (zcnt (I 20) c k.toNat)), (0, vr 14), (1, vr 19), (2, vi c)], [vi c, vi (I 20 k), vi (zcnt (I 20) c k.toNat)], (I, zPp π, D, 137)) rfl trivial ?_
  refine z_br (¬ (I 20 k) = c) 29 25 [vi (zcnt (I 20) c k.toNat)] rfl (fun hx2 => ?_) (fun hx2 => ?_)
  · refine z_n 5 (5, [(4, vi (k + 1)), (3, vi ((zcnt (I 20) c k.toNat) + 0)), (0, vr 14), (1, vr 19), (2, vi c)], [], (I, zPp π, D, 137)) (G := (zr ((zcnt (I 20) c k.toNat) + 0)) ∧ (zr (k + 1)) ∧ True) rfl ⟨by omega, by omega, trivial⟩ ?_
    refine z_sub [(4, vi (k + 1)), (3, vi ((zcnt (I 20) c k.toNat) + 0)), (0, vr 14), (1, vr 19), (2, vi c)] [0, 1, 2, 3, 4] rfl ?_
    refine z_lk (L1 := [(4, vi (k + 1)), (3, vi (zcnt (I 20) c (k + 1).toNat)), (0, vr 14), (1, vr 19), (2, vi c)]) (by rw [zcnt_s h0]; first | rw [if_pos (by omega)] | rw [if_neg (by omega)]) ?_
    exact ih (k + 1) (by omega) (by omega)
  · refine z_n 6 (5, [(4, vi (k + 1)), (3, vi ((zcnt (I 20) c k.toNat) + 1)), (0, vr 14), (1, vr 19), (2, vi c)], [], (I, zPp π, D, 137)) (G := (zr ((zcnt (I 20) c k.toNat) + 1)) ∧ (zr (k + 1)) ∧ True) rfl ⟨by omega, by omega, trivial⟩ ?_
    refine z_sub [(4, vi (k + 1)), (3, vi ((zcnt (I 20) c k.toNat) + 1)), (0, vr 14), (1, vr 19), (2, vi c)] [0, 1, 2, 3, 4] rfl ?_
    refine z_lk (L1 := [(4, vi (k + 1)), (3, vi (zcnt (I 20) c (k + 1).toNat)), (0, vr 14), (1, vr 19), (2, vi c)]) (by rw [zcnt_s h0]; first | rw [if_pos (by omega)] | rw [if_neg (by omega)]) ?_
    exact ih (k + 1) (by omega) (by omega)
set_option maxRecDepth 20000 in
theorem m_cnt19 {I : zI} {π : Int → Nat} {D : zD} {c : Int} (hl : 0 ≤ I 14 4 ∧ I 14 4 ≤ 96) : zMet 47 [vr 14, vr 19, vi c] (I, zPp π, D, 137) (some (vi (zcnt (I 20) c (I 14 4).toNat))) (I, zPp π, D, 137) := by
  refine z_n 4 (5, [(4, vi 0), (3, vi 0), (0, vr 14), (1, vr 19), (2, vi c)], [], (I, zPp π, D, 137)) rfl trivial ?_
  refine z_sub [(4, vi 0), (3, vi 0), (0, vr 14), (1, vr 19), (2, vi c)] [0, 1, 2, 3, 4] rfl ?_
  exact m_cnt19_l hl (I 14 4).toNat 0 (by omega) (by omega)
set_option maxRecDepth 20000 in
theorem m_madeBy {I : zI} {π : Int → Nat} {D : zD} {c : Int} (hl : 0 ≤ I 14 4 ∧ I 14 4 ≤ 96) : zMet 45 [vr 14, vi c] (I, zPp π, D, 137) (some (vi (zcnt (I 18) c (I 14 4).toNat))) (I, zPp π, D, 137) := by
  refine z_n 4 (6, [(0, vr 14), (1, vi c)], [vi c, vr 17, vr 14], (I, zPp π, D, 137)) rfl trivial ?_
  refine z_ci 47 [vr 14, vr 17, vi c] [] rfl (m_cnt17 hl) ?_
  first | exact z_ret rfl rfl rfl | exact z_ret rfl (zv1 (by omega)) rfl | (exfalso; omega)
set_option maxRecDepth 20000 in
theorem m_madeOn {I : zI} {π : Int → Nat} {D : zD} {c : Int} (hl : 0 ≤ I 14 4 ∧ I 14 4 ≤ 96) : zMet 46 [vr 14, vi c] (I, zPp π, D, 137) (some (vi (zcnt (I 20) c (I 14 4).toNat))) (I, zPp π, D, 137) := by
  refine z_n 4 (6, [(0, vr 14), (1, vi c)], [vi c, vr 19, vr 14], (I, zPp π, D, 137)) rfl trivial ?_
  refine z_ci 47 [vr 14, vr 19, vi c] [] rfl (m_cnt19 hl) ?_
  first | exact z_ret rfl rfl rfl | exact z_ret rfl (zv1 (by omega)) rfl | (exfalso; omega)
set_option maxRecDepth 20000 in
theorem m_daysRisen_l {I : zI} {π : Int → Nat} {D : zD} {c : Int} (w : zW1 (I 2)) (h9 : 0 ≤ c) (h10 : c < 24) : ∀ (n : Nat) (k : Int), 0 ≤ k → k + n = I 2 8 → zRuns 26 4 [(3, vi (k + 1)), (2, vi (zris (fun d => I 24 (d * 24 + c)) k.toNat)), (0, vr 2), (1, vi c)] [] (I, zPp π, D, 137) (some (vi (zris (fun d => I 24 (d * 24 + c)) (I 2 8).toNat))) (I, zPp π, D, 137) := by
  obtain ⟨⟨w1, w2⟩, ⟨w3, w4⟩, ⟨w5, w6⟩, ⟨w7, w8⟩, ⟨w9, w10⟩, w11, ⟨⟨w12, w12b⟩, w12c⟩, ⟨w13, w14⟩, ⟨w15, w16⟩⟩ := id w
  intro n
  induction n with
  | zero =>
    intro k h0 hn; have hb := zris_b (g := (fun d => I 24 (d * 24 + c))) k.toNat
    refine z_n 3 (9, [(3, vi (k + 1)), (2, vi (zris (fun d => I 24 (d * 24 + c)) k.toNat)), (0, vr 2), (1, vi c)], [vi (I 2 8), vi (k + 1)], (I, zPp π, D, 137)) rfl trivial ?_
    refine z_br ((I 2 8) < (k + 1)) 43 12 [] rfl (fun hx1 => ?_) (fun h => absurd (show (I 2 8) < (k + 1) from by omega) h)
    refine z_n 1 (44, [(3, vi (k + 1)), (2, vi (zris (fun d => I 24 (d * 24 + c)) k.toNat)), (0, vr 2), (1, vi c)], [vi (zris (fun d => I 24 (d * 24 + c)) k.toNat)], (I, zPp π, D, 137)) rfl trivial ?_
    exact z_ret rfl (zv1 (by rw [show k = I 2 8 by omega])) rfl
  | succ n ih =>
  intro k h0 hn; have hb := zris_b (g := (fun d => I 24 (d * 24 + c))) k.toNat
  refine z_n 3 (9, [(3, vi (k + 1)), (2, vi (zris (fun d => I 24 (d * 24 + c)) k.toNat)), (0, vr 2), (1, vi c)], [vi (I 2 8), vi (k + 1)], (I, zPp π, D, 137)) rfl trivial ?_
  refine z_br ((I 2 8) < (k + 1)) 43 12 [] rfl (fun h => absurd h (show ¬ ((I 2 8) < (k + 1)) from by omega)) (fun hx1 => ?_)
  refine z_n 4 (16, [(3, vi (k + 1)), (2, vi (zris (fun d => I 24 (d * 24 + c)) k.toNat)), (0, vr 2), (1, vi c)], [vi (k + 1), vi c, vr 2, vi (zris (fun d => I 24 (d * 24 + c)) k.toNat)], (I, zPp π, D, 137)) rfl trivial ?_
  refine z_ci 25 [vr 2, vi c, vi (k + 1)] [vi (zris (fun d => I 24 (d * 24 + c)) k.toNat)] rfl (m_placeAfter (by omega) (by omega) (by omega) (by omega)) ?_
  refine z_n 5 (24, [(3, vi (k + 1)), (2, vi (zris (fun d => I 24 (d * 24 + c)) k.toNat)), (0, vr 2), (1, vi c)], [vi ((k + 1) - 1), vi c, vr 2, vi (I 24 ((k + 1) * 24 + c)), vi (zris (fun d => I 24 (d * 24 + c)) k.toNat)], (I, zPp π, D, 137)) (G := (zr ((k + 1) - 1)) ∧ True) rfl ⟨by omega, trivial⟩ ?_
  refine z_ci 25 [vr 2, vi c, vi ((k + 1) - 1)] [vi (I 24 ((k + 1) * 24 + c)), vi (zris (fun d => I 24 (d * 24 + c)) k.toNat)] rfl (m_placeAfter (by omega) (by omega) (by omega) (by omega)) ?_
  refine z_br ((I 24 ((k + 1 - 1) * 24 + c)) ≤ (I 24 ((k + 1) * 24 + c))) 34 30 [vi (zris (fun d => I 24 (d * 24 + c)) k.toNat)] rfl (fun hx2 => ?_) (fun hx2 => ?_)
  · refine z_n 5 (4, [(3, vi ((k + 1) + 1)), (2, vi ((zris (fun d => I 24 (d * 24 + c)) k.toNat) + 0)), (0, vr 2), (1, vi c)], [], (I, zPp π, D, 137)) (G := (zr ((zris (fun d => I 24 (d * 24 + c)) k.toNat) + 0)) ∧ (zr ((k + 1) + 1)) ∧ True) rfl ⟨by omega, by omega, trivial⟩ ?_
    refine z_sub [(3, vi ((k + 1) + 1)), (2, vi ((zris (fun d => I 24 (d * 24 + c)) k.toNat) + 0)), (0, vr 2), (1, vi c)] [0, 1, 2, 3] rfl ?_
    refine z_lk (L1 := [(3, vi ((k + 1) + 1)), (2, vi (zris (fun d => I 24 (d * 24 + c)) (k + 1).toNat)), (0, vr 2), (1, vi c)]) (by rw [zris_s h0]; simp only [show k + 1 - 1 = k by omega] at *; first | rw [if_pos (by omega)] | rw [if_neg (by omega)]) ?_
    exact ih (k + 1) (by omega) (by omega)
  · refine z_n 6 (4, [(3, vi ((k + 1) + 1)), (2, vi ((zris (fun d => I 24 (d * 24 + c)) k.toNat) + 1)), (0, vr 2), (1, vi c)], [], (I, zPp π, D, 137)) (G := (zr ((zris (fun d => I 24 (d * 24 + c)) k.toNat) + 1)) ∧ (zr ((k + 1) + 1)) ∧ True) rfl ⟨by omega, by omega, trivial⟩ ?_
    refine z_sub [(3, vi ((k + 1) + 1)), (2, vi ((zris (fun d => I 24 (d * 24 + c)) k.toNat) + 1)), (0, vr 2), (1, vi c)] [0, 1, 2, 3] rfl ?_
    refine z_lk (L1 := [(3, vi ((k + 1) + 1)), (2, vi (zris (fun d => I 24 (d * 24 + c)) (k + 1).toNat)), (0, vr 2), (1, vi c)]) (by rw [zris_s h0]; simp only [show k + 1 - 1 = k by omega] at *; first | rw [if_pos (by omega)] | rw [if_neg (by omega)]) ?_
    exact ih (k + 1) (by omega) (by omega)
set_option maxRecDepth 20000 in
theorem m_daysRisen {I : zI} {π : Int → Nat} {D : zD} {c : Int} (w : zW1 (I 2)) (h9 : 0 ≤ c) (h10 : c < 24) : zMet 26 [vr 2, vi c] (I, zPp π, D, 137) (some (vi (zris (fun d => I 24 (d * 24 + c)) (I 2 8).toNat))) (I, zPp π, D, 137) := by
  refine z_n 4 (4, [(3, vi 1), (2, vi 0), (0, vr 2), (1, vi c)], [], (I, zPp π, D, 137)) rfl trivial ?_
  refine z_sub [(3, vi 1), (2, vi 0), (0, vr 2), (1, vi c)] [0, 1, 2, 3] rfl ?_
  exact m_daysRisen_l w h9 h10 (I 2 8).toNat 0 (by omega) (by have := w.2.2.2.1; omega)
set_option maxRecDepth 20000 in
theorem m_daysFallen_l {I : zI} {π : Int → Nat} {D : zD} {c : Int} (w : zW1 (I 2)) (h9 : 0 ≤ c) (h10 : c < 24) : ∀ (n : Nat) (k : Int), 0 ≤ k → k + n = I 2 8 → zRuns 27 4 [(3, vi (k + 1)), (2, vi (zfal (fun d => I 24 (d * 24 + c)) k.toNat)), (0, vr 2), (1, vi c)] [] (I, zPp π, D, 137) (some (vi (zfal (fun d => I 24 (d * 24 + c)) (I 2 8).toNat))) (I, zPp π, D, 137) := by
  obtain ⟨⟨w1, w2⟩, ⟨w3, w4⟩, ⟨w5, w6⟩, ⟨w7, w8⟩, ⟨w9, w10⟩, w11, ⟨⟨w12, w12b⟩, w12c⟩, ⟨w13, w14⟩, ⟨w15, w16⟩⟩ := id w
  intro n
  induction n with
  | zero =>
    intro k h0 hn; have hb := zfal_b (g := (fun d => I 24 (d * 24 + c))) k.toNat
    refine z_n 3 (9, [(3, vi (k + 1)), (2, vi (zfal (fun d => I 24 (d * 24 + c)) k.toNat)), (0, vr 2), (1, vi c)], [vi (I 2 8), vi (k + 1)], (I, zPp π, D, 137)) rfl trivial ?_
    refine z_br ((I 2 8) < (k + 1)) 43 12 [] rfl (fun hx1 => ?_) (fun h => absurd (show (I 2 8) < (k + 1) from by omega) h)
    refine z_n 1 (44, [(3, vi (k + 1)), (2, vi (zfal (fun d => I 24 (d * 24 + c)) k.toNat)), (0, vr 2), (1, vi c)], [vi (zfal (fun d => I 24 (d * 24 + c)) k.toNat)], (I, zPp π, D, 137)) rfl trivial ?_
    exact z_ret rfl (zv1 (by rw [show k = I 2 8 by omega])) rfl
  | succ n ih =>
  intro k h0 hn; have hb := zfal_b (g := (fun d => I 24 (d * 24 + c))) k.toNat
  refine z_n 3 (9, [(3, vi (k + 1)), (2, vi (zfal (fun d => I 24 (d * 24 + c)) k.toNat)), (0, vr 2), (1, vi c)], [vi (I 2 8), vi (k + 1)], (I, zPp π, D, 137)) rfl trivial ?_
  refine z_br ((I 2 8) < (k + 1)) 43 12 [] rfl (fun h => absurd h (show ¬ ((I 2 8) < (k + 1)) from by omega)) (fun hx1 => ?_)
  refine z_n 4 (16, [(3, vi (k + 1)), (2, vi (zfal (fun d => I 24 (d * 24 + c)) k.toNat)), (0, vr 2), (1, vi c)], [vi (k + 1), vi c, vr 2, vi (zfal (fun d => I 24 (d * 24 + c)) k.toNat)], (I, zPp π, D, 137)) rfl trivial ?_
  refine z_ci 25 [vr 2, vi c, vi (k + 1)] [vi (zfal (fun d => I 24 (d * 24 + c)) k.toNat)] rfl (m_placeAfter (by omega) (by omega) (by omega) (by omega)) ?_
  refine z_n 5 (24, [(3, vi (k + 1)), (2, vi (zfal (fun d => I 24 (d * 24 + c)) k.toNat)), (0, vr 2), (1, vi c)], [vi ((k + 1) - 1), vi c, vr 2, vi (I 24 ((k + 1) * 24 + c)), vi (zfal (fun d => I 24 (d * 24 + c)) k.toNat)], (I, zPp π, D, 137)) (G := (zr ((k + 1) - 1)) ∧ True) rfl ⟨by omega, trivial⟩ ?_
  refine z_ci 25 [vr 2, vi c, vi ((k + 1) - 1)] [vi (I 24 ((k + 1) * 24 + c)), vi (zfal (fun d => I 24 (d * 24 + c)) k.toNat)] rfl (m_placeAfter (by omega) (by omega) (by omega) (by omega)) ?_
  refine z_br ((I 24 ((k + 1) * 24 + c)) ≤ (I 24 ((k + 1 - 1) * 24 + c))) 34 30 [vi (zfal (fun d => I 24 (d * 24 + c)) k.toNat)] rfl (fun hx2 => ?_) (fun hx2 => ?_)
  · refine z_n 5 (4, [(3, vi ((k + 1) + 1)), (2, vi ((zfal (fun d => I 24 (d * 24 + c)) k.toNat) + 0)), (0, vr 2), (1, vi c)], [], (I, zPp π, D, 137)) (G := (zr ((zfal (fun d => I 24 (d * 24 + c)) k.toNat) + 0)) ∧ (zr ((k + 1) + 1)) ∧ True) rfl ⟨by omega, by omega, trivial⟩ ?_
    refine z_sub [(3, vi ((k + 1) + 1)), (2, vi ((zfal (fun d => I 24 (d * 24 + c)) k.toNat) + 0)), (0, vr 2), (1, vi c)] [0, 1, 2, 3] rfl ?_
    refine z_lk (L1 := [(3, vi ((k + 1) + 1)), (2, vi (zfal (fun d => I 24 (d * 24 + c)) (k + 1).toNat)), (0, vr 2), (1, vi c)]) (by rw [zfal_s h0]; simp only [show k + 1 - 1 = k by omega] at *; first | rw [if_pos (by omega)] | rw [if_neg (by omega)]) ?_
    exact ih (k + 1) (by omega) (by omega)
  · refine z_n 6 (4, [(3, vi ((k + 1) + 1)), (2, vi ((zfal (fun d => I 24 (d * 24 + c)) k.toNat) + 1)), (0, vr 2), (1, vi c)], [], (I, zPp π, D, 137)) (G := (zr ((zfal (fun d => I 24 (d * 24 + c)) k.toNat) + 1)) ∧ (zr ((k + 1) + 1)) ∧ True) rfl ⟨by omega, by omega, trivial⟩ ?_
    refine z_sub [(3, vi ((k + 1) + 1)), (2, vi ((zfal (fun d => I 24 (d * 24 + c)) k.toNat) + 1)), (0, vr 2), (1, vi c)] [0, 1, 2, 3] rfl ?_
    refine z_lk (L1 := [(3, vi ((k + 1) + 1)), (2, vi (zfal (fun d => I 24 (d * 24 + c)) (k + 1).toNat)), (0, vr 2), (1, vi c)]) (by rw [zfal_s h0]; simp only [show k + 1 - 1 = k by omega] at *; first | rw [if_pos (by omega)] | rw [if_neg (by omega)]) ?_
    exact ih (k + 1) (by omega) (by omega)
set_option maxRecDepth 20000 in
theorem m_daysFallen {I : zI} {π : Int → Nat} {D : zD} {c : Int} (w : zW1 (I 2)) (h9 : 0 ≤ c) (h10 : c < 24) : zMet 27 [vr 2, vi c] (I, zPp π, D, 137) (some (vi (zfal (fun d => I 24 (d * 24 + c)) (I 2 8).toNat))) (I, zPp π, D, 137) := by
  refine z_n 4 (4, [(3, vi 1), (2, vi 0), (0, vr 2), (1, vi c)], [], (I, zPp π, D, 137)) rfl trivial ?_
  refine z_sub [(3, vi 1), (2, vi 0), (0, vr 2), (1, vi c)] [0, 1, 2, 3] rfl ?_
  exact m_daysFallen_l w h9 h10 (I 2 8).toNat 0 (by omega) (by have := w.2.2.2.1; omega)
set_option maxRecDepth 20000 in
theorem m_award {I : zI} {π : Int → Nat} {D : zD} {c : Int} (w : zW1 (I 2)) (h9 : 0 ≤ c) (h10 : c < 24) : zMet 28 [vr 2, vi c] (I, zPp π, D, 137) (some (vi (if I 2 8 = 0 then 0 else if zris (fun d => I 24 (d * 24 + c)) (I 2 8).toNat = I 2 8 then 1 else if zfal (fun d => I 24 (d * 24 + c)) (I 2 8).toNat = I 2 8 then 2 else 0))) (I, zPp π, D, 137) := by
  refine z_n 2 (4, [(0, vr 2), (1, vi c)], [vi (I 2 8)], (I, zPp π, D, 137)) rfl trivial ?_
  refine z_br (¬ (I 2 8) = 0) 9 7 [] rfl (fun hx1 => ?_) (fun hx1 => ?_)
  · refine z_n 2 (11, [(0, vr 2), (1, vi c)], [vi c, vr 2], (I, zPp π, D, 137)) rfl trivial ?_
    refine z_ci 26 [vr 2, vi c] [] rfl (m_daysRisen w h9 h10) ?_
    refine z_n 2 (18, [(0, vr 2), (1, vi c)], [vi (I 2 8), vi (zris (fun d => I 24 (d * 24 + c)) (I 2 8).toNat)], (I, zPp π, D, 137)) rfl trivial ?_
    refine z_br (¬ (zris (fun d => I 24 (d * 24 + c)) (I 2 8).toNat) = (I 2 8)) 23 21 [] rfl (fun hx2 => ?_) (fun hx2 => ?_)
    · refine z_n 2 (25, [(0, vr 2), (1, vi c)], [vi c, vr 2], (I, zPp π, D, 137)) rfl trivial ?_
      refine z_ci 27 [vr 2, vi c] [] rfl (m_daysFallen w h9 h10) ?_
      refine z_n 2 (32, [(0, vr 2), (1, vi c)], [vi (I 2 8), vi (zfal (fun d => I 24 (d * 24 + c)) (I 2 8).toNat)], (I, zPp π, D, 137)) rfl trivial ?_
      refine z_br (¬ (zfal (fun d => I 24 (d * 24 + c)) (I 2 8).toNat) = (I 2 8)) 39 35 [] rfl (fun hx3 => ?_) (fun hx3 => ?_)
      · refine z_n 1 (40, [(0, vr 2), (1, vi c)], [vi 0], (I, zPp π, D, 137)) rfl trivial ?_
        first | exact z_ret rfl rfl rfl | exact z_ret rfl (zv1 (by omega)) rfl | (exfalso; omega)
      · refine z_n 2 (40, [(0, vr 2), (1, vi c)], [vi 2], (I, zPp π, D, 137)) rfl trivial ?_
        first | exact z_ret rfl rfl rfl | exact z_ret rfl (zv1 (by omega)) rfl | (exfalso; omega)
    · refine z_n 1 (22, [(0, vr 2), (1, vi c)], [vi 1], (I, zPp π, D, 137)) rfl trivial ?_
      first | exact z_ret rfl rfl rfl | exact z_ret rfl (zv1 (by omega)) rfl | (exfalso; omega)
  · refine z_n 1 (8, [(0, vr 2), (1, vi c)], [vi 0], (I, zPp π, D, 137)) rfl trivial ?_
    first | exact z_ret rfl rfl rfl | exact z_ret rfl (zv1 (by omega)) rfl | (exfalso; omega)
set_option maxRecDepth 20000 in
theorem m_best_l {I : zI} {π : Int → Nat} {D : zD}  (w : zW1 (I 2)) (v : zW2 (I 2) (I 6) (I 8)) (hp : ∀ d c, 0 ≤ d → d ≤ I 2 8 → 0 ≤ c → c < I 2 5 → 0 ≤ I 24 (d * 24 + c) ∧ I 24 (d * 24 + c) < 24) : ∀ (n : Nat) (k : Int), 0 ≤ k → k + n = I 2 5 → zRuns 29 6 [(3, vi k), (2, vi (if k = 0 then 0 else (fun c => I 24 (0 * 24 + c) - I 24 (I 2 8 * 24 + c)) (zbst (fun c => I 24 (0 * 24 + c) - I 24 (I 2 8 * 24 + c)) (I 8) k.toNat))), (1, vi (zbst (fun c => I 24 (0 * 24 + c) - I 24 (I 2 8 * 24 + c)) (I 8) k.toNat)), (0, vr 2)] [] (I, zPp π, D, 137) (some (vi (zbst (fun c => I 24 (0 * 24 + c) - I 24 (I 2 8 * 24 + c)) (I 8) (I 2 5).toNat))) (I, zPp π, D, 137) := by
  obtain ⟨⟨w1, w2⟩, ⟨w3, w4⟩, ⟨w5, w6⟩, ⟨w7, w8⟩, ⟨w9, w10⟩, w11, ⟨⟨w12, w12b⟩, w12c⟩, ⟨w13, w14⟩, ⟨w15, w16⟩⟩ := id w
  intro n
  induction n with
  | zero =>
    intro k h0 hn
    refine z_n 3 (11, [(3, vi k), (2, vi (if k = 0 then 0 else (fun c => I 24 (0 * 24 + c) - I 24 (I 2 8 * 24 + c)) (zbst (fun c => I 24 (0 * 24 + c) - I 24 (I 2 8 * 24 + c)) (I 8) k.toNat))), (1, vi (zbst (fun c => I 24 (0 * 24 + c) - I 24 (I 2 8 * 24 + c)) (I 8) k.toNat)), (0, vr 2)], [vi (I 2 5), vi k], (I, zPp π, D, 137)) rfl trivial ?_
    refine z_br ((I 2 5) ≤ k) 67 14 [] rfl (fun hx1 => ?_) (fun h => absurd (show (I 2 5) ≤ k from by omega) h)
    refine z_n 1 (68, [(3, vi k), (2, vi (if k = 0 then 0 else (fun c => I 24 (0 * 24 + c) - I 24 (I 2 8 * 24 + c)) (zbst (fun c => I 24 (0 * 24 + c) - I 24 (I 2 8 * 24 + c)) (I 8) k.toNat))), (1, vi (zbst (fun c => I 24 (0 * 24 + c) - I 24 (I 2 8 * 24 + c)) (I 8) k.toNat)), (0, vr 2)], [vi (zbst (fun c => I 24 (0 * 24 + c) - I 24 (I 2 8 * 24 + c)) (I 8) k.toNat)], (I, zPp π, D, 137)) rfl trivial ?_
    exact z_ret rfl (zv1 (by rw [show k = I 2 5 by omega])) rfl
  | succ n ih =>
  intro k h0 hn
  have ho := v.2.1 k h0 (by omega)
  have p1 := hp 0 (I 8 k) (by omega) (by omega) ho.1 ho.2.1
  have p2 := hp (I 2 8) (I 8 k) (by omega) (by omega) ho.1 ho.2.1
  have hin := zbst_in (ri := (fun c => I 24 (0 * 24 + c) - I 24 (I 2 8 * 24 + c))) (Or := I 8) (N := I 2 5) (fun q a b => ⟨(v.2.1 q a b).1, (v.2.1 q a b).2.1⟩) k.toNat
  refine z_n 3 (11, [(3, vi k), (2, vi (if k = 0 then 0 else (fun c => I 24 (0 * 24 + c) - I 24 (I 2 8 * 24 + c)) (zbst (fun c => I 24 (0 * 24 + c) - I 24 (I 2 8 * 24 + c)) (I 8) k.toNat))), (1, vi (zbst (fun c => I 24 (0 * 24 + c) - I 24 (I 2 8 * 24 + c)) (I 8) k.toNat)), (0, vr 2)], [vi (I 2 5), vi k], (I, zPp π, D, 137)) rfl trivial ?_
  refine z_br ((I 2 5) ≤ k) 67 14 [] rfl (fun h => absurd h (show ¬ ((I 2 5) ≤ k) from by omega)) (fun hx1 => ?_)
  refine z_n 3 (19, [(3, vi k), (2, vi (if k = 0 then 0 else (fun c => I 24 (0 * 24 + c) - I 24 (I 2 8 * 24 + c)) (zbst (fun c => I 24 (0 * 24 + c) - I 24 (I 2 8 * 24 + c)) (I 8) k.toNat))), (1, vi (zbst (fun c => I 24 (0 * 24 + c) - I 24 (I 2 8 * 24 + c)) (I 8) k.toNat)), (0, vr 2)], [vi k, vr 7], (I, zPp π, D, 137)) rfl trivial ?_
  refine z_ci 1 [vr 7, vi k] [] rfl (m_get (n := 24) ⟨rfl, rfl, rfl, rfl⟩ (by omega) (by omega)) ?_
  refine z_n 4 (28, [(4, vi (I 8 k)), (3, vi k), (2, vi (if k = 0 then 0 else (fun c => I 24 (0 * 24 + c) - I 24 (I 2 8 * 24 + c)) (zbst (fun c => I 24 (0 * 24 + c) - I 24 (I 2 8 * 24 + c)) (I 8) k.toNat))), (1, vi (zbst (fun c => I 24 (0 * 24 + c) - I 24 (I 2 8 * 24 + c)) (I 8) k.toNat)), (0, vr 2)], [vi 0, vi (I 8 k), vr 2], (I, zPp π, D, 137)) rfl trivial ?_
  refine z_ci 25 [vr 2, vi (I 8 k), vi 0] [] rfl (m_placeAfter (by omega) (by omega) (by omega) (by omega)) ?_
  refine z_n 4 (38, [(4, vi (I 8 k)), (3, vi k), (2, vi (if k = 0 then 0 else (fun c => I 24 (0 * 24 + c) - I 24 (I 2 8 * 24 + c)) (zbst (fun c => I 24 (0 * 24 + c) - I 24 (I 2 8 * 24 + c)) (I 8) k.toNat))), (1, vi (zbst (fun c => I 24 (0 * 24 + c) - I 24 (I 2 8 * 24 + c)) (I 8) k.toNat)), (0, vr 2)], [vi (I 2 8), vi (I 8 k), vr 2, vi (I 24 (0 * 24 + I 8 k))], (I, zPp π, D, 137)) rfl trivial ?_
  refine z_ci 25 [vr 2, vi (I 8 k), vi (I 2 8)] [vi (I 24 (0 * 24 + I 8 k))] rfl (m_placeAfter (by omega) (by omega) (by omega) (by omega)) ?_
  refine z_n 4 (46, [(5, vi ((I 24 (0 * 24 + I 8 k)) - (I 24 (I 2 8 * 24 + I 8 k)))), (4, vi (I 8 k)), (3, vi k), (2, vi (if k = 0 then 0 else (fun c => I 24 (0 * 24 + c) - I 24 (I 2 8 * 24 + c)) (zbst (fun c => I 24 (0 * 24 + c) - I 24 (I 2 8 * 24 + c)) (I 8) k.toNat))), (1, vi (zbst (fun c => I 24 (0 * 24 + c) - I 24 (I 2 8 * 24 + c)) (I 8) k.toNat)), (0, vr 2)], [vi (-1), vi (zbst (fun c => I 24 (0 * 24 + c) - I 24 (I 2 8 * 24 + c)) (I 8) k.toNat)], (I, zPp π, D, 137)) (G := (zr ((I 24 (0 * 24 + I 8 k)) - (I 24 (I 2 8 * 24 + I 8 k)))) ∧ True) rfl ⟨by omega, trivial⟩ ?_
  refine z_br ((zbst (fun c => I 24 (0 * 24 + c) - I 24 (I 2 8 * 24 + c)) (I 8) k.toNat) = (-1)) 55 49 [] rfl (fun hx2 => ?_) (fun hx2 => ?_)
  · refine z_n 6 (6, [(3, vi (k + 1)), (2, vi ((I 24 (0 * 24 + I 8 k)) - (I 24 (I 2 8 * 24 + I 8 k)))), (1, vi (I 8 k)), (5, vi ((I 24 (0 * 24 + I 8 k)) - (I 24 (I 2 8 * 24 + I 8 k)))), (4, vi (I 8 k)), (0, vr 2)], [], (I, zPp π, D, 137)) (G := (zr (k + 1)) ∧ True) rfl ⟨by omega, trivial⟩ ?_
    refine z_sub [(3, vi (k + 1)), (2, vi ((I 24 (0 * 24 + I 8 k)) - (I 24 (I 2 8 * 24 + I 8 k)))), (1, vi (I 8 k)), (0, vr 2)] [0, 1, 2, 5] rfl ?_
    refine z_lk (L1 := [(3, vi (k + 1)), (2, vi (if k + 1 = 0 then 0 else (fun c => I 24 (0 * 24 + c) - I 24 (I 2 8 * 24 + c)) (zbst (fun c => I 24 (0 * 24 + c) - I 24 (I 2 8 * 24 + c)) (I 8) (k + 1).toNat))), (1, vi (zbst (fun c => I 24 (0 * 24 + c) - I 24 (I 2 8 * 24 + c)) (I 8) (k + 1).toNat)), (0, vr 2)]) (by rw [zbst_s h0, if_neg (show ¬ k + 1 = 0 by omega)]; by_cases k0 : k = 0; (case pos => subst k0; first | rfl | exact absurd rfl (by assumption)); (case neg => have hz := hin (by omega) (by omega); simp only [if_neg k0] at *; split <;> first | rfl | (exfalso; omega))) ?_
    exact ih (k + 1) (by omega) (by omega)
  · refine z_n 2 (52, [(5, vi ((I 24 (0 * 24 + I 8 k)) - (I 24 (I 2 8 * 24 + I 8 k)))), (4, vi (I 8 k)), (3, vi k), (2, vi (if k = 0 then 0 else (fun c => I 24 (0 * 24 + c) - I 24 (I 2 8 * 24 + c)) (zbst (fun c => I 24 (0 * 24 + c) - I 24 (I 2 8 * 24 + c)) (I 8) k.toNat))), (1, vi (zbst (fun c => I 24 (0 * 24 + c) - I 24 (I 2 8 * 24 + c)) (I 8) k.toNat)), (0, vr 2)], [vi (if k = 0 then 0 else (fun c => I 24 (0 * 24 + c) - I 24 (I 2 8 * 24 + c)) (zbst (fun c => I 24 (0 * 24 + c) - I 24 (I 2 8 * 24 + c)) (I 8) k.toNat)), vi ((I 24 (0 * 24 + I 8 k)) - (I 24 (I 2 8 * 24 + I 8 k)))], (I, zPp π, D, 137)) rfl trivial ?_
    refine z_br (((I 24 (0 * 24 + I 8 k)) - (I 24 (I 2 8 * 24 + I 8 k))) ≤ (if k = 0 then 0 else (fun c => I 24 (0 * 24 + c) - I 24 (I 2 8 * 24 + c)) (zbst (fun c => I 24 (0 * 24 + c) - I 24 (I 2 8 * 24 + c)) (I 8) k.toNat))) 61 55 [] rfl (fun hx3 => ?_) (fun hx3 => ?_)
    · refine z_n 2 (6, [(3, vi (k + 1)), (5, vi ((I 24 (0 * 24 + I 8 k)) - (I 24 (I 2 8 * 24 + I 8 k)))), (4, vi (I 8 k)), (2, vi (if k = 0 then 0 else (fun c => I 24 (0 * 24 + c) - I 24 (I 2 8 * 24 + c)) (zbst (fun c => I 24 (0 * 24 + c) - I 24 (I 2 8 * 24 + c)) (I 8) k.toNat))), (1, vi (zbst (fun c => I 24 (0 * 24 + c) - I 24 (I 2 8 * 24 + c)) (I 8) k.toNat)), (0, vr 2)], [], (I, zPp π, D, 137)) (G := (zr (k + 1)) ∧ True) rfl ⟨by omega, trivial⟩ ?_
      refine z_sub [(3, vi (k + 1)), (2, vi (if k = 0 then 0 else (fun c => I 24 (0 * 24 + c) - I 24 (I 2 8 * 24 + c)) (zbst (fun c => I 24 (0 * 24 + c) - I 24 (I 2 8 * 24 + c)) (I 8) k.toNat))), (1, vi (zbst (fun c => I 24 (0 * 24 + c) - I 24 (I 2 8 * 24 + c)) (I 8) k.toNat)), (0, vr 2)] [0, 3, 4, 5] rfl ?_
      refine z_lk (L1 := [(3, vi (k + 1)), (2, vi (if k + 1 = 0 then 0 else (fun c => I 24 (0 * 24 + c) - I 24 (I 2 8 * 24 + c)) (zbst (fun c => I 24 (0 * 24 + c) - I 24 (I 2 8 * 24 + c)) (I 8) (k + 1).toNat))), (1, vi (zbst (fun c => I 24 (0 * 24 + c) - I 24 (I 2 8 * 24 + c)) (I 8) (k + 1).toNat)), (0, vr 2)]) (by rw [zbst_s h0, if_neg (show ¬ k + 1 = 0 by omega)]; by_cases k0 : k = 0; (case pos => subst k0; first | rfl | exact absurd rfl (by assumption)); (case neg => have hz := hin (by omega) (by omega); simp only [if_neg k0] at *; split <;> first | rfl | (exfalso; omega))) ?_
      exact ih (k + 1) (by omega) (by omega)
    · refine z_n 6 (6, [(3, vi (k + 1)), (2, vi ((I 24 (0 * 24 + I 8 k)) - (I 24 (I 2 8 * 24 + I 8 k)))), (1, vi (I 8 k)), (5, vi ((I 24 (0 * 24 + I 8 k)) - (I 24 (I 2 8 * 24 + I 8 k)))), (4, vi (I 8 k)), (0, vr 2)], [], (I, zPp π, D, 137)) (G := (zr (k + 1)) ∧ True) rfl ⟨by omega, trivial⟩ ?_
      refine z_sub [(3, vi (k + 1)), (2, vi ((I 24 (0 * 24 + I 8 k)) - (I 24 (I 2 8 * 24 + I 8 k)))), (1, vi (I 8 k)), (0, vr 2)] [0, 1, 2, 5] rfl ?_
      refine z_lk (L1 := [(3, vi (k + 1)), (2, vi (if k + 1 = 0 then 0 else (fun c => I 24 (0 * 24 + c) - I 24 (I 2 8 * 24 + c)) (zbst (fun c => I 24 (0 * 24 + c) - I 24 (I 2 8 * 24 + c)) (I 8) (k + 1).toNat))), (1, vi (zbst (fun c => I 24 (0 * 24 + c) - I 24 (I 2 8 * 24 + c)) (I 8) (k + 1).toNat)), (0, vr 2)]) (by rw [zbst_s h0, if_neg (show ¬ k + 1 = 0 by omega)]; by_cases k0 : k = 0; (case pos => subst k0; first | rfl | exact absurd rfl (by assumption)); (case neg => have hz := hin (by omega) (by omega); simp only [if_neg k0] at *; split <;> first | rfl | (exfalso; omega))) ?_
      exact ih (k + 1) (by omega) (by omega)
set_option maxRecDepth 20000 in
theorem m_best {I : zI} {π : Int → Nat} {D : zD}  (w : zW1 (I 2)) (v : zW2 (I 2) (I 6) (I 8)) (hp : ∀ d c, 0 ≤ d → d ≤ I 2 8 → 0 ≤ c → c < I 2 5 → 0 ≤ I 24 (d * 24 + c) ∧ I 24 (d * 24 + c) < 24) : zMet 29 [vr 2] (I, zPp π, D, 137) (some (vi (zbst (fun c => I 24 (0 * 24 + c) - I 24 (I 2 8 * 24 + c)) (I 8) (I 2 5).toNat))) (I, zPp π, D, 137) := by
  refine z_n 6 (6, [(3, vi 0), (2, vi 0), (1, vi (-1)), (0, vr 2)], [], (I, zPp π, D, 137)) rfl trivial ?_
  refine z_sub [(3, vi 0), (2, vi 0), (1, vi (-1)), (0, vr 2)] [0, 1, 2, 3] rfl ?_
  exact m_best_l w v hp (I 2 5).toNat 0 (by omega) (by have := w.1; omega)
set_option maxRecDepth 20000 in
theorem m_fol_l {I : zI} {π : Int → Nat} {D : zD} {c d j : Int} (hl : 0 ≤ I 14 4 ∧ I 14 4 ≤ 96) (hj0 : 0 ≤ j) (hj1 : ∀ i, 0 ≤ i → i < j → I 16 i ≤ d) (hj2 : j = I 14 4 ∨ (j < I 14 4 ∧ d < I 16 j)) (hb : ∀ n : Nat, (n : Int) ≤ I 14 4 → -1000 ≤ zfol (I 18) (I 20) (I 22) c n ∧ zfol (I 18) (I 20) (I 22) c n ≤ 1000) : ∀ (n : Nat) (k : Int), 0 ≤ k → k + n = j → zRuns 48 5 [(4, vi k), (3, vi (zfol (I 18) (I 20) (I 22) c k.toNat)), (0, vr 14), (1, vi c), (2, vi d)] [] (I, zPp π, D, 137) (some (vi (zfol (I 18) (I 20) (I 22) c j.toNat))) (I, zPp π, D, 137) := by
  intro n
  induction n with
  | zero =>
    intro k h0 hn
    have e : k = j := by omega
    subst e
    refine z_n 3 (11, [(4, vi k), (3, vi (zfol (I 18) (I 20) (I 22) c k.toNat)), (0, vr 14), (1, vi c), (2, vi d)], [vi (I 14 4), vi k], (I, zPp π, D, 137)) rfl trivial ?_
    refine z_br ((I 14 4) ≤ k) 86 14 [] rfl (fun hx1 => ?_) (fun hx1 => ?_)
    · refine z_n 1 (87, [(4, vi k), (3, vi (zfol (I 18) (I 20) (I 22) c k.toNat)), (0, vr 14), (1, vi c), (2, vi d)], [vi (zfol (I 18) (I 20) (I 22) c k.toNat)], (I, zPp π, D, 137)) rfl trivial ?_
      exact z_ret rfl rfl rfl
    · refine z_n 3 (20, [(4, vi k), (3, vi (zfol (I 18) (I 20) (I 22) c k.toNat)), (0, vr 14), (1, vi c), (2, vi d)], [vi k, vr 15], (I, zPp π, D, 137)) rfl trivial ?_
      refine z_ci 1 [vr 15, vi k] [] rfl (m_get (n := 96) ⟨rfl, rfl, rfl, rfl⟩ (by omega) (by omega)) ?_
      refine z_n 1 (24, [(4, vi k), (3, vi (zfol (I 18) (I 20) (I 22) c k.toNat)), (0, vr 14), (1, vi c), (2, vi d)], [vi d, vi (I 16 k)], (I, zPp π, D, 137)) rfl trivial ?_
      refine z_br (d < (I 16 k)) 86 27 [] rfl (fun hx2 => ?_) (fun h => absurd (show d < (I 16 k) from by omega) h)
      refine z_n 1 (87, [(4, vi k), (3, vi (zfol (I 18) (I 20) (I 22) c k.toNat)), (0, vr 14), (1, vi c), (2, vi d)], [vi (zfol (I 18) (I 20) (I 22) c k.toNat)], (I, zPp π, D, 137)) rfl trivial ?_
      exact z_ret rfl rfl rfl
  | succ n ih =>
  intro k h0 hn
  have hk := hj1 k h0 (by omega)
  have b1 := hb (k + 1).toNat (by omega)
  rw [zfol_s h0] at b1
  refine z_n 3 (11, [(4, vi k), (3, vi (zfol (I 18) (I 20) (I 22) c k.toNat)), (0, vr 14), (1, vi c), (2, vi d)], [vi (I 14 4), vi k], (I, zPp π, D, 137)) rfl trivial ?_
  refine z_br ((I 14 4) ≤ k) 86 14 [] rfl (fun h => absurd h (show ¬ ((I 14 4) ≤ k) from by omega)) (fun hx1 => ?_)
  refine z_n 3 (20, [(4, vi k), (3, vi (zfol (I 18) (I 20) (I 22) c k.toNat)), (0, vr 14), (1, vi c), (2, vi d)], [vi k, vr 15], (I, zPp π, D, 137)) rfl trivial ?_
  refine z_ci 1 [vr 15, vi k] [] rfl (m_get (n := 96) ⟨rfl, rfl, rfl, rfl⟩ (by omega) (by omega)) ?_
  refine z_n 1 (24, [(4, vi k), (3, vi (zfol (I 18) (I 20) (I 22) c k.toNat)), (0, vr 14), (1, vi c), (2, vi d)], [vi d, vi (I 16 k)], (I, zPp π, D, 137)) rfl trivial ?_
  refine z_br (d < (I 16 k)) 86 27 [] rfl (fun h => absurd h (show ¬ (d < (I 16 k)) from by omega)) (fun hx2 => ?_)
  refine z_n 3 (33, [(4, vi k), (3, vi (zfol (I 18) (I 20) (I 22) c k.toNat)), (0, vr 14), (1, vi c), (2, vi d)], [vi k, vr 17], (I, zPp π, D, 137)) rfl trivial ?_
  refine z_ci 1 [vr 17, vi k] [] rfl (m_get (n := 96) ⟨rfl, rfl, rfl, rfl⟩ (by omega) (by omega)) ?_
  refine z_n 1 (37, [(4, vi k), (3, vi (zfol (I 18) (I 20) (I 22) c k.toNat)), (0, vr 14), (1, vi c), (2, vi d)], [vi c, vi (I 18 k)], (I, zPp π, D, 137)) rfl trivial ?_
  refine z_br (¬ (I 18 k) = c) 55 40 [] rfl (fun hx3 => ?_) (fun hx3 => ?_)
  · refine z_n 3 (61, [(4, vi k), (3, vi (zfol (I 18) (I 20) (I 22) c k.toNat)), (0, vr 14), (1, vi c), (2, vi d)], [vi k, vr 19], (I, zPp π, D, 137)) rfl trivial ?_
    refine z_ci 1 [vr 19, vi k] [] rfl (m_get (n := 96) ⟨rfl, rfl, rfl, rfl⟩ (by omega) (by omega)) ?_
    refine z_n 1 (65, [(4, vi k), (3, vi (zfol (I 18) (I 20) (I 22) c k.toNat)), (0, vr 14), (1, vi c), (2, vi d)], [vi c, vi (I 20 k)], (I, zPp π, D, 137)) rfl trivial ?_
    refine z_br (¬ (I 20 k) = c) 80 68 [] rfl (fun hx4 => ?_) (fun hx4 => ?_)
    · refine z_n 2 (5, [(4, vi (k + 1)), (3, vi (zfol (I 18) (I 20) (I 22) c k.toNat)), (0, vr 14), (1, vi c), (2, vi d)], [], (I, zPp π, D, 137)) (G := (zr (k + 1)) ∧ True) rfl ⟨by omega, trivial⟩ ?_
      refine z_sub [(4, vi (k + 1)), (3, vi (zfol (I 18) (I 20) (I 22) c k.toNat)), (0, vr 14), (1, vi c), (2, vi d)] [0, 1, 2, 3, 4] rfl ?_
      refine z_lk (L1 := [(4, vi (k + 1)), (3, vi (zfol (I 18) (I 20) (I 22) c (k + 1).toNat)), (0, vr 14), (1, vi c), (2, vi d)]) (by rw [zfol_s h0]; first | (rw [if_pos (by omega)]; done) | (rw [if_neg (by omega), if_pos (by omega)]; done) | (rw [if_neg (by omega), if_neg (by omega)]; done)) ?_
      exact ih (k + 1) (by omega) (by omega)
    · refine z_n 4 (75, [(4, vi k), (3, vi (zfol (I 18) (I 20) (I 22) c k.toNat)), (0, vr 14), (1, vi c), (2, vi d)], [vi k, vr 21, vi (zfol (I 18) (I 20) (I 22) c k.toNat)], (I, zPp π, D, 137)) rfl trivial ?_
      refine z_ci 1 [vr 21, vi k] [vi (zfol (I 18) (I 20) (I 22) c k.toNat)] rfl (m_get (n := 96) ⟨rfl, rfl, rfl, rfl⟩ (by omega) (by omega)) ?_
      refine z_n 4 (5, [(4, vi (k + 1)), (3, vi ((zfol (I 18) (I 20) (I 22) c k.toNat) + (I 22 k))), (0, vr 14), (1, vi c), (2, vi d)], [], (I, zPp π, D, 137)) (G := (zr ((zfol (I 18) (I 20) (I 22) c k.toNat) + (I 22 k))) ∧ (zr (k + 1)) ∧ True) rfl ⟨by rw [if_neg (by omega), if_pos (by omega)] at b1; omega, by omega, trivial⟩ ?_
      refine z_sub [(4, vi (k + 1)), (3, vi ((zfol (I 18) (I 20) (I 22) c k.toNat) + (I 22 k))), (0, vr 14), (1, vi c), (2, vi d)] [0, 1, 2, 3, 4] rfl ?_
      refine z_lk (L1 := [(4, vi (k + 1)), (3, vi (zfol (I 18) (I 20) (I 22) c (k + 1).toNat)), (0, vr 14), (1, vi c), (2, vi d)]) (by rw [zfol_s h0]; first | (rw [if_pos (by omega)]; done) | (rw [if_neg (by omega), if_pos (by omega)]; done) | (rw [if_neg (by omega), if_neg (by omega)]; done)) ?_
      exact ih (k + 1) (by omega) (by omega)
  · refine z_n 4 (47, [(4, vi k), (3, vi (zfol (I 18) (I 20) (I 22) c k.toNat)), (0, vr 14), (1, vi c), (2, vi d)], [vi k, vr 21, vi (zfol (I 18) (I 20) (I 22) c k.toNat)], (I, zPp π, D, 137)) rfl trivial ?_
    refine z_ci 1 [vr 21, vi k] [vi (zfol (I 18) (I 20) (I 22) c k.toNat)] rfl (m_get (n := 96) ⟨rfl, rfl, rfl, rfl⟩ (by omega) (by omega)) ?_
    refine z_n 5 (5, [(4, vi (k + 1)), (3, vi ((zfol (I 18) (I 20) (I 22) c k.toNat) - (I 22 k))), (0, vr 14), (1, vi c), (2, vi d)], [], (I, zPp π, D, 137)) (G := (zr ((zfol (I 18) (I 20) (I 22) c k.toNat) - (I 22 k))) ∧ (zr (k + 1)) ∧ True) rfl ⟨by rw [if_pos (by omega)] at b1; omega, by omega, trivial⟩ ?_
    refine z_sub [(4, vi (k + 1)), (3, vi ((zfol (I 18) (I 20) (I 22) c k.toNat) - (I 22 k))), (0, vr 14), (1, vi c), (2, vi d)] [0, 1, 2, 3, 4] rfl ?_
    refine z_lk (L1 := [(4, vi (k + 1)), (3, vi (zfol (I 18) (I 20) (I 22) c (k + 1).toNat)), (0, vr 14), (1, vi c), (2, vi d)]) (by rw [zfol_s h0]; first | (rw [if_pos (by omega)]; done) | (rw [if_neg (by omega), if_pos (by omega)]; done) | (rw [if_neg (by omega), if_neg (by omega)]; done)) ?_
    exact ih (k + 1) (by omega) (by omega)
set_option maxRecDepth 20000 in
theorem m_fol {I : zI} {π : Int → Nat} {D : zD} {c d j : Int} (hl : 0 ≤ I 14 4 ∧ I 14 4 ≤ 96) (hj0 : 0 ≤ j) (hj1 : ∀ i, 0 ≤ i → i < j → I 16 i ≤ d) (hj2 : j = I 14 4 ∨ (j < I 14 4 ∧ d < I 16 j)) (hb : ∀ n : Nat, (n : Int) ≤ I 14 4 → -1000 ≤ zfol (I 18) (I 20) (I 22) c n ∧ zfol (I 18) (I 20) (I 22) c n ≤ 1000) : zMet 48 [vr 14, vi c, vi d] (I, zPp π, D, 137) (some (vi (zfol (I 18) (I 20) (I 22) c j.toNat))) (I, zPp π, D, 137) := by
  refine z_n 4 (5, [(4, vi 0), (3, vi c), (0, vr 14), (1, vi c), (2, vi d)], [], (I, zPp π, D, 137)) rfl trivial ?_
  refine z_sub [(4, vi 0), (3, vi c), (0, vr 14), (1, vi c), (2, vi d)] [0, 1, 2, 3, 4] rfl ?_
  exact m_fol_l hl hj0 hj1 hj2 hb j.toNat 0 (by omega) (by omega)
set_option maxRecDepth 20000 in
theorem m_has1 {I : zI} {π : Int → Nat} {D : zD} {k : Int} (h : 0 ≤ k ∧ k < I 9 2) : zMet 51 [vr 9, vi k] (I, zPp π, D, 137) (some (vi 1)) (I, zPp π, D, 137) := by
  refine z_n 1 (1, [(0, vr 9), (1, vi k)], [vi k], (I, zPp π, D, 137)) rfl trivial ?_
  refine z_br (k < 0) 16 4 [] rfl (fun h => absurd h (show ¬ (k < 0) from by omega)) (fun hx1 => ?_)
  refine z_n 3 (9, [(0, vr 9), (1, vi k)], [vi (I 9 2), vi k], (I, zPp π, D, 137)) rfl trivial ?_
  refine z_br ((I 9 2) ≤ k) 16 12 [] rfl (fun h => absurd h (show ¬ ((I 9 2) ≤ k) from by omega)) (fun hx2 => ?_)
  refine z_n 2 (17, [(0, vr 9), (1, vi k)], [vi 1], (I, zPp π, D, 137)) rfl trivial ?_
  first | exact z_ret rfl rfl rfl | exact z_ret rfl (zv1 (by omega)) rfl | (exfalso; omega)
set_option maxRecDepth 20000 in
theorem m_has0 {I : zI} {π : Int → Nat} {D : zD} {k : Int} (h : ¬ (0 ≤ k ∧ k < I 9 2)) : zMet 51 [vr 9, vi k] (I, zPp π, D, 137) (some (vi 0)) (I, zPp π, D, 137) := by
  refine z_n 1 (1, [(0, vr 9), (1, vi k)], [vi k], (I, zPp π, D, 137)) rfl trivial ?_
  refine z_br (k < 0) 16 4 [] rfl (fun hx1 => ?_) (fun hx1 => ?_)
  · refine z_n 1 (17, [(0, vr 9), (1, vi k)], [vi 0], (I, zPp π, D, 137)) rfl trivial ?_
    first | exact z_ret rfl rfl rfl | exact z_ret rfl (zv1 (by omega)) rfl | (exfalso; omega)
  · refine z_n 3 (9, [(0, vr 9), (1, vi k)], [vi (I 9 2), vi k], (I, zPp π, D, 137)) rfl trivial ?_
    refine z_br ((I 9 2) ≤ k) 16 12 [] rfl (fun hx2 => ?_) (fun hx2 => ?_)
    · refine z_n 1 (17, [(0, vr 9), (1, vi k)], [vi 0], (I, zPp π, D, 137)) rfl trivial ?_
      first | exact z_ret rfl rfl rfl | exact z_ret rfl (zv1 (by omega)) rfl | (exfalso; omega)
    · refine z_n 2 (17, [(0, vr 9), (1, vi k)], [vi 1], (I, zPp π, D, 137)) rfl trivial ?_
      first | exact z_ret rfl rfl rfl | exact z_ret rfl (zv1 (by omega)) rfl | (exfalso; omega)
