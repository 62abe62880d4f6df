theorem zcpp_s {P : Int → Prop} {k : Int} (h : 0 ≤ k) : zcpp P (k + 1).toNat = zcpp P k.toNat + @ite Int (P k) (Classical.propDecidable _) 1 0 := by
  obtain ⟨j, rfl⟩ : ∃ j : Nat, k = j := ⟨k.toNat, by omega⟩
  rfl
theorem m_again2 {I : zI} {π : Int → Nat} {D : zD} (s : zCH (zX I 2)) {c d : Int} (hc : 0 ≤ c ∧ c < I 2 5) (hdd : 0 ≤ d ∧ d ≤ I 2 8) : zMet 75 [vr 1, vi c, vi d] (I, zPp π, D, 137) (some (vi (I 24 (d * 24 + c)))) (I, zPp π, D, 137) := by
  have ci := s.1
  have w : zW1 (I 2) := ci.1.1
  have v : zW2 (I 2) (I 6) (I 8) := ci.1.2.1
  have hd : zDis (I 2) (I 6) (I 9 2) (I 11) (I 13) := ci.2.2
  have hm : 0 ≤ I 9 2 := ci.2.1
  have hdl := zdis_le w v hd hm
  have hM : 0 ≤ I 9 2 ∧ I 9 2 ≤ 4 := ⟨hm, hdl.2⟩
  have hN := w.1
  have hO := w.2.2.2.1
  have hT := w.2.2.1
  have hlb := zlb_b w
  have hl0 : 0 ≤ I 14 4 ∧ I 14 4 ≤ zlb (I 2) := ci.1.2.2.2.1.1
  have hl : 0 ≤ I 14 4 ∧ I 14 4 ≤ 96 := by omega
  obtain ⟨j, jb, j1, j2, j3⟩ := s.2.2 d hdd.1 hdd.2
  have jb0 : 0 ≤ j ∧ j ≤ I 14 4 := jb
  have j1' : ∀ i, 0 ≤ i → i < j → I 16 i ≤ d := j1
  have j2' : ∀ i, j ≤ i → i < I 14 4 → d < I 16 i := j2
  have j3' : I 24 (d * 24 + c) = zsw (I 18) (I 20) j.toNat c := j3 c hc.1 hc.2
  have hlg : ∀ k, 0 ≤ k → k < I 14 4 → (0 ≤ I 18 k ∧ I 18 k < I 2 5) ∧ (0 ≤ I 20 k ∧ I 20 k < I 2 5) ∧ ¬ I 18 k = I 20 k ∧ I 22 k = zsw (I 18) (I 20) k.toNat (I 18 k) - zsw (I 18) (I 20) k.toNat (I 20 k) := ci.1.2.2.2.1.2.1
  have ef : ∀ n : Nat, (n : Int) ≤ I 14 4 → zfol (I 18) (I 20) (I 22) c n = zsw (I 18) (I 20) n c := fun n hn => zfol_sw (N := I 2 5) n (fun k k0 k1 => (hlg k k0 (by omega)).2.2)
  have key := m_again1 (π := π) (D := D) (c := c) (d := d) (j := j) ⟨hc, hdd⟩ hl jb0.1 j1' (by
    by_cases h9 : j = I 14 4
    · exact Or.inl h9
    · exact Or.inr ⟨by omega, j2' j (Int.le_refl _) (by omega)⟩) (fun n hn => by
    rw [ef n hn]
    have := zsw_in (u := I 18) (d := I 20) (N := I 2 5) n (fun k k0 k1 => ⟨(hlg k k0 (by omega)).1, (hlg k k0 (by omega)).2.1⟩) c hc.1 hc.2
    omega)
  rw [ef j.toNat (by omega), ← j3'] at key
  exact key
set_option maxRecDepth 20000 in
theorem m_h438A {I : zI} {π : Int → Nat} {D : zD} {u : Int} (s : zCH (zX I 2)) (hR : I 2 9 = -1) : zRuns 80 438 [(6, vi u), (5, vi 1), (0, vr 1)] [] (I, zPp π, D, 137) (some (vi 1)) (I, zPp π, D, 137) := by
  have ci := s.1
  have w : zW1 (I 2) := ci.1.1
  have v : zW2 (I 2) (I 6) (I 8) := ci.1.2.1
  have hd : zDis (I 2) (I 6) (I 9 2) (I 11) (I 13) := ci.2.2
  have hm : 0 ≤ I 9 2 := ci.2.1
  have hdl := zdis_le w v hd hm
  have hM : 0 ≤ I 9 2 ∧ I 9 2 ≤ 4 := ⟨hm, hdl.2⟩
  have hN := w.1
  have hO := w.2.2.2.1
  have hT := w.2.2.1
  have hlb := zlb_b w
  have hl0 : 0 ≤ I 14 4 ∧ I 14 4 ≤ zlb (I 2) := ci.1.2.2.2.1.1
  have hl : 0 ≤ I 14 4 ∧ I 14 4 ≤ 96 := by omega
  refine z_n 1 (440, [(6, vi u), (5, vi 1), (0, vr 1)], [vi 1], (I, zPp π, D, 137)) rfl trivial ?_
  refine z_br ((1 : Int) = 0) 469 443 [] rfl (fun h => absurd h (show ¬ ((1 : Int) = 0) from by decide)) (fun hx1 => ?_)
  refine z_n 2 (446, [(6, vi u), (5, vi 1), (0, vr 1)], [vi 6, vr 1], (I, zPp π, D, 137)) rfl trivial ?_
  refine z_ci 60 [vr 1, vi 6] [] rfl (m_count6 w) ?_
  refine z_br ((if I 2 9 = -1 then -1004 else I 9 2) < 0) 465 452 [] rfl (fun hx2 => ?_) (fun h => absurd (show (if I 2 9 = -1 then -1004 else I 9 2) < 0 from by rw [if_pos hR]; decide) h)
  refine z_n 2 (470, [(6, vi u), (5, vi 1), (0, vr 1)], [vi 1], (I, zPp π, D, 137)) rfl trivial ?_
  exact z_ret rfl rfl rfl
set_option maxRecDepth 20000 in
theorem m_h438B {I : zI} {π : Int → Nat} {D : zD} {u : Int} (s : zCH (zX I 2)) (hR : ¬ I 2 9 = -1) (hu : u = 2 * I 9 2) : zRuns 80 438 [(6, vi u), (5, vi 1), (0, vr 1)] [] (I, zPp π, D, 137) (some (vi 1)) (I, zPp π, D, 137) := by
  have ci := s.1
  have w : zW1 (I 2) := ci.1.1
  have v : zW2 (I 2) (I 6) (I 8) := ci.1.2.1
  have hd : zDis (I 2) (I 6) (I 9 2) (I 11) (I 13) := ci.2.2
  have hm : 0 ≤ I 9 2 := ci.2.1
  have hdl := zdis_le w v hd hm
  have hM : 0 ≤ I 9 2 ∧ I 9 2 ≤ 4 := ⟨hm, hdl.2⟩
  have hN := w.1
  have hO := w.2.2.2.1
  have hT := w.2.2.1
  have hlb := zlb_b w
  have hl0 : 0 ≤ I 14 4 ∧ I 14 4 ≤ zlb (I 2) := ci.1.2.2.2.1.1
  have hl : 0 ≤ I 14 4 ∧ I 14 4 ≤ 96 := by omega
  refine z_n 1 (440, [(6, vi u), (5, vi 1), (0, vr 1)], [vi 1], (I, zPp π, D, 137)) rfl trivial ?_
  refine z_br ((1 : Int) = 0) 469 443 [] rfl (fun h => absurd h (show ¬ ((1 : Int) = 0) from by decide)) (fun hx1 => ?_)
  refine z_n 2 (446, [(6, vi u), (5, vi 1), (0, vr 1)], [vi 6, vr 1], (I, zPp π, D, 137)) rfl trivial ?_
  refine z_ci 60 [vr 1, vi 6] [] rfl (m_count6 w) ?_
  refine z_br ((if I 2 9 = -1 then -1004 else I 9 2) < 0) 465 452 [] rfl (fun h => absurd h (show ¬ ((if I 2 9 = -1 then -1004 else I 9 2) < 0) from by rw [if_neg hR]; omega)) (fun hx2 => ?_)
  refine z_n 4 (458, [(6, vi u), (5, vi 1), (0, vr 1)], [vi 6, vr 1, vi 2, vi u], (I, zPp π, D, 137)) rfl trivial ?_
  refine z_ci 60 [vr 1, vi 6] [vi 2, vi u] rfl (m_count6 w) ?_
  refine z_n 1 (462, [(6, vi u), (5, vi 1), (0, vr 1)], [vi (2 * (if I 2 9 = -1 then -1004 else I 9 2)), vi u], (I, zPp π, D, 137)) (G := (zr (2 * (if I 2 9 = -1 then -1004 else I 9 2))) ∧ True) rfl ⟨by rw [if_neg hR]; omega, trivial⟩ ?_
  refine z_br (¬ u = (2 * (if I 2 9 = -1 then -1004 else I 9 2))) 469 465 [] rfl (fun h => absurd h (show ¬ (¬ u = (2 * (if I 2 9 = -1 then -1004 else I 9 2))) from fun h9 => h9 (by rw [if_neg hR]; exact hu))) (fun hx3 => ?_)
  refine z_n 2 (470, [(6, vi u), (5, vi 1), (0, vr 1)], [vi 1], (I, zPp π, D, 137)) rfl trivial ?_
  exact z_ret rfl rfl rfl
set_option maxRecDepth 20000 in
theorem m_h345 {I : zI} {π : Int → Nat} {D : zD} {r : Option zV} {τ : zS} (s : zCH (zX I 2)) (hk : zRuns 80 438 [(6, vi (zcpp (fun k => zOut (I 9 2) (I 11) (I 13) (I 8 (I 2 9 * I 2 6 + k))) (zns (I 2)).toNat)), (5, vi 1), (0, vr 1)] [] (I, zPp π, D, 137) r τ) : ∀ (N : Nat) (k : Int), 0 ≤ k → k + N = zns (I 2) → zRuns 80 345 [(7, vi k), (6, vi (zcpp (fun k => zOut (I 9 2) (I 11) (I 13) (I 8 (I 2 9 * I 2 6 + k))) k.toNat)), (5, vi 1), (0, vr 1)] [] (I, zPp π, D, 137) r τ := by
  have ci := s.1
  have w : zW1 (I 2) := ci.1.1
  have v : zW2 (I 2) (I 6) (I 8) := ci.1.2.1
  have hd : zDis (I 2) (I 6) (I 9 2) (I 11) (I 13) := ci.2.2
  have hm : 0 ≤ I 9 2 := ci.2.1
  have hdl := zdis_le w v hd hm
  have hM : 0 ≤ I 9 2 ∧ I 9 2 ≤ 4 := ⟨hm, hdl.2⟩
  have hN := w.1
  have hO := w.2.2.2.1
  have hT := w.2.2.1
  have hlb := zlb_b w
  have hl0 : 0 ≤ I 14 4 ∧ I 14 4 ≤ zlb (I 2) := ci.1.2.2.2.1.1
  have hl : 0 ≤ I 14 4 ∧ I 14 4 ≤ 96 := by omega
  have hzb := zns_b w
  intro N
  induction N with
  | zero =>
    intro k h0 hN9
    obtain rfl : k = zns (I 2) := by omega
    refine z_n 2 (348, [(7, vi (zns (I 2))), (6, vi (zcpp (fun k => zOut (I 9 2) (I 11) (I 13) (I 8 (I 2 9 * I 2 6 + k))) (zns (I 2)).toNat)), (5, vi 1), (0, vr 1)], [vi (zns (I 2)), vr 1], (I, zPp π, D, 137)) rfl trivial ?_
    refine z_ci 64 [vr 1, vi (zns (I 2))] [] rfl (m_starter0 w (by omega) (by omega)) ?_
    refine z_br ((-1004 : Int) < 0) 438 354 [] rfl (fun hx1 => ?_) (fun h => absurd (show (-1004 : Int) < 0 from by decide) h)
    refine z_sub [(6, vi (zcpp (fun k => zOut (I 9 2) (I 11) (I 13) (I 8 (I 2 9 * I 2 6 + k))) (zns (I 2)).toNat)), (5, vi 1), (0, vr 1)] [1, 2, 3] rfl ?_
    exact hk
  | succ N ih =>
  intro k h0 hN9
  have q1 := v.2.1 (I 2 9 * I 2 6 + k) (by omega) (by omega)
  have q2 : 0 < k → 0 ≤ I 8 (I 2 9 * I 2 6 + (k - 1)) ∧ I 8 (I 2 9 * I 2 6 + (k - 1)) < I 2 5 ∧ I 6 (I 8 (I 2 9 * I 2 6 + (k - 1))) = I 2 9 * I 2 6 + (k - 1) := fun h9 => v.2.1 (I 2 9 * I 2 6 + (k - 1)) (by omega) (by omega)
  have his : zIs (I 2) (I 6) (I 8 (I 2 9 * I 2 6 + k)) := ⟨⟨q1.1, q1.2.1⟩, by omega, by omega⟩
  have hcb := zcpp_b (P := (fun k => zOut (I 9 2) (I 11) (I 13) (I 8 (I 2 9 * I 2 6 + k)))) k.toNat
  refine z_n 2 (348, [(7, vi k), (6, vi (zcpp (fun k => zOut (I 9 2) (I 11) (I 13) (I 8 (I 2 9 * I 2 6 + k))) k.toNat)), (5, vi 1), (0, vr 1)], [vi k, vr 1], (I, zPp π, D, 137)) rfl trivial ?_
  refine z_ci 64 [vr 1, vi k] [] rfl (m_starter1 w (by omega) (by omega)) ?_
  refine z_br ((I 8 (I 2 9 * I 2 6 + k)) < 0) 438 354 [] rfl (fun h => absurd h (show ¬ ((I 8 (I 2 9 * I 2 6 + k)) < 0) from by omega)) (fun hx1 => ?_)
  refine z_n 1 (356, [(7, vi k), (6, vi (zcpp (fun k => zOut (I 9 2) (I 11) (I 13) (I 8 (I 2 9 * I 2 6 + k))) k.toNat)), (5, vi 1), (0, vr 1)], [vi 1], (I, zPp π, D, 137)) rfl trivial ?_
  refine z_br ((1 : Int) = 0) 438 359 [] rfl (fun h => absurd h (show ¬ ((1 : Int) = 0) from by decide)) (fun hx2 => ?_)
  refine z_n 3 (363, [(7, vi k), (6, vi (zcpp (fun k => zOut (I 9 2) (I 11) (I 13) (I 8 (I 2 9 * I 2 6 + k))) k.toNat)), (5, vi 1), (0, vr 1)], [vi k, vr 1, vr 1], (I, zPp π, D, 137)) rfl trivial ?_
  refine z_ci 64 [vr 1, vi k] [vr 1] rfl (m_starter1 w (by omega) (by omega)) ?_
  refine z_n 1 (367, [(7, vi k), (6, vi (zcpp (fun k => zOut (I 9 2) (I 11) (I 13) (I 8 (I 2 9 * I 2 6 + k))) k.toNat)), (5, vi 1), (0, vr 1)], [vi 3, vi (I 8 (I 2 9 * I 2 6 + k)), vr 1], (I, zPp π, D, 137)) rfl trivial ?_
  refine z_ci 61 [vr 1, vi (I 8 (I 2 9 * I 2 6 + k)), vi 3] [] rfl (m_crew_3s ⟨q1.1, q1.2.1⟩ w v his) ?_
  refine z_n 1 (372, [(7, vi k), (6, vi (zcpp (fun k => zOut (I 9 2) (I 11) (I 13) (I 8 (I 2 9 * I 2 6 + k))) k.toNat)), (5, vi 1), (0, vr 1)], [vi k, vi (I 6 (I 8 (I 2 9 * I 2 6 + k)) - I 2 9 * I 2 6)], (I, zPp π, D, 137)) rfl trivial ?_
  refine z_br (¬ (I 6 (I 8 (I 2 9 * I 2 6 + k)) - I 2 9 * I 2 6) = k) 413 375 [] rfl (fun h => absurd h (show ¬ (¬ (I 6 (I 8 (I 2 9 * I 2 6 + k)) - I 2 9 * I 2 6) = k) from by omega)) (fun hx3 => ?_)
  refine z_n 1 (377, [(7, vi k), (6, vi (zcpp (fun k => zOut (I 9 2) (I 11) (I 13) (I 8 (I 2 9 * I 2 6 + k))) k.toNat)), (5, vi 1), (0, vr 1)], [vi k], (I, zPp π, D, 137)) rfl trivial ?_
  refine z_br (k = 0) 409 380 [] rfl (fun hx4 => ?_) (fun hx4 => ?_)
  · refine z_n 7 (422, [(5, vi 1), (7, vi k), (6, vi (zcpp (fun k => zOut (I 9 2) (I 11) (I 13) (I 8 (I 2 9 * I 2 6 + k))) k.toNat)), (0, vr 1)], [vi k, vr 1, vr 1, vi (zcpp (fun k => zOut (I 9 2) (I 11) (I 13) (I 8 (I 2 9 * I 2 6 + k))) k.toNat)], (I, zPp π, D, 137)) rfl trivial ?_
    refine z_ci 64 [vr 1, vi k] [vr 1, vi (zcpp (fun k => zOut (I 9 2) (I 11) (I 13) (I 8 (I 2 9 * I 2 6 + k))) k.toNat)] rfl (m_starter1 w (by omega) (by omega)) ?_
    refine z_n 1 (426, [(5, vi 1), (7, vi k), (6, vi (zcpp (fun k => zOut (I 9 2) (I 11) (I 13) (I 8 (I 2 9 * I 2 6 + k))) k.toNat)), (0, vr 1)], [vi 4, vi (I 8 (I 2 9 * I 2 6 + k)), vr 1, vi (zcpp (fun k => zOut (I 9 2) (I 11) (I 13) (I 8 (I 2 9 * I 2 6 + k))) k.toNat)], (I, zPp π, D, 137)) rfl trivial ?_
    by_cases hx5 : zOut (I 9 2) (I 11) (I 13) (I 8 (I 2 9 * I 2 6 + k))
    · refine z_ci 61 [vr 1, vi (I 8 (I 2 9 * I 2 6 + k)), vi 4] [vi (zcpp (fun k => zOut (I 9 2) (I 11) (I 13) (I 8 (I 2 9 * I 2 6 + k))) k.toNat)] rfl (m_crew_4o ⟨q1.1, q1.2.1⟩ w v hM his hx5) ?_
      refine z_n 4 (345, [(7, vi (k + 1)), (6, vi ((zcpp (fun k => zOut (I 9 2) (I 11) (I 13) (I 8 (I 2 9 * I 2 6 + k))) k.toNat) + 1)), (5, vi 1), (0, vr 1)], [], (I, zPp π, D, 137)) (G := (zr ((zcpp (fun k => zOut (I 9 2) (I 11) (I 13) (I 8 (I 2 9 * I 2 6 + k))) k.toNat) + 1)) ∧ (zr (k + 1)) ∧ True) rfl ⟨by omega, by omega, trivial⟩ ?_
      refine z_sub [(7, vi (k + 1)), (6, vi ((zcpp (fun k => zOut (I 9 2) (I 11) (I 13) (I 8 (I 2 9 * I 2 6 + k))) k.toNat) + 1)), (5, vi 1), (0, vr 1)] [0, 1, 2, 3] rfl ?_
      refine z_lk (L1 := [(7, vi (k + 1)), (6, vi (zcpp (fun k => zOut (I 9 2) (I 11) (I 13) (I 8 (I 2 9 * I 2 6 + k))) (k + 1).toNat)), (5, vi 1), (0, vr 1)]) (by rw [zcpp_s h0]; first | rw [if_pos (by assumption)] | rw [if_neg (by assumption)]) ?_
      exact ih (k + 1) (by omega) (by omega)
    · refine z_ci 61 [vr 1, vi (I 8 (I 2 9 * I 2 6 + k)), vi 4] [vi (zcpp (fun k => zOut (I 9 2) (I 11) (I 13) (I 8 (I 2 9 * I 2 6 + k))) k.toNat)] rfl (m_crew_4i ⟨q1.1, q1.2.1⟩ w v hM his hx5) ?_
      refine z_n 4 (345, [(7, vi (k + 1)), (6, vi ((zcpp (fun k => zOut (I 9 2) (I 11) (I 13) (I 8 (I 2 9 * I 2 6 + k))) k.toNat) + 0)), (5, vi 1), (0, vr 1)], [], (I, zPp π, D, 137)) (G := (zr ((zcpp (fun k => zOut (I 9 2) (I 11) (I 13) (I 8 (I 2 9 * I 2 6 + k))) k.toNat) + 0)) ∧ (zr (k + 1)) ∧ True) rfl ⟨by omega, by omega, trivial⟩ ?_
      refine z_sub [(7, vi (k + 1)), (6, vi ((zcpp (fun k => zOut (I 9 2) (I 11) (I 13) (I 8 (I 2 9 * I 2 6 + k))) k.toNat) + 0)), (5, vi 1), (0, vr 1)] [0, 1, 2, 3] rfl ?_
      refine z_lk (L1 := [(7, vi (k + 1)), (6, vi (zcpp (fun k => zOut (I 9 2) (I 11) (I 13) (I 8 (I 2 9 * I 2 6 + k))) (k + 1).toNat)), (5, vi 1), (0, vr 1)]) (by rw [zcpp_s h0]; first | rw [if_pos (by assumption)] | rw [if_neg (by assumption)]) ?_
      exact ih (k + 1) (by omega) (by omega)
  · refine z_n 3 (384, [(7, vi k), (6, vi (zcpp (fun k => zOut (I 9 2) (I 11) (I 13) (I 8 (I 2 9 * I 2 6 + k))) k.toNat)), (5, vi 1), (0, vr 1)], [vi k, vr 1, vr 1], (I, zPp π, D, 137)) rfl trivial ?_
    refine z_ci 64 [vr 1, vi k] [vr 1] rfl (m_starter1 w (by omega) (by omega)) ?_
    refine z_n 1 (388, [(7, vi k), (6, vi (zcpp (fun k => zOut (I 9 2) (I 11) (I 13) (I 8 (I 2 9 * I 2 6 + k))) k.toNat)), (5, vi 1), (0, vr 1)], [vi 1, vi (I 8 (I 2 9 * I 2 6 + k)), vr 1], (I, zPp π, D, 137)) rfl trivial ?_
    refine z_ci 61 [vr 1, vi (I 8 (I 2 9 * I 2 6 + k)), vi 1] [] rfl (m_crew_1 ⟨q1.1, q1.2.1⟩ w) ?_
    refine z_n 5 (397, [(7, vi k), (6, vi (zcpp (fun k => zOut (I 9 2) (I 11) (I 13) (I 8 (I 2 9 * I 2 6 + k))) k.toNat)), (5, vi 1), (0, vr 1)], [vi (k - 1), vr 1, vr 1, vi (I 6 (I 8 (I 2 9 * I 2 6 + k)))], (I, zPp π, D, 137)) (G := (zr (k - 1)) ∧ True) rfl ⟨by omega, trivial⟩ ?_
    refine z_ci 64 [vr 1, vi (k - 1)] [vr 1, vi (I 6 (I 8 (I 2 9 * I 2 6 + k)))] rfl (m_starter1 w (by omega) (by omega)) ?_
    refine z_n 1 (401, [(7, vi k), (6, vi (zcpp (fun k => zOut (I 9 2) (I 11) (I 13) (I 8 (I 2 9 * I 2 6 + k))) k.toNat)), (5, vi 1), (0, vr 1)], [vi 1, vi (I 8 (I 2 9 * I 2 6 + (k - 1))), vr 1, vi (I 6 (I 8 (I 2 9 * I 2 6 + k)))], (I, zPp π, D, 137)) rfl trivial ?_
    refine z_ci 61 [vr 1, vi (I 8 (I 2 9 * I 2 6 + (k - 1))), vi 1] [vi (I 6 (I 8 (I 2 9 * I 2 6 + k)))] rfl (m_crew_1 ⟨(q2 (by omega)).1, (q2 (by omega)).2.1⟩ w) ?_
    refine z_n 2 (406, [(7, vi k), (6, vi (zcpp (fun k => zOut (I 9 2) (I 11) (I 13) (I 8 (I 2 9 * I 2 6 + k))) k.toNat)), (5, vi 1), (0, vr 1)], [vi ((I 6 (I 8 (I 2 9 * I 2 6 + (k - 1)))) + 1), vi (I 6 (I 8 (I 2 9 * I 2 6 + k)))], (I, zPp π, D, 137)) (G := (zr ((I 6 (I 8 (I 2 9 * I 2 6 + (k - 1)))) + 1)) ∧ True) rfl ⟨by omega, trivial⟩ ?_
    refine z_br (¬ (I 6 (I 8 (I 2 9 * I 2 6 + k))) = ((I 6 (I 8 (I 2 9 * I 2 6 + (k - 1)))) + 1)) 413 409 [] rfl (fun h => absurd h (show ¬ (¬ (I 6 (I 8 (I 2 9 * I 2 6 + k))) = ((I 6 (I 8 (I 2 9 * I 2 6 + (k - 1)))) + 1)) from by have := q2 (by omega); omega)) (fun hx6 => ?_)
    refine z_n 7 (422, [(5, vi 1), (7, vi k), (6, vi (zcpp (fun k => zOut (I 9 2) (I 11) (I 13) (I 8 (I 2 9 * I 2 6 + k))) k.toNat)), (0, vr 1)], [vi k, vr 1, vr 1, vi (zcpp (fun k => zOut (I 9 2) (I 11) (I 13) (I 8 (I 2 9 * I 2 6 + k))) k.toNat)], (I, zPp π, D, 137)) rfl trivial ?_
    refine z_ci 64 [vr 1, vi k] [vr 1, vi (zcpp (fun k => zOut (I 9 2) (I 11) (I 13) (I 8 (I 2 9 * I 2 6 + k))) k.toNat)] rfl (m_starter1 w (by omega) (by omega)) ?_
    refine z_n 1 (426, [(5, vi 1), (7, vi k), (6, vi (zcpp (fun k => zOut (I 9 2) (I 11) (I 13) (I 8 (I 2 9 * I 2 6 + k))) k.toNat)), (0, vr 1)], [vi 4, vi (I 8 (I 2 9 * I 2 6 + k)), vr 1, vi (zcpp (fun k => zOut (I 9 2) (I 11) (I 13) (I 8 (I 2 9 * I 2 6 + k))) k.toNat)], (I, zPp π, D, 137)) rfl trivial ?_
    by_cases hx7 : zOut (I 9 2) (I 11) (I 13) (I 8 (I 2 9 * I 2 6 + k))
    · refine z_ci 61 [vr 1, vi (I 8 (I 2 9 * I 2 6 + k)), vi 4] [vi (zcpp (fun k => zOut (I 9 2) (I 11) (I 13) (I 8 (I 2 9 * I 2 6 + k))) k.toNat)] rfl (m_crew_4o ⟨q1.1, q1.2.1⟩ w v hM his hx7) ?_
      refine z_n 4 (345, [(7, vi (k + 1)), (6, vi ((zcpp (fun k => zOut (I 9 2) (I 11) (I 13) (I 8 (I 2 9 * I 2 6 + k))) k.toNat) + 1)), (5, vi 1), (0, vr 1)], [], (I, zPp π, D, 137)) (G := (zr ((zcpp (fun k => zOut (I 9 2) (I 11) (I 13) (I 8 (I 2 9 * I 2 6 + k))) k.toNat) + 1)) ∧ (zr (k + 1)) ∧ True) rfl ⟨by omega, by omega, trivial⟩ ?_
      refine z_sub [(7, vi (k + 1)), (6, vi ((zcpp (fun k => zOut (I 9 2) (I 11) (I 13) (I 8 (I 2 9 * I 2 6 + k))) k.toNat) + 1)), (5, vi 1), (0, vr 1)] [0, 1, 2, 3] rfl ?_
      refine z_lk (L1 := [(7, vi (k + 1)), (6, vi (zcpp (fun k => zOut (I 9 2) (I 11) (I 13) (I 8 (I 2 9 * I 2 6 + k))) (k + 1).toNat)), (5, vi 1), (0, vr 1)]) (by rw [zcpp_s h0]; first | rw [if_pos (by assumption)] | rw [if_neg (by assumption)]) ?_
      exact ih (k + 1) (by omega) (by omega)
    · refine z_ci 61 [vr 1, vi (I 8 (I 2 9 * I 2 6 + k)), vi 4] [vi (zcpp (fun k => zOut (I 9 2) (I 11) (I 13) (I 8 (I 2 9 * I 2 6 + k))) k.toNat)] rfl (m_crew_4i ⟨q1.1, q1.2.1⟩ w v hM his hx7) ?_
      refine z_n 4 (345, [(7, vi (k + 1)), (6, vi ((zcpp (fun k => zOut (I 9 2) (I 11) (I 13) (I 8 (I 2 9 * I 2 6 + k))) k.toNat) + 0)), (5, vi 1), (0, vr 1)], [], (I, zPp π, D, 137)) (G := (zr ((zcpp (fun k => zOut (I 9 2) (I 11) (I 13) (I 8 (I 2 9 * I 2 6 + k))) k.toNat) + 0)) ∧ (zr (k + 1)) ∧ True) rfl ⟨by omega, by omega, trivial⟩ ?_
      refine z_sub [(7, vi (k + 1)), (6, vi ((zcpp (fun k => zOut (I 9 2) (I 11) (I 13) (I 8 (I 2 9 * I 2 6 + k))) k.toNat) + 0)), (5, vi 1), (0, vr 1)] [0, 1, 2, 3] rfl ?_
      refine z_lk (L1 := [(7, vi (k + 1)), (6, vi (zcpp (fun k => zOut (I 9 2) (I 11) (I 13) (I 8 (I 2 9 * I 2 6 + k))) (k + 1).toNat)), (5, vi 1), (0, vr 1)]) (by rw [zcpp_s h0]; first | rw [if_pos (by assumption)] | rw [if_neg (by assumption)]) ?_
      exact ih (k + 1) (by omega) (by omega)
set_option maxRecDepth 20000 in
theorem m_h239 {I : zI} {π : Int → Nat} {D : zD} {r : Option zV} {τ : zS} {d : Int} (s : zCH (zX I 2)) (hdd : 0 ≤ d ∧ d ≤ I 2 8) (hk : zRuns 80 315 [(7, vi (zmk (fun c => I 24 (d * 24 + c)) (I 2 5).toNat)), (6, vi d), (5, vi 1), (2, vi (zmk (I 8) (I 2 5).toNat)), (1, vi (I 2 5)), (0, vr 1)] [] (I, zPp π, D, 137) r τ) : ∀ (N : Nat) (c : Int), 0 ≤ c → c + N = I 2 5 → zRuns 80 239 [(8, vi c), (7, vi (zmk (fun c => I 24 (d * 24 + c)) c.toNat)), (6, vi d), (5, vi 1), (2, vi (zmk (I 8) (I 2 5).toNat)), (1, vi (I 2 5)), (0, vr 1)] [] (I, zPp π, D, 137) r τ := by
  have ci := s.1
  have w : zW1 (I 2) := ci.1.1
  have v : zW2 (I 2) (I 6) (I 8) := ci.1.2.1
  have hd : zDis (I 2) (I 6) (I 9 2) (I 11) (I 13) := ci.2.2
  have hm : 0 ≤ I 9 2 := ci.2.1
  have hdl := zdis_le w v hd hm
  have hM : 0 ≤ I 9 2 ∧ I 9 2 ≤ 4 := ⟨hm, hdl.2⟩
  have hN := w.1
  have hO := w.2.2.2.1
  have hT := w.2.2.1
  have hlb := zlb_b w
  have hl0 : 0 ≤ I 14 4 ∧ I 14 4 ≤ zlb (I 2) := ci.1.2.2.2.1.1
  have hl : 0 ≤ I 14 4 ∧ I 14 4 ≤ 96 := by omega
  intro N
  induction N with
  | zero =>
    intro c h0 hN9
    have e9 : c = I 2 5 := by omega
    rw [e9]
    refine z_n 2 (242, [(8, vi (I 2 5)), (7, vi (zmk (fun c => I 24 (d * 24 + c)) (I 2 5).toNat)), (6, vi d), (5, vi 1), (2, vi (zmk (I 8) (I 2 5).toNat)), (1, vi (I 2 5)), (0, vr 1)], [vi (I 2 5), vi (I 2 5)], (I, zPp π, D, 137)) rfl trivial ?_
    refine z_br ((I 2 5) ≤ (I 2 5)) 315 245 [] rfl (fun hx1 => ?_) (fun h => absurd (show (I 2 5) ≤ (I 2 5) from Int.le_refl _) h)
    refine z_sub [(7, vi (zmk (fun c => I 24 (d * 24 + c)) (I 2 5).toNat)), (6, vi d), (5, vi 1), (2, vi (zmk (I 8) (I 2 5).toNat)), (1, vi (I 2 5)), (0, vr 1)] [1, 2, 3, 4, 5, 6] rfl ?_
    exact hk
  | succ N ih =>
  intro c h0 hN9
  have hp0 : d ≤ 0 → I 24 (d * 24 + c) = c := fun h9 => by
    have := ci.1.2.2.2.2.2 c h0 (show c < I 2 5 by omega)
    have e0 : d = 0 := by omega
    subst e0
    exact this
  refine z_n 2 (242, [(8, vi c), (7, vi (zmk (fun c => I 24 (d * 24 + c)) c.toNat)), (6, vi d), (5, vi 1), (2, vi (zmk (I 8) (I 2 5).toNat)), (1, vi (I 2 5)), (0, vr 1)], [vi (I 2 5), vi c], (I, zPp π, D, 137)) rfl trivial ?_
  refine z_br ((I 2 5) ≤ c) 315 245 [] rfl (fun h => absurd h (show ¬ ((I 2 5) ≤ c) from by omega)) (fun hx1 => ?_)
  refine z_n 1 (247, [(8, vi c), (7, vi (zmk (fun c => I 24 (d * 24 + c)) c.toNat)), (6, vi d), (5, vi 1), (2, vi (zmk (I 8) (I 2 5).toNat)), (1, vi (I 2 5)), (0, vr 1)], [vi 1], (I, zPp π, D, 137)) rfl trivial ?_
  refine z_br ((1 : Int) = 0) 315 250 [] rfl (fun h => absurd h (show ¬ ((1 : Int) = 0) from by decide)) (fun hx2 => ?_)
  refine z_n 3 (255, [(8, vi c), (7, vi (zmk (fun c => I 24 (d * 24 + c)) c.toNat)), (6, vi d), (5, vi 1), (2, vi (zmk (I 8) (I 2 5).toNat)), (1, vi (I 2 5)), (0, vr 1)], [vi d, vi c, vr 1], (I, zPp π, D, 137)) rfl trivial ?_
  refine z_ci 74 [vr 1, vi c, vi d] [] rfl (m_place1 ⟨⟨h0, by omega⟩, hdd⟩ w) ?_
  refine z_n 3 (263, [(8, vi c), (7, vi (zmk (fun c => I 24 (d * 24 + c)) c.toNat)), (6, vi d), (5, vi 1), (2, vi (zmk (I 8) (I 2 5).toNat)), (1, vi (I 2 5)), (0, vr 1)], [vi d, vi c, vr 1, vi (I 24 (d * 24 + c))], (I, zPp π, D, 137)) rfl trivial ?_
  refine z_ci 75 [vr 1, vi c, vi d] [vi (I 24 (d * 24 + c))] rfl (m_again2 s ⟨h0, by omega⟩ hdd) ?_
  refine z_br (¬ (I 24 (d * 24 + c)) = (I 24 (d * 24 + c))) 291 269 [] rfl (fun h => absurd h (show ¬ (¬ (I 24 (d * 24 + c)) = (I 24 (d * 24 + c))) from fun h9 => h9 rfl)) (fun hx3 => ?_)
  refine z_n 1 (271, [(8, vi c), (7, vi (zmk (fun c => I 24 (d * 24 + c)) c.toNat)), (6, vi d), (5, vi 1), (2, vi (zmk (I 8) (I 2 5).toNat)), (1, vi (I 2 5)), (0, vr 1)], [vi d], (I, zPp π, D, 137)) rfl trivial ?_
  refine z_br (0 < d) 287 274 [] rfl (fun hx4 => ?_) (fun hx4 => ?_)
  · refine z_n 8 (302, [(5, vi 1), (8, vi c), (7, vi (zmk (fun c => I 24 (d * 24 + c)) c.toNat)), (6, vi d), (2, vi (zmk (I 8) (I 2 5).toNat)), (1, vi (I 2 5)), (0, vr 1)], [vi d, vi c, vr 1, vi 1, vi (zmk (fun c => I 24 (d * 24 + c)) c.toNat)], (I, zPp π, D, 137)) rfl trivial ?_
    refine z_ci 74 [vr 1, vi c, vi d] [vi 1, vi (zmk (fun c => I 24 (d * 24 + c)) c.toNat)] rfl (m_place1 ⟨⟨h0, by omega⟩, hdd⟩ w) ?_
    refine z_n 5 (239, [(8, vi (c + 1)), (7, vi ((Int32.ofInt (zmk (fun c => I 24 (d * 24 + c)) c.toNat) ||| Int32.ofInt ((Int32.ofInt 1 <<< (Int32.ofInt (I 24 (d * 24 + c)) &&& 31)).toInt)).toInt)), (5, vi 1), (6, vi d), (2, vi (zmk (I 8) (I 2 5).toNat)), (1, vi (I 2 5)), (0, vr 1)], [], (I, zPp π, D, 137)) (G := (zr (c + 1)) ∧ True) rfl ⟨by omega, trivial⟩ ?_
    refine z_sub [(8, vi (c + 1)), (7, vi ((Int32.ofInt (zmk (fun c => I 24 (d * 24 + c)) c.toNat) ||| Int32.ofInt ((Int32.ofInt 1 <<< (Int32.ofInt (I 24 (d * 24 + c)) &&& 31)).toInt)).toInt)), (6, vi d), (5, vi 1), (2, vi (zmk (I 8) (I 2 5).toNat)), (1, vi (I 2 5)), (0, vr 1)] [0, 1, 3, 2, 4, 5, 6] rfl ?_
    refine z_lk (L1 := [(8, vi (c + 1)), (7, vi (zmk (fun c => I 24 (d * 24 + c)) (c + 1).toNat)), (6, vi d), (5, vi 1), (2, vi (zmk (I 8) (I 2 5).toNat)), (1, vi (I 2 5)), (0, vr 1)]) (by rw [zmk_s h0]) ?_
    exact ih (c + 1) (by omega) (by omega)
  · refine z_n 3 (279, [(8, vi c), (7, vi (zmk (fun c => I 24 (d * 24 + c)) c.toNat)), (6, vi d), (5, vi 1), (2, vi (zmk (I 8) (I 2 5).toNat)), (1, vi (I 2 5)), (0, vr 1)], [vi d, vi c, vr 1], (I, zPp π, D, 137)) rfl trivial ?_
    refine z_ci 74 [vr 1, vi c, vi d] [] rfl (m_place1 ⟨⟨h0, by omega⟩, hdd⟩ w) ?_
    refine z_n 1 (284, [(8, vi c), (7, vi (zmk (fun c => I 24 (d * 24 + c)) c.toNat)), (6, vi d), (5, vi 1), (2, vi (zmk (I 8) (I 2 5).toNat)), (1, vi (I 2 5)), (0, vr 1)], [vi c, vi (I 24 (d * 24 + c))], (I, zPp π, D, 137)) rfl trivial ?_
    refine z_br (¬ (I 24 (d * 24 + c)) = c) 291 287 [] rfl (fun h => absurd h (show ¬ (¬ (I 24 (d * 24 + c)) = c) from fun h9 => h9 (hp0 (by omega)))) (fun hx5 => ?_)
    refine z_n 8 (302, [(5, vi 1), (8, vi c), (7, vi (zmk (fun c => I 24 (d * 24 + c)) c.toNat)), (6, vi d), (2, vi (zmk (I 8) (I 2 5).toNat)), (1, vi (I 2 5)), (0, vr 1)], [vi d, vi c, vr 1, vi 1, vi (zmk (fun c => I 24 (d * 24 + c)) c.toNat)], (I, zPp π, D, 137)) rfl trivial ?_
    refine z_ci 74 [vr 1, vi c, vi d] [vi 1, vi (zmk (fun c => I 24 (d * 24 + c)) c.toNat)] rfl (m_place1 ⟨⟨h0, by omega⟩, hdd⟩ w) ?_
    refine z_n 5 (239, [(8, vi (c + 1)), (7, vi ((Int32.ofInt (zmk (fun c => I 24 (d * 24 + c)) c.toNat) ||| Int32.ofInt ((Int32.ofInt 1 <<< (Int32.ofInt (I 24 (d * 24 + c)) &&& 31)).toInt)).toInt)), (5, vi 1), (6, vi d), (2, vi (zmk (I 8) (I 2 5).toNat)), (1, vi (I 2 5)), (0, vr 1)], [], (I, zPp π, D, 137)) (G := (zr (c + 1)) ∧ True) rfl ⟨by omega, trivial⟩ ?_
    refine z_sub [(8, vi (c + 1)), (7, vi ((Int32.ofInt (zmk (fun c => I 24 (d * 24 + c)) c.toNat) ||| Int32.ofInt ((Int32.ofInt 1 <<< (Int32.ofInt (I 24 (d * 24 + c)) &&& 31)).toInt)).toInt)), (6, vi d), (5, vi 1), (2, vi (zmk (I 8) (I 2 5).toNat)), (1, vi (I 2 5)), (0, vr 1)] [0, 1, 3, 2, 4, 5, 6] rfl ?_
    refine z_lk (L1 := [(8, vi (c + 1)), (7, vi (zmk (fun c => I 24 (d * 24 + c)) (c + 1).toNat)), (6, vi d), (5, vi 1), (2, vi (zmk (I 8) (I 2 5).toNat)), (1, vi (I 2 5)), (0, vr 1)]) (by rw [zmk_s h0]) ?_
    exact ih (c + 1) (by omega) (by omega)
set_option maxRecDepth 20000 in
theorem m_h218 {I : zI} {π : Int → Nat} {D : zD} {r : Option zV} {τ : zS} (s : zCH (zX I 2)) (hk : zRuns 80 339 [(5, vi 1), (0, vr 1)] [] (I, zPp π, D, 137) r τ) : ∀ (N : Nat) (d : Int), 0 ≤ d → d + N = I 2 8 + 1 → zRuns 80 218 [(6, vi d), (5, vi 1), (2, vi (zmk (I 8) (I 2 5).toNat)), (1, vi (I 2 5)), (0, vr 1)] [] (I, zPp π, D, 137) r τ := by
  have ci := s.1
  have w : zW1 (I 2) := ci.1.1
  have v : zW2 (I 2) (I 6) (I 8) := ci.1.2.1
  have hd : zDis (I 2) (I 6) (I 9 2) (I 11) (I 13) := ci.2.2
  have hm : 0 ≤ I 9 2 := ci.2.1
  have hdl := zdis_le w v hd hm
  have hM : 0 ≤ I 9 2 ∧ I 9 2 ≤ 4 := ⟨hm, hdl.2⟩
  have hN := w.1
  have hO := w.2.2.2.1
  have hT := w.2.2.1
  have hlb := zlb_b w
  have hl0 : 0 ≤ I 14 4 ∧ I 14 4 ≤ zlb (I 2) := ci.1.2.2.2.1.1
  have hl : 0 ≤ I 14 4 ∧ I 14 4 ≤ 96 := by omega
  intro N
  induction N with
  | zero =>
    intro d h0 hN9
    refine z_n 3 (222, [(6, vi d), (5, vi 1), (2, vi (zmk (I 8) (I 2 5).toNat)), (1, vi (I 2 5)), (0, vr 1)], [vi 4, vr 1, vi d], (I, zPp π, D, 137)) rfl trivial ?_
    refine z_ci 60 [vr 1, vi 4] [vi d] rfl (m_count4) ?_
    refine z_br ((I 2 8) < d) 339 228 [] rfl (fun hx1 => ?_) (fun h => absurd (show (I 2 8) < d from by omega) h)
    refine z_sub [(5, vi 1), (0, vr 1)] [1, 4] rfl ?_
    exact hk
  | succ N ih =>
  intro d h0 hN9
  have hpa : ∀ c, 0 ≤ c → c < I 2 5 → 0 ≤ I 24 (d * 24 + c) ∧ I 24 (d * 24 + c) < I 2 5 := fun c c0 c1 => ci.1.2.2.2.2.1 d c h0 (show d ≤ I 2 8 by omega) c0 c1
  have hsm : zmk (fun c => I 24 (d * 24 + c)) (I 2 5).toNat = zmk (I 8) (I 2 5).toNat := zmk_same (fun k k0 k1 => by have := hpa k k0 (by omega); omega) (fun k k0 k1 => by have := v.2.1 k k0 (by omega); omega) (fun q => by
    constructor
    · rintro ⟨k, k0, k1, k2⟩
      have hk9 := hpa k k0 (by omega)
      have k2' : I 24 (d * 24 + k) = q := k2
      have hq := v.1 q (by omega) (by omega)
      exact ⟨I 6 q, hq.1, by omega, hq.2.2⟩
    · rintro ⟨k, k0, k1, k2⟩
      have hq := v.2.1 k k0 (by omega)
      obtain ⟨c, c0, c1, hc⟩ := zPA_on s h0 (show d ≤ I 2 8 by omega) (q := q) (by omega) (show q < I 2 5 by omega)
      have c1' : c < I 2 5 := c1
      exact ⟨c, c0, by omega, hc⟩)
  refine z_n 3 (222, [(6, vi d), (5, vi 1), (2, vi (zmk (I 8) (I 2 5).toNat)), (1, vi (I 2 5)), (0, vr 1)], [vi 4, vr 1, vi d], (I, zPp π, D, 137)) rfl trivial ?_
  refine z_ci 60 [vr 1, vi 4] [vi d] rfl (m_count4) ?_
  refine z_br ((I 2 8) < d) 339 228 [] rfl (fun h => absurd h (show ¬ ((I 2 8) < d) from by omega)) (fun hx1 => ?_)
  refine z_n 1 (230, [(6, vi d), (5, vi 1), (2, vi (zmk (I 8) (I 2 5).toNat)), (1, vi (I 2 5)), (0, vr 1)], [vi 1], (I, zPp π, D, 137)) rfl trivial ?_
  refine z_br ((1 : Int) = 0) 339 233 [] rfl (fun h => absurd h (show ¬ ((1 : Int) = 0) from by decide)) (fun hx2 => ?_)
  refine z_n 4 (239, [(8, vi 0), (7, vi 0), (6, vi d), (5, vi 1), (2, vi (zmk (I 8) (I 2 5).toNat)), (1, vi (I 2 5)), (0, vr 1)], [], (I, zPp π, D, 137)) rfl trivial ?_
  have hin : zRuns 80 315 [(7, vi (zmk (fun c => I 24 (d * 24 + c)) (I 2 5).toNat)), (6, vi d), (5, vi 1), (2, vi (zmk (I 8) (I 2 5).toNat)), (1, vi (I 2 5)), (0, vr 1)] [] (I, zPp π, D, 137) r τ := by
    refine z_n 1 (317, [(7, vi (zmk (fun c => I 24 (d * 24 + c)) (I 2 5).toNat)), (6, vi d), (5, vi 1), (2, vi (zmk (I 8) (I 2 5).toNat)), (1, vi (I 2 5)), (0, vr 1)], [vi 1], (I, zPp π, D, 137)) rfl trivial ?_
    refine z_br ((1 : Int) = 0) 330 320 [] rfl (fun h => absurd h (show ¬ ((1 : Int) = 0) from by decide)) (fun hx1 => ?_)
    refine z_n 2 (323, [(7, vi (zmk (fun c => I 24 (d * 24 + c)) (I 2 5).toNat)), (6, vi d), (5, vi 1), (2, vi (zmk (I 8) (I 2 5).toNat)), (1, vi (I 2 5)), (0, vr 1)], [vi (zmk (I 8) (I 2 5).toNat), vi (zmk (fun c => I 24 (d * 24 + c)) (I 2 5).toNat)], (I, zPp π, D, 137)) rfl trivial ?_
    refine z_br (¬ (zmk (fun c => I 24 (d * 24 + c)) (I 2 5).toNat) = (zmk (I 8) (I 2 5).toNat)) 330 326 [] rfl (fun h => absurd h (show ¬ (¬ (zmk (fun c => I 24 (d * 24 + c)) (I 2 5).toNat) = (zmk (I 8) (I 2 5).toNat)) from fun h9 => h9 hsm)) (fun hx2 => ?_)
    refine z_n 5 (218, [(6, vi (d + 1)), (5, vi 1), (7, vi (zmk (fun c => I 24 (d * 24 + c)) (I 2 5).toNat)), (2, vi (zmk (I 8) (I 2 5).toNat)), (1, vi (I 2 5)), (0, vr 1)], [], (I, zPp π, D, 137)) (G := (zr (d + 1)) ∧ True) rfl ⟨by omega, trivial⟩ ?_
    refine z_sub [(6, vi (d + 1)), (5, vi 1), (2, vi (zmk (I 8) (I 2 5).toNat)), (1, vi (I 2 5)), (0, vr 1)] [0, 1, 3, 4, 5] rfl ?_
    exact ih (d + 1) (by omega) (by omega)
  refine z_sub [(8, vi 0), (7, vi 0), (6, vi d), (5, vi 1), (2, vi (zmk (I 8) (I 2 5).toNat)), (1, vi (I 2 5)), (0, vr 1)] [0, 1, 2, 3, 4, 5, 6] rfl ?_
  refine z_lk (L1 := [(8, vi 0), (7, vi (zmk (fun c => I 24 (d * 24 + c)) (0 : Int).toNat)), (6, vi d), (5, vi 1), (2, vi (zmk (I 8) (I 2 5).toNat)), (1, vi (I 2 5)), (0, vr 1)]) (by rfl) ?_
  exact m_h239 s ⟨h0, by omega⟩ hin (I 2 5).toNat 0 (by omega) (by omega)
set_option maxRecDepth 20000 in
theorem m_h150A {I : zI} {π : Int → Nat} {D : zD} {r : Option zV} {τ : zS} {a b : Int} (s : zCH (zX I 2)) (hR : I 2 9 = -1) (hab : a = b) (hk : zRuns 80 218 [(6, vi 0), (5, vi 1), (2, vi (zmk (I 8) (I 2 5).toNat)), (1, vi (I 2 5)), (0, vr 1)] [] (I, zPp π, D, 137) r τ) : zRuns 80 150 [(5, vi 1), (4, vi b), (3, vi a), (2, vi (zmk (I 8) (I 2 5).toNat)), (1, vi (I 2 5)), (0, vr 1)] [] (I, zPp π, D, 137) r τ := by
  have ci := s.1
  have w : zW1 (I 2) := ci.1.1
  have v : zW2 (I 2) (I 6) (I 8) := ci.1.2.1
  have hd : zDis (I 2) (I 6) (I 9 2) (I 11) (I 13) := ci.2.2
  have hm : 0 ≤ I 9 2 := ci.2.1
  have hdl := zdis_le w v hd hm
  have hM : 0 ≤ I 9 2 ∧ I 9 2 ≤ 4 := ⟨hm, hdl.2⟩
  have hN := w.1
  have hO := w.2.2.2.1
  have hT := w.2.2.1
  have hlb := zlb_b w
  have hl0 : 0 ≤ I 14 4 ∧ I 14 4 ≤ zlb (I 2) := ci.1.2.2.2.1.1
  have hl : 0 ≤ I 14 4 ∧ I 14 4 ≤ 96 := by omega
  refine z_n 1 (152, [(5, vi 1), (4, vi b), (3, vi a), (2, vi (zmk (I 8) (I 2 5).toNat)), (1, vi (I 2 5)), (0, vr 1)], [vi 1], (I, zPp π, D, 137)) rfl trivial ?_
  refine z_br ((1 : Int) = 0) 212 155 [] rfl (fun h => absurd h (show ¬ ((1 : Int) = 0) from by decide)) (fun hx1 => ?_)
  refine z_n 2 (158, [(5, vi 1), (4, vi b), (3, vi a), (2, vi (zmk (I 8) (I 2 5).toNat)), (1, vi (I 2 5)), (0, vr 1)], [vi b, vi a], (I, zPp π, D, 137)) rfl trivial ?_
  refine z_br (¬ a = b) 212 161 [] rfl (fun h => absurd h (show ¬ (¬ a = b) from fun h9 => h9 hab)) (fun hx2 => ?_)
  refine z_n 2 (163, [(5, vi 1), (4, vi b), (3, vi a), (2, vi (zmk (I 8) (I 2 5).toNat)), (1, vi (I 2 5)), (0, vr 1)], [vi 4, vr 1], (I, zPp π, D, 137)) rfl trivial ?_
  refine z_ci 60 [vr 1, vi 4] [] rfl (m_count4) ?_
  refine z_n 2 (168, [(5, vi 1), (4, vi b), (3, vi a), (2, vi (zmk (I 8) (I 2 5).toNat)), (1, vi (I 2 5)), (0, vr 1)], [vi 3, vr 1, vi (I 2 8)], (I, zPp π, D, 137)) rfl trivial ?_
  refine z_ci 60 [vr 1, vi 3] [vi (I 2 8)] rfl (m_count3) ?_
  refine z_br ((I 2 7) < (I 2 8)) 212 174 [] rfl (fun h => absurd h (show ¬ ((I 2 7) < (I 2 8)) from by omega)) (fun hx3 => ?_)
  refine z_n 2 (176, [(5, vi 1), (4, vi b), (3, vi a), (2, vi (zmk (I 8) (I 2 5).toNat)), (1, vi (I 2 5)), (0, vr 1)], [vi 5, vr 1], (I, zPp π, D, 137)) rfl trivial ?_
  refine z_ci 60 [vr 1, vi 5] [] rfl (m_count5 w) ?_
  refine z_br (0 ≤ (if I 2 9 = -1 then -1004 else I 2 9)) 186 182 [] rfl (fun h => absurd h (show ¬ (0 ≤ (if I 2 9 = -1 then -1004 else I 2 9)) from by rw [if_pos hR]; decide)) (fun hx4 => ?_)
  refine z_n 4 (189, [(5, vi 1), (4, vi b), (3, vi a), (2, vi (zmk (I 8) (I 2 5).toNat)), (1, vi (I 2 5)), (0, vr 1)], [vi 4, vr 1, vi 1], (I, zPp π, D, 137)) rfl trivial ?_
  refine z_ci 60 [vr 1, vi 4] [vi 1] rfl (m_count4) ?_
  refine z_n 2 (194, [(5, vi 1), (4, vi b), (3, vi a), (2, vi (zmk (I 8) (I 2 5).toNat)), (1, vi (I 2 5)), (0, vr 1)], [vi 3, vr 1, vi (I 2 8), vi 1], (I, zPp π, D, 137)) rfl trivial ?_
  refine z_ci 60 [vr 1, vi 3] [vi (I 2 8), vi 1] rfl (m_count3) ?_
  refine z_br (¬ (I 2 8) = (I 2 7)) 204 200 [vi 1] rfl (fun h => absurd h (show ¬ (¬ (I 2 8) = (I 2 7)) from by have := w.2.2.2.2.2.1; omega)) (fun hx5 => ?_)
  refine z_n 2 (205, [(5, vi 1), (4, vi b), (3, vi a), (2, vi (zmk (I 8) (I 2 5).toNat)), (1, vi (I 2 5)), (0, vr 1)], [vi 1, vi 1], (I, zPp π, D, 137)) rfl trivial ?_
  refine z_br (¬ (1 : Int) = 1) 212 208 [] rfl (fun h => absurd h (show ¬ (¬ (1 : Int) = 1) from by decide)) (fun hx6 => ?_)
  refine z_n 5 (218, [(6, vi 0), (5, vi 1), (4, vi b), (3, vi a), (2, vi (zmk (I 8) (I 2 5).toNat)), (1, vi (I 2 5)), (0, vr 1)], [], (I, zPp π, D, 137)) rfl trivial ?_
  refine z_sub [(6, vi 0), (5, vi 1), (2, vi (zmk (I 8) (I 2 5).toNat)), (1, vi (I 2 5)), (0, vr 1)] [0, 1, 4, 5, 6] rfl ?_
  exact hk
set_option maxRecDepth 20000 in
theorem m_h150B {I : zI} {π : Int → Nat} {D : zD} {r : Option zV} {τ : zS} {a b : Int} (s : zCH (zX I 2)) (hR : ¬ I 2 9 = -1) (hab : a = b) (hk : zRuns 80 218 [(6, vi 0), (5, vi 1), (2, vi (zmk (I 8) (I 2 5).toNat)), (1, vi (I 2 5)), (0, vr 1)] [] (I, zPp π, D, 137) r τ) : zRuns 80 150 [(5, vi 1), (4, vi b), (3, vi a), (2, vi (zmk (I 8) (I 2 5).toNat)), (1, vi (I 2 5)), (0, vr 1)] [] (I, zPp π, D, 137) r τ := by
  have ci := s.1
  have w : zW1 (I 2) := ci.1.1
  have v : zW2 (I 2) (I 6) (I 8) := ci.1.2.1
  have hd : zDis (I 2) (I 6) (I 9 2) (I 11) (I 13) := ci.2.2
  have hm : 0 ≤ I 9 2 := ci.2.1
  have hdl := zdis_le w v hd hm
  have hM : 0 ≤ I 9 2 ∧ I 9 2 ≤ 4 := ⟨hm, hdl.2⟩
  have hN := w.1
  have hO := w.2.2.2.1
  have hT := w.2.2.1
  have hlb := zlb_b w
  have hl0 : 0 ≤ I 14 4 ∧ I 14 4 ≤ zlb (I 2) := ci.1.2.2.2.1.1
  have hl : 0 ≤ I 14 4 ∧ I 14 4 ≤ 96 := by omega
  refine z_n 1 (152, [(5, vi 1), (4, vi b), (3, vi a), (2, vi (zmk (I 8) (I 2 5).toNat)), (1, vi (I 2 5)), (0, vr 1)], [vi 1], (I, zPp π, D, 137)) rfl trivial ?_
  refine z_br ((1 : Int) = 0) 212 155 [] rfl (fun h => absurd h (show ¬ ((1 : Int) = 0) from by decide)) (fun hx1 => ?_)
  refine z_n 2 (158, [(5, vi 1), (4, vi b), (3, vi a), (2, vi (zmk (I 8) (I 2 5).toNat)), (1, vi (I 2 5)), (0, vr 1)], [vi b, vi a], (I, zPp π, D, 137)) rfl trivial ?_
  refine z_br (¬ a = b) 212 161 [] rfl (fun h => absurd h (show ¬ (¬ a = b) from fun h9 => h9 hab)) (fun hx2 => ?_)
  refine z_n 2 (163, [(5, vi 1), (4, vi b), (3, vi a), (2, vi (zmk (I 8) (I 2 5).toNat)), (1, vi (I 2 5)), (0, vr 1)], [vi 4, vr 1], (I, zPp π, D, 137)) rfl trivial ?_
  refine z_ci 60 [vr 1, vi 4] [] rfl (m_count4) ?_
  refine z_n 2 (168, [(5, vi 1), (4, vi b), (3, vi a), (2, vi (zmk (I 8) (I 2 5).toNat)), (1, vi (I 2 5)), (0, vr 1)], [vi 3, vr 1, vi (I 2 8)], (I, zPp π, D, 137)) rfl trivial ?_
  refine z_ci 60 [vr 1, vi 3] [vi (I 2 8)] rfl (m_count3) ?_
  refine z_br ((I 2 7) < (I 2 8)) 212 174 [] rfl (fun h => absurd h (show ¬ ((I 2 7) < (I 2 8)) from by omega)) (fun hx3 => ?_)
  refine z_n 2 (176, [(5, vi 1), (4, vi b), (3, vi a), (2, vi (zmk (I 8) (I 2 5).toNat)), (1, vi (I 2 5)), (0, vr 1)], [vi 5, vr 1], (I, zPp π, D, 137)) rfl trivial ?_
  refine z_ci 60 [vr 1, vi 5] [] rfl (m_count5 w) ?_
  refine z_br (0 ≤ (if I 2 9 = -1 then -1004 else I 2 9)) 186 182 [] rfl (fun hx4 => ?_) (fun h => absurd (show 0 ≤ (if I 2 9 = -1 then -1004 else I 2 9) from by rw [if_neg hR]; have := w.2.2.2.2.1; omega) h)
  refine z_n 3 (189, [(5, vi 1), (4, vi b), (3, vi a), (2, vi (zmk (I 8) (I 2 5).toNat)), (1, vi (I 2 5)), (0, vr 1)], [vi 4, vr 1, vi 0], (I, zPp π, D, 137)) rfl trivial ?_
  refine z_ci 60 [vr 1, vi 4] [vi 0] rfl (m_count4) ?_
  refine z_n 2 (194, [(5, vi 1), (4, vi b), (3, vi a), (2, vi (zmk (I 8) (I 2 5).toNat)), (1, vi (I 2 5)), (0, vr 1)], [vi 3, vr 1, vi (I 2 8), vi 0], (I, zPp π, D, 137)) rfl trivial ?_
  refine z_ci 60 [vr 1, vi 3] [vi (I 2 8), vi 0] rfl (m_count3) ?_
  refine z_br (¬ (I 2 8) = (I 2 7)) 204 200 [vi 0] rfl (fun hx5 => ?_) (fun h => absurd (show ¬ (I 2 8) = (I 2 7) from by have := w.2.2.2.2.2.1; omega) h)
  refine z_n 1 (205, [(5, vi 1), (4, vi b), (3, vi a), (2, vi (zmk (I 8) (I 2 5).toNat)), (1, vi (I 2 5)), (0, vr 1)], [vi 0, vi 0], (I, zPp π, D, 137)) rfl trivial ?_
  refine z_br (¬ (0 : Int) = 0) 212 208 [] rfl (fun h => absurd h (show ¬ (¬ (0 : Int) = 0) from by decide)) (fun hx6 => ?_)
  refine z_n 5 (218, [(6, vi 0), (5, vi 1), (4, vi b), (3, vi a), (2, vi (zmk (I 8) (I 2 5).toNat)), (1, vi (I 2 5)), (0, vr 1)], [], (I, zPp π, D, 137)) rfl trivial ?_
  refine z_sub [(6, vi 0), (5, vi 1), (2, vi (zmk (I 8) (I 2 5).toNat)), (1, vi (I 2 5)), (0, vr 1)] [0, 1, 4, 5, 6] rfl ?_
  exact hk
set_option maxRecDepth 20000 in
theorem m_h37 {I : zI} {π : Int → Nat} {D : zD} {r : Option zV} {τ : zS} (s : zCH (zX I 2)) (hk : zRuns 80 150 [(5, vi 1), (4, vi (zsm (fun p => zcnt (I 20) (I 8 p) (I 14 4).toNat) (I 2 5).toNat)), (3, vi (zsm (fun p => zcnt (I 18) (I 8 p) (I 14 4).toNat) (I 2 5).toNat)), (2, vi (zmk (I 8) (I 2 5).toNat)), (1, vi (I 2 5)), (0, vr 1)] [] (I, zPp π, D, 137) r τ) : ∀ (N : Nat) (p : Int), 0 ≤ p → p + N = I 2 5 → zRuns 80 37 [(6, vi p), (5, vi 1), (4, vi (zsm (fun p => zcnt (I 20) (I 8 p) (I 14 4).toNat) p.toNat)), (3, vi (zsm (fun p => zcnt (I 18) (I 8 p) (I 14 4).toNat) p.toNat)), (2, vi (zmk (I 8) p.toNat)), (1, vi (I 2 5)), (0, vr 1)] [] (I, zPp π, D, 137) r τ := by
  have ci := s.1
  have w : zW1 (I 2) := ci.1.1
  have v : zW2 (I 2) (I 6) (I 8) := ci.1.2.1
  have hd : zDis (I 2) (I 6) (I 9 2) (I 11) (I 13) := ci.2.2
  have hm : 0 ≤ I 9 2 := ci.2.1
  have hdl := zdis_le w v hd hm
  have hM : 0 ≤ I 9 2 ∧ I 9 2 ≤ 4 := ⟨hm, hdl.2⟩
  have hN := w.1
  have hO := w.2.2.2.1
  have hT := w.2.2.1
  have hlb := zlb_b w
  have hl0 : 0 ≤ I 14 4 ∧ I 14 4 ≤ zlb (I 2) := ci.1.2.2.2.1.1
  have hl : 0 ≤ I 14 4 ∧ I 14 4 ≤ 96 := by omega
  intro N
  induction N with
  | zero =>
    intro p h0 hN9
    have e9 : p = I 2 5 := by omega
    rw [e9]
    refine z_n 2 (40, [(6, vi (I 2 5)), (5, vi 1), (4, vi (zsm (fun p => zcnt (I 20) (I 8 p) (I 14 4).toNat) (I 2 5).toNat)), (3, vi (zsm (fun p => zcnt (I 18) (I 8 p) (I 14 4).toNat) (I 2 5).toNat)), (2, vi (zmk (I 8) (I 2 5).toNat)), (1, vi (I 2 5)), (0, vr 1)], [vi (I 2 5), vi (I 2 5)], (I, zPp π, D, 137)) rfl trivial ?_
    refine z_br ((I 2 5) ≤ (I 2 5)) 150 43 [] rfl (fun hx1 => ?_) (fun h => absurd (show (I 2 5) ≤ (I 2 5) from Int.le_refl _) h)
    refine z_sub [(5, vi 1), (4, vi (zsm (fun p => zcnt (I 20) (I 8 p) (I 14 4).toNat) (I 2 5).toNat)), (3, vi (zsm (fun p => zcnt (I 18) (I 8 p) (I 14 4).toNat) (I 2 5).toNat)), (2, vi (zmk (I 8) (I 2 5).toNat)), (1, vi (I 2 5)), (0, vr 1)] [1, 2, 3, 4, 5, 6] rfl ?_
    exact hk
  | succ N ih =>
  intro p h0 hN9
  have q1 := v.2.1 p h0 (by omega)
  have hfree := zmk_free (f := I 8) (n := p.toNat) (c := I 8 p) (fun k k0 k1 => by have := v.2.1 k k0 (by omega); omega) q1.1 (by omega) (fun h9 => by
    obtain ⟨k, k0, k1, k2⟩ := h9
    have qk := v.2.1 k k0 (by omega)
    rw [k2, q1.2.2] at qk
    omega)
  have r5 := zris_b (g := (fun d => I 24 (d * 24 + I 8 p))) (I 2 8).toNat
  have r6 := zfal_b (g := (fun d => I 24 (d * 24 + I 8 p))) (I 2 8).toNat
  have r7 := zrf_b (g := (fun d => I 24 (d * 24 + I 8 p))) (I 2 8).toNat
  have r8 := zcnt_b (f := I 18) (c := I 8 p) (I 14 4).toNat
  have r9 := zcnt_b (f := I 20) (c := I 8 p) (I 14 4).toNat
  have s8 := zsm_b (f := (fun p => zcnt (I 18) (I 8 p) (I 14 4).toNat)) (fun k => by have := zcnt_b (f := I 18) (c := I 8 k) (I 14 4).toNat; omega) p.toNat
  have s9 := zsm_b (f := (fun p => zcnt (I 20) (I 8 p) (I 14 4).toNat)) (fun k => by have := zcnt_b (f := I 20) (c := I 8 k) (I 14 4).toNat; omega) p.toNat
  refine z_n 2 (40, [(6, vi p), (5, vi 1), (4, vi (zsm (fun p => zcnt (I 20) (I 8 p) (I 14 4).toNat) p.toNat)), (3, vi (zsm (fun p => zcnt (I 18) (I 8 p) (I 14 4).toNat) p.toNat)), (2, vi (zmk (I 8) p.toNat)), (1, vi (I 2 5)), (0, vr 1)], [vi (I 2 5), vi p], (I, zPp π, D, 137)) rfl trivial ?_
  refine z_br ((I 2 5) ≤ p) 150 43 [] rfl (fun h => absurd h (show ¬ ((I 2 5) ≤ p) from by omega)) (fun hx1 => ?_)
  refine z_n 1 (45, [(6, vi p), (5, vi 1), (4, vi (zsm (fun p => zcnt (I 20) (I 8 p) (I 14 4).toNat) p.toNat)), (3, vi (zsm (fun p => zcnt (I 18) (I 8 p) (I 14 4).toNat) p.toNat)), (2, vi (zmk (I 8) p.toNat)), (1, vi (I 2 5)), (0, vr 1)], [vi 1], (I, zPp π, D, 137)) rfl trivial ?_
  refine z_br ((1 : Int) = 0) 150 48 [] rfl (fun h => absurd h (show ¬ ((1 : Int) = 0) from by decide)) (fun hx2 => ?_)
  refine z_n 2 (51, [(6, vi p), (5, vi 1), (4, vi (zsm (fun p => zcnt (I 20) (I 8 p) (I 14 4).toNat) p.toNat)), (3, vi (zsm (fun p => zcnt (I 18) (I 8 p) (I 14 4).toNat) p.toNat)), (2, vi (zmk (I 8) p.toNat)), (1, vi (I 2 5)), (0, vr 1)], [vi p, vr 1], (I, zPp π, D, 137)) rfl trivial ?_
  refine z_ci 63 [vr 1, vi p] [] rfl (m_at1 ⟨h0, by omega⟩ w) ?_
  refine z_n 2 (58, [(7, vi (I 8 p)), (6, vi p), (5, vi 1), (4, vi (zsm (fun p => zcnt (I 20) (I 8 p) (I 14 4).toNat) p.toNat)), (3, vi (zsm (fun p => zcnt (I 18) (I 8 p) (I 14 4).toNat) p.toNat)), (2, vi (zmk (I 8) p.toNat)), (1, vi (I 2 5)), (0, vr 1)], [vi (I 8 p)], (I, zPp π, D, 137)) rfl trivial ?_
  refine z_br ((I 8 p) < 0) 110 61 [] rfl (fun h => absurd h (show ¬ ((I 8 p) < 0) from by omega)) (fun hx3 => ?_)
  refine z_n 5 (67, [(7, vi (I 8 p)), (6, vi p), (5, vi 1), (4, vi (zsm (fun p => zcnt (I 20) (I 8 p) (I 14 4).toNat) p.toNat)), (3, vi (zsm (fun p => zcnt (I 18) (I 8 p) (I 14 4).toNat) p.toNat)), (2, vi (zmk (I 8) p.toNat)), (1, vi (I 2 5)), (0, vr 1)], [vi ((Int32.ofInt ((Int32.ofInt (zmk (I 8) p.toNat) >>> (Int32.ofInt (I 8 p) &&& 31)).toInt) &&& Int32.ofInt 1).toInt)], (I, zPp π, D, 137)) rfl trivial ?_
  refine z_br (¬ ((Int32.ofInt ((Int32.ofInt (zmk (I 8) p.toNat) >>> (Int32.ofInt (I 8 p) &&& 31)).toInt) &&& Int32.ofInt 1).toInt) = 0) 110 70 [] rfl (fun h => absurd h (show ¬ (¬ ((Int32.ofInt ((Int32.ofInt (zmk (I 8) p.toNat) >>> (Int32.ofInt (I 8 p) &&& 31)).toInt) &&& Int32.ofInt 1).toInt) = 0) from fun h9 => h9 hfree)) (fun hx4 => ?_)
  refine z_n 3 (74, [(7, vi (I 8 p)), (6, vi p), (5, vi 1), (4, vi (zsm (fun p => zcnt (I 20) (I 8 p) (I 14 4).toNat) p.toNat)), (3, vi (zsm (fun p => zcnt (I 18) (I 8 p) (I 14 4).toNat) p.toNat)), (2, vi (zmk (I 8) p.toNat)), (1, vi (I 2 5)), (0, vr 1)], [vi 1, vi (I 8 p), vr 1], (I, zPp π, D, 137)) rfl trivial ?_
  refine z_ci 61 [vr 1, vi (I 8 p), vi 1] [] rfl (m_crew_1 ⟨q1.1, q1.2.1⟩ w) ?_
  refine z_n 1 (79, [(7, vi (I 8 p)), (6, vi p), (5, vi 1), (4, vi (zsm (fun p => zcnt (I 20) (I 8 p) (I 14 4).toNat) p.toNat)), (3, vi (zsm (fun p => zcnt (I 18) (I 8 p) (I 14 4).toNat) p.toNat)), (2, vi (zmk (I 8) p.toNat)), (1, vi (I 2 5)), (0, vr 1)], [vi p, vi (I 6 (I 8 p))], (I, zPp π, D, 137)) rfl trivial ?_
  refine z_br (¬ (I 6 (I 8 p)) = p) 110 82 [] rfl (fun h => absurd h (show ¬ (¬ (I 6 (I 8 p)) = p) from by omega)) (fun hx5 => ?_)
  refine z_n 3 (86, [(7, vi (I 8 p)), (6, vi p), (5, vi 1), (4, vi (zsm (fun p => zcnt (I 20) (I 8 p) (I 14 4).toNat) p.toNat)), (3, vi (zsm (fun p => zcnt (I 18) (I 8 p) (I 14 4).toNat) p.toNat)), (2, vi (zmk (I 8) p.toNat)), (1, vi (I 2 5)), (0, vr 1)], [vi 5, vi (I 8 p), vr 1], (I, zPp π, D, 137)) rfl trivial ?_
  refine z_ci 61 [vr 1, vi (I 8 p), vi 5] [] rfl (m_crew_5 ⟨q1.1, q1.2.1⟩ w) ?_
  refine z_n 3 (94, [(7, vi (I 8 p)), (6, vi p), (5, vi 1), (4, vi (zsm (fun p => zcnt (I 20) (I 8 p) (I 14 4).toNat) p.toNat)), (3, vi (zsm (fun p => zcnt (I 18) (I 8 p) (I 14 4).toNat) p.toNat)), (2, vi (zmk (I 8) p.toNat)), (1, vi (I 2 5)), (0, vr 1)], [vi 6, vi (I 8 p), vr 1, vi (zris (fun d => I 24 (d * 24 + I 8 p)) (I 2 8).toNat)], (I, zPp π, D, 137)) rfl trivial ?_
  refine z_ci 61 [vr 1, vi (I 8 p), vi 6] [vi (zris (fun d => I 24 (d * 24 + I 8 p)) (I 2 8).toNat)] rfl (m_crew_6 ⟨q1.1, q1.2.1⟩ w) ?_
  refine z_n 3 (100, [(7, vi (I 8 p)), (6, vi p), (5, vi 1), (4, vi (zsm (fun p => zcnt (I 20) (I 8 p) (I 14 4).toNat) p.toNat)), (3, vi (zsm (fun p => zcnt (I 18) (I 8 p) (I 14 4).toNat) p.toNat)), (2, vi (zmk (I 8) p.toNat)), (1, vi (I 2 5)), (0, vr 1)], [vi 4, vr 1, vi ((zris (fun d => I 24 (d * 24 + I 8 p)) (I 2 8).toNat) + (zfal (fun d => I 24 (d * 24 + I 8 p)) (I 2 8).toNat))], (I, zPp π, D, 137)) (G := (zr ((zris (fun d => I 24 (d * 24 + I 8 p)) (I 2 8).toNat) + (zfal (fun d => I 24 (d * 24 + I 8 p)) (I 2 8).toNat))) ∧ True) rfl ⟨by omega, trivial⟩ ?_
  refine z_ci 60 [vr 1, vi 4] [vi ((zris (fun d => I 24 (d * 24 + I 8 p)) (I 2 8).toNat) + (zfal (fun d => I 24 (d * 24 + I 8 p)) (I 2 8).toNat))] rfl (m_count4) ?_
  refine z_br ((I 2 8) < ((zris (fun d => I 24 (d * 24 + I 8 p)) (I 2 8).toNat) + (zfal (fun d => I 24 (d * 24 + I 8 p)) (I 2 8).toNat))) 110 106 [] rfl (fun h => absurd h (show ¬ ((I 2 8) < ((zris (fun d => I 24 (d * 24 + I 8 p)) (I 2 8).toNat) + (zfal (fun d => I 24 (d * 24 + I 8 p)) (I 2 8).toNat))) from by omega)) (fun hx6 => ?_)
  refine z_n 13 (126, [(2, vi ((Int32.ofInt (zmk (I 8) p.toNat) ||| Int32.ofInt ((Int32.ofInt 1 <<< (Int32.ofInt (I 8 p) &&& 31)).toInt)).toInt)), (5, vi 1), (7, vi (I 8 p)), (6, vi p), (4, vi (zsm (fun p => zcnt (I 20) (I 8 p) (I 14 4).toNat) p.toNat)), (3, vi (zsm (fun p => zcnt (I 18) (I 8 p) (I 14 4).toNat) p.toNat)), (1, vi (I 2 5)), (0, vr 1)], [vi 8, vi (I 8 p), vr 1, vi (zsm (fun p => zcnt (I 18) (I 8 p) (I 14 4).toNat) p.toNat)], (I, zPp π, D, 137)) rfl trivial ?_
  refine z_ci 61 [vr 1, vi (I 8 p), vi 8] [vi (zsm (fun p => zcnt (I 18) (I 8 p) (I 14 4).toNat) p.toNat)] rfl (m_crew_8 ⟨q1.1, q1.2.1⟩ w hl) ?_
  refine z_n 6 (138, [(3, vi ((zsm (fun p => zcnt (I 18) (I 8 p) (I 14 4).toNat) p.toNat) + (zcnt (I 18) (I 8 p) (I 14 4).toNat))), (2, vi ((Int32.ofInt (zmk (I 8) p.toNat) ||| Int32.ofInt ((Int32.ofInt 1 <<< (Int32.ofInt (I 8 p) &&& 31)).toInt)).toInt)), (5, vi 1), (7, vi (I 8 p)), (6, vi p), (4, vi (zsm (fun p => zcnt (I 20) (I 8 p) (I 14 4).toNat) p.toNat)), (1, vi (I 2 5)), (0, vr 1)], [vi 9, vi (I 8 p), vr 1, vi (zsm (fun p => zcnt (I 20) (I 8 p) (I 14 4).toNat) p.toNat)], (I, zPp π, D, 137)) (G := (zr ((zsm (fun p => zcnt (I 18) (I 8 p) (I 14 4).toNat) p.toNat) + (zcnt (I 18) (I 8 p) (I 14 4).toNat))) ∧ True) rfl ⟨by omega, trivial⟩ ?_
  refine z_ci 61 [vr 1, vi (I 8 p), vi 9] [vi (zsm (fun p => zcnt (I 20) (I 8 p) (I 14 4).toNat) p.toNat)] rfl (m_crew_9 ⟨q1.1, q1.2.1⟩ w hl) ?_
  refine z_n 4 (37, [(6, vi (p + 1)), (4, vi ((zsm (fun p => zcnt (I 20) (I 8 p) (I 14 4).toNat) p.toNat) + (zcnt (I 20) (I 8 p) (I 14 4).toNat))), (3, vi ((zsm (fun p => zcnt (I 18) (I 8 p) (I 14 4).toNat) p.toNat) + (zcnt (I 18) (I 8 p) (I 14 4).toNat))), (2, vi ((Int32.ofInt (zmk (I 8) p.toNat) ||| Int32.ofInt ((Int32.ofInt 1 <<< (Int32.ofInt (I 8 p) &&& 31)).toInt)).toInt)), (5, vi 1), (7, vi (I 8 p)), (1, vi (I 2 5)), (0, vr 1)], [], (I, zPp π, D, 137)) (G := (zr ((zsm (fun p => zcnt (I 20) (I 8 p) (I 14 4).toNat) p.toNat) + (zcnt (I 20) (I 8 p) (I 14 4).toNat))) ∧ (zr (p + 1)) ∧ True) rfl ⟨by omega, by omega, trivial⟩ ?_
  refine z_sub [(6, vi (p + 1)), (5, vi 1), (4, vi ((zsm (fun p => zcnt (I 20) (I 8 p) (I 14 4).toNat) p.toNat) + (zcnt (I 20) (I 8 p) (I 14 4).toNat))), (3, vi ((zsm (fun p => zcnt (I 18) (I 8 p) (I 14 4).toNat) p.toNat) + (zcnt (I 18) (I 8 p) (I 14 4).toNat))), (2, vi ((Int32.ofInt (zmk (I 8) p.toNat) ||| Int32.ofInt ((Int32.ofInt 1 <<< (Int32.ofInt (I 8 p) &&& 31)).toInt)).toInt)), (1, vi (I 2 5)), (0, vr 1)] [0, 4, 1, 2, 3, 6, 7] rfl ?_
  refine z_lk (L1 := [(6, vi (p + 1)), (5, vi 1), (4, vi (zsm (fun p => zcnt (I 20) (I 8 p) (I 14 4).toNat) (p + 1).toNat)), (3, vi (zsm (fun p => zcnt (I 18) (I 8 p) (I 14 4).toNat) (p + 1).toNat)), (2, vi (zmk (I 8) (p + 1).toNat)), (1, vi (I 2 5)), (0, vr 1)]) (by rw [zmk_s h0, zsm_s h0, zsm_s h0]) ?_
  exact ih (p + 1) (by omega) (by omega)
set_option maxRecDepth 20000 in
theorem m_holds {I : zI} {π : Int → Nat} {D : zD} (s : zCH (zX I 2)) : zMet 80 [vr 1] (I, zPp π, D, 137) (some (vi 1)) (I, zPp π, D, 137) := by
  have ci := s.1
  have w : zW1 (I 2) := ci.1.1
  have v : zW2 (I 2) (I 6) (I 8) := ci.1.2.1
  have hd : zDis (I 2) (I 6) (I 9 2) (I 11) (I 13) := ci.2.2
  have hm : 0 ≤ I 9 2 := ci.2.1
  have hdl := zdis_le w v hd hm
  have hM : 0 ≤ I 9 2 ∧ I 9 2 ≤ 4 := ⟨hm, hdl.2⟩
  have hN := w.1
  have hO := w.2.2.2.1
  have hT := w.2.2.1
  have hlb := zlb_b w
  have hl0 : 0 ≤ I 14 4 ∧ I 14 4 ≤ zlb (I 2) := ci.1.2.2.2.1.1
  have hl : 0 ≤ I 14 4 ∧ I 14 4 ≤ 96 := by omega
  have hzb := zns_b w
  have h438 : zRuns 80 438 [(6, vi (zcpp (fun k => zOut (I 9 2) (I 11) (I 13) (I 8 (I 2 9 * I 2 6 + k))) (zns (I 2)).toNat)), (5, vi 1), (0, vr 1)] [] (I, zPp π, D, 137) (some (vi 1)) (I, zPp π, D, 137) := by
    by_cases hR : I 2 9 = -1
    · exact m_h438A s hR
    · refine m_h438B s hR ?_
      have := zdis_cnt w v hd (I 9 2).toNat (by omega)
      rw [show (((I 9 2).toNat : Nat) : Int) = I 9 2 by omega] at this
      exact this
  have h339 : zRuns 80 339 [(5, vi 1), (0, vr 1)] [] (I, zPp π, D, 137) (some (vi 1)) (I, zPp π, D, 137) := by
    refine z_n 4 (345, [(7, vi 0), (6, vi 0), (5, vi 1), (0, vr 1)], [], (I, zPp π, D, 137)) rfl trivial ?_
    refine z_sub [(7, vi 0), (6, vi 0), (5, vi 1), (0, vr 1)] [0, 1, 2, 3] rfl ?_
    refine z_lk (L1 := [(7, vi 0), (6, vi (zcpp (fun k => zOut (I 9 2) (I 11) (I 13) (I 8 (I 2 9 * I 2 6 + k))) (0 : Int).toNat)), (5, vi 1), (0, vr 1)]) (by rfl) ?_
    exact m_h345 s h438 (zns (I 2)).toNat 0 (by omega) (by omega)
  have h218 := m_h218 s h339 (I 2 8 + 1).toNat 0 (by omega) (by omega)
  have hlg : ∀ k, 0 ≤ k → k < I 14 4 → (0 ≤ I 18 k ∧ I 18 k < I 2 5) ∧ (0 ≤ I 20 k ∧ I 20 k < I 2 5) ∧ ¬ I 18 k = I 20 k ∧ I 22 k = zsw (I 18) (I 20) k.toNat (I 18 k) - zsw (I 18) (I 20) k.toNat (I 20 k) := ci.1.2.2.2.1.2.1
  have hab : zsm (fun p => zcnt (I 18) (I 8 p) (I 14 4).toNat) (I 2 5).toNat = zsm (fun p => zcnt (I 20) (I 8 p) (I 14 4).toNat) (I 2 5).toNat := by
    rw [zsm_cnt (Pl := I 6) (u := I 18) (fun p p0 p1 => (v.2.1 p p0 p1).2.2) v.1 (by omega) (I 14 4).toNat (fun k k0 k1 => (hlg k k0 (by omega)).1), zsm_cnt (Pl := I 6) (u := I 20) (fun p p0 p1 => (v.2.1 p p0 p1).2.2) v.1 (by omega) (I 14 4).toNat (fun k k0 k1 => (hlg k k0 (by omega)).2.1)]
  have h150 : zRuns 80 150 [(5, vi 1), (4, vi (zsm (fun p => zcnt (I 20) (I 8 p) (I 14 4).toNat) (I 2 5).toNat)), (3, vi (zsm (fun p => zcnt (I 18) (I 8 p) (I 14 4).toNat) (I 2 5).toNat)), (2, vi (zmk (I 8) (I 2 5).toNat)), (1, vi (I 2 5)), (0, vr 1)] [] (I, zPp π, D, 137) (some (vi 1)) (I, zPp π, D, 137) := by
    by_cases hR : I 2 9 = -1
    · exact m_h150A s hR hab h218
    · exact m_h150B s hR hab h218
  refine z_n 2 (2, [(0, vr 1)], [vi 0, vr 1], (I, zPp π, D, 137)) rfl trivial ?_
  refine z_ci 60 [vr 1, vi 0] [] rfl (m_count0) ?_
  refine z_n 9 (15, [(4, vi 0), (3, vi 0), (2, vi 0), (1, vi (I 2 5)), (0, vr 1)], [vi 0, vr 1], (I, zPp π, D, 137)) rfl trivial ?_
  refine z_ci 63 [vr 1, vi 0] [] rfl (m_at1 ⟨by omega, by omega⟩ w) ?_
  refine z_n 2 (21, [(4, vi 0), (3, vi 0), (2, vi 0), (1, vi (I 2 5)), (0, vr 1)], [vi 12, vr 1, vi (I 8 0)], (I, zPp π, D, 137)) rfl trivial ?_
  refine z_ci 60 [vr 1, vi 12] [vi (I 8 0)] rfl (m_count12) ?_
  refine z_br (¬ (I 8 0) = (I 8 0)) 31 27 [] rfl (fun h => absurd h (show ¬ (¬ (I 8 0) = (I 8 0)) from fun h9 => h9 rfl)) (fun hx1 => ?_)
  refine z_n 5 (37, [(6, vi 0), (5, vi 1), (4, vi 0), (3, vi 0), (2, vi 0), (1, vi (I 2 5)), (0, vr 1)], [], (I, zPp π, D, 137)) rfl trivial ?_
  refine z_sub [(6, vi 0), (5, vi 1), (4, vi 0), (3, vi 0), (2, vi 0), (1, vi (I 2 5)), (0, vr 1)] [0, 1, 2, 3, 4, 5, 6] rfl ?_
  refine z_lk (L1 := [(6, vi 0), (5, vi 1), (4, vi (zsm (fun p => zcnt (I 20) (I 8 p) (I 14 4).toNat) (0 : Int).toNat)), (3, vi (zsm (fun p => zcnt (I 18) (I 8 p) (I 14 4).toNat) (0 : Int).toNat)), (2, vi (zmk (I 8) (0 : Int).toNat)), (1, vi (I 2 5)), (0, vr 1)]) (by rfl) ?_
  exact m_h37 s h150 (I 2 5).toNat 0 (by omega) (by omega)
