set_option maxRecDepth 20000 in
theorem m_startNumber1 {I : zI} {π : Int → Nat} {D : zD} {i : Int} (w : zW1 (I 2)) (v : zW2 (I 2) (I 6) (I 8)) (h : zIs (I 2) (I 6) i) : zMet 14 [vr 2, vi i] (I, zPp π, D, 137) (some (vi (I 6 i - I 2 9 * I 2 6))) (I, zPp π, D, 137) := by
  obtain ⟨⟨w1, w2⟩, ⟨w3, w4⟩, ⟨w5, w6⟩, ⟨w7, w8⟩, ⟨w9, w10⟩, w11, ⟨⟨w12, w12b⟩, w12c⟩, ⟨w13, w14⟩, ⟨w15, w16⟩⟩ := id w
  have v1 := v.2.2 i
  have hz : zns (I 2) = zns (I 2) := rfl
  unfold zIs at h
  refine z_n 3 (5, [(0, vr 2), (1, vi i)], [vi i, vr 5], (I, zPp π, D, 137)) rfl trivial ?_
  refine z_ci 1 [vr 5, vi i] [] rfl (m_get (n := 24) ⟨rfl, rfl, rfl, rfl⟩ (by omega) (by omega)) ?_
  refine z_n 9 (21, [(2, vi ((I 6 i) - ((I 2 9) * (I 2 6)))), (0, vr 2), (1, vi i)], [vi i, vr 2], (I, zPp π, D, 137)) (G := (zr ((I 2 9) * (I 2 6))) ∧ (zr ((I 6 i) - ((I 2 9) * (I 2 6)))) ∧ True) rfl ⟨by omega, by omega, trivial⟩ ?_
  refine z_ci 6 [vr 2, vi i] [] rfl (m_hasCrew1 h.1) ?_
  refine z_br ((1 : Int) = 0) 43 27 [] rfl (fun h => absurd h (show ¬ ((1 : Int) = 0) from by decide)) (fun hx1 => ?_)
  refine z_n 1 (28, [(2, vi ((I 6 i) - ((I 2 9) * (I 2 6)))), (0, vr 2), (1, vi i)], [vi ((I 6 i) - ((I 2 9) * (I 2 6)))], (I, zPp π, D, 137)) rfl trivial ?_
  refine z_br (((I 6 i) - ((I 2 9) * (I 2 6))) < 0) 43 31 [] rfl (fun h => absurd h (show ¬ (((I 6 i) - ((I 2 9) * (I 2 6))) < 0) from by omega)) (fun hx2 => ?_)
  refine z_n 2 (33, [(2, vi ((I 6 i) - ((I 2 9) * (I 2 6)))), (0, vr 2), (1, vi i)], [vr 2, vi ((I 6 i) - ((I 2 9) * (I 2 6)))], (I, zPp π, D, 137)) rfl trivial ?_
  refine z_ci 12 [vr 2] [vi ((I 6 i) - ((I 2 9) * (I 2 6)))] rfl (m_starters w) ?_
  refine z_br ((zns (I 2)) ≤ ((I 6 i) - ((I 2 9) * (I 2 6)))) 43 39 [] rfl (fun h => absurd h (show ¬ ((zns (I 2)) ≤ ((I 6 i) - ((I 2 9) * (I 2 6)))) from by omega)) (fun hx3 => ?_)
  refine z_n 2 (44, [(2, vi ((I 6 i) - ((I 2 9) * (I 2 6)))), (0, vr 2), (1, vi i)], [vi ((I 6 i) - ((I 2 9) * (I 2 6)))], (I, zPp π, D, 137)) rfl trivial ?_
  first | exact z_ret rfl rfl rfl | exact z_ret rfl (zv1 (by omega)) rfl | (exfalso; omega)
set_option maxRecDepth 20000 in
theorem m_startNumber0 {I : zI} {π : Int → Nat} {D : zD} {i : Int} (w : zW1 (I 2)) (v : zW2 (I 2) (I 6) (I 8)) (h : ¬ zIs (I 2) (I 6) i) : zMet 14 [vr 2, vi i] (I, zPp π, D, 137) (some (vi (-1))) (I, zPp π, D, 137) := by
  obtain ⟨⟨w1, w2⟩, ⟨w3, w4⟩, ⟨w5, w6⟩, ⟨w7, w8⟩, ⟨w9, w10⟩, w11, ⟨⟨w12, w12b⟩, w12c⟩, ⟨w13, w14⟩, ⟨w15, w16⟩⟩ := id w
  have v1 := v.2.2 i
  unfold zIs at h
  refine z_n 3 (5, [(0, vr 2), (1, vi i)], [vi i, vr 5], (I, zPp π, D, 137)) rfl trivial ?_
  by_cases hx1 : 0 ≤ i ∧ i < 24
  · refine z_ci 1 [vr 5, vi i] [] rfl (m_get (n := 24) ⟨rfl, rfl, rfl, rfl⟩ hx1.1 hx1.2) ?_
    refine z_n 9 (21, [(2, vi ((I 6 i) - ((I 2 9) * (I 2 6)))), (0, vr 2), (1, vi i)], [vi i, vr 2], (I, zPp π, D, 137)) (G := (zr ((I 2 9) * (I 2 6))) ∧ (zr ((I 6 i) - ((I 2 9) * (I 2 6)))) ∧ True) rfl ⟨by omega, by omega, trivial⟩ ?_
    by_cases hx2 : 0 ≤ i ∧ i < I 2 5
    · refine z_ci 6 [vr 2, vi i] [] rfl (m_hasCrew1 hx2) ?_
      refine z_br ((1 : Int) = 0) 43 27 [] rfl (fun h => absurd h (show ¬ ((1 : Int) = 0) from by decide)) (fun hx3 => ?_)
      refine z_n 1 (28, [(2, vi ((I 6 i) - ((I 2 9) * (I 2 6)))), (0, vr 2), (1, vi i)], [vi ((I 6 i) - ((I 2 9) * (I 2 6)))], (I, zPp π, D, 137)) rfl trivial ?_
      refine z_br (((I 6 i) - ((I 2 9) * (I 2 6))) < 0) 43 31 [] rfl (fun hx4 => ?_) (fun hx4 => ?_)
      · refine z_n 1 (44, [(2, vi ((I 6 i) - ((I 2 9) * (I 2 6)))), (0, vr 2), (1, vi i)], [vi (-1)], (I, zPp π, D, 137)) rfl trivial ?_
        first | exact z_ret rfl rfl rfl | exact z_ret rfl (zv1 (by omega)) rfl | (exfalso; omega)
      · refine z_n 2 (33, [(2, vi ((I 6 i) - ((I 2 9) * (I 2 6)))), (0, vr 2), (1, vi i)], [vr 2, vi ((I 6 i) - ((I 2 9) * (I 2 6)))], (I, zPp π, D, 137)) rfl trivial ?_
        refine z_ci 12 [vr 2] [vi ((I 6 i) - ((I 2 9) * (I 2 6)))] rfl (m_starters w) ?_
        refine z_br ((zns (I 2)) ≤ ((I 6 i) - ((I 2 9) * (I 2 6)))) 43 39 [] rfl (fun hx5 => ?_) (fun hx5 => ?_)
        · refine z_n 1 (44, [(2, vi ((I 6 i) - ((I 2 9) * (I 2 6)))), (0, vr 2), (1, vi i)], [vi (-1)], (I, zPp π, D, 137)) rfl trivial ?_
          first | exact z_ret rfl rfl rfl | exact z_ret rfl (zv1 (by omega)) rfl | (exfalso; omega)
        · refine z_n 2 (44, [(2, vi ((I 6 i) - ((I 2 9) * (I 2 6)))), (0, vr 2), (1, vi i)], [vi ((I 6 i) - ((I 2 9) * (I 2 6)))], (I, zPp π, D, 137)) rfl trivial ?_
          first | exact z_ret rfl rfl rfl | exact z_ret rfl (zv1 (by omega)) rfl | (exfalso; omega)
    · refine z_ci 6 [vr 2, vi i] [] rfl (m_hasCrew0 hx2) ?_
      refine z_br ((0 : Int) = 0) 43 27 [] rfl (fun hx6 => ?_) (fun h => absurd (show (0 : Int) = 0 from by decide) h)
      refine z_n 1 (44, [(2, vi ((I 6 i) - ((I 2 9) * (I 2 6)))), (0, vr 2), (1, vi i)], [vi (-1)], (I, zPp π, D, 137)) rfl trivial ?_
      first | exact z_ret rfl rfl rfl | exact z_ret rfl (zv1 (by omega)) rfl | (exfalso; omega)
  · refine z_ci 1 [vr 5, vi i] [] rfl (m_get0 (n := 24) ⟨rfl, rfl, rfl, rfl⟩ (by omega)) ?_
    refine z_n 9 (21, [(2, vi (0 - ((I 2 9) * (I 2 6)))), (0, vr 2), (1, vi i)], [vi i, vr 2], (I, zPp π, D, 137)) (G := (zr ((I 2 9) * (I 2 6))) ∧ (zr (0 - ((I 2 9) * (I 2 6)))) ∧ True) rfl ⟨by omega, by omega, trivial⟩ ?_
    by_cases hx7 : 0 ≤ i ∧ i < I 2 5
    · refine z_ci 6 [vr 2, vi i] [] rfl (m_hasCrew1 hx7) ?_
      refine z_br ((1 : Int) = 0) 43 27 [] rfl (fun h => absurd h (show ¬ ((1 : Int) = 0) from by decide)) (fun hx8 => ?_)
      refine z_n 1 (28, [(2, vi (0 - ((I 2 9) * (I 2 6)))), (0, vr 2), (1, vi i)], [vi (0 - ((I 2 9) * (I 2 6)))], (I, zPp π, D, 137)) rfl trivial ?_
      refine z_br ((0 - ((I 2 9) * (I 2 6))) < 0) 43 31 [] rfl (fun hx9 => ?_) (fun hx9 => ?_)
      · refine z_n 1 (44, [(2, vi (0 - ((I 2 9) * (I 2 6)))), (0, vr 2), (1, vi i)], [vi (-1)], (I, zPp π, D, 137)) rfl trivial ?_
        first | exact z_ret rfl rfl rfl | exact z_ret rfl (zv1 (by omega)) rfl | (exfalso; omega)
      · refine z_n 2 (33, [(2, vi (0 - ((I 2 9) * (I 2 6)))), (0, vr 2), (1, vi i)], [vr 2, vi (0 - ((I 2 9) * (I 2 6)))], (I, zPp π, D, 137)) rfl trivial ?_
        refine z_ci 12 [vr 2] [vi (0 - ((I 2 9) * (I 2 6)))] rfl (m_starters w) ?_
        refine z_br ((zns (I 2)) ≤ (0 - ((I 2 9) * (I 2 6)))) 43 39 [] rfl (fun hx10 => ?_) (fun hx10 => ?_)
        · refine z_n 1 (44, [(2, vi (0 - ((I 2 9) * (I 2 6)))), (0, vr 2), (1, vi i)], [vi (-1)], (I, zPp π, D, 137)) rfl trivial ?_
          first | exact z_ret rfl rfl rfl | exact z_ret rfl (zv1 (by omega)) rfl | (exfalso; omega)
        · refine z_n 2 (44, [(2, vi (0 - ((I 2 9) * (I 2 6)))), (0, vr 2), (1, vi i)], [vi (0 - ((I 2 9) * (I 2 6)))], (I, zPp π, D, 137)) rfl trivial ?_
          first | exact z_ret rfl rfl rfl | exact z_ret rfl (zv1 (by omega)) rfl | (exfalso; omega)
    · refine z_ci 6 [vr 2, vi i] [] rfl (m_hasCrew0 hx7) ?_
      refine z_br ((0 : Int) = 0) 43 27 [] rfl (fun hx11 => ?_) (fun h => absurd (show (0 : Int) = 0 from by decide) h)
      refine z_n 1 (44, [(2, vi (0 - ((I 2 9) * (I 2 6)))), (0, vr 2), (1, vi i)], [vi (-1)], (I, zPp π, D, 137)) rfl trivial ?_
      first | exact z_ret rfl rfl rfl | exact z_ret rfl (zv1 (by omega)) rfl | (exfalso; omega)
set_option maxRecDepth 20000 in
theorem m_isStarter1 {I : zI} {π : Int → Nat} {D : zD} {i : Int} (w : zW1 (I 2)) (v : zW2 (I 2) (I 6) (I 8)) (h : zIs (I 2) (I 6) i) : zMet 15 [vr 2, vi i] (I, zPp π, D, 137) (some (vi 1)) (I, zPp π, D, 137) := by
  have h2 := h.2.1
  refine z_n 2 (2, [(0, vr 2), (1, vi i)], [vi i, vr 2], (I, zPp π, D, 137)) rfl trivial ?_
  refine z_ci 14 [vr 2, vi i] [] rfl (m_startNumber1 w v h) ?_
  refine z_n 1 (6, [(0, vr 2), (1, vi i)], [vi (-1), vi (I 6 i - I 2 9 * I 2 6)], (I, zPp π, D, 137)) rfl trivial ?_
  refine z_br ((I 6 i - I 2 9 * I 2 6) = (-1)) 13 9 [] rfl (fun hx1 => ?_) (fun hx1 => ?_)
  · refine z_n 1 (14, [(0, vr 2), (1, vi i)], [vi 0], (I, zPp π, D, 137)) rfl trivial ?_
    first | exact z_ret rfl rfl rfl | exact z_ret rfl (zv1 (by omega)) rfl | (exfalso; omega)
  · refine z_n 2 (14, [(0, vr 2), (1, vi i)], [vi 1], (I, zPp π, D, 137)) rfl trivial ?_
    first | exact z_ret rfl rfl rfl | exact z_ret rfl (zv1 (by omega)) rfl | (exfalso; omega)
set_option maxRecDepth 20000 in
theorem m_isStarter0 {I : zI} {π : Int → Nat} {D : zD} {i : Int} (w : zW1 (I 2)) (v : zW2 (I 2) (I 6) (I 8)) (h : ¬ zIs (I 2) (I 6) i) : zMet 15 [vr 2, vi i] (I, zPp π, D, 137) (some (vi 0)) (I, zPp π, D, 137) := by
  refine z_n 2 (2, [(0, vr 2), (1, vi i)], [vi i, vr 2], (I, zPp π, D, 137)) rfl trivial ?_
  refine z_ci 14 [vr 2, vi i] [] rfl (m_startNumber0 w v h) ?_
  refine z_n 1 (6, [(0, vr 2), (1, vi i)], [vi (-1), vi (-1)], (I, zPp π, D, 137)) rfl trivial ?_
  refine z_br ((-1 : Int) = (-1)) 13 9 [] rfl (fun hx1 => ?_) (fun h => absurd (show (-1 : Int) = (-1) from by decide) h)
  refine z_n 1 (14, [(0, vr 2), (1, vi i)], [vi 0], (I, zPp π, D, 137)) rfl trivial ?_
  first | exact z_ret rfl rfl rfl | exact z_ret rfl (zv1 (by omega)) rfl | (exfalso; omega)
set_option maxRecDepth 20000 in
theorem m_span {I : zI} {π : Int → Nat} {D : zD} {i : Int} (h0 : 0 ≤ i) (h1 : i < 4) (h2 : 0 ≤ I 11 i ∧ I 11 i < 24) (h3 : 0 ≤ I 13 i ∧ I 13 i < 24) (h4 : 0 ≤ I 6 (I 11 i) ∧ I 6 (I 11 i) < 24) (h5 : 0 ≤ I 6 (I 13 i) ∧ I 6 (I 13 i) < 24) : zMet 17 [vr 2, vi i] (I, zPp π, D, 137) (some (vi (I 6 (I 11 i) - I 6 (I 13 i)))) (I, zPp π, D, 137) := by
  refine z_n 6 (12, [(0, vr 2), (1, vi i)], [vi i, vr 10, vr 5], (I, zPp π, D, 137)) rfl trivial ?_
  refine z_ci 1 [vr 10, vi i] [vr 5] rfl (m_get (n := 4) ⟨rfl, rfl, rfl, rfl⟩ (by omega) (by omega)) ?_
  refine z_ci 1 [vr 5, vi (I 11 i)] [] rfl (m_get (n := 24) ⟨rfl, rfl, rfl, rfl⟩ (by omega) (by omega)) ?_
  refine z_n 6 (30, [(0, vr 2), (1, vi i)], [vi i, vr 12, vr 5, vi (I 6 (I 11 i))], (I, zPp π, D, 137)) rfl trivial ?_
  refine z_ci 1 [vr 12, vi i] [vr 5, vi (I 6 (I 11 i))] rfl (m_get (n := 4) ⟨rfl, rfl, rfl, rfl⟩ (by omega) (by omega)) ?_
  refine z_ci 1 [vr 5, vi (I 13 i)] [vi (I 6 (I 11 i))] rfl (m_get (n := 24) ⟨rfl, rfl, rfl, rfl⟩ (by omega) (by omega)) ?_
  refine z_n 1 (37, [(0, vr 2), (1, vi i)], [vi ((I 6 (I 11 i)) - (I 6 (I 13 i)))], (I, zPp π, D, 137)) (G := (zr ((I 6 (I 11 i)) - (I 6 (I 13 i)))) ∧ True) rfl ⟨by omega, trivial⟩ ?_
  first | exact z_ret rfl rfl rfl | exact z_ret rfl (zv1 (by omega)) rfl | (exfalso; omega)
set_option maxRecDepth 20000 in
theorem m_placeAfter {I : zI} {π : Int → Nat} {D : zD} {i d : Int} (h0 : 0 ≤ i) (h1 : i < 24) (h2 : 0 ≤ d) (h3 : d ≤ 6) : zMet 25 [vr 2, vi i, vi d] (I, zPp π, D, 137) (some (vi (I 24 (d * 24 + i)))) (I, zPp π, D, 137) := by
  refine z_n 7 (10, [(0, vr 2), (1, vi i), (2, vi d)], [vi ((d * 24) + i), vr 23], (I, zPp π, D, 137)) (G := (zr (d * 24)) ∧ (zr ((d * 24) + i)) ∧ True) rfl ⟨by omega, by omega, trivial⟩ ?_
  refine z_ci 1 [vr 23, vi ((d * 24) + i)] [] rfl (m_get (n := 168) ⟨rfl, rfl, rfl, rfl⟩ (by omega) (by omega)) ?_
  first | exact z_ret rfl rfl rfl | exact z_ret rfl (zv1 (by omega)) rfl | (exfalso; omega)
set_option maxRecDepth 20000 in
theorem m_isOut9_l1 {I : zI} {π : Int → Nat} {D : zD} {c : Int} (hM : 0 ≤ I 9 2 ∧ I 9 2 ≤ 4) : ∀ (n : Nat) (k : Int), 0 ≤ k → k + n = I 9 2 → (∃ j, k ≤ j ∧ j < I 9 2 ∧ (I 11 j = c ∨ I 13 j = c)) → zRuns 53 2 [(2, vi k), (0, vr 9), (1, vi c)] [] (I, zPp π, D, 137) (some (vi 1)) (I, zPp π, D, 137) := by
  intro n
  induction n with
  | zero => intro k h0 hn hj; obtain ⟨j, a1, a2, a3⟩ := hj; exfalso; omega
  | succ n ih =>
  intro k h0 hn hj
  refine z_n 3 (7, [(2, vi k), (0, vr 9), (1, vi c)], [vi (I 9 2), vi k], (I, zPp π, D, 137)) rfl trivial ?_
  refine z_br ((I 9 2) ≤ k) 42 10 [] rfl (fun h => absurd h (show ¬ ((I 9 2) ≤ k) from by omega)) (fun hx1 => ?_)
  refine z_n 3 (15, [(2, vi k), (0, vr 9), (1, vi c)], [vi k, vr 10], (I, zPp π, D, 137)) rfl trivial ?_
  refine z_ci 1 [vr 10, vi k] [] rfl (m_get (n := 4) ⟨rfl, rfl, rfl, rfl⟩ (by omega) (by omega)) ?_
  refine z_n 1 (19, [(2, vi k), (0, vr 9), (1, vi c)], [vi c, vi (I 11 k)], (I, zPp π, D, 137)) rfl trivial ?_
  refine z_br ((I 11 k) = c) 34 22 [] rfl (fun hx2 => ?_) (fun hx2 => ?_)
  · refine z_n 1 (35, [(2, vi k), (0, vr 9), (1, vi c)], [vi 1], (I, zPp π, D, 137)) rfl trivial ?_
    first | exact z_ret rfl rfl rfl | exact z_ret rfl (zv1 (by omega)) rfl | (exfalso; omega)
  · refine z_n 3 (27, [(2, vi k), (0, vr 9), (1, vi c)], [vi k, vr 12], (I, zPp π, D, 137)) rfl trivial ?_
    refine z_ci 1 [vr 12, vi k] [] rfl (m_get (n := 4) ⟨rfl, rfl, rfl, rfl⟩ (by omega) (by omega)) ?_
    refine z_n 1 (31, [(2, vi k), (0, vr 9), (1, vi c)], [vi c, vi (I 13 k)], (I, zPp π, D, 137)) rfl trivial ?_
    refine z_br (¬ (I 13 k) = c) 36 34 [] rfl (fun hx3 => ?_) (fun hx3 => ?_)
    · refine z_n 2 (2, [(2, vi (k + 1)), (0, vr 9), (1, vi c)], [], (I, zPp π, D, 137)) (G := (zr (k + 1)) ∧ True) rfl ⟨by omega, trivial⟩ ?_
      refine z_sub [(2, vi (k + 1)), (0, vr 9), (1, vi c)] [0, 1, 2] rfl ?_
      exact ih (k + 1) (by omega) (by omega) (by obtain ⟨j, a1, a2, a3⟩ := hj; refine ⟨j, ?_, a2, a3⟩; rcases Int.lt_or_lt_of_ne (show j ≠ k by rintro rfl; rcases a3 with a3 | a3 <;> contradiction) with a | a <;> omega)
    · refine z_n 1 (35, [(2, vi k), (0, vr 9), (1, vi c)], [vi 1], (I, zPp π, D, 137)) rfl trivial ?_
      first | exact z_ret rfl rfl rfl | exact z_ret rfl (zv1 (by omega)) rfl | (exfalso; omega)
set_option maxRecDepth 20000 in
theorem m_isOut9_l0 {I : zI} {π : Int → Nat} {D : zD} {c : Int} (hM : 0 ≤ I 9 2 ∧ I 9 2 ≤ 4) : ∀ (n : Nat) (k : Int), 0 ≤ k → k + n = I 9 2 → (¬ ∃ j, 0 ≤ j ∧ j < I 9 2 ∧ (I 11 j = c ∨ I 13 j = c)) → zRuns 53 2 [(2, vi k), (0, vr 9), (1, vi c)] [] (I, zPp π, D, 137) (some (vi 0)) (I, zPp π, D, 137) := by
  intro n
  induction n with
  | zero =>
    intro k h0 hn hj
    refine z_n 3 (7, [(2, vi k), (0, vr 9), (1, vi c)], [vi (I 9 2), vi k], (I, zPp π, D, 137)) rfl trivial ?_
    refine z_br ((I 9 2) ≤ k) 42 10 [] rfl (fun hx1 => ?_) (fun h => absurd (show (I 9 2) ≤ k from by omega) h)
    refine z_n 1 (43, [(2, vi k), (0, vr 9), (1, vi c)], [vi 0], (I, zPp π, D, 137)) rfl trivial ?_
    first | exact z_ret rfl rfl rfl | exact z_ret rfl (zv1 (by omega)) rfl | (exfalso; omega)
  | succ n ih =>
  intro k h0 hn hj
  refine z_n 3 (7, [(2, vi k), (0, vr 9), (1, vi c)], [vi (I 9 2), vi k], (I, zPp π, D, 137)) rfl trivial ?_
  refine z_br ((I 9 2) ≤ k) 42 10 [] rfl (fun h => absurd h (show ¬ ((I 9 2) ≤ k) from by omega)) (fun hx1 => ?_)
  refine z_n 3 (15, [(2, vi k), (0, vr 9), (1, vi c)], [vi k, vr 10], (I, zPp π, D, 137)) rfl trivial ?_
  refine z_ci 1 [vr 10, vi k] [] rfl (m_get (n := 4) ⟨rfl, rfl, rfl, rfl⟩ (by omega) (by omega)) ?_
  refine z_n 1 (19, [(2, vi k), (0, vr 9), (1, vi c)], [vi c, vi (I 11 k)], (I, zPp π, D, 137)) rfl trivial ?_
  refine z_br ((I 11 k) = c) 34 22 [] rfl (fun h => absurd h (show ¬ ((I 11 k) = c) from fun e => hj ⟨k, h0, by omega, Or.inl e⟩)) (fun hx2 => ?_)
  refine z_n 3 (27, [(2, vi k), (0, vr 9), (1, vi c)], [vi k, vr 12], (I, zPp π, D, 137)) rfl trivial ?_
  refine z_ci 1 [vr 12, vi k] [] rfl (m_get (n := 4) ⟨rfl, rfl, rfl, rfl⟩ (by omega) (by omega)) ?_
  refine z_n 1 (31, [(2, vi k), (0, vr 9), (1, vi c)], [vi c, vi (I 13 k)], (I, zPp π, D, 137)) rfl trivial ?_
  refine z_br (¬ (I 13 k) = c) 36 34 [] rfl (fun hx3 => ?_) (fun h => absurd (show ¬ (I 13 k) = c from fun e => hj ⟨k, h0, by omega, Or.inr e⟩) h)
  refine z_n 2 (2, [(2, vi (k + 1)), (0, vr 9), (1, vi c)], [], (I, zPp π, D, 137)) (G := (zr (k + 1)) ∧ True) rfl ⟨by omega, trivial⟩ ?_
  refine z_sub [(2, vi (k + 1)), (0, vr 9), (1, vi c)] [0, 1, 2] rfl ?_
  exact ih (k + 1) (by omega) (by omega) hj
set_option maxRecDepth 20000 in
theorem m_isOut9_1 {I : zI} {π : Int → Nat} {D : zD} {c : Int} (hM : 0 ≤ I 9 2 ∧ I 9 2 ≤ 4) (h : zOut (I 9 2) (I 11) (I 13) c) : zMet 53 [vr 9, vi c] (I, zPp π, D, 137) (some (vi 1)) (I, zPp π, D, 137) := by
  refine z_n 2 (2, [(2, vi 0), (0, vr 9), (1, vi c)], [], (I, zPp π, D, 137)) rfl trivial ?_
  refine z_sub [(2, vi 0), (0, vr 9), (1, vi c)] [0, 1, 2] rfl ?_
  exact m_isOut9_l1 hM (I 9 2).toNat 0 (by omega) (by omega) h
set_option maxRecDepth 20000 in
theorem m_isOut9_0 {I : zI} {π : Int → Nat} {D : zD} {c : Int} (hM : 0 ≤ I 9 2 ∧ I 9 2 ≤ 4) (h : ¬ zOut (I 9 2) (I 11) (I 13) c) : zMet 53 [vr 9, vi c] (I, zPp π, D, 137) (some (vi 0)) (I, zPp π, D, 137) := by
  refine z_n 2 (2, [(2, vi 0), (0, vr 9), (1, vi c)], [], (I, zPp π, D, 137)) rfl trivial ?_
  refine z_sub [(2, vi 0), (0, vr 9), (1, vi c)] [0, 1, 2] rfl ?_
  exact m_isOut9_l0 hM (I 9 2).toNat 0 (by omega) (by omega) h
set_option maxRecDepth 20000 in
theorem m_rea9_2a {I : zI} {π : Int → Nat} {D : zD} {a b : Int} (w : zW1 (I 2)) (v : zW2 (I 2) (I 6) (I 8)) (ha : ¬ zIs (I 2) (I 6) a) : zMet 16 [vr 2, vr 9, vi a, vi b] (I, zPp π, D, 137) (some (vi 2)) (I, zPp π, D, 137) := by
  obtain ⟨⟨w1, w2⟩, ⟨w3, w4⟩, ⟨w5, w6⟩, ⟨w7, w8⟩, ⟨w9, w10⟩, w11, ⟨⟨w12, w12b⟩, w12c⟩, ⟨w13, w14⟩, ⟨w15, w16⟩⟩ := id w
  refine z_n 2 (2, [(0, vr 2), (1, vr 9), (2, vi a), (3, vi b)], [vi a, vr 2], (I, zPp π, D, 137)) rfl trivial ?_
  refine z_ci 14 [vr 2, vi a] [] rfl (m_startNumber0 w v ha) ?_
  refine z_n 3 (9, [(4, vi (-1)), (0, vr 2), (1, vr 9), (2, vi a), (3, vi b)], [vi b, vr 2], (I, zPp π, D, 137)) rfl trivial ?_
  by_cases hx1 : zIs (I 2) (I 6) b
  · refine z_ci 14 [vr 2, vi b] [] rfl (m_startNumber1 w v hx1) ?_
    refine z_n 3 (17, [(5, vi (I 6 b - I 2 9 * I 2 6)), (4, vi (-1)), (0, vr 2), (1, vr 9), (2, vi a), (3, vi b)], [vi (-1), vi (-1)], (I, zPp π, D, 137)) rfl trivial ?_
    refine z_br ((-1 : Int) = (-1)) 26 20 [] rfl (fun hx2 => ?_) (fun h => absurd (show (-1 : Int) = (-1) from by decide) h)
    refine z_n 1 (27, [(5, vi (I 6 b - I 2 9 * I 2 6)), (4, vi (-1)), (0, vr 2), (1, vr 9), (2, vi a), (3, vi b)], [vi 2], (I, zPp π, D, 137)) rfl trivial ?_
    first | exact z_ret rfl rfl rfl | exact z_ret rfl (zv1 (by omega)) rfl | (exfalso; omega)
  · refine z_ci 14 [vr 2, vi b] [] rfl (m_startNumber0 w v hx1) ?_
    refine z_n 3 (17, [(5, vi (-1)), (4, vi (-1)), (0, vr 2), (1, vr 9), (2, vi a), (3, vi b)], [vi (-1), vi (-1)], (I, zPp π, D, 137)) rfl trivial ?_
    refine z_br ((-1 : Int) = (-1)) 26 20 [] rfl (fun hx3 => ?_) (fun h => absurd (show (-1 : Int) = (-1) from by decide) h)
    refine z_n 1 (27, [(5, vi (-1)), (4, vi (-1)), (0, vr 2), (1, vr 9), (2, vi a), (3, vi b)], [vi 2], (I, zPp π, D, 137)) rfl trivial ?_
    first | exact z_ret rfl rfl rfl | exact z_ret rfl (zv1 (by omega)) rfl | (exfalso; omega)
set_option maxRecDepth 20000 in
theorem m_rea9_2b {I : zI} {π : Int → Nat} {D : zD} {a b : Int} (w : zW1 (I 2)) (v : zW2 (I 2) (I 6) (I 8)) (ha : zIs (I 2) (I 6) a) (hb : ¬ zIs (I 2) (I 6) b) : zMet 16 [vr 2, vr 9, vi a, vi b] (I, zPp π, D, 137) (some (vi 2)) (I, zPp π, D, 137) := by
  obtain ⟨⟨w1, w2⟩, ⟨w3, w4⟩, ⟨w5, w6⟩, ⟨w7, w8⟩, ⟨w9, w10⟩, w11, ⟨⟨w12, w12b⟩, w12c⟩, ⟨w13, w14⟩, ⟨w15, w16⟩⟩ := id w
  refine z_n 2 (2, [(0, vr 2), (1, vr 9), (2, vi a), (3, vi b)], [vi a, vr 2], (I, zPp π, D, 137)) rfl trivial ?_
  refine z_ci 14 [vr 2, vi a] [] rfl (m_startNumber1 w v ha) ?_
  refine z_n 3 (9, [(4, vi (I 6 a - I 2 9 * I 2 6)), (0, vr 2), (1, vr 9), (2, vi a), (3, vi b)], [vi b, vr 2], (I, zPp π, D, 137)) rfl trivial ?_
  refine z_ci 14 [vr 2, vi b] [] rfl (m_startNumber0 w v hb) ?_
  refine z_n 3 (17, [(5, vi (-1)), (4, vi (I 6 a - I 2 9 * I 2 6)), (0, vr 2), (1, vr 9), (2, vi a), (3, vi b)], [vi (-1), vi (I 6 a - I 2 9 * I 2 6)], (I, zPp π, D, 137)) rfl trivial ?_
  refine z_br ((I 6 a - I 2 9 * I 2 6) = (-1)) 26 20 [] rfl (fun h => absurd h (show ¬ ((I 6 a - I 2 9 * I 2 6) = (-1)) from by have := ha.2.1; omega)) (fun hx1 => ?_)
  refine z_n 2 (23, [(5, vi (-1)), (4, vi (I 6 a - I 2 9 * I 2 6)), (0, vr 2), (1, vr 9), (2, vi a), (3, vi b)], [vi (-1), vi (-1)], (I, zPp π, D, 137)) rfl trivial ?_
  refine z_br (¬ (-1 : Int) = (-1)) 28 26 [] rfl (fun h => absurd h (show ¬ (¬ (-1 : Int) = (-1)) from by decide)) (fun hx2 => ?_)
  refine z_n 1 (27, [(5, vi (-1)), (4, vi (I 6 a - I 2 9 * I 2 6)), (0, vr 2), (1, vr 9), (2, vi a), (3, vi b)], [vi 2], (I, zPp π, D, 137)) rfl trivial ?_
  first | exact z_ret rfl rfl rfl | exact z_ret rfl (zv1 (by omega)) rfl | (exfalso; omega)
set_option maxRecDepth 20000 in
theorem m_rea9_3a {I : zI} {π : Int → Nat} {D : zD} {a b : Int} (w : zW1 (I 2)) (v : zW2 (I 2) (I 6) (I 8)) (hM : 0 ≤ I 9 2 ∧ I 9 2 ≤ 4) (ha : zIs (I 2) (I 6) a) (hb : zIs (I 2) (I 6) b) (oa : zOut (I 9 2) (I 11) (I 13) a) : zMet 16 [vr 2, vr 9, vi a, vi b] (I, zPp π, D, 137) (some (vi 3)) (I, zPp π, D, 137) := by
  have ha2 := ha.2
  have hb2 := hb.2
  have ha0 := ha.1
  have hb0 := hb.1
  refine z_n 2 (2, [(0, vr 2), (1, vr 9), (2, vi a), (3, vi b)], [vi a, vr 2], (I, zPp π, D, 137)) rfl trivial ?_
  refine z_ci 14 [vr 2, vi a] [] rfl (m_startNumber1 w v ha) ?_
  refine z_n 3 (9, [(4, vi (I 6 a - I 2 9 * I 2 6)), (0, vr 2), (1, vr 9), (2, vi a), (3, vi b)], [vi b, vr 2], (I, zPp π, D, 137)) rfl trivial ?_
  refine z_ci 14 [vr 2, vi b] [] rfl (m_startNumber1 w v hb) ?_
  refine z_n 3 (17, [(5, vi (I 6 b - I 2 9 * I 2 6)), (4, vi (I 6 a - I 2 9 * I 2 6)), (0, vr 2), (1, vr 9), (2, vi a), (3, vi b)], [vi (-1), vi (I 6 a - I 2 9 * I 2 6)], (I, zPp π, D, 137)) rfl trivial ?_
  refine z_br ((I 6 a - I 2 9 * I 2 6) = (-1)) 26 20 [] rfl (fun h => absurd h (show ¬ ((I 6 a - I 2 9 * I 2 6) = (-1)) from by omega)) (fun hx1 => ?_)
  refine z_n 2 (23, [(5, vi (I 6 b - I 2 9 * I 2 6)), (4, vi (I 6 a - I 2 9 * I 2 6)), (0, vr 2), (1, vr 9), (2, vi a), (3, vi b)], [vi (-1), vi (I 6 b - I 2 9 * I 2 6)], (I, zPp π, D, 137)) rfl trivial ?_
  refine z_br (¬ (I 6 b - I 2 9 * I 2 6) = (-1)) 28 26 [] rfl (fun hx2 => ?_) (fun h => absurd (show ¬ (I 6 b - I 2 9 * I 2 6) = (-1) from by omega) h)
  refine z_n 2 (30, [(5, vi (I 6 b - I 2 9 * I 2 6)), (4, vi (I 6 a - I 2 9 * I 2 6)), (0, vr 2), (1, vr 9), (2, vi a), (3, vi b)], [vi a, vr 9], (I, zPp π, D, 137)) rfl trivial ?_
  refine z_ci 53 [vr 9, vi a] [] rfl (m_isOut9_1 hM oa) ?_
  refine z_br (¬ (1 : Int) = 0) 44 36 [] rfl (fun hx3 => ?_) (fun h => absurd (show ¬ (1 : Int) = 0 from by decide) h)
  refine z_n 1 (45, [(5, vi (I 6 b - I 2 9 * I 2 6)), (4, vi (I 6 a - I 2 9 * I 2 6)), (0, vr 2), (1, vr 9), (2, vi a), (3, vi b)], [vi 3], (I, zPp π, D, 137)) rfl trivial ?_
  first | exact z_ret rfl rfl rfl | exact z_ret rfl (zv1 (by omega)) rfl | (exfalso; omega)
set_option maxRecDepth 20000 in
theorem m_rea9_3b {I : zI} {π : Int → Nat} {D : zD} {a b : Int} (w : zW1 (I 2)) (v : zW2 (I 2) (I 6) (I 8)) (hM : 0 ≤ I 9 2 ∧ I 9 2 ≤ 4) (ha : zIs (I 2) (I 6) a) (hb : zIs (I 2) (I 6) b) (oa : ¬ zOut (I 9 2) (I 11) (I 13) a) (ob : zOut (I 9 2) (I 11) (I 13) b) : zMet 16 [vr 2, vr 9, vi a, vi b] (I, zPp π, D, 137) (some (vi 3)) (I, zPp π, D, 137) := by
  have ha2 := ha.2
  have hb2 := hb.2
  have ha0 := ha.1
  have hb0 := hb.1
  refine z_n 2 (2, [(0, vr 2), (1, vr 9), (2, vi a), (3, vi b)], [vi a, vr 2], (I, zPp π, D, 137)) rfl trivial ?_
  refine z_ci 14 [vr 2, vi a] [] rfl (m_startNumber1 w v ha) ?_
  refine z_n 3 (9, [(4, vi (I 6 a - I 2 9 * I 2 6)), (0, vr 2), (1, vr 9), (2, vi a), (3, vi b)], [vi b, vr 2], (I, zPp π, D, 137)) rfl trivial ?_
  refine z_ci 14 [vr 2, vi b] [] rfl (m_startNumber1 w v hb) ?_
  refine z_n 3 (17, [(5, vi (I 6 b - I 2 9 * I 2 6)), (4, vi (I 6 a - I 2 9 * I 2 6)), (0, vr 2), (1, vr 9), (2, vi a), (3, vi b)], [vi (-1), vi (I 6 a - I 2 9 * I 2 6)], (I, zPp π, D, 137)) rfl trivial ?_
  refine z_br ((I 6 a - I 2 9 * I 2 6) = (-1)) 26 20 [] rfl (fun h => absurd h (show ¬ ((I 6 a - I 2 9 * I 2 6) = (-1)) from by omega)) (fun hx1 => ?_)
  refine z_n 2 (23, [(5, vi (I 6 b - I 2 9 * I 2 6)), (4, vi (I 6 a - I 2 9 * I 2 6)), (0, vr 2), (1, vr 9), (2, vi a), (3, vi b)], [vi (-1), vi (I 6 b - I 2 9 * I 2 6)], (I, zPp π, D, 137)) rfl trivial ?_
  refine z_br (¬ (I 6 b - I 2 9 * I 2 6) = (-1)) 28 26 [] rfl (fun hx2 => ?_) (fun h => absurd (show ¬ (I 6 b - I 2 9 * I 2 6) = (-1) from by omega) h)
  refine z_n 2 (30, [(5, vi (I 6 b - I 2 9 * I 2 6)), (4, vi (I 6 a - I 2 9 * I 2 6)), (0, vr 2), (1, vr 9), (2, vi a), (3, vi b)], [vi a, vr 9], (I, zPp π, D, 137)) rfl trivial ?_
  refine z_ci 53 [vr 9, vi a] [] rfl (m_isOut9_0 hM oa) ?_
  refine z_br (¬ (0 : Int) = 0) 44 36 [] rfl (fun h => absurd h (show ¬ (¬ (0 : Int) = 0) from by decide)) (fun hx3 => ?_)
  refine z_n 2 (38, [(5, vi (I 6 b - I 2 9 * I 2 6)), (4, vi (I 6 a - I 2 9 * I 2 6)), (0, vr 2), (1, vr 9), (2, vi a), (3, vi b)], [vi b, vr 9], (I, zPp π, D, 137)) rfl trivial ?_
  refine z_ci 53 [vr 9, vi b] [] rfl (m_isOut9_1 hM ob) ?_
  refine z_br ((1 : Int) = 0) 46 44 [] rfl (fun h => absurd h (show ¬ ((1 : Int) = 0) from by decide)) (fun hx4 => ?_)
  refine z_n 1 (45, [(5, vi (I 6 b - I 2 9 * I 2 6)), (4, vi (I 6 a - I 2 9 * I 2 6)), (0, vr 2), (1, vr 9), (2, vi a), (3, vi b)], [vi 3], (I, zPp π, D, 137)) rfl trivial ?_
  first | exact z_ret rfl rfl rfl | exact z_ret rfl (zv1 (by omega)) rfl | (exfalso; omega)
set_option maxRecDepth 20000 in
theorem m_rea9_4 {I : zI} {π : Int → Nat} {D : zD} {a b : Int} (w : zW1 (I 2)) (v : zW2 (I 2) (I 6) (I 8)) (hM : 0 ≤ I 9 2 ∧ I 9 2 ≤ 4) (ha : zIs (I 2) (I 6) a) (hb : zIs (I 2) (I 6) b) (oa : ¬ zOut (I 9 2) (I 11) (I 13) a) (ob : ¬ zOut (I 9 2) (I 11) (I 13) b) (hp : I 6 a ≤ I 6 b) : zMet 16 [vr 2, vr 9, vi a, vi b] (I, zPp π, D, 137) (some (vi 4)) (I, zPp π, D, 137) := by
  have ha2 := ha.2
  have hb2 := hb.2
  have ha0 := ha.1
  have hb0 := hb.1
  refine z_n 2 (2, [(0, vr 2), (1, vr 9), (2, vi a), (3, vi b)], [vi a, vr 2], (I, zPp π, D, 137)) rfl trivial ?_
  refine z_ci 14 [vr 2, vi a] [] rfl (m_startNumber1 w v ha) ?_
  refine z_n 3 (9, [(4, vi (I 6 a - I 2 9 * I 2 6)), (0, vr 2), (1, vr 9), (2, vi a), (3, vi b)], [vi b, vr 2], (I, zPp π, D, 137)) rfl trivial ?_
  refine z_ci 14 [vr 2, vi b] [] rfl (m_startNumber1 w v hb) ?_
  refine z_n 3 (17, [(5, vi (I 6 b - I 2 9 * I 2 6)), (4, vi (I 6 a - I 2 9 * I 2 6)), (0, vr 2), (1, vr 9), (2, vi a), (3, vi b)], [vi (-1), vi (I 6 a - I 2 9 * I 2 6)], (I, zPp π, D, 137)) rfl trivial ?_
  refine z_br ((I 6 a - I 2 9 * I 2 6) = (-1)) 26 20 [] rfl (fun h => absurd h (show ¬ ((I 6 a - I 2 9 * I 2 6) = (-1)) from by omega)) (fun hx1 => ?_)
  refine z_n 2 (23, [(5, vi (I 6 b - I 2 9 * I 2 6)), (4, vi (I 6 a - I 2 9 * I 2 6)), (0, vr 2), (1, vr 9), (2, vi a), (3, vi b)], [vi (-1), vi (I 6 b - I 2 9 * I 2 6)], (I, zPp π, D, 137)) rfl trivial ?_
  refine z_br (¬ (I 6 b - I 2 9 * I 2 6) = (-1)) 28 26 [] rfl (fun hx2 => ?_) (fun h => absurd (show ¬ (I 6 b - I 2 9 * I 2 6) = (-1) from by omega) h)
  refine z_n 2 (30, [(5, vi (I 6 b - I 2 9 * I 2 6)), (4, vi (I 6 a - I 2 9 * I 2 6)), (0, vr 2), (1, vr 9), (2, vi a), (3, vi b)], [vi a, vr 9], (I, zPp π, D, 137)) rfl trivial ?_
  refine z_ci 53 [vr 9, vi a] [] rfl (m_isOut9_0 hM oa) ?_
  refine z_br (¬ (0 : Int) = 0) 44 36 [] rfl (fun h => absurd h (show ¬ (¬ (0 : Int) = 0) from by decide)) (fun hx3 => ?_)
  refine z_n 2 (38, [(5, vi (I 6 b - I 2 9 * I 2 6)), (4, vi (I 6 a - I 2 9 * I 2 6)), (0, vr 2), (1, vr 9), (2, vi a), (3, vi b)], [vi b, vr 9], (I, zPp π, D, 137)) rfl trivial ?_
  refine z_ci 53 [vr 9, vi b] [] rfl (m_isOut9_0 hM ob) ?_
  refine z_br ((0 : Int) = 0) 46 44 [] rfl (fun hx4 => ?_) (fun h => absurd (show (0 : Int) = 0 from by decide) h)
  refine z_n 2 (50, [(5, vi (I 6 b - I 2 9 * I 2 6)), (4, vi (I 6 a - I 2 9 * I 2 6)), (0, vr 2), (1, vr 9), (2, vi a), (3, vi b)], [vi (I 6 b - I 2 9 * I 2 6), vi (I 6 a - I 2 9 * I 2 6)], (I, zPp π, D, 137)) rfl trivial ?_
  refine z_br ((I 6 b - I 2 9 * I 2 6) < (I 6 a - I 2 9 * I 2 6)) 55 53 [] rfl (fun h => absurd h (show ¬ ((I 6 b - I 2 9 * I 2 6) < (I 6 a - I 2 9 * I 2 6)) from by omega)) (fun hx5 => ?_)
  refine z_n 1 (54, [(5, vi (I 6 b - I 2 9 * I 2 6)), (4, vi (I 6 a - I 2 9 * I 2 6)), (0, vr 2), (1, vr 9), (2, vi a), (3, vi b)], [vi 4], (I, zPp π, D, 137)) rfl trivial ?_
  first | exact z_ret rfl rfl rfl | exact z_ret rfl (zv1 (by omega)) rfl | (exfalso; omega)
set_option maxRecDepth 20000 in
theorem m_rea9_l0 {I : zI} {π : Int → Nat} {D : zD} {a b : Int} (w : zW1 (I 2)) (v : zW2 (I 2) (I 6) (I 8)) (hM : 0 ≤ I 9 2 ∧ I 9 2 ≤ 4) (ha : zIs (I 2) (I 6) a) (hb : zIs (I 2) (I 6) b)  : ∀ (n : Nat) (m : Int), I 6 b - I 2 9 * I 2 6 < m → m + n = I 6 a - I 2 9 * I 2 6 → (∀ p, I 6 b < p → p < I 6 a → zOut (I 9 2) (I 11) (I 13) (I 8 p)) → zRuns 16 61 [(6, vi m), (5, vi (I 6 b - I 2 9 * I 2 6)), (4, vi (I 6 a - I 2 9 * I 2 6)), (0, vr 2), (1, vr 9), (2, vi a), (3, vi b)] [] (I, zPp π, D, 137) (some (vi 0)) (I, zPp π, D, 137) := by
  obtain ⟨⟨w1, w2⟩, ⟨w3, w4⟩, ⟨w5, w6⟩, ⟨w7, w8⟩, ⟨w9, w10⟩, w11, ⟨⟨w12, w12b⟩, w12c⟩, ⟨w13, w14⟩, ⟨w15, w16⟩⟩ := id w
  have hb2 := hb.2
  have ha2 := ha.2
  have ha0 := ha.1
  have hb0 := hb.1
  have ha1 := v.2.2 a
  have hb1 := v.2.2 b
  intro n
  induction n with
  | zero =>
    intro m h0 hn hj
    refine z_n 2 (65, [(6, vi m), (5, vi (I 6 b - I 2 9 * I 2 6)), (4, vi (I 6 a - I 2 9 * I 2 6)), (0, vr 2), (1, vr 9), (2, vi a), (3, vi b)], [vi (I 6 a - I 2 9 * I 2 6), vi m], (I, zPp π, D, 137)) rfl trivial ?_
    refine z_br ((I 6 a - I 2 9 * I 2 6) ≤ m) 89 68 [] rfl (fun hx1 => ?_) (fun h => absurd (show (I 6 a - I 2 9 * I 2 6) ≤ m from by omega) h)
    refine z_n 1 (90, [(6, vi m), (5, vi (I 6 b - I 2 9 * I 2 6)), (4, vi (I 6 a - I 2 9 * I 2 6)), (0, vr 2), (1, vr 9), (2, vi a), (3, vi b)], [vi 0], (I, zPp π, D, 137)) rfl trivial ?_
    first | exact z_ret rfl rfl rfl | exact z_ret rfl (zv1 (by omega)) rfl | (exfalso; omega)
  | succ n ih =>
  intro m h0 hn hj
  refine z_n 2 (65, [(6, vi m), (5, vi (I 6 b - I 2 9 * I 2 6)), (4, vi (I 6 a - I 2 9 * I 2 6)), (0, vr 2), (1, vr 9), (2, vi a), (3, vi b)], [vi (I 6 a - I 2 9 * I 2 6), vi m], (I, zPp π, D, 137)) rfl trivial ?_
  refine z_br ((I 6 a - I 2 9 * I 2 6) ≤ m) 89 68 [] rfl (fun h => absurd h (show ¬ ((I 6 a - I 2 9 * I 2 6) ≤ m) from by omega)) (fun hx1 => ?_)
  refine z_n 3 (72, [(6, vi m), (5, vi (I 6 b - I 2 9 * I 2 6)), (4, vi (I 6 a - I 2 9 * I 2 6)), (0, vr 2), (1, vr 9), (2, vi a), (3, vi b)], [vi m, vr 2, vr 9], (I, zPp π, D, 137)) rfl trivial ?_
  refine z_ci 13 [vr 2, vi m] [vr 9] rfl (m_starterAt w (by omega) (by omega)) ?_
  refine z_ci 53 [vr 9, vi (I 8 (I 2 9 * I 2 6 + m))] [] rfl (m_isOut9_1 hM (hj _ (by omega) (by omega))) ?_
  refine z_br (¬ (1 : Int) = 0) 83 81 [] rfl (fun hx2 => ?_) (fun h => absurd (show ¬ (1 : Int) = 0 from by decide) h)
  refine z_n 2 (61, [(6, vi (m + 1)), (5, vi (I 6 b - I 2 9 * I 2 6)), (4, vi (I 6 a - I 2 9 * I 2 6)), (0, vr 2), (1, vr 9), (2, vi a), (3, vi b)], [], (I, zPp π, D, 137)) (G := (zr (m + 1)) ∧ True) rfl ⟨by omega, trivial⟩ ?_
  refine z_sub [(6, vi (m + 1)), (5, vi (I 6 b - I 2 9 * I 2 6)), (4, vi (I 6 a - I 2 9 * I 2 6)), (0, vr 2), (1, vr 9), (2, vi a), (3, vi b)] [0, 1, 2, 3, 4, 5, 6] rfl ?_
  exact ih (m + 1) (by omega) (by omega) hj
set_option maxRecDepth 20000 in
theorem m_rea9_l5 {I : zI} {π : Int → Nat} {D : zD} {a b : Int} (w : zW1 (I 2)) (v : zW2 (I 2) (I 6) (I 8)) (hM : 0 ≤ I 9 2 ∧ I 9 2 ≤ 4) (ha : zIs (I 2) (I 6) a) (hb : zIs (I 2) (I 6) b)  : ∀ (n : Nat) (m : Int), I 6 b - I 2 9 * I 2 6 < m → m + n = I 6 a - I 2 9 * I 2 6 → (∃ p, I 2 9 * I 2 6 + m ≤ p ∧ p < I 6 a ∧ ¬ zOut (I 9 2) (I 11) (I 13) (I 8 p)) → zRuns 16 61 [(6, vi m), (5, vi (I 6 b - I 2 9 * I 2 6)), (4, vi (I 6 a - I 2 9 * I 2 6)), (0, vr 2), (1, vr 9), (2, vi a), (3, vi b)] [] (I, zPp π, D, 137) (some (vi 5)) (I, zPp π, D, 137) := by
  obtain ⟨⟨w1, w2⟩, ⟨w3, w4⟩, ⟨w5, w6⟩, ⟨w7, w8⟩, ⟨w9, w10⟩, w11, ⟨⟨w12, w12b⟩, w12c⟩, ⟨w13, w14⟩, ⟨w15, w16⟩⟩ := id w
  have hb2 := hb.2
  have ha2 := ha.2
  have ha0 := ha.1
  have hb0 := hb.1
  have ha1 := v.2.2 a
  have hb1 := v.2.2 b
  intro n
  induction n with
  | zero => intro m h0 hn hj; obtain ⟨j, a1, a2, a3⟩ := hj; exfalso; omega
  | succ n ih =>
  intro m h0 hn hj
  refine z_n 2 (65, [(6, vi m), (5, vi (I 6 b - I 2 9 * I 2 6)), (4, vi (I 6 a - I 2 9 * I 2 6)), (0, vr 2), (1, vr 9), (2, vi a), (3, vi b)], [vi (I 6 a - I 2 9 * I 2 6), vi m], (I, zPp π, D, 137)) rfl trivial ?_
  refine z_br ((I 6 a - I 2 9 * I 2 6) ≤ m) 89 68 [] rfl (fun h => absurd h (show ¬ ((I 6 a - I 2 9 * I 2 6) ≤ m) from by omega)) (fun hx1 => ?_)
  refine z_n 3 (72, [(6, vi m), (5, vi (I 6 b - I 2 9 * I 2 6)), (4, vi (I 6 a - I 2 9 * I 2 6)), (0, vr 2), (1, vr 9), (2, vi a), (3, vi b)], [vi m, vr 2, vr 9], (I, zPp π, D, 137)) rfl trivial ?_
  refine z_ci 13 [vr 2, vi m] [vr 9] rfl (m_starterAt w (by omega) (by omega)) ?_
  by_cases hx2 : zOut (I 9 2) (I 11) (I 13) (I 8 (I 2 9 * I 2 6 + m))
  · have h9 := hx2
    refine z_ci 53 [vr 9, vi (I 8 (I 2 9 * I 2 6 + m))] [] rfl (m_isOut9_1 hM hx2) ?_
    refine z_br (¬ (1 : Int) = 0) 83 81 [] rfl (fun hx3 => ?_) (fun h => absurd (show ¬ (1 : Int) = 0 from by decide) h)
    refine z_n 2 (61, [(6, vi (m + 1)), (5, vi (I 6 b - I 2 9 * I 2 6)), (4, vi (I 6 a - I 2 9 * I 2 6)), (0, vr 2), (1, vr 9), (2, vi a), (3, vi b)], [], (I, zPp π, D, 137)) (G := (zr (m + 1)) ∧ True) rfl ⟨by omega, trivial⟩ ?_
    refine z_sub [(6, vi (m + 1)), (5, vi (I 6 b - I 2 9 * I 2 6)), (4, vi (I 6 a - I 2 9 * I 2 6)), (0, vr 2), (1, vr 9), (2, vi a), (3, vi b)] [0, 1, 2, 3, 4, 5, 6] rfl ?_
    exact ih (m + 1) (by omega) (by omega) (by obtain ⟨j, a1, a2, a3⟩ := hj; refine ⟨j, ?_, a2, a3⟩; rcases Int.lt_or_lt_of_ne (show j ≠ I 2 9 * I 2 6 + m by rintro rfl; exact a3 h9) with a | a <;> omega)
  · refine z_ci 53 [vr 9, vi (I 8 (I 2 9 * I 2 6 + m))] [] rfl (m_isOut9_0 hM hx2) ?_
    refine z_br (¬ (0 : Int) = 0) 83 81 [] rfl (fun h => absurd h (show ¬ (¬ (0 : Int) = 0) from by decide)) (fun hx4 => ?_)
    refine z_n 1 (82, [(6, vi m), (5, vi (I 6 b - I 2 9 * I 2 6)), (4, vi (I 6 a - I 2 9 * I 2 6)), (0, vr 2), (1, vr 9), (2, vi a), (3, vi b)], [vi 5], (I, zPp π, D, 137)) rfl trivial ?_
    first | exact z_ret rfl rfl rfl | exact z_ret rfl (zv1 (by omega)) rfl | (exfalso; omega)
set_option maxRecDepth 20000 in
theorem m_rea9_5 {I : zI} {π : Int → Nat} {D : zD} {a b : Int} (w : zW1 (I 2)) (v : zW2 (I 2) (I 6) (I 8)) (hM : 0 ≤ I 9 2 ∧ I 9 2 ≤ 4) (ha : zIs (I 2) (I 6) a) (hb : zIs (I 2) (I 6) b) (oa : ¬ zOut (I 9 2) (I 11) (I 13) a) (ob : ¬ zOut (I 9 2) (I 11) (I 13) b) (hp : I 6 b < I 6 a) (hj : ∃ p, I 6 b < p ∧ p < I 6 a ∧ ¬ zOut (I 9 2) (I 11) (I 13) (I 8 p)) : zMet 16 [vr 2, vr 9, vi a, vi b] (I, zPp π, D, 137) (some (vi 5)) (I, zPp π, D, 137) := by
  have ha2 := ha.2
  have hb2 := hb.2
  have ha0 := ha.1
  have hb0 := hb.1
  obtain ⟨⟨w1, w2⟩, ⟨w3, w4⟩, ⟨w5, w6⟩, ⟨w7, w8⟩, ⟨w9, w10⟩, w11, ⟨⟨w12, w12b⟩, w12c⟩, ⟨w13, w14⟩, ⟨w15, w16⟩⟩ := id w
  have v1 := v.2.2 b hb.1.1 (by omega)
  refine z_n 2 (2, [(0, vr 2), (1, vr 9), (2, vi a), (3, vi b)], [vi a, vr 2], (I, zPp π, D, 137)) rfl trivial ?_
  refine z_ci 14 [vr 2, vi a] [] rfl (m_startNumber1 w v ha) ?_
  refine z_n 3 (9, [(4, vi (I 6 a - I 2 9 * I 2 6)), (0, vr 2), (1, vr 9), (2, vi a), (3, vi b)], [vi b, vr 2], (I, zPp π, D, 137)) rfl trivial ?_
  refine z_ci 14 [vr 2, vi b] [] rfl (m_startNumber1 w v hb) ?_
  refine z_n 3 (17, [(5, vi (I 6 b - I 2 9 * I 2 6)), (4, vi (I 6 a - I 2 9 * I 2 6)), (0, vr 2), (1, vr 9), (2, vi a), (3, vi b)], [vi (-1), vi (I 6 a - I 2 9 * I 2 6)], (I, zPp π, D, 137)) rfl trivial ?_
  refine z_br ((I 6 a - I 2 9 * I 2 6) = (-1)) 26 20 [] rfl (fun h => absurd h (show ¬ ((I 6 a - I 2 9 * I 2 6) = (-1)) from by omega)) (fun hx1 => ?_)
  refine z_n 2 (23, [(5, vi (I 6 b - I 2 9 * I 2 6)), (4, vi (I 6 a - I 2 9 * I 2 6)), (0, vr 2), (1, vr 9), (2, vi a), (3, vi b)], [vi (-1), vi (I 6 b - I 2 9 * I 2 6)], (I, zPp π, D, 137)) rfl trivial ?_
  refine z_br (¬ (I 6 b - I 2 9 * I 2 6) = (-1)) 28 26 [] rfl (fun hx2 => ?_) (fun h => absurd (show ¬ (I 6 b - I 2 9 * I 2 6) = (-1) from by omega) h)
  refine z_n 2 (30, [(5, vi (I 6 b - I 2 9 * I 2 6)), (4, vi (I 6 a - I 2 9 * I 2 6)), (0, vr 2), (1, vr 9), (2, vi a), (3, vi b)], [vi a, vr 9], (I, zPp π, D, 137)) rfl trivial ?_
  refine z_ci 53 [vr 9, vi a] [] rfl (m_isOut9_0 hM oa) ?_
  refine z_br (¬ (0 : Int) = 0) 44 36 [] rfl (fun h => absurd h (show ¬ (¬ (0 : Int) = 0) from by decide)) (fun hx3 => ?_)
  refine z_n 2 (38, [(5, vi (I 6 b - I 2 9 * I 2 6)), (4, vi (I 6 a - I 2 9 * I 2 6)), (0, vr 2), (1, vr 9), (2, vi a), (3, vi b)], [vi b, vr 9], (I, zPp π, D, 137)) rfl trivial ?_
  refine z_ci 53 [vr 9, vi b] [] rfl (m_isOut9_0 hM ob) ?_
  refine z_br ((0 : Int) = 0) 46 44 [] rfl (fun hx4 => ?_) (fun h => absurd (show (0 : Int) = 0 from by decide) h)
  refine z_n 2 (50, [(5, vi (I 6 b - I 2 9 * I 2 6)), (4, vi (I 6 a - I 2 9 * I 2 6)), (0, vr 2), (1, vr 9), (2, vi a), (3, vi b)], [vi (I 6 b - I 2 9 * I 2 6), vi (I 6 a - I 2 9 * I 2 6)], (I, zPp π, D, 137)) rfl trivial ?_
  refine z_br ((I 6 b - I 2 9 * I 2 6) < (I 6 a - I 2 9 * I 2 6)) 55 53 [] rfl (fun hx5 => ?_) (fun h => absurd (show (I 6 b - I 2 9 * I 2 6) < (I 6 a - I 2 9 * I 2 6) from by omega) h)
  refine z_n 4 (61, [(6, vi ((I 6 b - I 2 9 * I 2 6) + 1)), (5, vi (I 6 b - I 2 9 * I 2 6)), (4, vi (I 6 a - I 2 9 * I 2 6)), (0, vr 2), (1, vr 9), (2, vi a), (3, vi b)], [], (I, zPp π, D, 137)) (G := (zr ((I 6 b - I 2 9 * I 2 6) + 1)) ∧ True) rfl ⟨by omega, trivial⟩ ?_
  refine z_sub [(6, vi ((I 6 b - I 2 9 * I 2 6) + 1)), (5, vi (I 6 b - I 2 9 * I 2 6)), (4, vi (I 6 a - I 2 9 * I 2 6)), (0, vr 2), (1, vr 9), (2, vi a), (3, vi b)] [0, 1, 2, 3, 4, 5, 6] rfl ?_
  exact m_rea9_l5 w v hM ha hb (I 6 a - I 6 b - 1).toNat _ (by omega) (by omega) (by obtain ⟨j, a1, a2, a3⟩ := hj; exact ⟨j, by omega, a2, a3⟩)
set_option maxRecDepth 20000 in
theorem m_rea9_0 {I : zI} {π : Int → Nat} {D : zD} {a b : Int} (w : zW1 (I 2)) (v : zW2 (I 2) (I 6) (I 8)) (hM : 0 ≤ I 9 2 ∧ I 9 2 ≤ 4) (ha : zIs (I 2) (I 6) a) (hb : zIs (I 2) (I 6) b) (oa : ¬ zOut (I 9 2) (I 11) (I 13) a) (ob : ¬ zOut (I 9 2) (I 11) (I 13) b) (hp : I 6 b < I 6 a) (hj : ∀ p, I 6 b < p → p < I 6 a → zOut (I 9 2) (I 11) (I 13) (I 8 p)) : zMet 16 [vr 2, vr 9, vi a, vi b] (I, zPp π, D, 137) (some (vi 0)) (I, zPp π, D, 137) := by
  have ha2 := ha.2
  have hb2 := hb.2
  have ha0 := ha.1
  have hb0 := hb.1
  obtain ⟨⟨w1, w2⟩, ⟨w3, w4⟩, ⟨w5, w6⟩, ⟨w7, w8⟩, ⟨w9, w10⟩, w11, ⟨⟨w12, w12b⟩, w12c⟩, ⟨w13, w14⟩, ⟨w15, w16⟩⟩ := id w
  have v1 := v.2.2 b hb.1.1 (by omega)
  refine z_n 2 (2, [(0, vr 2), (1, vr 9), (2, vi a), (3, vi b)], [vi a, vr 2], (I, zPp π, D, 137)) rfl trivial ?_
  refine z_ci 14 [vr 2, vi a] [] rfl (m_startNumber1 w v ha) ?_
  refine z_n 3 (9, [(4, vi (I 6 a - I 2 9 * I 2 6)), (0, vr 2), (1, vr 9), (2, vi a), (3, vi b)], [vi b, vr 2], (I, zPp π, D, 137)) rfl trivial ?_
  refine z_ci 14 [vr 2, vi b] [] rfl (m_startNumber1 w v hb) ?_
  refine z_n 3 (17, [(5, vi (I 6 b - I 2 9 * I 2 6)), (4, vi (I 6 a - I 2 9 * I 2 6)), (0, vr 2), (1, vr 9), (2, vi a), (3, vi b)], [vi (-1), vi (I 6 a - I 2 9 * I 2 6)], (I, zPp π, D, 137)) rfl trivial ?_
  refine z_br ((I 6 a - I 2 9 * I 2 6) = (-1)) 26 20 [] rfl (fun h => absurd h (show ¬ ((I 6 a - I 2 9 * I 2 6) = (-1)) from by omega)) (fun hx1 => ?_)
  refine z_n 2 (23, [(5, vi (I 6 b - I 2 9 * I 2 6)), (4, vi (I 6 a - I 2 9 * I 2 6)), (0, vr 2), (1, vr 9), (2, vi a), (3, vi b)], [vi (-1), vi (I 6 b - I 2 9 * I 2 6)], (I, zPp π, D, 137)) rfl trivial ?_
  refine z_br (¬ (I 6 b - I 2 9 * I 2 6) = (-1)) 28 26 [] rfl (fun hx2 => ?_) (fun h => absurd (show ¬ (I 6 b - I 2 9 * I 2 6) = (-1) from by omega) h)
  refine z_n 2 (30, [(5, vi (I 6 b - I 2 9 * I 2 6)), (4, vi (I 6 a - I 2 9 * I 2 6)), (0, vr 2), (1, vr 9), (2, vi a), (3, vi b)], [vi a, vr 9], (I, zPp π, D, 137)) rfl trivial ?_
  refine z_ci 53 [vr 9, vi a] [] rfl (m_isOut9_0 hM oa) ?_
  refine z_br (¬ (0 : Int) = 0) 44 36 [] rfl (fun h => absurd h (show ¬ (¬ (0 : Int) = 0) from by decide)) (fun hx3 => ?_)
  refine z_n 2 (38, [(5, vi (I 6 b - I 2 9 * I 2 6)), (4, vi (I 6 a - I 2 9 * I 2 6)), (0, vr 2), (1, vr 9), (2, vi a), (3, vi b)], [vi b, vr 9], (I, zPp π, D, 137)) rfl trivial ?_
  refine z_ci 53 [vr 9, vi b] [] rfl (m_isOut9_0 hM ob) ?_
  refine z_br ((0 : Int) = 0) 46 44 [] rfl (fun hx4 => ?_) (fun h => absurd (show (0 : Int) = 0 from by decide) h)
  refine z_n 2 (50, [(5, vi (I 6 b - I 2 9 * I 2 6)), (4, vi (I 6 a - I 2 9 * I 2 6)), (0, vr 2), (1, vr 9), (2, vi a), (3, vi b)], [vi (I 6 b - I 2 9 * I 2 6), vi (I 6 a - I 2 9 * I 2 6)], (I, zPp π, D, 137)) rfl trivial ?_
  refine z_br ((I 6 b - I 2 9 * I 2 6) < (I 6 a - I 2 9 * I 2 6)) 55 53 [] rfl (fun hx5 => ?_) (fun h => absurd (show (I 6 b - I 2 9 * I 2 6) < (I 6 a - I 2 9 * I 2 6) from by omega) h)
  refine z_n 4 (61, [(6, vi ((I 6 b - I 2 9 * I 2 6) + 1)), (5, vi (I 6 b - I 2 9 * I 2 6)), (4, vi (I 6 a - I 2 9 * I 2 6)), (0, vr 2), (1, vr 9), (2, vi a), (3, vi b)], [], (I, zPp π, D, 137)) (G := (zr ((I 6 b - I 2 9 * I 2 6) + 1)) ∧ True) rfl ⟨by omega, trivial⟩ ?_
  refine z_sub [(6, vi ((I 6 b - I 2 9 * I 2 6) + 1)), (5, vi (I 6 b - I 2 9 * I 2 6)), (4, vi (I 6 a - I 2 9 * I 2 6)), (0, vr 2), (1, vr 9), (2, vi a), (3, vi b)] [0, 1, 2, 3, 4, 5, 6] rfl ?_
  exact m_rea9_l0 w v hM ha hb (I 6 a - I 6 b - 1).toNat _ (by omega) (by omega) hj
theorem m_rea9 {I : zI} {π : Int → Nat} {D : zD} {a b : Int} (w : zW1 (I 2)) (v : zW2 (I 2) (I 6) (I 8)) (hM : 0 ≤ I 9 2 ∧ I 9 2 ≤ 4) : ∃ res : Int, zMet 16 [vr 2, vr 9, vi a, vi b] (I, zPp π, D, 137) (some (vi res)) (I, zPp π, D, 137) ∧ zReas (I 2) (I 6) (I 8) (I 9 2) (I 11) (I 13) a b res := by
  by_cases ha : zIs (I 2) (I 6) a
  · by_cases hb : zIs (I 2) (I 6) b
    · by_cases oa : zOut (I 9 2) (I 11) (I 13) a
      · exact ⟨3, m_rea9_3a w v hM ha hb oa, Or.inr ⟨ha, hb, Or.inl ⟨rfl, Or.inl oa⟩⟩⟩
      · by_cases ob : zOut (I 9 2) (I 11) (I 13) b
        · exact ⟨3, m_rea9_3b w v hM ha hb oa ob, Or.inr ⟨ha, hb, Or.inl ⟨rfl, Or.inr ob⟩⟩⟩
        · by_cases hp : I 6 a ≤ I 6 b
          · exact ⟨4, m_rea9_4 w v hM ha hb oa ob hp, Or.inr ⟨ha, hb, Or.inr ⟨oa, ob, Or.inl ⟨rfl, hp⟩⟩⟩⟩
          · by_cases hj : ∃ p, I 6 b < p ∧ p < I 6 a ∧ ¬ zOut (I 9 2) (I 11) (I 13) (I 8 p)
            · exact ⟨5, m_rea9_5 w v hM ha hb oa ob (by omega) hj, Or.inr ⟨ha, hb, Or.inr ⟨oa, ob, Or.inr ⟨by omega, Or.inl ⟨rfl, hj⟩⟩⟩⟩⟩
            · have hk : ∀ p, I 6 b < p → p < I 6 a → zOut (I 9 2) (I 11) (I 13) (I 8 p) := fun p h1 h2 => Classical.byContradiction (fun h3 => hj ⟨p, h1, h2, h3⟩)
              exact ⟨0, m_rea9_0 w v hM ha hb oa ob (by omega) hk, Or.inr ⟨ha, hb, Or.inr ⟨oa, ob, Or.inr ⟨by omega, Or.inr ⟨rfl, hk⟩⟩⟩⟩⟩
    · exact ⟨2, m_rea9_2b w v ha hb, Or.inl ⟨rfl, fun h => hb h.2⟩⟩
  · exact ⟨2, m_rea9_2a w v ha, Or.inl ⟨rfl, fun h => ha h.1⟩⟩
