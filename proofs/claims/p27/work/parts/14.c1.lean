set_option maxRecDepth 20000 in
theorem m_hasCrew1 {I : zI} {π : Int → Nat} {D : zD} {i : Int} (h : 0 ≤ i ∧ i < I 2 5) : zMet 6 [vr 2, vi i] (I, zPp π, D, 137) (some (vi 1)) (I, zPp π, D, 137) := by
  refine z_n 1 (1, [(0, vr 2), (1, vi i)], [vi i], (I, zPp π, D, 137)) rfl trivial ?_
  refine z_br (i < 0) 16 4 [] rfl (fun h => absurd h (show ¬ (i < 0) from by omega)) (fun hx1 => ?_)
  refine z_n 3 (9, [(0, vr 2), (1, vi i)], [vi (I 2 5), vi i], (I, zPp π, D, 137)) rfl trivial ?_
  refine z_br ((I 2 5) ≤ i) 16 12 [] rfl (fun hx2 => ?_) (fun hx2 => ?_)
  · refine z_n 1 (17, [(0, vr 2), (1, vi i)], [vi 0], (I, zPp π, D, 137)) rfl trivial ?_
    first | exact z_ret rfl rfl rfl | exact z_ret rfl (zv1 (by omega)) rfl | (exfalso; omega)
  · refine z_n 2 (17, [(0, vr 2), (1, vi i)], [vi 1], (I, zPp π, D, 137)) rfl trivial ?_
    first | exact z_ret rfl rfl rfl | exact z_ret rfl (zv1 (by omega)) rfl | (exfalso; omega)
set_option maxRecDepth 20000 in
theorem m_hasCrew0 {I : zI} {π : Int → Nat} {D : zD} {i : Int} (h : ¬ (0 ≤ i ∧ i < I 2 5)) : zMet 6 [vr 2, vi i] (I, zPp π, D, 137) (some (vi 0)) (I, zPp π, D, 137) := by
  refine z_n 1 (1, [(0, vr 2), (1, vi i)], [vi i], (I, zPp π, D, 137)) rfl trivial ?_
  refine z_br (i < 0) 16 4 [] rfl (fun hx1 => ?_) (fun hx1 => ?_)
  · refine z_n 1 (17, [(0, vr 2), (1, vi i)], [vi 0], (I, zPp π, D, 137)) rfl trivial ?_
    first | exact z_ret rfl rfl rfl | exact z_ret rfl (zv1 (by omega)) rfl | (exfalso; omega)
  · refine z_n 3 (9, [(0, vr 2), (1, vi i)], [vi (I 2 5), vi i], (I, zPp π, D, 137)) rfl trivial ?_
    refine z_br ((I 2 5) ≤ i) 16 12 [] rfl (fun hx2 => ?_) (fun hx2 => ?_)
    · refine z_n 1 (17, [(0, vr 2), (1, vi i)], [vi 0], (I, zPp π, D, 137)) rfl trivial ?_
      first | exact z_ret rfl rfl rfl | exact z_ret rfl (zv1 (by omega)) rfl | (exfalso; omega)
    · refine z_n 2 (17, [(0, vr 2), (1, vi i)], [vi 1], (I, zPp π, D, 137)) rfl trivial ?_
      first | exact z_ret rfl rfl rfl | exact z_ret rfl (zv1 (by omega)) rfl | (exfalso; omega)
set_option maxRecDepth 20000 in
theorem m_hasDay1 {I : zI} {π : Int → Nat} {D : zD} {i : Int} (h : 0 ≤ i ∧ i ≤ I 2 8) : zMet 7 [vr 2, vi i] (I, zPp π, D, 137) (some (vi 1)) (I, zPp π, D, 137) := by
  refine z_n 1 (1, [(0, vr 2), (1, vi i)], [vi i], (I, zPp π, D, 137)) rfl trivial ?_
  refine z_br (i < 0) 16 4 [] rfl (fun h => absurd h (show ¬ (i < 0) from by omega)) (fun hx1 => ?_)
  refine z_n 3 (9, [(0, vr 2), (1, vi i)], [vi (I 2 8), vi i], (I, zPp π, D, 137)) rfl trivial ?_
  refine z_br ((I 2 8) < i) 16 12 [] rfl (fun hx2 => ?_) (fun hx2 => ?_)
  · refine z_n 1 (17, [(0, vr 2), (1, vi i)], [vi 0], (I, zPp π, D, 137)) rfl trivial ?_
    first | exact z_ret rfl rfl rfl | exact z_ret rfl (zv1 (by omega)) rfl | (exfalso; omega)
  · refine z_n 2 (17, [(0, vr 2), (1, vi i)], [vi 1], (I, zPp π, D, 137)) rfl trivial ?_
    first | exact z_ret rfl rfl rfl | exact z_ret rfl (zv1 (by omega)) rfl | (exfalso; omega)
set_option maxRecDepth 20000 in
theorem m_hasDay0 {I : zI} {π : Int → Nat} {D : zD} {i : Int} (h : ¬ (0 ≤ i ∧ i ≤ I 2 8)) : zMet 7 [vr 2, vi i] (I, zPp π, D, 137) (some (vi 0)) (I, zPp π, D, 137) := by
  refine z_n 1 (1, [(0, vr 2), (1, vi i)], [vi i], (I, zPp π, D, 137)) rfl trivial ?_
  refine z_br (i < 0) 16 4 [] rfl (fun hx1 => ?_) (fun hx1 => ?_)
  · refine z_n 1 (17, [(0, vr 2), (1, vi i)], [vi 0], (I, zPp π, D, 137)) rfl trivial ?_
    first | exact z_ret rfl rfl rfl | exact z_ret rfl (zv1 (by omega)) rfl | (exfalso; omega)
  · refine z_n 3 (9, [(0, vr 2), (1, vi i)], [vi (I 2 8), vi i], (I, zPp π, D, 137)) rfl trivial ?_
    refine z_br ((I 2 8) < i) 16 12 [] rfl (fun hx2 => ?_) (fun hx2 => ?_)
    · refine z_n 1 (17, [(0, vr 2), (1, vi i)], [vi 0], (I, zPp π, D, 137)) rfl trivial ?_
      first | exact z_ret rfl rfl rfl | exact z_ret rfl (zv1 (by omega)) rfl | (exfalso; omega)
    · refine z_n 2 (17, [(0, vr 2), (1, vi i)], [vi 1], (I, zPp π, D, 137)) rfl trivial ?_
      first | exact z_ret rfl rfl rfl | exact z_ret rfl (zv1 (by omega)) rfl | (exfalso; omega)
set_option maxRecDepth 20000 in
theorem m_hasRace1 {I : zI} {π : Int → Nat} {D : zD}  (h : ¬ I 2 9 = -1) : zMet 8 [vr 2] (I, zPp π, D, 137) (some (vi 1)) (I, zPp π, D, 137) := by
  refine z_n 3 (5, [(0, vr 2)], [vi (-1), vi (I 2 9)], (I, zPp π, D, 137)) rfl trivial ?_
  refine z_br ((I 2 9) = (-1)) 12 8 [] rfl (fun hx1 => ?_) (fun hx1 => ?_)
  · refine z_n 1 (13, [(0, vr 2)], [vi 0], (I, zPp π, D, 137)) rfl trivial ?_
    first | exact z_ret rfl rfl rfl | exact z_ret rfl (zv1 (by omega)) rfl | (exfalso; omega)
  · refine z_n 2 (13, [(0, vr 2)], [vi 1], (I, zPp π, D, 137)) rfl trivial ?_
    first | exact z_ret rfl rfl rfl | exact z_ret rfl (zv1 (by omega)) rfl | (exfalso; omega)
set_option maxRecDepth 20000 in
theorem m_hasRace0 {I : zI} {π : Int → Nat} {D : zD}  (h : ¬ (¬ I 2 9 = -1)) : zMet 8 [vr 2] (I, zPp π, D, 137) (some (vi 0)) (I, zPp π, D, 137) := by
  refine z_n 3 (5, [(0, vr 2)], [vi (-1), vi (I 2 9)], (I, zPp π, D, 137)) rfl trivial ?_
  refine z_br ((I 2 9) = (-1)) 12 8 [] rfl (fun hx1 => ?_) (fun hx1 => ?_)
  · refine z_n 1 (13, [(0, vr 2)], [vi 0], (I, zPp π, D, 137)) rfl trivial ?_
    first | exact z_ret rfl rfl rfl | exact z_ret rfl (zv1 (by omega)) rfl | (exfalso; omega)
  · refine z_n 2 (13, [(0, vr 2)], [vi 1], (I, zPp π, D, 137)) rfl trivial ?_
    first | exact z_ret rfl rfl rfl | exact z_ret rfl (zv1 (by omega)) rfl | (exfalso; omega)
set_option maxRecDepth 20000 in
theorem m_divisions {I : zI} {π : Int → Nat} {D : zD}  (w : zW1 (I 2)) : zMet 9 [vr 2] (I, zPp π, D, 137) (some (vi ((I 2 5 + I 2 6 - 1) / I 2 6))) (I, zPp π, D, 137) := by
  obtain ⟨⟨w1, w2⟩, ⟨w3, w4⟩, ⟨w5, w6⟩, ⟨w7, w8⟩, ⟨w9, w10⟩, w11, ⟨⟨w12, w12b⟩, w12c⟩, ⟨w13, w14⟩, ⟨w15, w16⟩⟩ := id w
  refine z_n 2 (4, [(0, vr 2)], [vi (I 2 6)], (I, zPp π, D, 137)) rfl trivial ?_
  refine z_br ((I 2 6) ≤ 0) 26 7 [] rfl (fun h => absurd h (show ¬ ((I 2 6) ≤ 0) from by omega)) (fun hx1 => ?_)
  refine z_n 11 (27, [(0, vr 2)], [vi ((((I 2 5) + (I 2 6)) - 1) / (I 2 6))], (I, zPp π, D, 137)) (G := (zr ((I 2 5) + (I 2 6))) ∧ (zr (((I 2 5) + (I 2 6)) - 1)) ∧ (0 ≤ (((I 2 5) + (I 2 6)) - 1) ∧ 0 < (I 2 6)) ∧ True) rfl ⟨by omega, by omega, by omega, trivial⟩ ?_
  first | exact z_ret rfl rfl rfl | exact z_ret rfl (zv1 (by omega)) rfl | (exfalso; omega)
set_option maxRecDepth 20000 in
theorem m_divisionOf {I : zI} {π : Int → Nat} {D : zD} {i : Int} (w : zW1 (I 2)) (h0 : 0 ≤ i) (h1 : i < 24) (h2 : 0 ≤ I 6 i) : zMet 10 [vr 2, vi i] (I, zPp π, D, 137) (some (vi (I 6 i / I 2 6))) (I, zPp π, D, 137) := by
  obtain ⟨⟨w1, w2⟩, ⟨w3, w4⟩, ⟨w5, w6⟩, ⟨w7, w8⟩, ⟨w9, w10⟩, w11, ⟨⟨w12, w12b⟩, w12c⟩, ⟨w13, w14⟩, ⟨w15, w16⟩⟩ := id w
  refine z_n 2 (4, [(0, vr 2), (1, vi i)], [vi (I 2 6)], (I, zPp π, D, 137)) rfl trivial ?_
  refine z_br ((I 2 6) ≤ 0) 23 7 [] rfl (fun h => absurd h (show ¬ ((I 2 6) ≤ 0) from by omega)) (fun hx1 => ?_)
  refine z_n 3 (12, [(0, vr 2), (1, vi i)], [vi i, vr 5], (I, zPp π, D, 137)) rfl trivial ?_
  refine z_ci 1 [vr 5, vi i] [] rfl (m_get (n := 24) ⟨rfl, rfl, rfl, rfl⟩ (by omega) (by omega)) ?_
  refine z_n 4 (24, [(0, vr 2), (1, vi i)], [vi ((I 6 i) / (I 2 6))], (I, zPp π, D, 137)) (G := (0 ≤ (I 6 i) ∧ 0 < (I 2 6)) ∧ True) rfl ⟨by omega, trivial⟩ ?_
  first | exact z_ret rfl rfl rfl | exact z_ret rfl (zv1 (by omega)) rfl | (exfalso; omega)
set_option maxRecDepth 20000 in
theorem m_putAt {I : zI} {π : Int → Nat} {D : zD} {p k : Int} (h0 : 0 ≤ p) (h1 : p < 24) (h2 : 0 ≤ k) (h3 : k < 24) : zMet 11 [vr 2, vi p, vi k] (I, zPp π, D, 137) none ((zup (zup I 8 p k) 6 k p), zPp π, D, 137) := by
  refine z_n 4 (6, [(0, vr 2), (1, vi p), (2, vi k)], [vi k, vi p, vr 7], (I, zPp π, D, 137)) rfl trivial ?_
  refine z_cv 2 [vr 7, vi p, vi k] [] rfl (m_put (n := 24) ⟨rfl, rfl, rfl, rfl⟩ (by omega) (by omega)) ?_
  refine z_n 4 (15, [(0, vr 2), (1, vi p), (2, vi k)], [vi p, vi k, vr 5], ((zup I 8 p k), zPp π, D, 137)) rfl trivial ?_
  refine z_cv 2 [vr 5, vi k, vi p] [] rfl (m_put (n := 24) ⟨rfl, rfl, rfl, rfl⟩ (by omega) (by omega)) ?_
  first | exact z_ret rfl rfl rfl | exact z_ret rfl (zv1 (by omega)) rfl | (exfalso; omega)
set_option maxRecDepth 20000 in
theorem m_starters {I : zI} {π : Int → Nat} {D : zD}  (w : zW1 (I 2)) : zMet 12 [vr 2] (I, zPp π, D, 137) (some (vi (zns (I 2)))) (I, zPp π, D, 137) := by
  obtain ⟨⟨w1, w2⟩, ⟨w3, w4⟩, ⟨w5, w6⟩, ⟨w7, w8⟩, ⟨w9, w10⟩, w11, ⟨⟨w12, w12b⟩, w12c⟩, ⟨w13, w14⟩, ⟨w15, w16⟩⟩ := id w
  refine z_n 1 (1, [(0, vr 2)], [vr 2], (I, zPp π, D, 137)) rfl trivial ?_
  by_cases hx1 : ¬ I 2 9 = -1
  · refine z_ci 8 [vr 2] [] rfl (m_hasRace1 hx1) ?_
    refine z_br ((1 : Int) = 0) 33 7 [] rfl (fun h => absurd h (show ¬ ((1 : Int) = 0) from by decide)) (fun hx2 => ?_)
    refine z_n 12 (27, [(0, vr 2)], [vi ((I 2 5) - ((I 2 9) * (I 2 6))), vi ((I 2 6) + 1)], (I, zPp π, D, 137)) (G := (zr ((I 2 6) + 1)) ∧ (zr ((I 2 9) * (I 2 6))) ∧ (zr ((I 2 5) - ((I 2 9) * (I 2 6)))) ∧ True) rfl ⟨by omega, by omega, by omega, trivial⟩ ?_
    refine z_ci 78 [vi ((I 2 6) + 1), vi ((I 2 5) - ((I 2 9) * (I 2 6)))] [] rfl (m_min) ?_
    refine z_n 1 (34, [(0, vr 2)], [vi (if ((I 2 6) + 1) ≤ ((I 2 5) - ((I 2 9) * (I 2 6))) then ((I 2 6) + 1) else ((I 2 5) - ((I 2 9) * (I 2 6))))], (I, zPp π, D, 137)) rfl trivial ?_
    exact z_ret rfl (zv1 (by unfold zns; omega)) rfl
  · refine z_ci 8 [vr 2] [] rfl (m_hasRace0 hx1) ?_
    refine z_br ((0 : Int) = 0) 33 7 [] rfl (fun hx3 => ?_) (fun h => absurd (show (0 : Int) = 0 from by decide) h)
    refine z_n 1 (34, [(0, vr 2)], [vi 0], (I, zPp π, D, 137)) rfl trivial ?_
    exact z_ret rfl (zv1 (by unfold zns; omega)) rfl
set_option maxRecDepth 20000 in
theorem m_starterAt {I : zI} {π : Int → Nat} {D : zD} {i : Int} (w : zW1 (I 2)) (h0 : 0 ≤ I 2 9 * I 2 6 + i) (h1 : I 2 9 * I 2 6 + i < 24) : zMet 13 [vr 2, vi i] (I, zPp π, D, 137) (some (vi (I 8 (I 2 9 * I 2 6 + i)))) (I, zPp π, D, 137) := by
  obtain ⟨⟨w1, w2⟩, ⟨w3, w4⟩, ⟨w5, w6⟩, ⟨w7, w8⟩, ⟨w9, w10⟩, w11, ⟨⟨w12, w12b⟩, w12c⟩, ⟨w13, w14⟩, ⟨w15, w16⟩⟩ := id w
  refine z_n 9 (15, [(0, vr 2), (1, vi i)], [vi (((I 2 9) * (I 2 6)) + i), vr 7], (I, zPp π, D, 137)) (G := (zr ((I 2 9) * (I 2 6))) ∧ (zr (((I 2 9) * (I 2 6)) + i)) ∧ True) rfl ⟨by omega, by omega, trivial⟩ ?_
  refine z_ci 1 [vr 7, vi (((I 2 9) * (I 2 6)) + i)] [] rfl (m_get (n := 24) ⟨rfl, rfl, rfl, rfl⟩ (by omega) (by omega)) ?_
  first | exact z_ret rfl rfl rfl | exact z_ret rfl (zv1 (by omega)) rfl | (exfalso; omega)
