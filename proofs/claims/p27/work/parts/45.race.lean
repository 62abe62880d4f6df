theorem zand_nn {x : Int32} : 0 ≤ (x &&& Int32.ofInt 2147483647).toInt ∧ (x &&& Int32.ofInt 2147483647).toInt ≤ 2147483647 := by
  have hm : (x &&& Int32.ofInt 2147483647).toBitVec.msb = false := by
    rw [Int32.toBitVec_and, BitVec.msb_and, show (Int32.ofInt 2147483647).toBitVec.msb = false by decide +kernel, Bool.and_false]
  have e : (x &&& Int32.ofInt 2147483647).toInt = ((x &&& Int32.ofInt 2147483647).toBitVec.toNat : Int) := BitVec.toInt_eq_toNat_of_msb hm
  have h2 := (zr_of (x &&& Int32.ofInt 2147483647)).2
  exact ⟨by rw [e]; omega, h2⟩
set_option maxRecDepth 20000 in
theorem m_cell {I : zI} {π : Int → Nat} {D : zD} {k : Int} (hk : 0 ≤ k ∧ k ≤ 130) : ∃ x : Int, (0 ≤ x ∧ x ≤ 2147483647) ∧ zMet 79 [vr 1000, vi k] (I, zPp π, D, 137) (some (vi x)) (I, zPp π, D, 137) := by
  by_cases h9 : I 1000 (-1) ≤ k
  · refine ⟨(Int32.ofInt (15485959 * k + 109) &&& Int32.ofInt 2147483647).toInt, zand_nn, ?_⟩
    refine z_n 3 (3, [(0, vr 1000), (1, vi k)], [vi (I 1000 (-1)), vi k], (I, zPp π, D, 137)) rfl trivial ?_
    refine z_br ((I 1000 (-1)) ≤ k) 12 6 [] rfl (fun hx1 => ?_) (fun h => absurd (show (I 1000 (-1)) ≤ k from h9) h)
    refine z_n 7 (22, [(0, vr 1000), (1, vi k)], [vi ((Int32.ofInt ((15485959 * k) + 109) &&& Int32.ofInt 2147483647).toInt)], (I, zPp π, D, 137)) (G := (zr (15485959 * k)) ∧ (zr ((15485959 * k) + 109)) ∧ True) rfl ⟨by omega, by omega, trivial⟩ ?_
    exact z_ret rfl rfl rfl
  · refine ⟨(Int32.ofInt (I 1000 k) &&& Int32.ofInt 2147483647).toInt, zand_nn, ?_⟩
    refine z_n 3 (3, [(0, vr 1000), (1, vi k)], [vi (I 1000 (-1)), vi k], (I, zPp π, D, 137)) rfl trivial ?_
    refine z_br ((I 1000 (-1)) ≤ k) 12 6 [] rfl (fun h => absurd h (show ¬ ((I 1000 (-1)) ≤ k) from h9)) (fun hx1 => ?_)
    refine z_n 6 (22, [(0, vr 1000), (1, vi k)], [vi ((Int32.ofInt (I 1000 k) &&& Int32.ofInt 2147483647).toInt)], (I, zPp π, D, 137)) (G := (0 ≤ k ∧ k < (I 1000 (-1))) ∧ True) rfl ⟨by omega, trivial⟩ ?_
    exact z_ret rfl rfl rfl
theorem m_c5r {I : zI} {π : Int → Nat} {D : zD} (w : zW1 (I 2)) (hR : ¬ I 2 9 = -1) : zMet 60 [vr 1, vi 5] (I, zPp π, D, 137) (some (vi (I 2 9))) (I, zPp π, D, 137) := by
  have h9 := m_count5 (π := π) (D := D) w
  rw [if_neg hR] at h9
  exact h9
theorem m_c6r {I : zI} {π : Int → Nat} {D : zD} (w : zW1 (I 2)) (hR : ¬ I 2 9 = -1) : zMet 60 [vr 1, vi 6] (I, zPp π, D, 137) (some (vi (I 9 2))) (I, zPp π, D, 137) := by
  have h9 := m_count6 (π := π) (D := D) w
  rw [if_neg hR] at h9
  exact h9
theorem m_c7r {I : zI} {π : Int → Nat} {D : zD} (w : zW1 (I 2)) (hR : ¬ I 2 9 = -1) : zMet 60 [vr 1, vi 7] (I, zPp π, D, 137) (some (vi (zns (I 2)))) (I, zPp π, D, 137) := by
  have h9 := m_count7 (π := π) (D := D) w
  rw [if_neg hR] at h9
  exact h9
theorem zReas_un {F Pl Or : Int → Int} {M : Int} {U V : Int → Int} {a b p q : Int} (h : zReas F Pl Or M U V a b p) (g : zReas F Pl Or M U V a b q) : p = q := by
  unfold zReas at h g
  rcases h with ⟨e, h1⟩ | ⟨h1, h2, h3⟩
  · rcases g with ⟨e2, -⟩ | ⟨g1, g2, -⟩
    · omega
    · exact absurd ⟨g1, g2⟩ h1
  · rcases g with ⟨e2, g1⟩ | ⟨-, -, g3⟩
    · exact absurd ⟨h1, h2⟩ g1
    · rcases h3 with ⟨e, h4⟩ | ⟨h4, h5, h6⟩
      · rcases g3 with ⟨e2, -⟩ | ⟨g4, g5, -⟩
        · omega
        · exact absurd h4 (fun h9 => h9.elim g4 g5)
      · rcases g3 with ⟨e2, g4⟩ | ⟨-, -, g6⟩
        · exact absurd g4 (fun h9 => h9.elim h4 h5)
        · rcases h6 with ⟨e, h7⟩ | ⟨h7, h8⟩
          · rcases g6 with ⟨e2, -⟩ | ⟨g7, -⟩
            · omega
            · omega
          · rcases g6 with ⟨e2, g7⟩ | ⟨g7, g8⟩
            · omega
            · rcases h8 with ⟨e, x, x1, x2, x3⟩ | ⟨e, h9⟩
              · rcases g8 with ⟨e2, -⟩ | ⟨e2, g9⟩
                · omega
                · exact absurd (g9 x x1 x2) x3
              · rcases g8 with ⟨e2, x, x1, x2, x3⟩ | ⟨e2, -⟩
                · exact absurd (h9 x x1 x2) x3
                · omega
theorem zReas_3 {F Pl Q : Int → Int} {M : Int} {U V : Int → Int} {a b p : Int} (h : zReas F Pl Q M U V a b p) (ha : zIs F Pl a) (hb : zIs F Pl b) (ho : zOut M U V a ∨ zOut M U V b) : p = 3 := zReas_un h (Or.inr ⟨ha, hb, Or.inl ⟨rfl, ho⟩⟩)
theorem zbc_pos {g : Int} (h0 : 0 ≤ g) (h : zbt g 0) : 1 ≤ zbc g := by
  have h' : g / 1 % 2 = 1 := h
  unfold zbc
  omega
theorem zbc_one0 : ∀ k : Fin 4, zbc (zsl1 k.val) = 1 := by decide +kernel
theorem zbc_one {k : Int} (h0 : 0 ≤ k) (h1 : k < 4) : zbc (zsl1 k) = 1 := by
  have := zbc_one0 ⟨k.toNat, by omega⟩
  simpa only [show ((k.toNat : Nat) : Int) = k by omega] using this
theorem zkp_b {k : Int} (h : 0 ≤ k ∧ k ≤ 4) : 1 ≤ zkp k ∧ zkp k ≤ 4 := by
  unfold zkp
  split <;> omega
set_option maxRecDepth 20000 in
theorem m_r285 {I : zI} {π : Int → Nat} {D : zD} {M : Int} (s : zSm I π) (hR : ¬ I 2 9 = -1) (hMe : I 9 2 = M) : ∃ I2 π2, zRuns 81 285 [(4, vi M), (3, vi 1), (0, vr 1)] [] (I, zPp π, D, 137) (some (vi 1)) (I2, zPp π2, D, 137) ∧ zSm I2 π2 ∧ 1 ≤ I2 25 1 ∧ I2 9 2 = 0 := by
  have ci := s.1.1
  have w : zW1 (I 2) := ci.1.1
  have v : zW2 (I 2) (I 6) (I 8) := ci.1.2.1
  have hd : zDis (I 2) (I 6) (I 9 2) (I 11) (I 13) := ci.2.2
  have hm : 0 ≤ I 9 2 := ci.2.1
  have hdl := zdis_le w v hd hm
  have hM : 0 ≤ I 9 2 ∧ I 9 2 ≤ 4 := ⟨hm, hdl.2⟩
  have hN := w.1
  have hk := s.2.1
  obtain ⟨I1, h1, s1, e1, e9, e2, e3⟩ := op_finish (D := D) s hR
  have hkp := zkp_b hk
  have hR2 := w.2.2.2.2.1
  have ci1 := s1.1.1
  have w1 : zW1 (I1 2) := ci1.1.1
  refine ⟨I1, _, ?_, s1, by omega, e9⟩
  by_cases h0 : 0 < I 2 9
  · have ea := e2 h0
    refine z_n 2 (288, [(4, vi M), (3, vi 1), (0, vr 1)], [vi 12, vr 1], (I, zPp π, D, 137)) rfl trivial ?_
    refine z_ci 60 [vr 1, vi 12] [] rfl (m_count12) ?_
    refine z_n 2 (294, [(5, vi (I 8 0)), (4, vi M), (3, vi 1), (0, vr 1)], [vi 1], (I, zPp π, D, 137)) rfl trivial ?_
    refine z_br ((1 : Int) = 0) 308 297 [] rfl (fun h => absurd h (show ¬ ((1 : Int) = 0) from by decide)) (fun hx1 => ?_)
    refine z_n 1 (298, [(5, vi (I 8 0)), (4, vi M), (3, vi 1), (0, vr 1)], [vr 1], (I, zPp π, D, 137)) rfl trivial ?_
    refine z_ci 80 [vr 1] [] rfl (m_holds (I := I) s.1) ?_
    refine z_br ((1 : Int) = 0) 308 304 [] rfl (fun h => absurd h (show ¬ ((1 : Int) = 0) from by decide)) (fun hx2 => ?_)
    refine z_n 5 (312, [(3, vi 1), (5, vi (I 8 0)), (4, vi M), (0, vr 1)], [vi 5, vr 1], (I, zPp π, D, 137)) rfl trivial ?_
    refine z_ci 60 [vr 1, vi 5] [] rfl (m_c5r w hR) ?_
    refine z_n 3 (319, [(6, vi (I 2 9)), (3, vi 1), (5, vi (I 8 0)), (4, vi M), (0, vr 1)], [vi 4, vr 1], (I, zPp π, D, 137)) rfl trivial ?_
    refine z_ci 60 [vr 1, vi 4] [] rfl (m_count4) ?_
    refine z_n 2 (325, [(7, vi (I 2 8)), (6, vi (I 2 9)), (3, vi 1), (5, vi (I 8 0)), (4, vi M), (0, vr 1)], [vi 1], (I, zPp π, D, 137)) rfl trivial ?_
    refine z_br ((1 : Int) = 0) 348 328 [] rfl (fun h => absurd h (show ¬ ((1 : Int) = 0) from by decide)) (fun hx3 => ?_)
    refine z_n 1 (329, [(7, vi (I 2 8)), (6, vi (I 2 9)), (3, vi 1), (5, vi (I 8 0)), (4, vi M), (0, vr 1)], [vr 1], (I, zPp π, D, 137)) rfl trivial ?_
    refine z_ci 69 [vr 1] [] rfl (h1) ?_
    refine z_n 1 (334, [(7, vi (I 2 8)), (6, vi (I 2 9)), (3, vi 1), (5, vi (I 8 0)), (4, vi M), (0, vr 1)], [vi M, vi (I 9 2)], (I1, zPp (zkr π (I 25 1)), D, 137)) rfl trivial ?_
    refine z_br (¬ (I 9 2) = M) 348 337 [] rfl (fun h => absurd h (show ¬ (¬ (I 9 2) = M) from fun h9 => h9 hMe)) (fun hx4 => ?_)
    refine z_n 1 (338, [(7, vi (I 2 8)), (6, vi (I 2 9)), (3, vi 1), (5, vi (I 8 0)), (4, vi M), (0, vr 1)], [vr 1], (I1, zPp (zkr π (I 25 1)), D, 137)) rfl trivial ?_
    refine z_ci 80 [vr 1] [] rfl (m_holds (I := I1) s1.1) ?_
    refine z_br ((1 : Int) = 0) 348 344 [] rfl (fun h => absurd h (show ¬ ((1 : Int) = 0) from by decide)) (fun hx5 => ?_)
    refine z_n 4 (351, [(3, vi 1), (7, vi (I 2 8)), (6, vi (I 2 9)), (5, vi (I 8 0)), (4, vi M), (0, vr 1)], [vi 1], (I1, zPp (zkr π (I 25 1)), D, 137)) rfl trivial ?_
    refine z_br ((1 : Int) = 0) 411 354 [] rfl (fun h => absurd h (show ¬ ((1 : Int) = 0) from by decide)) (fun hx6 => ?_)
    refine z_n 1 (356, [(3, vi 1), (7, vi (I 2 8)), (6, vi (I 2 9)), (5, vi (I 8 0)), (4, vi M), (0, vr 1)], [vi (I 2 9)], (I1, zPp (zkr π (I 25 1)), D, 137)) rfl trivial ?_
    refine z_br ((I 2 9) ≤ 0) 395 359 [] rfl (fun h => absurd h (show ¬ ((I 2 9) ≤ 0) from by omega)) (fun hx7 => ?_)
    refine z_n 2 (361, [(3, vi 1), (7, vi (I 2 8)), (6, vi (I 2 9)), (5, vi (I 8 0)), (4, vi M), (0, vr 1)], [vi 5, vr 1], (I1, zPp (zkr π (I 25 1)), D, 137)) rfl trivial ?_
    refine z_ci 60 [vr 1, vi 5] [] rfl (m_c5r w1 (by omega)) ?_
    refine z_n 3 (368, [(3, vi 1), (7, vi (I 2 8)), (6, vi (I 2 9)), (5, vi (I 8 0)), (4, vi M), (0, vr 1)], [vi ((I 2 9) - 1), vi (I1 2 9)], (I1, zPp (zkr π (I 25 1)), D, 137)) (G := (zr ((I 2 9) - 1)) ∧ True) rfl ⟨by omega, trivial⟩ ?_
    refine z_br (¬ (I1 2 9) = ((I 2 9) - 1)) 411 371 [] rfl (fun h => absurd h (show ¬ (¬ (I1 2 9) = ((I 2 9) - 1)) from fun h9 => h9 ea.1)) (fun hx8 => ?_)
    refine z_n 2 (374, [(3, vi 1), (7, vi (I 2 8)), (6, vi (I 2 9)), (5, vi (I 8 0)), (4, vi M), (0, vr 1)], [vi 12, vr 1], (I1, zPp (zkr π (I 25 1)), D, 137)) rfl trivial ?_
    refine z_ci 60 [vr 1, vi 12] [] rfl (m_count12) ?_
    refine z_n 1 (379, [(3, vi 1), (7, vi (I 2 8)), (6, vi (I 2 9)), (5, vi (I 8 0)), (4, vi M), (0, vr 1)], [vi (I 8 0), vi (I1 8 0)], (I1, zPp (zkr π (I 25 1)), D, 137)) rfl trivial ?_
    refine z_br (¬ (I1 8 0) = (I 8 0)) 411 382 [] rfl (fun h => absurd h (show ¬ (¬ (I1 8 0) = (I 8 0)) from fun h9 => h9 ea.2.1)) (fun hx9 => ?_)
    refine z_n 2 (384, [(3, vi 1), (7, vi (I 2 8)), (6, vi (I 2 9)), (5, vi (I 8 0)), (4, vi M), (0, vr 1)], [vi 4, vr 1], (I1, zPp (zkr π (I 25 1)), D, 137)) rfl trivial ?_
    refine z_ci 60 [vr 1, vi 4] [] rfl (m_count4) ?_
    refine z_n 1 (389, [(3, vi 1), (7, vi (I 2 8)), (6, vi (I 2 9)), (5, vi (I 8 0)), (4, vi M), (0, vr 1)], [vi (I 2 8), vi (I1 2 8)], (I1, zPp (zkr π (I 25 1)), D, 137)) rfl trivial ?_
    refine z_br (¬ (I1 2 8) = (I 2 8)) 411 392 [] rfl (fun h => absurd h (show ¬ (¬ (I1 2 8) = (I 2 8)) from fun h9 => h9 ea.2.2)) (fun hx10 => ?_)
    refine z_n 3 (412, [(3, vi 1), (7, vi (I 2 8)), (6, vi (I 2 9)), (5, vi (I 8 0)), (4, vi M), (0, vr 1)], [vi 1], (I1, zPp (zkr π (I 25 1)), D, 137)) rfl trivial ?_
    exact z_ret rfl rfl rfl
  · have eb := e3 h0
    refine z_n 2 (288, [(4, vi M), (3, vi 1), (0, vr 1)], [vi 12, vr 1], (I, zPp π, D, 137)) rfl trivial ?_
    refine z_ci 60 [vr 1, vi 12] [] rfl (m_count12) ?_
    refine z_n 2 (294, [(5, vi (I 8 0)), (4, vi M), (3, vi 1), (0, vr 1)], [vi 1], (I, zPp π, D, 137)) rfl trivial ?_
    refine z_br ((1 : Int) = 0) 308 297 [] rfl (fun h => absurd h (show ¬ ((1 : Int) = 0) from by decide)) (fun hx1 => ?_)
    refine z_n 1 (298, [(5, vi (I 8 0)), (4, vi M), (3, vi 1), (0, vr 1)], [vr 1], (I, zPp π, D, 137)) rfl trivial ?_
    refine z_ci 80 [vr 1] [] rfl (m_holds (I := I) s.1) ?_
    refine z_br ((1 : Int) = 0) 308 304 [] rfl (fun h => absurd h (show ¬ ((1 : Int) = 0) from by decide)) (fun hx2 => ?_)
    refine z_n 5 (312, [(3, vi 1), (5, vi (I 8 0)), (4, vi M), (0, vr 1)], [vi 5, vr 1], (I, zPp π, D, 137)) rfl trivial ?_
    refine z_ci 60 [vr 1, vi 5] [] rfl (m_c5r w hR) ?_
    refine z_n 3 (319, [(6, vi (I 2 9)), (3, vi 1), (5, vi (I 8 0)), (4, vi M), (0, vr 1)], [vi 4, vr 1], (I, zPp π, D, 137)) rfl trivial ?_
    refine z_ci 60 [vr 1, vi 4] [] rfl (m_count4) ?_
    refine z_n 2 (325, [(7, vi (I 2 8)), (6, vi (I 2 9)), (3, vi 1), (5, vi (I 8 0)), (4, vi M), (0, vr 1)], [vi 1], (I, zPp π, D, 137)) rfl trivial ?_
    refine z_br ((1 : Int) = 0) 348 328 [] rfl (fun h => absurd h (show ¬ ((1 : Int) = 0) from by decide)) (fun hx3 => ?_)
    refine z_n 1 (329, [(7, vi (I 2 8)), (6, vi (I 2 9)), (3, vi 1), (5, vi (I 8 0)), (4, vi M), (0, vr 1)], [vr 1], (I, zPp π, D, 137)) rfl trivial ?_
    refine z_ci 69 [vr 1] [] rfl (h1) ?_
    refine z_n 1 (334, [(7, vi (I 2 8)), (6, vi (I 2 9)), (3, vi 1), (5, vi (I 8 0)), (4, vi M), (0, vr 1)], [vi M, vi (I 9 2)], (I1, zPp (zkr π (I 25 1)), D, 137)) rfl trivial ?_
    refine z_br (¬ (I 9 2) = M) 348 337 [] rfl (fun h => absurd h (show ¬ (¬ (I 9 2) = M) from fun h9 => h9 hMe)) (fun hx4 => ?_)
    refine z_n 1 (338, [(7, vi (I 2 8)), (6, vi (I 2 9)), (3, vi 1), (5, vi (I 8 0)), (4, vi M), (0, vr 1)], [vr 1], (I1, zPp (zkr π (I 25 1)), D, 137)) rfl trivial ?_
    refine z_ci 80 [vr 1] [] rfl (m_holds (I := I1) s1.1) ?_
    refine z_br ((1 : Int) = 0) 348 344 [] rfl (fun h => absurd h (show ¬ ((1 : Int) = 0) from by decide)) (fun hx5 => ?_)
    refine z_n 4 (351, [(3, vi 1), (7, vi (I 2 8)), (6, vi (I 2 9)), (5, vi (I 8 0)), (4, vi M), (0, vr 1)], [vi 1], (I1, zPp (zkr π (I 25 1)), D, 137)) rfl trivial ?_
    refine z_br ((1 : Int) = 0) 411 354 [] rfl (fun h => absurd h (show ¬ ((1 : Int) = 0) from by decide)) (fun hx6 => ?_)
    refine z_n 1 (356, [(3, vi 1), (7, vi (I 2 8)), (6, vi (I 2 9)), (5, vi (I 8 0)), (4, vi M), (0, vr 1)], [vi (I 2 9)], (I1, zPp (zkr π (I 25 1)), D, 137)) rfl trivial ?_
    refine z_br ((I 2 9) ≤ 0) 395 359 [] rfl (fun hx7 => ?_) (fun h => absurd (show (I 2 9) ≤ 0 from by omega) h)
    refine z_n 2 (397, [(3, vi 1), (7, vi (I 2 8)), (6, vi (I 2 9)), (5, vi (I 8 0)), (4, vi M), (0, vr 1)], [vi 4, vr 1], (I1, zPp (zkr π (I 25 1)), D, 137)) rfl trivial ?_
    refine z_ci 60 [vr 1, vi 4] [] rfl (m_count4) ?_
    refine z_n 3 (404, [(3, vi 1), (7, vi (I 2 8)), (6, vi (I 2 9)), (5, vi (I 8 0)), (4, vi M), (0, vr 1)], [vi ((I 2 8) + 1), vi (I1 2 8)], (I1, zPp (zkr π (I 25 1)), D, 137)) (G := (zr ((I 2 8) + 1)) ∧ True) rfl ⟨by have := w.2.2.2.1; have := w.2.2.1; omega, trivial⟩ ?_
    refine z_br (¬ (I1 2 8) = ((I 2 8) + 1)) 411 407 [] rfl (fun h => absurd h (show ¬ (¬ (I1 2 8) = ((I 2 8) + 1)) from fun h9 => h9 eb)) (fun hx8 => ?_)
    refine z_n 2 (412, [(3, vi 1), (7, vi (I 2 8)), (6, vi (I 2 9)), (5, vi (I 8 0)), (4, vi M), (0, vr 1)], [vi 1], (I1, zPp (zkr π (I 25 1)), D, 137)) rfl trivial ?_
    exact z_ret rfl rfl rfl
set_option maxRecDepth 20000 in
theorem m_r174 {I : zI} {π : Int → Nat} {D : zD} (s : zSm I π) (hR : ¬ I 2 9 = -1) : ∃ I2 π2, zRuns 81 174 [(3, vi 1), (0, vr 1)] [] (I, zPp π, D, 137) (some (vi 1)) (I2, zPp π2, D, 137) ∧ zSm I2 π2 ∧ 1 ≤ I2 25 1 ∧ I2 9 2 = 0 := by
  have ci := s.1.1
  have w : zW1 (I 2) := ci.1.1
  have v : zW2 (I 2) (I 6) (I 8) := ci.1.2.1
  have hd : zDis (I 2) (I 6) (I 9 2) (I 11) (I 13) := ci.2.2
  have hm : 0 ≤ I 9 2 := ci.2.1
  have hdl := zdis_le w v hd hm
  have hM : 0 ≤ I 9 2 ∧ I 9 2 ≤ 4 := ⟨hm, hdl.2⟩
  have hN := w.1
  have hk := s.2.1
  by_cases hM0 : I 9 2 ≤ 0
  · obtain ⟨I2, π2, hrun, hp⟩ := m_r285 (D := D) (M := I 9 2) s hR rfl
    refine ⟨I2, π2, ?_, hp⟩
    refine z_n 2 (177, [(3, vi 1), (0, vr 1)], [vi 6, vr 1], (I, zPp π, D, 137)) rfl trivial ?_
    refine z_ci 60 [vr 1, vi 6] [] rfl (m_c6r w hR) ?_
    refine z_n 2 (183, [(4, vi (I 9 2)), (3, vi 1), (0, vr 1)], [vi 1], (I, zPp π, D, 137)) rfl trivial ?_
    refine z_br ((1 : Int) = 0) 285 186 [] rfl (fun h => absurd h (show ¬ ((1 : Int) = 0) from by decide)) (fun hx1 => ?_)
    refine z_n 1 (188, [(4, vi (I 9 2)), (3, vi 1), (0, vr 1)], [vi (I 9 2)], (I, zPp π, D, 137)) rfl trivial ?_
    refine z_br ((I 9 2) ≤ 0) 285 191 [] rfl (fun hx2 => ?_) (fun h => absurd (show (I 9 2) ≤ 0 from by omega) h)
    refine z_sub [(4, vi (I 9 2)), (3, vi 1), (0, vr 1)] [0, 1, 2] rfl ?_
    exact hrun
  have hkp := zkp_b hk
  obtain ⟨g, I1, hg, h1, s1, k1, a1, em, m1, f2⟩ := op_rerow (D := D) (b := 0) s ⟨by omega, by omega⟩
  have hg1 : 1 ≤ zbc g := zbc_pos hg.1.1 ((hg.2 0 (by omega) (by omega)).mpr (Or.inl rfl))
  have hR1 : ¬ I1 2 9 = -1 := by rw [f2]; exact hR
  have ci1 := s1.1.1
  have w1 : zW1 (I1 2) := ci1.1.1
  obtain ⟨I2, h2, s2, b2, k2⟩ := op_undo (D := D) s1 (by omega)
  rw [k1] at b2
  have sa2 := zSa_t a1 b2
  have f9 : I2 9 2 = I 9 2 := sa2.2.2.1.symm
  have hR2 : ¬ I2 2 9 = -1 := by
    have : I2 2 9 = I 2 9 := sa2.2.1.2.2.2.2.1.symm
    omega
  have ci2 := s2.1.1
  have w2 : zW1 (I2 2) := ci2.1.1
  have v2 : zW2 (I2 2) (I2 6) (I2 8) := ci2.1.2.1
  have hd2 : zDis (I2 2) (I2 6) (I2 9 2) (I2 11) (I2 13) := ci2.2.2
  have hm2 : 0 ≤ I2 9 2 := ci2.2.1
  have hdl2 := zdis_le w2 v2 hd2 hm2
  have hM2 : 0 ≤ I2 9 2 ∧ I2 9 2 ≤ 4 := ⟨hm2, hdl2.2⟩
  have hN2 := w2.1
  have hk2 := s2.2.1
  have hkp2 := zkp_b hk2
  obtain ⟨g2, I3, hg2, h3, s3, k3, a3, -, -, -⟩ := op_rerow (D := D) (b := I 9 2 - 1) s2 ⟨by omega, by omega⟩
  have ez : zbc g2 = 1 := by
    have e8 : I2 9 2 = I 9 2 - 1 + 1 := by omega
    rw [e8] at hg2
    rw [zTk_un hg2 (zTk_0 (by omega) (by omega))]
    exact zbc_one (by omega) (by omega)
  obtain ⟨I4, h4, s4, b4, k4⟩ := op_undo (D := D) s3 (by omega)
  rw [k3] at b4
  have sa4 := zSa_t (zSa_t sa2 a3) b4
  have f94 : I4 9 2 = I 9 2 := sa4.2.2.1.symm
  have hR4 : ¬ I4 2 9 = -1 := by
    have : I4 2 9 = I 2 9 := sa4.2.1.2.2.2.2.1.symm
    omega
  obtain ⟨I5, π5, hrun, hp⟩ := m_r285 (D := D) (M := I 9 2) s4 hR4 f94
  refine ⟨I5, π5, ?_, hp⟩
  refine z_n 2 (177, [(3, vi 1), (0, vr 1)], [vi 6, vr 1], (I, zPp π, D, 137)) rfl trivial ?_
  refine z_ci 60 [vr 1, vi 6] [] rfl (m_c6r w hR) ?_
  refine z_n 2 (183, [(4, vi (I 9 2)), (3, vi 1), (0, vr 1)], [vi 1], (I, zPp π, D, 137)) rfl trivial ?_
  refine z_br ((1 : Int) = 0) 285 186 [] rfl (fun h => absurd h (show ¬ ((1 : Int) = 0) from by decide)) (fun hx1 => ?_)
  refine z_n 1 (188, [(4, vi (I 9 2)), (3, vi 1), (0, vr 1)], [vi (I 9 2)], (I, zPp π, D, 137)) rfl trivial ?_
  refine z_br ((I 9 2) ≤ 0) 285 191 [] rfl (fun h => absurd h (show ¬ ((I 9 2) ≤ 0) from by omega)) (fun hx2 => ?_)
  refine z_n 2 (193, [(4, vi (I 9 2)), (3, vi 1), (0, vr 1)], [vi 0, vr 1], (I, zPp π, D, 137)) rfl trivial ?_
  refine z_ci 68 [vr 1, vi 0] [] rfl (h1) ?_
  refine z_n 3 (201, [(5, vi (zbc g)), (4, vi (I 9 2)), (3, vi 1), (0, vr 1)], [vi 1, vi (zbc g)], (I1, zPp (zkr π (I 25 1)), D, 137)) rfl trivial ?_
  refine z_br ((zbc g) < 1) 254 204 [] rfl (fun h => absurd h (show ¬ ((zbc g) < 1) from by omega)) (fun hx3 => ?_)
  refine z_n 2 (208, [(5, vi (zbc g)), (4, vi (I 9 2)), (3, vi 1), (0, vr 1)], [vi (I 9 2), vi (zbc g)], (I1, zPp (zkr π (I 25 1)), D, 137)) rfl trivial ?_
  refine z_br ((I 9 2) < (zbc g)) 254 211 [] rfl (fun h => absurd h (show ¬ ((I 9 2) < (zbc g)) from by omega)) (fun hx4 => ?_)
  refine z_n 2 (214, [(5, vi (zbc g)), (4, vi (I 9 2)), (3, vi 1), (0, vr 1)], [vi 6, vr 1], (I1, zPp (zkr π (I 25 1)), D, 137)) rfl trivial ?_
  refine z_ci 60 [vr 1, vi 6] [] rfl (m_c6r w1 hR1) ?_
  refine z_n 3 (222, [(5, vi (zbc g)), (4, vi (I 9 2)), (3, vi 1), (0, vr 1)], [vi ((I 9 2) - (zbc g)), vi (I1 9 2)], (I1, zPp (zkr π (I 25 1)), D, 137)) (G := (zr ((I 9 2) - (zbc g))) ∧ True) rfl ⟨by omega, trivial⟩ ?_
  refine z_br (¬ (I1 9 2) = ((I 9 2) - (zbc g))) 254 225 [] rfl (fun h => absurd h (show ¬ (¬ (I1 9 2) = ((I 9 2) - (zbc g))) from fun h9 => h9 em)) (fun hx5 => ?_)
  refine z_n 1 (226, [(5, vi (zbc g)), (4, vi (I 9 2)), (3, vi 1), (0, vr 1)], [vr 1], (I1, zPp (zkr π (I 25 1)), D, 137)) rfl trivial ?_
  refine z_ci 80 [vr 1] [] rfl (m_holds (I := I1) s1.1) ?_
  refine z_br ((1 : Int) = 0) 254 232 [] rfl (fun h => absurd h (show ¬ ((1 : Int) = 0) from by decide)) (fun hx6 => ?_)
  refine z_n 1 (233, [(5, vi (zbc g)), (4, vi (I 9 2)), (3, vi 1), (0, vr 1)], [vr 1], (I1, zPp (zkr π (I 25 1)), D, 137)) rfl trivial ?_
  refine z_ci 70 [vr 1] [] rfl (h2) ?_
  refine z_br ((I1 25 1 - 1) < 0) 254 239 [] rfl (fun h => absurd h (show ¬ ((I1 25 1 - 1) < 0) from by omega)) (fun hx7 => ?_)
  refine z_n 2 (242, [(5, vi (zbc g)), (4, vi (I 9 2)), (3, vi 1), (0, vr 1)], [vi 6, vr 1], (I2, zPp (zkr π (I 25 1)), D, 137)) rfl trivial ?_
  refine z_ci 60 [vr 1, vi 6] [] rfl (m_c6r w2 hR2) ?_
  refine z_n 1 (247, [(5, vi (zbc g)), (4, vi (I 9 2)), (3, vi 1), (0, vr 1)], [vi (I 9 2), vi (I2 9 2)], (I2, zPp (zkr π (I 25 1)), D, 137)) rfl trivial ?_
  refine z_br (¬ (I2 9 2) = (I 9 2)) 254 250 [] rfl (fun h => absurd h (show ¬ (¬ (I2 9 2) = (I 9 2)) from fun h9 => h9 f9)) (fun hx8 => ?_)
  refine z_n 4 (257, [(3, vi 1), (5, vi (zbc g)), (4, vi (I 9 2)), (0, vr 1)], [vi 1], (I2, zPp (zkr π (I 25 1)), D, 137)) rfl trivial ?_
  refine z_br ((1 : Int) = 0) 283 260 [] rfl (fun h => absurd h (show ¬ ((1 : Int) = 0) from by decide)) (fun hx9 => ?_)
  refine z_n 4 (265, [(3, vi 1), (5, vi (zbc g)), (4, vi (I 9 2)), (0, vr 1)], [vi ((I 9 2) - 1), vr 1], (I2, zPp (zkr π (I 25 1)), D, 137)) (G := (zr ((I 9 2) - 1)) ∧ True) rfl ⟨by omega, trivial⟩ ?_
  refine z_ci 68 [vr 1, vi ((I 9 2) - 1)] [] rfl (h3) ?_
  refine z_n 1 (269, [(3, vi 1), (5, vi (zbc g)), (4, vi (I 9 2)), (0, vr 1)], [vi 1, vi (zbc g2)], (I3, zPp (zkr (zkr π (I 25 1)) (I2 25 1)), D, 137)) rfl trivial ?_
  refine z_br (¬ (zbc g2) = 1) 283 272 [] rfl (fun h => absurd h (show ¬ (¬ (zbc g2) = 1) from fun h9 => h9 ez)) (fun hx10 => ?_)
  refine z_n 1 (273, [(3, vi 1), (5, vi (zbc g)), (4, vi (I 9 2)), (0, vr 1)], [vr 1], (I3, zPp (zkr (zkr π (I 25 1)) (I2 25 1)), D, 137)) rfl trivial ?_
  refine z_ci 70 [vr 1] [] rfl (h4) ?_
  refine z_br ((I3 25 1 - 1) < 0) 283 279 [] rfl (fun h => absurd h (show ¬ ((I3 25 1 - 1) < 0) from by omega)) (fun hx11 => ?_)
  refine z_n 3 (285, [(3, vi 1), (5, vi (zbc g)), (4, vi (I 9 2)), (0, vr 1)], [], (I4, zPp (zkr (zkr π (I 25 1)) (I2 25 1)), D, 137)) rfl trivial ?_
  refine z_sub [(4, vi (I 9 2)), (3, vi 1), (0, vr 1)] [2, 0, 3] rfl ?_
  exact hrun
set_option maxRecDepth 20000 in
theorem m_r5 {D : zD} {f : Int} (hf : 0 ≤ f ∧ f ≤ 120) : ∀ (N : Nat) (k : Int) (I : zI) (π : Int → Nat), 0 ≤ k → k + N = 6 → zSm I π → ¬ I 2 9 = -1 → ∃ I2 π2, zRuns 81 5 [(4, vi k), (3, vi 1), (2, vi f), (1, vr 1000), (0, vr 1)] [] (I, zPp π, D, 137) (some (vi 1)) (I2, zPp π2, D, 137) ∧ zSm I2 π2 ∧ 1 ≤ I2 25 1 ∧ I2 9 2 = 0 := by
  intro N
  induction N with
  | zero =>
    intro k I π h0 hN9 s hR
    obtain ⟨I2, π2, hrun, hp⟩ := m_r174 (D := D) s hR
    refine ⟨I2, π2, ?_, hp⟩
    refine z_n 2 (9, [(4, vi k), (3, vi 1), (2, vi f), (1, vr 1000), (0, vr 1)], [vi 6, vi k], (I, zPp π, D, 137)) rfl trivial ?_
    refine z_br (6 ≤ k) 174 12 [] rfl (fun hx1 => ?_) (fun h => absurd (show 6 ≤ k from by omega) h)
    refine z_sub [(3, vi 1), (0, vr 1)] [1, 4] rfl ?_
    exact hrun
  | succ N ih =>
  intro k I π h0 hN9 s hR
  have ci := s.1.1
  have w : zW1 (I 2) := ci.1.1
  have v : zW2 (I 2) (I 6) (I 8) := ci.1.2.1
  have hd : zDis (I 2) (I 6) (I 9 2) (I 11) (I 13) := ci.2.2
  have hm : 0 ≤ I 9 2 := ci.2.1
  have hdl := zdis_le w v hd hm
  have hM : 0 ≤ I 9 2 ∧ I 9 2 ≤ 4 := ⟨hm, hdl.2⟩
  have hN := w.1
  have hk := s.2.1
  have hzb := zns_b w
  obtain ⟨x, hx0, hx⟩ := m_cell (I := I) (π := π) (D := D) (k := f + k) (by omega)
  have hzn : 0 < zns (I 2) := by
    have := w.2.2.2.2.2.2.1
    have := w.2.1
    unfold zns
    rw [if_neg hR]
    split <;> omega
  have hx16 : 0 ≤ x / 16 := by omega
  have ra : 0 ≤ x % (zns (I 2)) ∧ x % (zns (I 2)) < zns (I 2) := ⟨Int.emod_nonneg _ (by omega), Int.emod_lt_of_pos _ hzn⟩
  have rb : 0 ≤ (x / 16) % (zns (I 2)) ∧ (x / 16) % (zns (I 2)) < zns (I 2) := ⟨Int.emod_nonneg _ (by omega), Int.emod_lt_of_pos _ hzn⟩
  obtain ⟨ca, hca⟩ : ∃ ca, ca = I 8 (I 2 9 * I 2 6 + x % (zns (I 2))) := ⟨_, rfl⟩
  obtain ⟨cb, hcb⟩ : ∃ cb, cb = I 8 (I 2 9 * I 2 6 + (x / 16) % (zns (I 2))) := ⟨_, rfl⟩
  have qa := v.2.1 (I 2 9 * I 2 6 + x % (zns (I 2))) (by omega) (by omega)
  have qb := v.2.1 (I 2 9 * I 2 6 + (x / 16) % (zns (I 2))) (by omega) (by omega)
  have hab : (0 ≤ I 8 (I 2 9 * I 2 6 + x % (zns (I 2))) ∧ I 8 (I 2 9 * I 2 6 + x % (zns (I 2))) < I 2 5) ∧ (0 ≤ I 8 (I 2 9 * I 2 6 + (x / 16) % (zns (I 2))) ∧ I 8 (I 2 9 * I 2 6 + (x / 16) % (zns (I 2))) < I 2 5) := ⟨⟨qa.1, qa.2.1⟩, ⟨qb.1, qb.2.1⟩⟩
  obtain ⟨res, hz, hwhy⟩ := m_why (π := π) (D := D) hab w v hM
  obtain ⟨res2, hz2, hn, hy⟩ := op_bump (D := D) s hab
  obtain rfl : res2 = res := zReas_un hz2 hz
  by_cases hr0 : ¬ res2 = 0
  · obtain ⟨I2, π2, hrun, hp⟩ := ih (k + 1) I π (by omega) (by omega) s hR
    refine ⟨I2, π2, ?_, hp⟩
    refine z_n 2 (9, [(4, vi k), (3, vi 1), (2, vi f), (1, vr 1000), (0, vr 1)], [vi 6, vi k], (I, zPp π, D, 137)) rfl trivial ?_
    refine z_br (6 ≤ k) 174 12 [] rfl (fun h => absurd h (show ¬ (6 ≤ k) from by omega)) (fun hx1 => ?_)
    refine z_n 1 (13, [(4, vi k), (3, vi 1), (2, vi f), (1, vr 1000), (0, vr 1)], [vi 1], (I, zPp π, D, 137)) rfl trivial ?_
    refine z_br ((1 : Int) = 0) 174 16 [] rfl (fun h => absurd h (show ¬ ((1 : Int) = 0) from by decide)) (fun hx2 => ?_)
    refine z_n 4 (21, [(4, vi k), (3, vi 1), (2, vi f), (1, vr 1000), (0, vr 1)], [vi (f + k), vr 1000], (I, zPp π, D, 137)) (G := (zr (f + k)) ∧ True) rfl ⟨by omega, trivial⟩ ?_
    refine z_ci 79 [vr 1000, vi (f + k)] [] rfl (hx) ?_
    refine z_n 3 (29, [(5, vi x), (4, vi k), (3, vi 1), (2, vi f), (1, vr 1000), (0, vr 1)], [vi 7, vr 1], (I, zPp π, D, 137)) rfl trivial ?_
    refine z_ci 60 [vr 1, vi 7] [] rfl (m_c7r w hR) ?_
    refine z_n 5 (40, [(6, vi (zns (I 2))), (5, vi x), (4, vi k), (3, vi 1), (2, vi f), (1, vr 1000), (0, vr 1)], [vi (x % (zns (I 2))), vr 1], (I, zPp π, D, 137)) (G := (0 ≤ x ∧ 0 < (zns (I 2))) ∧ True) rfl ⟨⟨hx0.1, hzn⟩, trivial⟩ ?_
    refine z_ci 64 [vr 1, vi (x % (zns (I 2)))] [] rfl (m_starter1 w ra.1 ra.2) ?_
    refine z_n 7 (54, [(7, vi (I 8 (I 2 9 * I 2 6 + (x % (zns (I 2)))))), (6, vi (zns (I 2))), (5, vi x), (4, vi k), (3, vi 1), (2, vi f), (1, vr 1000), (0, vr 1)], [vi ((x / 16) % (zns (I 2))), vr 1], (I, zPp π, D, 137)) (G := (0 ≤ x ∧ 0 < 16) ∧ (0 ≤ (x / 16) ∧ 0 < (zns (I 2))) ∧ True) rfl ⟨⟨hx0.1, by omega⟩, ⟨hx16, hzn⟩, trivial⟩ ?_
    refine z_ci 64 [vr 1, vi ((x / 16) % (zns (I 2)))] [] rfl (m_starter1 w rb.1 rb.2) ?_
    refine z_n 3 (62, [(8, vi (I 8 (I 2 9 * I 2 6 + ((x / 16) % (zns (I 2)))))), (7, vi (I 8 (I 2 9 * I 2 6 + (x % (zns (I 2)))))), (6, vi (zns (I 2))), (5, vi x), (4, vi k), (3, vi 1), (2, vi f), (1, vr 1000), (0, vr 1)], [vi 6, vr 1], (I, zPp π, D, 137)) rfl trivial ?_
    refine z_ci 60 [vr 1, vi 6] [] rfl (m_c6r w hR) ?_
    refine z_n 4 (72, [(9, vi (I 9 2)), (8, vi (I 8 (I 2 9 * I 2 6 + ((x / 16) % (zns (I 2)))))), (7, vi (I 8 (I 2 9 * I 2 6 + (x % (zns (I 2)))))), (6, vi (zns (I 2))), (5, vi x), (4, vi k), (3, vi 1), (2, vi f), (1, vr 1000), (0, vr 1)], [vi (I 8 (I 2 9 * I 2 6 + ((x / 16) % (zns (I 2))))), vi (I 8 (I 2 9 * I 2 6 + (x % (zns (I 2))))), vr 1], (I, zPp π, D, 137)) rfl trivial ?_
    refine z_ci 66 [vr 1, vi (I 8 (I 2 9 * I 2 6 + (x % (zns (I 2))))), vi (I 8 (I 2 9 * I 2 6 + ((x / 16) % (zns (I 2)))))] [] rfl (hwhy) ?_
    refine z_n 4 (82, [(10, vi res2), (9, vi (I 9 2)), (8, vi (I 8 (I 2 9 * I 2 6 + ((x / 16) % (zns (I 2)))))), (7, vi (I 8 (I 2 9 * I 2 6 + (x % (zns (I 2)))))), (6, vi (zns (I 2))), (5, vi x), (4, vi k), (3, vi 1), (2, vi f), (1, vr 1000), (0, vr 1)], [vi (I 8 (I 2 9 * I 2 6 + ((x / 16) % (zns (I 2))))), vi (I 8 (I 2 9 * I 2 6 + (x % (zns (I 2))))), vr 1], (I, zPp π, D, 137)) rfl trivial ?_
    refine z_ci 65 [vr 1, vi (I 8 (I 2 9 * I 2 6 + (x % (zns (I 2))))), vi (I 8 (I 2 9 * I 2 6 + ((x / 16) % (zns (I 2)))))] [] rfl (hn hr0) ?_
    refine z_n 2 (89, [(11, vi (-1002)), (10, vi res2), (9, vi (I 9 2)), (8, vi (I 8 (I 2 9 * I 2 6 + ((x / 16) % (zns (I 2)))))), (7, vi (I 8 (I 2 9 * I 2 6 + (x % (zns (I 2)))))), (6, vi (zns (I 2))), (5, vi x), (4, vi k), (3, vi 1), (2, vi f), (1, vr 1000), (0, vr 1)], [vi res2], (I, zPp π, D, 137)) rfl trivial ?_
    refine z_br (¬ res2 = 0) 143 92 [] rfl (fun hx3 => ?_) (fun h => absurd (show ¬ res2 = 0 from hr0) h)
    refine z_n 2 (148, [(11, vi (-1002)), (10, vi res2), (9, vi (I 9 2)), (8, vi (I 8 (I 2 9 * I 2 6 + ((x / 16) % (zns (I 2)))))), (7, vi (I 8 (I 2 9 * I 2 6 + (x % (zns (I 2)))))), (6, vi (zns (I 2))), (5, vi x), (4, vi k), (3, vi 1), (2, vi f), (1, vr 1000), (0, vr 1)], [vi (-1002), vi (-1002)], (I, zPp π, D, 137)) rfl trivial ?_
    refine z_br (¬ (-1002 : Int) = (-1002)) 166 151 [] rfl (fun h => absurd h (show ¬ (¬ (-1002 : Int) = (-1002)) from by decide)) (fun hx4 => ?_)
    refine z_n 2 (154, [(11, vi (-1002)), (10, vi res2), (9, vi (I 9 2)), (8, vi (I 8 (I 2 9 * I 2 6 + ((x / 16) % (zns (I 2)))))), (7, vi (I 8 (I 2 9 * I 2 6 + (x % (zns (I 2)))))), (6, vi (zns (I 2))), (5, vi x), (4, vi k), (3, vi 1), (2, vi f), (1, vr 1000), (0, vr 1)], [vi 6, vr 1], (I, zPp π, D, 137)) rfl trivial ?_
    refine z_ci 60 [vr 1, vi 6] [] rfl (m_c6r w hR) ?_
    refine z_n 1 (159, [(11, vi (-1002)), (10, vi res2), (9, vi (I 9 2)), (8, vi (I 8 (I 2 9 * I 2 6 + ((x / 16) % (zns (I 2)))))), (7, vi (I 8 (I 2 9 * I 2 6 + (x % (zns (I 2)))))), (6, vi (zns (I 2))), (5, vi x), (4, vi k), (3, vi 1), (2, vi f), (1, vr 1000), (0, vr 1)], [vi (I 9 2), vi (I 9 2)], (I, zPp π, D, 137)) rfl trivial ?_
    refine z_br (¬ (I 9 2) = (I 9 2)) 166 162 [] rfl (fun h => absurd h (show ¬ (¬ (I 9 2) = (I 9 2)) from fun h9 => h9 rfl)) (fun hx5 => ?_)
    refine z_n 5 (5, [(4, vi (k + 1)), (3, vi 1), (11, vi (-1002)), (10, vi res2), (9, vi (I 9 2)), (8, vi (I 8 (I 2 9 * I 2 6 + ((x / 16) % (zns (I 2)))))), (7, vi (I 8 (I 2 9 * I 2 6 + (x % (zns (I 2)))))), (6, vi (zns (I 2))), (5, vi x), (2, vi f), (1, vr 1000), (0, vr 1)], [], (I, zPp π, D, 137)) (G := (zr (k + 1)) ∧ True) rfl ⟨by omega, trivial⟩ ?_
    refine z_sub [(4, vi (k + 1)), (3, vi 1), (2, vi f), (1, vr 1000), (0, vr 1)] [0, 1, 9, 10, 11] rfl ?_
    exact hrun
  · obtain rfl : res2 = 0 := Classical.not_not.mp hr0
    obtain ⟨I1, h1, s1, k1, e9, ea, eb, f2, f6, f8⟩ := hy rfl
    have hR1 : ¬ I1 2 9 = -1 := by rw [f2]; exact hR
    have ci1 := s1.1.1
    have w1 : zW1 (I1 2) := ci1.1.1
    have v1 : zW2 (I1 2) (I1 6) (I1 8) := ci1.1.2.1
    have hd1 : zDis (I1 2) (I1 6) (I1 9 2) (I1 11) (I1 13) := ci1.2.2
    have hm1 : 0 ≤ I1 9 2 := ci1.2.1
    have hdl1 := zdis_le w1 v1 hd1 hm1
    have hM1 : 0 ≤ I1 9 2 ∧ I1 9 2 ≤ 4 := ⟨hm1, hdl1.2⟩
    have hN1 := w1.1
    have hk1 := s1.2.1
    obtain ⟨res3, hz3, hwhy3⟩ := m_why (I := I1) (π := zkr π (I 25 1)) (D := D) (a := I 8 (I 2 9 * I 2 6 + (x / 16) % (zns (I 2)))) (b := I 8 (I 2 9 * I 2 6 + x % (zns (I 2)))) (by rw [f2]; exact ⟨hab.2, hab.1⟩) w1 v1 hM1
    have hz0 := zReas_0 hz
    obtain rfl : res3 = 3 := zReas_3 hz3 (by rw [f2, f6]; exact hz0.2.1) (by rw [f2, f6]; exact hz0.1) (Or.inl ⟨I 9 2, hm, by omega, Or.inr eb⟩)
    obtain ⟨I2, π2, hrun, hp⟩ := ih (k + 1) I1 (zkr π (I 25 1)) (by omega) (by omega) s1 hR1
    refine ⟨I2, π2, ?_, hp⟩
    refine z_n 2 (9, [(4, vi k), (3, vi 1), (2, vi f), (1, vr 1000), (0, vr 1)], [vi 6, vi k], (I, zPp π, D, 137)) rfl trivial ?_
    refine z_br (6 ≤ k) 174 12 [] rfl (fun h => absurd h (show ¬ (6 ≤ k) from by omega)) (fun hx1 => ?_)
    refine z_n 1 (13, [(4, vi k), (3, vi 1), (2, vi f), (1, vr 1000), (0, vr 1)], [vi 1], (I, zPp π, D, 137)) rfl trivial ?_
    refine z_br ((1 : Int) = 0) 174 16 [] rfl (fun h => absurd h (show ¬ ((1 : Int) = 0) from by decide)) (fun hx2 => ?_)
    refine z_n 4 (21, [(4, vi k), (3, vi 1), (2, vi f), (1, vr 1000), (0, vr 1)], [vi (f + k), vr 1000], (I, zPp π, D, 137)) (G := (zr (f + k)) ∧ True) rfl ⟨by omega, trivial⟩ ?_
    refine z_ci 79 [vr 1000, vi (f + k)] [] rfl (hx) ?_
    refine z_n 3 (29, [(5, vi x), (4, vi k), (3, vi 1), (2, vi f), (1, vr 1000), (0, vr 1)], [vi 7, vr 1], (I, zPp π, D, 137)) rfl trivial ?_
    refine z_ci 60 [vr 1, vi 7] [] rfl (m_c7r w hR) ?_
    refine z_n 5 (40, [(6, vi (zns (I 2))), (5, vi x), (4, vi k), (3, vi 1), (2, vi f), (1, vr 1000), (0, vr 1)], [vi (x % (zns (I 2))), vr 1], (I, zPp π, D, 137)) (G := (0 ≤ x ∧ 0 < (zns (I 2))) ∧ True) rfl ⟨⟨hx0.1, hzn⟩, trivial⟩ ?_
    refine z_ci 64 [vr 1, vi (x % (zns (I 2)))] [] rfl (m_starter1 w ra.1 ra.2) ?_
    refine z_n 7 (54, [(7, vi (I 8 (I 2 9 * I 2 6 + (x % (zns (I 2)))))), (6, vi (zns (I 2))), (5, vi x), (4, vi k), (3, vi 1), (2, vi f), (1, vr 1000), (0, vr 1)], [vi ((x / 16) % (zns (I 2))), vr 1], (I, zPp π, D, 137)) (G := (0 ≤ x ∧ 0 < 16) ∧ (0 ≤ (x / 16) ∧ 0 < (zns (I 2))) ∧ True) rfl ⟨⟨hx0.1, by omega⟩, ⟨hx16, hzn⟩, trivial⟩ ?_
    refine z_ci 64 [vr 1, vi ((x / 16) % (zns (I 2)))] [] rfl (m_starter1 w rb.1 rb.2) ?_
    refine z_n 3 (62, [(8, vi (I 8 (I 2 9 * I 2 6 + ((x / 16) % (zns (I 2)))))), (7, vi (I 8 (I 2 9 * I 2 6 + (x % (zns (I 2)))))), (6, vi (zns (I 2))), (5, vi x), (4, vi k), (3, vi 1), (2, vi f), (1, vr 1000), (0, vr 1)], [vi 6, vr 1], (I, zPp π, D, 137)) rfl trivial ?_
    refine z_ci 60 [vr 1, vi 6] [] rfl (m_c6r w hR) ?_
    refine z_n 4 (72, [(9, vi (I 9 2)), (8, vi (I 8 (I 2 9 * I 2 6 + ((x / 16) % (zns (I 2)))))), (7, vi (I 8 (I 2 9 * I 2 6 + (x % (zns (I 2)))))), (6, vi (zns (I 2))), (5, vi x), (4, vi k), (3, vi 1), (2, vi f), (1, vr 1000), (0, vr 1)], [vi (I 8 (I 2 9 * I 2 6 + ((x / 16) % (zns (I 2))))), vi (I 8 (I 2 9 * I 2 6 + (x % (zns (I 2))))), vr 1], (I, zPp π, D, 137)) rfl trivial ?_
    refine z_ci 66 [vr 1, vi (I 8 (I 2 9 * I 2 6 + (x % (zns (I 2))))), vi (I 8 (I 2 9 * I 2 6 + ((x / 16) % (zns (I 2)))))] [] rfl (hwhy) ?_
    refine z_n 4 (82, [(10, vi 0), (9, vi (I 9 2)), (8, vi (I 8 (I 2 9 * I 2 6 + ((x / 16) % (zns (I 2)))))), (7, vi (I 8 (I 2 9 * I 2 6 + (x % (zns (I 2)))))), (6, vi (zns (I 2))), (5, vi x), (4, vi k), (3, vi 1), (2, vi f), (1, vr 1000), (0, vr 1)], [vi (I 8 (I 2 9 * I 2 6 + ((x / 16) % (zns (I 2))))), vi (I 8 (I 2 9 * I 2 6 + (x % (zns (I 2))))), vr 1], (I, zPp π, D, 137)) rfl trivial ?_
    refine z_ci 65 [vr 1, vi (I 8 (I 2 9 * I 2 6 + (x % (zns (I 2))))), vi (I 8 (I 2 9 * I 2 6 + ((x / 16) % (zns (I 2)))))] [] rfl (h1) ?_
    refine z_n 2 (89, [(11, vi (I 9 2)), (10, vi 0), (9, vi (I 9 2)), (8, vi (I 8 (I 2 9 * I 2 6 + ((x / 16) % (zns (I 2)))))), (7, vi (I 8 (I 2 9 * I 2 6 + (x % (zns (I 2)))))), (6, vi (zns (I 2))), (5, vi x), (4, vi k), (3, vi 1), (2, vi f), (1, vr 1000), (0, vr 1)], [vi 0], (I1, zPp (zkr π (I 25 1)), D, 137)) rfl trivial ?_
    refine z_br (¬ (0 : Int) = 0) 143 92 [] rfl (fun h => absurd h (show ¬ (¬ (0 : Int) = 0) from by decide)) (fun hx3 => ?_)
    refine z_n 2 (96, [(11, vi (I 9 2)), (10, vi 0), (9, vi (I 9 2)), (8, vi (I 8 (I 2 9 * I 2 6 + ((x / 16) % (zns (I 2)))))), (7, vi (I 8 (I 2 9 * I 2 6 + (x % (zns (I 2)))))), (6, vi (zns (I 2))), (5, vi x), (4, vi k), (3, vi 1), (2, vi f), (1, vr 1000), (0, vr 1)], [vi (I 9 2), vi (I 9 2)], (I1, zPp (zkr π (I 25 1)), D, 137)) rfl trivial ?_
    refine z_br (¬ (I 9 2) = (I 9 2)) 139 99 [] rfl (fun h => absurd h (show ¬ (¬ (I 9 2) = (I 9 2)) from fun h9 => h9 rfl)) (fun hx4 => ?_)
    refine z_n 3 (103, [(11, vi (I 9 2)), (10, vi 0), (9, vi (I 9 2)), (8, vi (I 8 (I 2 9 * I 2 6 + ((x / 16) % (zns (I 2)))))), (7, vi (I 8 (I 2 9 * I 2 6 + (x % (zns (I 2)))))), (6, vi (zns (I 2))), (5, vi x), (4, vi k), (3, vi 1), (2, vi f), (1, vr 1000), (0, vr 1)], [vi 0, vi (I 9 2), vr 1], (I1, zPp (zkr π (I 25 1)), D, 137)) rfl trivial ?_
    refine z_ci 67 [vr 1, vi (I 9 2), vi 0] [] rfl (m_bumped0 ⟨hm, by omega⟩ hM1) ?_
    refine z_n 1 (108, [(11, vi (I 9 2)), (10, vi 0), (9, vi (I 9 2)), (8, vi (I 8 (I 2 9 * I 2 6 + ((x / 16) % (zns (I 2)))))), (7, vi (I 8 (I 2 9 * I 2 6 + (x % (zns (I 2)))))), (6, vi (zns (I 2))), (5, vi x), (4, vi k), (3, vi 1), (2, vi f), (1, vr 1000), (0, vr 1)], [vi (I 8 (I 2 9 * I 2 6 + (x % (zns (I 2))))), vi (I1 11 (I 9 2))], (I1, zPp (zkr π (I 25 1)), D, 137)) rfl trivial ?_
    refine z_br (¬ (I1 11 (I 9 2)) = (I 8 (I 2 9 * I 2 6 + (x % (zns (I 2)))))) 139 111 [] rfl (fun h => absurd h (show ¬ (¬ (I1 11 (I 9 2)) = (I 8 (I 2 9 * I 2 6 + (x % (zns (I 2)))))) from fun h9 => h9 ea)) (fun hx5 => ?_)
    refine z_n 3 (115, [(11, vi (I 9 2)), (10, vi 0), (9, vi (I 9 2)), (8, vi (I 8 (I 2 9 * I 2 6 + ((x / 16) % (zns (I 2)))))), (7, vi (I 8 (I 2 9 * I 2 6 + (x % (zns (I 2)))))), (6, vi (zns (I 2))), (5, vi x), (4, vi k), (3, vi 1), (2, vi f), (1, vr 1000), (0, vr 1)], [vi 1, vi (I 9 2), vr 1], (I1, zPp (zkr π (I 25 1)), D, 137)) rfl trivial ?_
    refine z_ci 67 [vr 1, vi (I 9 2), vi 1] [] rfl (m_bumped1 ⟨hm, by omega⟩ hM1) ?_
    refine z_n 1 (120, [(11, vi (I 9 2)), (10, vi 0), (9, vi (I 9 2)), (8, vi (I 8 (I 2 9 * I 2 6 + ((x / 16) % (zns (I 2)))))), (7, vi (I 8 (I 2 9 * I 2 6 + (x % (zns (I 2)))))), (6, vi (zns (I 2))), (5, vi x), (4, vi k), (3, vi 1), (2, vi f), (1, vr 1000), (0, vr 1)], [vi (I 8 (I 2 9 * I 2 6 + ((x / 16) % (zns (I 2))))), vi (I1 13 (I 9 2))], (I1, zPp (zkr π (I 25 1)), D, 137)) rfl trivial ?_
    refine z_br (¬ (I1 13 (I 9 2)) = (I 8 (I 2 9 * I 2 6 + ((x / 16) % (zns (I 2)))))) 139 123 [] rfl (fun h => absurd h (show ¬ (¬ (I1 13 (I 9 2)) = (I 8 (I 2 9 * I 2 6 + ((x / 16) % (zns (I 2)))))) from fun h9 => h9 eb)) (fun hx6 => ?_)
    refine z_n 3 (128, [(11, vi (I 9 2)), (10, vi 0), (9, vi (I 9 2)), (8, vi (I 8 (I 2 9 * I 2 6 + ((x / 16) % (zns (I 2)))))), (7, vi (I 8 (I 2 9 * I 2 6 + (x % (zns (I 2)))))), (6, vi (zns (I 2))), (5, vi x), (4, vi k), (3, vi 1), (2, vi f), (1, vr 1000), (0, vr 1)], [vi (I 8 (I 2 9 * I 2 6 + (x % (zns (I 2))))), vi (I 8 (I 2 9 * I 2 6 + ((x / 16) % (zns (I 2))))), vr 1], (I1, zPp (zkr π (I 25 1)), D, 137)) rfl trivial ?_
    refine z_ci 66 [vr 1, vi (I 8 (I 2 9 * I 2 6 + ((x / 16) % (zns (I 2))))), vi (I 8 (I 2 9 * I 2 6 + (x % (zns (I 2)))))] [] rfl (hwhy3) ?_
    refine z_n 1 (132, [(11, vi (I 9 2)), (10, vi 0), (9, vi (I 9 2)), (8, vi (I 8 (I 2 9 * I 2 6 + ((x / 16) % (zns (I 2)))))), (7, vi (I 8 (I 2 9 * I 2 6 + (x % (zns (I 2)))))), (6, vi (zns (I 2))), (5, vi x), (4, vi k), (3, vi 1), (2, vi f), (1, vr 1000), (0, vr 1)], [vi 3, vi 3], (I1, zPp (zkr π (I 25 1)), D, 137)) rfl trivial ?_
    refine z_br (¬ (3 : Int) = 3) 139 135 [] rfl (fun h => absurd h (show ¬ (¬ (3 : Int) = 3) from by decide)) (fun hx7 => ?_)
    refine z_n 5 (5, [(4, vi (k + 1)), (3, vi 1), (11, vi (I 9 2)), (10, vi 0), (9, vi (I 9 2)), (8, vi (I 8 (I 2 9 * I 2 6 + ((x / 16) % (zns (I 2)))))), (7, vi (I 8 (I 2 9 * I 2 6 + (x % (zns (I 2)))))), (6, vi (zns (I 2))), (5, vi x), (2, vi f), (1, vr 1000), (0, vr 1)], [], (I1, zPp (zkr π (I 25 1)), D, 137)) (G := (zr (k + 1)) ∧ True) rfl ⟨by omega, trivial⟩ ?_
    refine z_sub [(4, vi (k + 1)), (3, vi 1), (2, vi f), (1, vr 1000), (0, vr 1)] [0, 1, 9, 10, 11] rfl ?_
    exact hrun
set_option maxRecDepth 20000 in
theorem m_raced {I : zI} {π : Int → Nat} {D : zD} {f : Int} (s : zSm I π) (hR : ¬ I 2 9 = -1) (hf : 0 ≤ f ∧ f ≤ 120) : ∃ I2 π2, zMet 81 [vr 1, vr 1000, vi f] (I, zPp π, D, 137) (some (vi 1)) (I2, zPp π2, D, 137) ∧ zSm I2 π2 ∧ 1 ≤ I2 25 1 ∧ I2 9 2 = 0 := by
  obtain ⟨I2, π2, hrun, hp⟩ := m_r5 (D := D) hf 6 0 I π (by omega) (by omega) s hR
  refine ⟨I2, π2, ?_, hp⟩
  refine z_n 4 (5, [(4, vi 0), (3, vi 1), (0, vr 1), (1, vr 1000), (2, vi f)], [], (I, zPp π, D, 137)) rfl trivial ?_
  refine z_sub [(4, vi 0), (3, vi 1), (2, vi f), (1, vr 1000), (0, vr 1)] [0, 1, 4, 3, 2] rfl ?_
  exact hrun
