set_option maxHeartbeats 4000000 in
set_option maxRecDepth 20000 in
theorem law_0 {I : zI} {π : Int → Nat} {D : zD} {k L : Int} (s : zSim I π) (hL : I 1000 (-1) = L) (hL2 : L ≤ 2048) (h0 : 0 ≤ k) (h1 : k ≤ L - 4) (hv : (Int32.ofInt (I 1000 k) &&& Int32.ofInt 31).toInt = 0) (hk : ∀ I2 π2 D2, zSim I2 π2 → (∀ j, I2 1000 j = I 1000 j) → ∃ τ, τ.2.2.2 = 147 ∧ zRuns 143 18 [(3, vi (k + 4)), (2, vr 137), (1, vr 1), (0, vr 1000)] [] (I2, zPp π2, D2, 147) (some (vi 1)) τ) : ∃ τ, τ.2.2.2 = 147 ∧ zRuns 143 18 [(3, vi k), (2, vr 137), (1, vr 1), (0, vr 1000)] [] (I, zPp π, D, 147) (some (vi 1)) τ := by
  obtain ⟨res, I1, π1, D1, I2, D2, g1, g2, s2⟩ := op_begin (D := D) s (I 1000 (k + 1)) (I 1000 (k + 2)) (I 1000 (k + 3))
  have e1 : ∀ j, I1 1000 j = I 1000 j := zRuns_1000 g1 (by decide)
  have e2 : ∀ j, I2 1000 j = I 1000 j := fun j => (zRuns_1000 g2 (by decide) j).trans (e1 j)
  obtain ⟨τ, hτ, hrun⟩ := hk I2 π1 D2 s2 e2
  refine ⟨τ, hτ, ?_⟩
  refine z_n 1 (19, [(3, vi k), (2, vr 137), (1, vr 1), (0, vr 1000)], [vi k], (I, zPp π, D, 147)) rfl trivial ?_
  refine z_n 1 (20, [(3, vi k), (2, vr 137), (1, vr 1), (0, vr 1000)], [vr 1000, vi k], (I, zPp π, D, 147)) rfl trivial ?_
  refine z_n 1 (21, [(3, vi k), (2, vr 137), (1, vr 1), (0, vr 1000)], [vi (I 1000 (-1)), vi k], (I, zPp π, D, 147)) rfl trivial ?_
  refine z_n 1 (22, [(3, vi k), (2, vr 137), (1, vr 1), (0, vr 1000)], [vi 4, vi (I 1000 (-1)), vi k], (I, zPp π, D, 147)) rfl trivial ?_
  refine z_n 1 (23, [(3, vi k), (2, vr 137), (1, vr 1), (0, vr 1000)], [vi ((I 1000 (-1)) - 4), vi k], (I, zPp π, D, 147)) (G := (zr ((I 1000 (-1)) - 4)) ∧ True) rfl ⟨by omega, trivial⟩ ?_
  refine z_br (((I 1000 (-1)) - 4) < k) 762 26 [] rfl (fun h => absurd h (show ¬ (((I 1000 (-1)) - 4) < k) from by omega)) (fun hx1 => ?_)
  refine z_n 1 (27, [(3, vi k), (2, vr 137), (1, vr 1), (0, vr 1000)], [vr 1000], (I, zPp π, D, 147)) rfl trivial ?_
  refine z_n 1 (28, [(3, vi k), (2, vr 137), (1, vr 1), (0, vr 1000)], [vi k, vr 1000], (I, zPp π, D, 147)) rfl trivial ?_
  refine z_n 1 (29, [(3, vi k), (2, vr 137), (1, vr 1), (0, vr 1000)], [vi (I 1000 k)], (I, zPp π, D, 147)) (G := (0 ≤ k ∧ k < (I 1000 (-1))) ∧ True) rfl ⟨by omega, trivial⟩ ?_
  refine z_n 1 (31, [(3, vi k), (2, vr 137), (1, vr 1), (0, vr 1000)], [vi 31, vi (I 1000 k)], (I, zPp π, D, 147)) rfl trivial ?_
  refine z_n 1 (32, [(3, vi k), (2, vr 137), (1, vr 1), (0, vr 1000)], [vi ((Int32.ofInt (I 1000 k) &&& Int32.ofInt 31).toInt)], (I, zPp π, D, 147)) rfl trivial ?_
  refine z_top (b := 0) (hv) ?_
  refine z_n 1 (144, [(3, vi k), (2, vr 137), (1, vr 1), (0, vr 1000)], [], (I, zPp π, D, 147)) rfl trivial ?_
  refine z_n 1 (145, [(3, vi k), (2, vr 137), (1, vr 1), (0, vr 1000)], [vr 1], (I, zPp π, D, 147)) rfl trivial ?_
  refine z_n 1 (146, [(3, vi k), (2, vr 137), (1, vr 1), (0, vr 1000)], [vr 1000, vr 1], (I, zPp π, D, 147)) rfl trivial ?_
  refine z_n 1 (147, [(3, vi k), (2, vr 137), (1, vr 1), (0, vr 1000)], [vi k, vr 1000, vr 1], (I, zPp π, D, 147)) rfl trivial ?_
  refine z_n 1 (148, [(3, vi k), (2, vr 137), (1, vr 1), (0, vr 1000)], [vi 1, vi k, vr 1000, vr 1], (I, zPp π, D, 147)) rfl trivial ?_
  refine z_n 1 (149, [(3, vi k), (2, vr 137), (1, vr 1), (0, vr 1000)], [vi (k + 1), vr 1000, vr 1], (I, zPp π, D, 147)) (G := (zr (k + 1)) ∧ True) rfl ⟨by omega, trivial⟩ ?_
  refine z_n 1 (150, [(3, vi k), (2, vr 137), (1, vr 1), (0, vr 1000)], [vi (I 1000 (k + 1)), vr 1], (I, zPp π, D, 147)) (G := (0 ≤ (k + 1) ∧ (k + 1) < (I 1000 (-1))) ∧ True) rfl ⟨by omega, trivial⟩ ?_
  refine z_n 1 (151, [(3, vi k), (2, vr 137), (1, vr 1), (0, vr 1000)], [vr 1000, vi (I 1000 (k + 1)), vr 1], (I, zPp π, D, 147)) rfl trivial ?_
  refine z_n 1 (152, [(3, vi k), (2, vr 137), (1, vr 1), (0, vr 1000)], [vi k, vr 1000, vi (I 1000 (k + 1)), vr 1], (I, zPp π, D, 147)) rfl trivial ?_
  refine z_n 1 (153, [(3, vi k), (2, vr 137), (1, vr 1), (0, vr 1000)], [vi 2, vi k, vr 1000, vi (I 1000 (k + 1)), vr 1], (I, zPp π, D, 147)) rfl trivial ?_
  refine z_n 1 (154, [(3, vi k), (2, vr 137), (1, vr 1), (0, vr 1000)], [vi (k + 2), vr 1000, vi (I 1000 (k + 1)), vr 1], (I, zPp π, D, 147)) (G := (zr (k + 2)) ∧ True) rfl ⟨by omega, trivial⟩ ?_
  refine z_n 1 (155, [(3, vi k), (2, vr 137), (1, vr 1), (0, vr 1000)], [vi (I 1000 (k + 2)), vi (I 1000 (k + 1)), vr 1], (I, zPp π, D, 147)) (G := (0 ≤ (k + 2) ∧ (k + 2) < (I 1000 (-1))) ∧ True) rfl ⟨by omega, trivial⟩ ?_
  refine z_n 1 (156, [(3, vi k), (2, vr 137), (1, vr 1), (0, vr 1000)], [vr 1000, vi (I 1000 (k + 2)), vi (I 1000 (k + 1)), vr 1], (I, zPp π, D, 147)) rfl trivial ?_
  refine z_n 1 (157, [(3, vi k), (2, vr 137), (1, vr 1), (0, vr 1000)], [vi k, vr 1000, vi (I 1000 (k + 2)), vi (I 1000 (k + 1)), vr 1], (I, zPp π, D, 147)) rfl trivial ?_
  refine z_n 1 (158, [(3, vi k), (2, vr 137), (1, vr 1), (0, vr 1000)], [vi 3, vi k, vr 1000, vi (I 1000 (k + 2)), vi (I 1000 (k + 1)), vr 1], (I, zPp π, D, 147)) rfl trivial ?_
  refine z_n 1 (159, [(3, vi k), (2, vr 137), (1, vr 1), (0, vr 1000)], [vi (k + 3), vr 1000, vi (I 1000 (k + 2)), vi (I 1000 (k + 1)), vr 1], (I, zPp π, D, 147)) (G := (zr (k + 3)) ∧ True) rfl ⟨by omega, trivial⟩ ?_
  refine z_n 1 (160, [(3, vi k), (2, vr 137), (1, vr 1), (0, vr 1000)], [vi (I 1000 (k + 3)), vi (I 1000 (k + 2)), vi (I 1000 (k + 1)), vr 1], (I, zPp π, D, 147)) (G := (0 ≤ (k + 3) ∧ (k + 3) < (I 1000 (-1))) ∧ True) rfl ⟨by omega, trivial⟩ ?_
  refine z_ci 66 [vr 1, vi (I 1000 (k + 1)), vi (I 1000 (k + 2)), vi (I 1000 (k + 3))] [] rfl (g1) ?_
  refine z_n 1 (164, [(3, vi k), (2, vr 137), (1, vr 1), (0, vr 1000)], [vr 137, vi res], (I1, zPp π1, D1, 147)) rfl trivial ?_
  refine z_n 1 (165, [(3, vi k), (2, vr 137), (1, vr 1), (0, vr 1000)], [vr 1000, vr 137, vi res], (I1, zPp π1, D1, 147)) rfl trivial ?_
  refine z_n 1 (166, [(3, vi k), (2, vr 137), (1, vr 1), (0, vr 1000)], [vi k, vr 1000, vr 137, vi res], (I1, zPp π1, D1, 147)) rfl trivial ?_
  refine z_n 1 (167, [(3, vi k), (2, vr 137), (1, vr 1), (0, vr 1000)], [vi 1, vi k, vr 1000, vr 137, vi res], (I1, zPp π1, D1, 147)) rfl trivial ?_
  refine z_n 1 (168, [(3, vi k), (2, vr 137), (1, vr 1), (0, vr 1000)], [vi (k + 1), vr 1000, vr 137, vi res], (I1, zPp π1, D1, 147)) (G := (zr (k + 1)) ∧ True) rfl ⟨by omega, trivial⟩ ?_
  refine z_n 1 (169, [(3, vi k), (2, vr 137), (1, vr 1), (0, vr 1000)], [vi (I1 1000 (k + 1)), vr 137, vi res], (I1, zPp π1, D1, 147)) (G := (0 ≤ (k + 1) ∧ (k + 1) < (I1 1000 (-1))) ∧ True) rfl ⟨by rw [e1]; omega, trivial⟩ ?_
  refine z_top (b := I 1000 (k + 1)) (e1 _) ?_
  refine z_n 1 (170, [(3, vi k), (2, vr 137), (1, vr 1), (0, vr 1000)], [vr 1000, vi (I 1000 (k + 1)), vr 137, vi res], (I1, zPp π1, D1, 147)) rfl trivial ?_
  refine z_n 1 (171, [(3, vi k), (2, vr 137), (1, vr 1), (0, vr 1000)], [vi k, vr 1000, vi (I 1000 (k + 1)), vr 137, vi res], (I1, zPp π1, D1, 147)) rfl trivial ?_
  refine z_n 1 (172, [(3, vi k), (2, vr 137), (1, vr 1), (0, vr 1000)], [vi 2, vi k, vr 1000, vi (I 1000 (k + 1)), vr 137, vi res], (I1, zPp π1, D1, 147)) rfl trivial ?_
  refine z_n 1 (173, [(3, vi k), (2, vr 137), (1, vr 1), (0, vr 1000)], [vi (k + 2), vr 1000, vi (I 1000 (k + 1)), vr 137, vi res], (I1, zPp π1, D1, 147)) (G := (zr (k + 2)) ∧ True) rfl ⟨by omega, trivial⟩ ?_
  refine z_n 1 (174, [(3, vi k), (2, vr 137), (1, vr 1), (0, vr 1000)], [vi (I1 1000 (k + 2)), vi (I 1000 (k + 1)), vr 137, vi res], (I1, zPp π1, D1, 147)) (G := (0 ≤ (k + 2) ∧ (k + 2) < (I1 1000 (-1))) ∧ True) rfl ⟨by rw [e1]; omega, trivial⟩ ?_
  refine z_top (b := I 1000 (k + 2)) (e1 _) ?_
  refine z_n 1 (175, [(3, vi k), (2, vr 137), (1, vr 1), (0, vr 1000)], [vr 1000, vi (I 1000 (k + 2)), vi (I 1000 (k + 1)), vr 137, vi res], (I1, zPp π1, D1, 147)) rfl trivial ?_
  refine z_n 1 (176, [(3, vi k), (2, vr 137), (1, vr 1), (0, vr 1000)], [vi k, vr 1000, vi (I 1000 (k + 2)), vi (I 1000 (k + 1)), vr 137, vi res], (I1, zPp π1, D1, 147)) rfl trivial ?_
  refine z_n 1 (177, [(3, vi k), (2, vr 137), (1, vr 1), (0, vr 1000)], [vi 3, vi k, vr 1000, vi (I 1000 (k + 2)), vi (I 1000 (k + 1)), vr 137, vi res], (I1, zPp π1, D1, 147)) rfl trivial ?_
  refine z_n 1 (178, [(3, vi k), (2, vr 137), (1, vr 1), (0, vr 1000)], [vi (k + 3), vr 1000, vi (I 1000 (k + 2)), vi (I 1000 (k + 1)), vr 137, vi res], (I1, zPp π1, D1, 147)) (G := (zr (k + 3)) ∧ True) rfl ⟨by omega, trivial⟩ ?_
  refine z_n 1 (179, [(3, vi k), (2, vr 137), (1, vr 1), (0, vr 1000)], [vi (I1 1000 (k + 3)), vi (I 1000 (k + 2)), vi (I 1000 (k + 1)), vr 137, vi res], (I1, zPp π1, D1, 147)) (G := (0 ≤ (k + 3) ∧ (k + 3) < (I1 1000 (-1))) ∧ True) rfl ⟨by rw [e1]; omega, trivial⟩ ?_
  refine z_top (b := I 1000 (k + 3)) (e1 _) ?_
  refine z_ci 106 [vr 137, vi (I 1000 (k + 1)), vi (I 1000 (k + 2)), vi (I 1000 (k + 3))] [vi res] rfl (g2) ?_
  refine z_br (res = res) 756 185 [] rfl (fun hx2 => ?_) (fun h => absurd (show res = res from rfl) h)
  refine z_n 1 (759, [(3, vi (k + 4)), (2, vr 137), (1, vr 1), (0, vr 1000)], [], (I2, zPp π1, D2, 147)) (G := (zr (k + 4)) ∧ True) rfl ⟨by omega, trivial⟩ ?_
  refine z_n 1 (18, [(3, vi (k + 4)), (2, vr 137), (1, vr 1), (0, vr 1000)], [], (I2, zPp π1, D2, 147)) rfl trivial ?_
  refine z_sub [(3, vi (k + 4)), (2, vr 137), (1, vr 1), (0, vr 1000)] [0, 1, 2, 3] rfl ?_
  exact hrun
set_option maxHeartbeats 4000000 in
set_option maxRecDepth 20000 in
theorem law_1 {I : zI} {π : Int → Nat} {D : zD} {k L : Int} (s : zSim I π) (hL : I 1000 (-1) = L) (hL2 : L ≤ 2048) (h0 : 0 ≤ k) (h1 : k ≤ L - 4) (hv : (Int32.ofInt (I 1000 k) &&& Int32.ofInt 31).toInt = 1) (hk : ∀ I2 π2 D2, zSim I2 π2 → (∀ j, I2 1000 j = I 1000 j) → ∃ τ, τ.2.2.2 = 147 ∧ zRuns 143 18 [(3, vi (k + 4)), (2, vr 137), (1, vr 1), (0, vr 1000)] [] (I2, zPp π2, D2, 147) (some (vi 1)) τ) : ∃ τ, τ.2.2.2 = 147 ∧ zRuns 143 18 [(3, vi k), (2, vr 137), (1, vr 1), (0, vr 1000)] [] (I, zPp π, D, 147) (some (vi 1)) τ := by
  obtain ⟨res, I1, π1, D1, I2, D2, g1, g2, s2⟩ := op_setSpeed (D := D) s (I 1000 (k + 1)) (I 1000 (k + 2))
  have e1 : ∀ j, I1 1000 j = I 1000 j := zRuns_1000 g1 (by decide)
  have e2 : ∀ j, I2 1000 j = I 1000 j := fun j => (zRuns_1000 g2 (by decide) j).trans (e1 j)
  obtain ⟨τ, hτ, hrun⟩ := hk I2 π1 D2 s2 e2
  refine ⟨τ, hτ, ?_⟩
  refine z_n 1 (19, [(3, vi k), (2, vr 137), (1, vr 1), (0, vr 1000)], [vi k], (I, zPp π, D, 147)) rfl trivial ?_
  refine z_n 1 (20, [(3, vi k), (2, vr 137), (1, vr 1), (0, vr 1000)], [vr 1000, vi k], (I, zPp π, D, 147)) rfl trivial ?_
  refine z_n 1 (21, [(3, vi k), (2, vr 137), (1, vr 1), (0, vr 1000)], [vi (I 1000 (-1)), vi k], (I, zPp π, D, 147)) rfl trivial ?_
  refine z_n 1 (22, [(3, vi k), (2, vr 137), (1, vr 1), (0, vr 1000)], [vi 4, vi (I 1000 (-1)), vi k], (I, zPp π, D, 147)) rfl trivial ?_
  refine z_n 1 (23, [(3, vi k), (2, vr 137), (1, vr 1), (0, vr 1000)], [vi ((I 1000 (-1)) - 4), vi k], (I, zPp π, D, 147)) (G := (zr ((I 1000 (-1)) - 4)) ∧ True) rfl ⟨by omega, trivial⟩ ?_
  refine z_br (((I 1000 (-1)) - 4) < k) 762 26 [] rfl (fun h => absurd h (show ¬ (((I 1000 (-1)) - 4) < k) from by omega)) (fun hx1 => ?_)
  refine z_n 1 (27, [(3, vi k), (2, vr 137), (1, vr 1), (0, vr 1000)], [vr 1000], (I, zPp π, D, 147)) rfl trivial ?_
  refine z_n 1 (28, [(3, vi k), (2, vr 137), (1, vr 1), (0, vr 1000)], [vi k, vr 1000], (I, zPp π, D, 147)) rfl trivial ?_
  refine z_n 1 (29, [(3, vi k), (2, vr 137), (1, vr 1), (0, vr 1000)], [vi (I 1000 k)], (I, zPp π, D, 147)) (G := (0 ≤ k ∧ k < (I 1000 (-1))) ∧ True) rfl ⟨by omega, trivial⟩ ?_
  refine z_n 1 (31, [(3, vi k), (2, vr 137), (1, vr 1), (0, vr 1000)], [vi 31, vi (I 1000 k)], (I, zPp π, D, 147)) rfl trivial ?_
  refine z_n 1 (32, [(3, vi k), (2, vr 137), (1, vr 1), (0, vr 1000)], [vi ((Int32.ofInt (I 1000 k) &&& Int32.ofInt 31).toInt)], (I, zPp π, D, 147)) rfl trivial ?_
  refine z_top (b := 1) (hv) ?_
  refine z_n 1 (187, [(3, vi k), (2, vr 137), (1, vr 1), (0, vr 1000)], [], (I, zPp π, D, 147)) rfl trivial ?_
  refine z_n 1 (188, [(3, vi k), (2, vr 137), (1, vr 1), (0, vr 1000)], [vr 1], (I, zPp π, D, 147)) rfl trivial ?_
  refine z_n 1 (189, [(3, vi k), (2, vr 137), (1, vr 1), (0, vr 1000)], [vr 1000, vr 1], (I, zPp π, D, 147)) rfl trivial ?_
  refine z_n 1 (190, [(3, vi k), (2, vr 137), (1, vr 1), (0, vr 1000)], [vi k, vr 1000, vr 1], (I, zPp π, D, 147)) rfl trivial ?_
  refine z_n 1 (191, [(3, vi k), (2, vr 137), (1, vr 1), (0, vr 1000)], [vi 1, vi k, vr 1000, vr 1], (I, zPp π, D, 147)) rfl trivial ?_
  refine z_n 1 (192, [(3, vi k), (2, vr 137), (1, vr 1), (0, vr 1000)], [vi (k + 1), vr 1000, vr 1], (I, zPp π, D, 147)) (G := (zr (k + 1)) ∧ True) rfl ⟨by omega, trivial⟩ ?_
  refine z_n 1 (193, [(3, vi k), (2, vr 137), (1, vr 1), (0, vr 1000)], [vi (I 1000 (k + 1)), vr 1], (I, zPp π, D, 147)) (G := (0 ≤ (k + 1) ∧ (k + 1) < (I 1000 (-1))) ∧ True) rfl ⟨by omega, trivial⟩ ?_
  refine z_n 1 (194, [(3, vi k), (2, vr 137), (1, vr 1), (0, vr 1000)], [vr 1000, vi (I 1000 (k + 1)), vr 1], (I, zPp π, D, 147)) rfl trivial ?_
  refine z_n 1 (195, [(3, vi k), (2, vr 137), (1, vr 1), (0, vr 1000)], [vi k, vr 1000, vi (I 1000 (k + 1)), vr 1], (I, zPp π, D, 147)) rfl trivial ?_
  refine z_n 1 (196, [(3, vi k), (2, vr 137), (1, vr 1), (0, vr 1000)], [vi 2, vi k, vr 1000, vi (I 1000 (k + 1)), vr 1], (I, zPp π, D, 147)) rfl trivial ?_
  refine z_n 1 (197, [(3, vi k), (2, vr 137), (1, vr 1), (0, vr 1000)], [vi (k + 2), vr 1000, vi (I 1000 (k + 1)), vr 1], (I, zPp π, D, 147)) (G := (zr (k + 2)) ∧ True) rfl ⟨by omega, trivial⟩ ?_
  refine z_n 1 (198, [(3, vi k), (2, vr 137), (1, vr 1), (0, vr 1000)], [vi (I 1000 (k + 2)), vi (I 1000 (k + 1)), vr 1], (I, zPp π, D, 147)) (G := (0 ≤ (k + 2) ∧ (k + 2) < (I 1000 (-1))) ∧ True) rfl ⟨by omega, trivial⟩ ?_
  refine z_ci 67 [vr 1, vi (I 1000 (k + 1)), vi (I 1000 (k + 2))] [] rfl (g1) ?_
  refine z_n 1 (202, [(3, vi k), (2, vr 137), (1, vr 1), (0, vr 1000)], [vr 137, vi res], (I1, zPp π1, D1, 147)) rfl trivial ?_
  refine z_n 1 (203, [(3, vi k), (2, vr 137), (1, vr 1), (0, vr 1000)], [vr 1000, vr 137, vi res], (I1, zPp π1, D1, 147)) rfl trivial ?_
  refine z_n 1 (204, [(3, vi k), (2, vr 137), (1, vr 1), (0, vr 1000)], [vi k, vr 1000, vr 137, vi res], (I1, zPp π1, D1, 147)) rfl trivial ?_
  refine z_n 1 (205, [(3, vi k), (2, vr 137), (1, vr 1), (0, vr 1000)], [vi 1, vi k, vr 1000, vr 137, vi res], (I1, zPp π1, D1, 147)) rfl trivial ?_
  refine z_n 1 (206, [(3, vi k), (2, vr 137), (1, vr 1), (0, vr 1000)], [vi (k + 1), vr 1000, vr 137, vi res], (I1, zPp π1, D1, 147)) (G := (zr (k + 1)) ∧ True) rfl ⟨by omega, trivial⟩ ?_
  refine z_n 1 (207, [(3, vi k), (2, vr 137), (1, vr 1), (0, vr 1000)], [vi (I1 1000 (k + 1)), vr 137, vi res], (I1, zPp π1, D1, 147)) (G := (0 ≤ (k + 1) ∧ (k + 1) < (I1 1000 (-1))) ∧ True) rfl ⟨by rw [e1]; omega, trivial⟩ ?_
  refine z_top (b := I 1000 (k + 1)) (e1 _) ?_
  refine z_n 1 (208, [(3, vi k), (2, vr 137), (1, vr 1), (0, vr 1000)], [vr 1000, vi (I 1000 (k + 1)), vr 137, vi res], (I1, zPp π1, D1, 147)) rfl trivial ?_
  refine z_n 1 (209, [(3, vi k), (2, vr 137), (1, vr 1), (0, vr 1000)], [vi k, vr 1000, vi (I 1000 (k + 1)), vr 137, vi res], (I1, zPp π1, D1, 147)) rfl trivial ?_
  refine z_n 1 (210, [(3, vi k), (2, vr 137), (1, vr 1), (0, vr 1000)], [vi 2, vi k, vr 1000, vi (I 1000 (k + 1)), vr 137, vi res], (I1, zPp π1, D1, 147)) rfl trivial ?_
  refine z_n 1 (211, [(3, vi k), (2, vr 137), (1, vr 1), (0, vr 1000)], [vi (k + 2), vr 1000, vi (I 1000 (k + 1)), vr 137, vi res], (I1, zPp π1, D1, 147)) (G := (zr (k + 2)) ∧ True) rfl ⟨by omega, trivial⟩ ?_
  refine z_n 1 (212, [(3, vi k), (2, vr 137), (1, vr 1), (0, vr 1000)], [vi (I1 1000 (k + 2)), vi (I 1000 (k + 1)), vr 137, vi res], (I1, zPp π1, D1, 147)) (G := (0 ≤ (k + 2) ∧ (k + 2) < (I1 1000 (-1))) ∧ True) rfl ⟨by rw [e1]; omega, trivial⟩ ?_
  refine z_top (b := I 1000 (k + 2)) (e1 _) ?_
  refine z_ci 107 [vr 137, vi (I 1000 (k + 1)), vi (I 1000 (k + 2))] [vi res] rfl (g2) ?_
  refine z_br (res = res) 756 218 [] rfl (fun hx2 => ?_) (fun h => absurd (show res = res from rfl) h)
  refine z_n 1 (759, [(3, vi (k + 4)), (2, vr 137), (1, vr 1), (0, vr 1000)], [], (I2, zPp π1, D2, 147)) (G := (zr (k + 4)) ∧ True) rfl ⟨by omega, trivial⟩ ?_
  refine z_n 1 (18, [(3, vi (k + 4)), (2, vr 137), (1, vr 1), (0, vr 1000)], [], (I2, zPp π1, D2, 147)) rfl trivial ?_
  refine z_sub [(3, vi (k + 4)), (2, vr 137), (1, vr 1), (0, vr 1000)] [0, 1, 2, 3] rfl ?_
  exact hrun
set_option maxHeartbeats 4000000 in
set_option maxRecDepth 20000 in
theorem law_2 {I : zI} {π : Int → Nat} {D : zD} {k L : Int} (s : zSim I π) (hL : I 1000 (-1) = L) (hL2 : L ≤ 2048) (h0 : 0 ≤ k) (h1 : k ≤ L - 4) (hv : (Int32.ofInt (I 1000 k) &&& Int32.ofInt 31).toInt = 2) (hk : ∀ I2 π2 D2, zSim I2 π2 → (∀ j, I2 1000 j = I 1000 j) → ∃ τ, τ.2.2.2 = 147 ∧ zRuns 143 18 [(3, vi (k + 4)), (2, vr 137), (1, vr 1), (0, vr 1000)] [] (I2, zPp π2, D2, 147) (some (vi 1)) τ) : ∃ τ, τ.2.2.2 = 147 ∧ zRuns 143 18 [(3, vi k), (2, vr 137), (1, vr 1), (0, vr 1000)] [] (I, zPp π, D, 147) (some (vi 1)) τ := by
  obtain ⟨res, I1, π1, D1, I2, D2, g1, g2, s2⟩ := op_set (D := D) s (I 1000 (k + 1)) (I 1000 (k + 2))
  have e1 : ∀ j, I1 1000 j = I 1000 j := zRuns_1000 g1 (by decide)
  have e2 : ∀ j, I2 1000 j = I 1000 j := fun j => (zRuns_1000 g2 (by decide) j).trans (e1 j)
  obtain ⟨τ, hτ, hrun⟩ := hk I2 π1 D2 s2 e2
  refine ⟨τ, hτ, ?_⟩
  refine z_n 1 (19, [(3, vi k), (2, vr 137), (1, vr 1), (0, vr 1000)], [vi k], (I, zPp π, D, 147)) rfl trivial ?_
  refine z_n 1 (20, [(3, vi k), (2, vr 137), (1, vr 1), (0, vr 1000)], [vr 1000, vi k], (I, zPp π, D, 147)) rfl trivial ?_
  refine z_n 1 (21, [(3, vi k), (2, vr 137), (1, vr 1), (0, vr 1000)], [vi (I 1000 (-1)), vi k], (I, zPp π, D, 147)) rfl trivial ?_
  refine z_n 1 (22, [(3, vi k), (2, vr 137), (1, vr 1), (0, vr 1000)], [vi 4, vi (I 1000 (-1)), vi k], (I, zPp π, D, 147)) rfl trivial ?_
  refine z_n 1 (23, [(3, vi k), (2, vr 137), (1, vr 1), (0, vr 1000)], [vi ((I 1000 (-1)) - 4), vi k], (I, zPp π, D, 147)) (G := (zr ((I 1000 (-1)) - 4)) ∧ True) rfl ⟨by omega, trivial⟩ ?_
  refine z_br (((I 1000 (-1)) - 4) < k) 762 26 [] rfl (fun h => absurd h (show ¬ (((I 1000 (-1)) - 4) < k) from by omega)) (fun hx1 => ?_)
  refine z_n 1 (27, [(3, vi k), (2, vr 137), (1, vr 1), (0, vr 1000)], [vr 1000], (I, zPp π, D, 147)) rfl trivial ?_
  refine z_n 1 (28, [(3, vi k), (2, vr 137), (1, vr 1), (0, vr 1000)], [vi k, vr 1000], (I, zPp π, D, 147)) rfl trivial ?_
  refine z_n 1 (29, [(3, vi k), (2, vr 137), (1, vr 1), (0, vr 1000)], [vi (I 1000 k)], (I, zPp π, D, 147)) (G := (0 ≤ k ∧ k < (I 1000 (-1))) ∧ True) rfl ⟨by omega, trivial⟩ ?_
  refine z_n 1 (31, [(3, vi k), (2, vr 137), (1, vr 1), (0, vr 1000)], [vi 31, vi (I 1000 k)], (I, zPp π, D, 147)) rfl trivial ?_
  refine z_n 1 (32, [(3, vi k), (2, vr 137), (1, vr 1), (0, vr 1000)], [vi ((Int32.ofInt (I 1000 k) &&& Int32.ofInt 31).toInt)], (I, zPp π, D, 147)) rfl trivial ?_
  refine z_top (b := 2) (hv) ?_
  refine z_n 1 (220, [(3, vi k), (2, vr 137), (1, vr 1), (0, vr 1000)], [], (I, zPp π, D, 147)) rfl trivial ?_
  refine z_n 1 (221, [(3, vi k), (2, vr 137), (1, vr 1), (0, vr 1000)], [vr 1], (I, zPp π, D, 147)) rfl trivial ?_
  refine z_n 1 (222, [(3, vi k), (2, vr 137), (1, vr 1), (0, vr 1000)], [vr 1000, vr 1], (I, zPp π, D, 147)) rfl trivial ?_
  refine z_n 1 (223, [(3, vi k), (2, vr 137), (1, vr 1), (0, vr 1000)], [vi k, vr 1000, vr 1], (I, zPp π, D, 147)) rfl trivial ?_
  refine z_n 1 (224, [(3, vi k), (2, vr 137), (1, vr 1), (0, vr 1000)], [vi 1, vi k, vr 1000, vr 1], (I, zPp π, D, 147)) rfl trivial ?_
  refine z_n 1 (225, [(3, vi k), (2, vr 137), (1, vr 1), (0, vr 1000)], [vi (k + 1), vr 1000, vr 1], (I, zPp π, D, 147)) (G := (zr (k + 1)) ∧ True) rfl ⟨by omega, trivial⟩ ?_
  refine z_n 1 (226, [(3, vi k), (2, vr 137), (1, vr 1), (0, vr 1000)], [vi (I 1000 (k + 1)), vr 1], (I, zPp π, D, 147)) (G := (0 ≤ (k + 1) ∧ (k + 1) < (I 1000 (-1))) ∧ True) rfl ⟨by omega, trivial⟩ ?_
  refine z_n 1 (227, [(3, vi k), (2, vr 137), (1, vr 1), (0, vr 1000)], [vr 1000, vi (I 1000 (k + 1)), vr 1], (I, zPp π, D, 147)) rfl trivial ?_
  refine z_n 1 (228, [(3, vi k), (2, vr 137), (1, vr 1), (0, vr 1000)], [vi k, vr 1000, vi (I 1000 (k + 1)), vr 1], (I, zPp π, D, 147)) rfl trivial ?_
  refine z_n 1 (229, [(3, vi k), (2, vr 137), (1, vr 1), (0, vr 1000)], [vi 2, vi k, vr 1000, vi (I 1000 (k + 1)), vr 1], (I, zPp π, D, 147)) rfl trivial ?_
  refine z_n 1 (230, [(3, vi k), (2, vr 137), (1, vr 1), (0, vr 1000)], [vi (k + 2), vr 1000, vi (I 1000 (k + 1)), vr 1], (I, zPp π, D, 147)) (G := (zr (k + 2)) ∧ True) rfl ⟨by omega, trivial⟩ ?_
  refine z_n 1 (231, [(3, vi k), (2, vr 137), (1, vr 1), (0, vr 1000)], [vi (I 1000 (k + 2)), vi (I 1000 (k + 1)), vr 1], (I, zPp π, D, 147)) (G := (0 ≤ (k + 2) ∧ (k + 2) < (I 1000 (-1))) ∧ True) rfl ⟨by omega, trivial⟩ ?_
  refine z_ci 68 [vr 1, vi (I 1000 (k + 1)), vi (I 1000 (k + 2))] [] rfl (g1) ?_
  refine z_n 1 (235, [(3, vi k), (2, vr 137), (1, vr 1), (0, vr 1000)], [vr 137, vi res], (I1, zPp π1, D1, 147)) rfl trivial ?_
  refine z_n 1 (236, [(3, vi k), (2, vr 137), (1, vr 1), (0, vr 1000)], [vr 1000, vr 137, vi res], (I1, zPp π1, D1, 147)) rfl trivial ?_
  refine z_n 1 (237, [(3, vi k), (2, vr 137), (1, vr 1), (0, vr 1000)], [vi k, vr 1000, vr 137, vi res], (I1, zPp π1, D1, 147)) rfl trivial ?_
  refine z_n 1 (238, [(3, vi k), (2, vr 137), (1, vr 1), (0, vr 1000)], [vi 1, vi k, vr 1000, vr 137, vi res], (I1, zPp π1, D1, 147)) rfl trivial ?_
  refine z_n 1 (239, [(3, vi k), (2, vr 137), (1, vr 1), (0, vr 1000)], [vi (k + 1), vr 1000, vr 137, vi res], (I1, zPp π1, D1, 147)) (G := (zr (k + 1)) ∧ True) rfl ⟨by omega, trivial⟩ ?_
  refine z_n 1 (240, [(3, vi k), (2, vr 137), (1, vr 1), (0, vr 1000)], [vi (I1 1000 (k + 1)), vr 137, vi res], (I1, zPp π1, D1, 147)) (G := (0 ≤ (k + 1) ∧ (k + 1) < (I1 1000 (-1))) ∧ True) rfl ⟨by rw [e1]; omega, trivial⟩ ?_
  refine z_top (b := I 1000 (k + 1)) (e1 _) ?_
  refine z_n 1 (241, [(3, vi k), (2, vr 137), (1, vr 1), (0, vr 1000)], [vr 1000, vi (I 1000 (k + 1)), vr 137, vi res], (I1, zPp π1, D1, 147)) rfl trivial ?_
  refine z_n 1 (242, [(3, vi k), (2, vr 137), (1, vr 1), (0, vr 1000)], [vi k, vr 1000, vi (I 1000 (k + 1)), vr 137, vi res], (I1, zPp π1, D1, 147)) rfl trivial ?_
  refine z_n 1 (243, [(3, vi k), (2, vr 137), (1, vr 1), (0, vr 1000)], [vi 2, vi k, vr 1000, vi (I 1000 (k + 1)), vr 137, vi res], (I1, zPp π1, D1, 147)) rfl trivial ?_
  refine z_n 1 (244, [(3, vi k), (2, vr 137), (1, vr 1), (0, vr 1000)], [vi (k + 2), vr 1000, vi (I 1000 (k + 1)), vr 137, vi res], (I1, zPp π1, D1, 147)) (G := (zr (k + 2)) ∧ True) rfl ⟨by omega, trivial⟩ ?_
  refine z_n 1 (245, [(3, vi k), (2, vr 137), (1, vr 1), (0, vr 1000)], [vi (I1 1000 (k + 2)), vi (I 1000 (k + 1)), vr 137, vi res], (I1, zPp π1, D1, 147)) (G := (0 ≤ (k + 2) ∧ (k + 2) < (I1 1000 (-1))) ∧ True) rfl ⟨by rw [e1]; omega, trivial⟩ ?_
  refine z_top (b := I 1000 (k + 2)) (e1 _) ?_
  refine z_ci 108 [vr 137, vi (I 1000 (k + 1)), vi (I 1000 (k + 2))] [vi res] rfl (g2) ?_
  refine z_br (res = res) 756 251 [] rfl (fun hx2 => ?_) (fun h => absurd (show res = res from rfl) h)
  refine z_n 1 (759, [(3, vi (k + 4)), (2, vr 137), (1, vr 1), (0, vr 1000)], [], (I2, zPp π1, D2, 147)) (G := (zr (k + 4)) ∧ True) rfl ⟨by omega, trivial⟩ ?_
  refine z_n 1 (18, [(3, vi (k + 4)), (2, vr 137), (1, vr 1), (0, vr 1000)], [], (I2, zPp π1, D2, 147)) rfl trivial ?_
  refine z_sub [(3, vi (k + 4)), (2, vr 137), (1, vr 1), (0, vr 1000)] [0, 1, 2, 3] rfl ?_
  exact hrun
set_option maxHeartbeats 4000000 in
set_option maxRecDepth 20000 in
theorem law_3 {I : zI} {π : Int → Nat} {D : zD} {k L : Int} (s : zSim I π) (hL : I 1000 (-1) = L) (hL2 : L ≤ 2048) (h0 : 0 ≤ k) (h1 : k ≤ L - 4) (hv : (Int32.ofInt (I 1000 k) &&& Int32.ofInt 31).toInt = 3) (hk : ∀ I2 π2 D2, zSim I2 π2 → (∀ j, I2 1000 j = I 1000 j) → ∃ τ, τ.2.2.2 = 147 ∧ zRuns 143 18 [(3, vi (k + 4)), (2, vr 137), (1, vr 1), (0, vr 1000)] [] (I2, zPp π2, D2, 147) (some (vi 1)) τ) : ∃ τ, τ.2.2.2 = 147 ∧ zRuns 143 18 [(3, vi k), (2, vr 137), (1, vr 1), (0, vr 1000)] [] (I, zPp π, D, 147) (some (vi 1)) τ := by
  obtain ⟨res, I1, π1, D1, I2, D2, g1, g2, s2⟩ := op_count (D := D) s (I 1000 (k + 1))
  have e1 : ∀ j, I1 1000 j = I 1000 j := zRuns_1000 g1 (by decide)
  have e2 : ∀ j, I2 1000 j = I 1000 j := fun j => (zRuns_1000 g2 (by decide) j).trans (e1 j)
  obtain ⟨τ, hτ, hrun⟩ := hk I2 π1 D2 s2 e2
  refine ⟨τ, hτ, ?_⟩
  refine z_n 1 (19, [(3, vi k), (2, vr 137), (1, vr 1), (0, vr 1000)], [vi k], (I, zPp π, D, 147)) rfl trivial ?_
  refine z_n 1 (20, [(3, vi k), (2, vr 137), (1, vr 1), (0, vr 1000)], [vr 1000, vi k], (I, zPp π, D, 147)) rfl trivial ?_
  refine z_n 1 (21, [(3, vi k), (2, vr 137), (1, vr 1), (0, vr 1000)], [vi (I 1000 (-1)), vi k], (I, zPp π, D, 147)) rfl trivial ?_
  refine z_n 1 (22, [(3, vi k), (2, vr 137), (1, vr 1), (0, vr 1000)], [vi 4, vi (I 1000 (-1)), vi k], (I, zPp π, D, 147)) rfl trivial ?_
  refine z_n 1 (23, [(3, vi k), (2, vr 137), (1, vr 1), (0, vr 1000)], [vi ((I 1000 (-1)) - 4), vi k], (I, zPp π, D, 147)) (G := (zr ((I 1000 (-1)) - 4)) ∧ True) rfl ⟨by omega, trivial⟩ ?_
  refine z_br (((I 1000 (-1)) - 4) < k) 762 26 [] rfl (fun h => absurd h (show ¬ (((I 1000 (-1)) - 4) < k) from by omega)) (fun hx1 => ?_)
  refine z_n 1 (27, [(3, vi k), (2, vr 137), (1, vr 1), (0, vr 1000)], [vr 1000], (I, zPp π, D, 147)) rfl trivial ?_
  refine z_n 1 (28, [(3, vi k), (2, vr 137), (1, vr 1), (0, vr 1000)], [vi k, vr 1000], (I, zPp π, D, 147)) rfl trivial ?_
  refine z_n 1 (29, [(3, vi k), (2, vr 137), (1, vr 1), (0, vr 1000)], [vi (I 1000 k)], (I, zPp π, D, 147)) (G := (0 ≤ k ∧ k < (I 1000 (-1))) ∧ True) rfl ⟨by omega, trivial⟩ ?_
  refine z_n 1 (31, [(3, vi k), (2, vr 137), (1, vr 1), (0, vr 1000)], [vi 31, vi (I 1000 k)], (I, zPp π, D, 147)) rfl trivial ?_
  refine z_n 1 (32, [(3, vi k), (2, vr 137), (1, vr 1), (0, vr 1000)], [vi ((Int32.ofInt (I 1000 k) &&& Int32.ofInt 31).toInt)], (I, zPp π, D, 147)) rfl trivial ?_
  refine z_top (b := 3) (hv) ?_
  refine z_n 1 (253, [(3, vi k), (2, vr 137), (1, vr 1), (0, vr 1000)], [], (I, zPp π, D, 147)) rfl trivial ?_
  refine z_n 1 (254, [(3, vi k), (2, vr 137), (1, vr 1), (0, vr 1000)], [vr 1], (I, zPp π, D, 147)) rfl trivial ?_
  refine z_n 1 (255, [(3, vi k), (2, vr 137), (1, vr 1), (0, vr 1000)], [vr 1000, vr 1], (I, zPp π, D, 147)) rfl trivial ?_
  refine z_n 1 (256, [(3, vi k), (2, vr 137), (1, vr 1), (0, vr 1000)], [vi k, vr 1000, vr 1], (I, zPp π, D, 147)) rfl trivial ?_
  refine z_n 1 (257, [(3, vi k), (2, vr 137), (1, vr 1), (0, vr 1000)], [vi 1, vi k, vr 1000, vr 1], (I, zPp π, D, 147)) rfl trivial ?_
  refine z_n 1 (258, [(3, vi k), (2, vr 137), (1, vr 1), (0, vr 1000)], [vi (k + 1), vr 1000, vr 1], (I, zPp π, D, 147)) (G := (zr (k + 1)) ∧ True) rfl ⟨by omega, trivial⟩ ?_
  refine z_n 1 (259, [(3, vi k), (2, vr 137), (1, vr 1), (0, vr 1000)], [vi (I 1000 (k + 1)), vr 1], (I, zPp π, D, 147)) (G := (0 ≤ (k + 1) ∧ (k + 1) < (I 1000 (-1))) ∧ True) rfl ⟨by omega, trivial⟩ ?_
  refine z_ci 69 [vr 1, vi (I 1000 (k + 1))] [] rfl (g1) ?_
  refine z_n 1 (263, [(3, vi k), (2, vr 137), (1, vr 1), (0, vr 1000)], [vr 137, vi res], (I1, zPp π1, D1, 147)) rfl trivial ?_
  refine z_n 1 (264, [(3, vi k), (2, vr 137), (1, vr 1), (0, vr 1000)], [vr 1000, vr 137, vi res], (I1, zPp π1, D1, 147)) rfl trivial ?_
  refine z_n 1 (265, [(3, vi k), (2, vr 137), (1, vr 1), (0, vr 1000)], [vi k, vr 1000, vr 137, vi res], (I1, zPp π1, D1, 147)) rfl trivial ?_
  refine z_n 1 (266, [(3, vi k), (2, vr 137), (1, vr 1), (0, vr 1000)], [vi 1, vi k, vr 1000, vr 137, vi res], (I1, zPp π1, D1, 147)) rfl trivial ?_
  refine z_n 1 (267, [(3, vi k), (2, vr 137), (1, vr 1), (0, vr 1000)], [vi (k + 1), vr 1000, vr 137, vi res], (I1, zPp π1, D1, 147)) (G := (zr (k + 1)) ∧ True) rfl ⟨by omega, trivial⟩ ?_
  refine z_n 1 (268, [(3, vi k), (2, vr 137), (1, vr 1), (0, vr 1000)], [vi (I1 1000 (k + 1)), vr 137, vi res], (I1, zPp π1, D1, 147)) (G := (0 ≤ (k + 1) ∧ (k + 1) < (I1 1000 (-1))) ∧ True) rfl ⟨by rw [e1]; omega, trivial⟩ ?_
  refine z_top (b := I 1000 (k + 1)) (e1 _) ?_
  refine z_ci 109 [vr 137, vi (I 1000 (k + 1))] [vi res] rfl (g2) ?_
  refine z_br (res = res) 756 274 [] rfl (fun hx2 => ?_) (fun h => absurd (show res = res from rfl) h)
  refine z_n 1 (759, [(3, vi (k + 4)), (2, vr 137), (1, vr 1), (0, vr 1000)], [], (I2, zPp π1, D2, 147)) (G := (zr (k + 4)) ∧ True) rfl ⟨by omega, trivial⟩ ?_
  refine z_n 1 (18, [(3, vi (k + 4)), (2, vr 137), (1, vr 1), (0, vr 1000)], [], (I2, zPp π1, D2, 147)) rfl trivial ?_
  refine z_sub [(3, vi (k + 4)), (2, vr 137), (1, vr 1), (0, vr 1000)] [0, 1, 2, 3] rfl ?_
  exact hrun
set_option maxHeartbeats 4000000 in
set_option maxRecDepth 20000 in
theorem law_4 {I : zI} {π : Int → Nat} {D : zD} {k L : Int} (s : zSim I π) (hL : I 1000 (-1) = L) (hL2 : L ≤ 2048) (h0 : 0 ≤ k) (h1 : k ≤ L - 4) (hv : (Int32.ofInt (I 1000 k) &&& Int32.ofInt 31).toInt = 4) (hk : ∀ I2 π2 D2, zSim I2 π2 → (∀ j, I2 1000 j = I 1000 j) → ∃ τ, τ.2.2.2 = 147 ∧ zRuns 143 18 [(3, vi (k + 4)), (2, vr 137), (1, vr 1), (0, vr 1000)] [] (I2, zPp π2, D2, 147) (some (vi 1)) τ) : ∃ τ, τ.2.2.2 = 147 ∧ zRuns 143 18 [(3, vi k), (2, vr 137), (1, vr 1), (0, vr 1000)] [] (I, zPp π, D, 147) (some (vi 1)) τ := by
  obtain ⟨res, I1, π1, D1, I2, D2, g1, g2, s2⟩ := op_crew (D := D) s (I 1000 (k + 1)) (I 1000 (k + 2))
  have e1 : ∀ j, I1 1000 j = I 1000 j := zRuns_1000 g1 (by decide)
  have e2 : ∀ j, I2 1000 j = I 1000 j := fun j => (zRuns_1000 g2 (by decide) j).trans (e1 j)
  obtain ⟨τ, hτ, hrun⟩ := hk I2 π1 D2 s2 e2
  refine ⟨τ, hτ, ?_⟩
  refine z_n 1 (19, [(3, vi k), (2, vr 137), (1, vr 1), (0, vr 1000)], [vi k], (I, zPp π, D, 147)) rfl trivial ?_
  refine z_n 1 (20, [(3, vi k), (2, vr 137), (1, vr 1), (0, vr 1000)], [vr 1000, vi k], (I, zPp π, D, 147)) rfl trivial ?_
  refine z_n 1 (21, [(3, vi k), (2, vr 137), (1, vr 1), (0, vr 1000)], [vi (I 1000 (-1)), vi k], (I, zPp π, D, 147)) rfl trivial ?_
  refine z_n 1 (22, [(3, vi k), (2, vr 137), (1, vr 1), (0, vr 1000)], [vi 4, vi (I 1000 (-1)), vi k], (I, zPp π, D, 147)) rfl trivial ?_
  refine z_n 1 (23, [(3, vi k), (2, vr 137), (1, vr 1), (0, vr 1000)], [vi ((I 1000 (-1)) - 4), vi k], (I, zPp π, D, 147)) (G := (zr ((I 1000 (-1)) - 4)) ∧ True) rfl ⟨by omega, trivial⟩ ?_
  refine z_br (((I 1000 (-1)) - 4) < k) 762 26 [] rfl (fun h => absurd h (show ¬ (((I 1000 (-1)) - 4) < k) from by omega)) (fun hx1 => ?_)
  refine z_n 1 (27, [(3, vi k), (2, vr 137), (1, vr 1), (0, vr 1000)], [vr 1000], (I, zPp π, D, 147)) rfl trivial ?_
  refine z_n 1 (28, [(3, vi k), (2, vr 137), (1, vr 1), (0, vr 1000)], [vi k, vr 1000], (I, zPp π, D, 147)) rfl trivial ?_
  refine z_n 1 (29, [(3, vi k), (2, vr 137), (1, vr 1), (0, vr 1000)], [vi (I 1000 k)], (I, zPp π, D, 147)) (G := (0 ≤ k ∧ k < (I 1000 (-1))) ∧ True) rfl ⟨by omega, trivial⟩ ?_
  refine z_n 1 (31, [(3, vi k), (2, vr 137), (1, vr 1), (0, vr 1000)], [vi 31, vi (I 1000 k)], (I, zPp π, D, 147)) rfl trivial ?_
  refine z_n 1 (32, [(3, vi k), (2, vr 137), (1, vr 1), (0, vr 1000)], [vi ((Int32.ofInt (I 1000 k) &&& Int32.ofInt 31).toInt)], (I, zPp π, D, 147)) rfl trivial ?_
  refine z_top (b := 4) (hv) ?_
  refine z_n 1 (276, [(3, vi k), (2, vr 137), (1, vr 1), (0, vr 1000)], [], (I, zPp π, D, 147)) rfl trivial ?_
  refine z_n 1 (277, [(3, vi k), (2, vr 137), (1, vr 1), (0, vr 1000)], [vr 1], (I, zPp π, D, 147)) rfl trivial ?_
  refine z_n 1 (278, [(3, vi k), (2, vr 137), (1, vr 1), (0, vr 1000)], [vr 1000, vr 1], (I, zPp π, D, 147)) rfl trivial ?_
  refine z_n 1 (279, [(3, vi k), (2, vr 137), (1, vr 1), (0, vr 1000)], [vi k, vr 1000, vr 1], (I, zPp π, D, 147)) rfl trivial ?_
  refine z_n 1 (280, [(3, vi k), (2, vr 137), (1, vr 1), (0, vr 1000)], [vi 1, vi k, vr 1000, vr 1], (I, zPp π, D, 147)) rfl trivial ?_
  refine z_n 1 (281, [(3, vi k), (2, vr 137), (1, vr 1), (0, vr 1000)], [vi (k + 1), vr 1000, vr 1], (I, zPp π, D, 147)) (G := (zr (k + 1)) ∧ True) rfl ⟨by omega, trivial⟩ ?_
  refine z_n 1 (282, [(3, vi k), (2, vr 137), (1, vr 1), (0, vr 1000)], [vi (I 1000 (k + 1)), vr 1], (I, zPp π, D, 147)) (G := (0 ≤ (k + 1) ∧ (k + 1) < (I 1000 (-1))) ∧ True) rfl ⟨by omega, trivial⟩ ?_
  refine z_n 1 (283, [(3, vi k), (2, vr 137), (1, vr 1), (0, vr 1000)], [vr 1000, vi (I 1000 (k + 1)), vr 1], (I, zPp π, D, 147)) rfl trivial ?_
  refine z_n 1 (284, [(3, vi k), (2, vr 137), (1, vr 1), (0, vr 1000)], [vi k, vr 1000, vi (I 1000 (k + 1)), vr 1], (I, zPp π, D, 147)) rfl trivial ?_
  refine z_n 1 (285, [(3, vi k), (2, vr 137), (1, vr 1), (0, vr 1000)], [vi 2, vi k, vr 1000, vi (I 1000 (k + 1)), vr 1], (I, zPp π, D, 147)) rfl trivial ?_
  refine z_n 1 (286, [(3, vi k), (2, vr 137), (1, vr 1), (0, vr 1000)], [vi (k + 2), vr 1000, vi (I 1000 (k + 1)), vr 1], (I, zPp π, D, 147)) (G := (zr (k + 2)) ∧ True) rfl ⟨by omega, trivial⟩ ?_
  refine z_n 1 (287, [(3, vi k), (2, vr 137), (1, vr 1), (0, vr 1000)], [vi (I 1000 (k + 2)), vi (I 1000 (k + 1)), vr 1], (I, zPp π, D, 147)) (G := (0 ≤ (k + 2) ∧ (k + 2) < (I 1000 (-1))) ∧ True) rfl ⟨by omega, trivial⟩ ?_
  refine z_ci 70 [vr 1, vi (I 1000 (k + 1)), vi (I 1000 (k + 2))] [] rfl (g1) ?_
  refine z_n 1 (291, [(3, vi k), (2, vr 137), (1, vr 1), (0, vr 1000)], [vr 137, vi res], (I1, zPp π1, D1, 147)) rfl trivial ?_
  refine z_n 1 (292, [(3, vi k), (2, vr 137), (1, vr 1), (0, vr 1000)], [vr 1000, vr 137, vi res], (I1, zPp π1, D1, 147)) rfl trivial ?_
  refine z_n 1 (293, [(3, vi k), (2, vr 137), (1, vr 1), (0, vr 1000)], [vi k, vr 1000, vr 137, vi res], (I1, zPp π1, D1, 147)) rfl trivial ?_
  refine z_n 1 (294, [(3, vi k), (2, vr 137), (1, vr 1), (0, vr 1000)], [vi 1, vi k, vr 1000, vr 137, vi res], (I1, zPp π1, D1, 147)) rfl trivial ?_
  refine z_n 1 (295, [(3, vi k), (2, vr 137), (1, vr 1), (0, vr 1000)], [vi (k + 1), vr 1000, vr 137, vi res], (I1, zPp π1, D1, 147)) (G := (zr (k + 1)) ∧ True) rfl ⟨by omega, trivial⟩ ?_
  refine z_n 1 (296, [(3, vi k), (2, vr 137), (1, vr 1), (0, vr 1000)], [vi (I1 1000 (k + 1)), vr 137, vi res], (I1, zPp π1, D1, 147)) (G := (0 ≤ (k + 1) ∧ (k + 1) < (I1 1000 (-1))) ∧ True) rfl ⟨by rw [e1]; omega, trivial⟩ ?_
  refine z_top (b := I 1000 (k + 1)) (e1 _) ?_
  refine z_n 1 (297, [(3, vi k), (2, vr 137), (1, vr 1), (0, vr 1000)], [vr 1000, vi (I 1000 (k + 1)), vr 137, vi res], (I1, zPp π1, D1, 147)) rfl trivial ?_
  refine z_n 1 (298, [(3, vi k), (2, vr 137), (1, vr 1), (0, vr 1000)], [vi k, vr 1000, vi (I 1000 (k + 1)), vr 137, vi res], (I1, zPp π1, D1, 147)) rfl trivial ?_
  refine z_n 1 (299, [(3, vi k), (2, vr 137), (1, vr 1), (0, vr 1000)], [vi 2, vi k, vr 1000, vi (I 1000 (k + 1)), vr 137, vi res], (I1, zPp π1, D1, 147)) rfl trivial ?_
  refine z_n 1 (300, [(3, vi k), (2, vr 137), (1, vr 1), (0, vr 1000)], [vi (k + 2), vr 1000, vi (I 1000 (k + 1)), vr 137, vi res], (I1, zPp π1, D1, 147)) (G := (zr (k + 2)) ∧ True) rfl ⟨by omega, trivial⟩ ?_
  refine z_n 1 (301, [(3, vi k), (2, vr 137), (1, vr 1), (0, vr 1000)], [vi (I1 1000 (k + 2)), vi (I 1000 (k + 1)), vr 137, vi res], (I1, zPp π1, D1, 147)) (G := (0 ≤ (k + 2) ∧ (k + 2) < (I1 1000 (-1))) ∧ True) rfl ⟨by rw [e1]; omega, trivial⟩ ?_
  refine z_top (b := I 1000 (k + 2)) (e1 _) ?_
  refine z_ci 112 [vr 137, vi (I 1000 (k + 1)), vi (I 1000 (k + 2))] [vi res] rfl (g2) ?_
  refine z_br (res = res) 756 307 [] rfl (fun hx2 => ?_) (fun h => absurd (show res = res from rfl) h)
  refine z_n 1 (759, [(3, vi (k + 4)), (2, vr 137), (1, vr 1), (0, vr 1000)], [], (I2, zPp π1, D2, 147)) (G := (zr (k + 4)) ∧ True) rfl ⟨by omega, trivial⟩ ?_
  refine z_n 1 (18, [(3, vi (k + 4)), (2, vr 137), (1, vr 1), (0, vr 1000)], [], (I2, zPp π1, D2, 147)) rfl trivial ?_
  refine z_sub [(3, vi (k + 4)), (2, vr 137), (1, vr 1), (0, vr 1000)] [0, 1, 2, 3] rfl ?_
  exact hrun
set_option maxHeartbeats 4000000 in
set_option maxRecDepth 20000 in
theorem law_5 {I : zI} {π : Int → Nat} {D : zD} {k L : Int} (s : zSim I π) (hL : I 1000 (-1) = L) (hL2 : L ≤ 2048) (h0 : 0 ≤ k) (h1 : k ≤ L - 4) (hv : (Int32.ofInt (I 1000 k) &&& Int32.ofInt 31).toInt = 5) (hk : ∀ I2 π2 D2, zSim I2 π2 → (∀ j, I2 1000 j = I 1000 j) → ∃ τ, τ.2.2.2 = 147 ∧ zRuns 143 18 [(3, vi (k + 4)), (2, vr 137), (1, vr 1), (0, vr 1000)] [] (I2, zPp π2, D2, 147) (some (vi 1)) τ) : ∃ τ, τ.2.2.2 = 147 ∧ zRuns 143 18 [(3, vi k), (2, vr 137), (1, vr 1), (0, vr 1000)] [] (I, zPp π, D, 147) (some (vi 1)) τ := by
  obtain ⟨res, I1, π1, D1, I2, D2, g1, g2, s2⟩ := op_at (D := D) s (I 1000 (k + 1))
  have e1 : ∀ j, I1 1000 j = I 1000 j := zRuns_1000 g1 (by decide)
  have e2 : ∀ j, I2 1000 j = I 1000 j := fun j => (zRuns_1000 g2 (by decide) j).trans (e1 j)
  obtain ⟨τ, hτ, hrun⟩ := hk I2 π1 D2 s2 e2
  refine ⟨τ, hτ, ?_⟩
  refine z_n 1 (19, [(3, vi k), (2, vr 137), (1, vr 1), (0, vr 1000)], [vi k], (I, zPp π, D, 147)) rfl trivial ?_
  refine z_n 1 (20, [(3, vi k), (2, vr 137), (1, vr 1), (0, vr 1000)], [vr 1000, vi k], (I, zPp π, D, 147)) rfl trivial ?_
  refine z_n 1 (21, [(3, vi k), (2, vr 137), (1, vr 1), (0, vr 1000)], [vi (I 1000 (-1)), vi k], (I, zPp π, D, 147)) rfl trivial ?_
  refine z_n 1 (22, [(3, vi k), (2, vr 137), (1, vr 1), (0, vr 1000)], [vi 4, vi (I 1000 (-1)), vi k], (I, zPp π, D, 147)) rfl trivial ?_
  refine z_n 1 (23, [(3, vi k), (2, vr 137), (1, vr 1), (0, vr 1000)], [vi ((I 1000 (-1)) - 4), vi k], (I, zPp π, D, 147)) (G := (zr ((I 1000 (-1)) - 4)) ∧ True) rfl ⟨by omega, trivial⟩ ?_
  refine z_br (((I 1000 (-1)) - 4) < k) 762 26 [] rfl (fun h => absurd h (show ¬ (((I 1000 (-1)) - 4) < k) from by omega)) (fun hx1 => ?_)
  refine z_n 1 (27, [(3, vi k), (2, vr 137), (1, vr 1), (0, vr 1000)], [vr 1000], (I, zPp π, D, 147)) rfl trivial ?_
  refine z_n 1 (28, [(3, vi k), (2, vr 137), (1, vr 1), (0, vr 1000)], [vi k, vr 1000], (I, zPp π, D, 147)) rfl trivial ?_
  refine z_n 1 (29, [(3, vi k), (2, vr 137), (1, vr 1), (0, vr 1000)], [vi (I 1000 k)], (I, zPp π, D, 147)) (G := (0 ≤ k ∧ k < (I 1000 (-1))) ∧ True) rfl ⟨by omega, trivial⟩ ?_
  refine z_n 1 (31, [(3, vi k), (2, vr 137), (1, vr 1), (0, vr 1000)], [vi 31, vi (I 1000 k)], (I, zPp π, D, 147)) rfl trivial ?_
  refine z_n 1 (32, [(3, vi k), (2, vr 137), (1, vr 1), (0, vr 1000)], [vi ((Int32.ofInt (I 1000 k) &&& Int32.ofInt 31).toInt)], (I, zPp π, D, 147)) rfl trivial ?_
  refine z_top (b := 5) (hv) ?_
  refine z_n 1 (309, [(3, vi k), (2, vr 137), (1, vr 1), (0, vr 1000)], [], (I, zPp π, D, 147)) rfl trivial ?_
  refine z_n 1 (310, [(3, vi k), (2, vr 137), (1, vr 1), (0, vr 1000)], [vr 1], (I, zPp π, D, 147)) rfl trivial ?_
  refine z_n 1 (311, [(3, vi k), (2, vr 137), (1, vr 1), (0, vr 1000)], [vr 1000, vr 1], (I, zPp π, D, 147)) rfl trivial ?_
  refine z_n 1 (312, [(3, vi k), (2, vr 137), (1, vr 1), (0, vr 1000)], [vi k, vr 1000, vr 1], (I, zPp π, D, 147)) rfl trivial ?_
  refine z_n 1 (313, [(3, vi k), (2, vr 137), (1, vr 1), (0, vr 1000)], [vi 1, vi k, vr 1000, vr 1], (I, zPp π, D, 147)) rfl trivial ?_
  refine z_n 1 (314, [(3, vi k), (2, vr 137), (1, vr 1), (0, vr 1000)], [vi (k + 1), vr 1000, vr 1], (I, zPp π, D, 147)) (G := (zr (k + 1)) ∧ True) rfl ⟨by omega, trivial⟩ ?_
  refine z_n 1 (315, [(3, vi k), (2, vr 137), (1, vr 1), (0, vr 1000)], [vi (I 1000 (k + 1)), vr 1], (I, zPp π, D, 147)) (G := (0 ≤ (k + 1) ∧ (k + 1) < (I 1000 (-1))) ∧ True) rfl ⟨by omega, trivial⟩ ?_
  refine z_ci 72 [vr 1, vi (I 1000 (k + 1))] [] rfl (g1) ?_
  refine z_n 1 (319, [(3, vi k), (2, vr 137), (1, vr 1), (0, vr 1000)], [vr 137, vi res], (I1, zPp π1, D1, 147)) rfl trivial ?_
  refine z_n 1 (320, [(3, vi k), (2, vr 137), (1, vr 1), (0, vr 1000)], [vr 1000, vr 137, vi res], (I1, zPp π1, D1, 147)) rfl trivial ?_
  refine z_n 1 (321, [(3, vi k), (2, vr 137), (1, vr 1), (0, vr 1000)], [vi k, vr 1000, vr 137, vi res], (I1, zPp π1, D1, 147)) rfl trivial ?_
  refine z_n 1 (322, [(3, vi k), (2, vr 137), (1, vr 1), (0, vr 1000)], [vi 1, vi k, vr 1000, vr 137, vi res], (I1, zPp π1, D1, 147)) rfl trivial ?_
  refine z_n 1 (323, [(3, vi k), (2, vr 137), (1, vr 1), (0, vr 1000)], [vi (k + 1), vr 1000, vr 137, vi res], (I1, zPp π1, D1, 147)) (G := (zr (k + 1)) ∧ True) rfl ⟨by omega, trivial⟩ ?_
  refine z_n 1 (324, [(3, vi k), (2, vr 137), (1, vr 1), (0, vr 1000)], [vi (I1 1000 (k + 1)), vr 137, vi res], (I1, zPp π1, D1, 147)) (G := (0 ≤ (k + 1) ∧ (k + 1) < (I1 1000 (-1))) ∧ True) rfl ⟨by rw [e1]; omega, trivial⟩ ?_
  refine z_top (b := I 1000 (k + 1)) (e1 _) ?_
  refine z_ci 113 [vr 137, vi (I 1000 (k + 1))] [vi res] rfl (g2) ?_
  refine z_br (res = res) 756 330 [] rfl (fun hx2 => ?_) (fun h => absurd (show res = res from rfl) h)
  refine z_n 1 (759, [(3, vi (k + 4)), (2, vr 137), (1, vr 1), (0, vr 1000)], [], (I2, zPp π1, D2, 147)) (G := (zr (k + 4)) ∧ True) rfl ⟨by omega, trivial⟩ ?_
  refine z_n 1 (18, [(3, vi (k + 4)), (2, vr 137), (1, vr 1), (0, vr 1000)], [], (I2, zPp π1, D2, 147)) rfl trivial ?_
  refine z_sub [(3, vi (k + 4)), (2, vr 137), (1, vr 1), (0, vr 1000)] [0, 1, 2, 3] rfl ?_
  exact hrun
set_option maxHeartbeats 4000000 in
set_option maxRecDepth 20000 in
theorem law_6 {I : zI} {π : Int → Nat} {D : zD} {k L : Int} (s : zSim I π) (hL : I 1000 (-1) = L) (hL2 : L ≤ 2048) (h0 : 0 ≤ k) (h1 : k ≤ L - 4) (hv : (Int32.ofInt (I 1000 k) &&& Int32.ofInt 31).toInt = 6) (hk : ∀ I2 π2 D2, zSim I2 π2 → (∀ j, I2 1000 j = I 1000 j) → ∃ τ, τ.2.2.2 = 147 ∧ zRuns 143 18 [(3, vi (k + 4)), (2, vr 137), (1, vr 1), (0, vr 1000)] [] (I2, zPp π2, D2, 147) (some (vi 1)) τ) : ∃ τ, τ.2.2.2 = 147 ∧ zRuns 143 18 [(3, vi k), (2, vr 137), (1, vr 1), (0, vr 1000)] [] (I, zPp π, D, 147) (some (vi 1)) τ := by
  obtain ⟨res, I1, π1, D1, I2, D2, g1, g2, s2⟩ := op_starter (D := D) s (I 1000 (k + 1))
  have e1 : ∀ j, I1 1000 j = I 1000 j := zRuns_1000 g1 (by decide)
  have e2 : ∀ j, I2 1000 j = I 1000 j := fun j => (zRuns_1000 g2 (by decide) j).trans (e1 j)
  obtain ⟨τ, hτ, hrun⟩ := hk I2 π1 D2 s2 e2
  refine ⟨τ, hτ, ?_⟩
  refine z_n 1 (19, [(3, vi k), (2, vr 137), (1, vr 1), (0, vr 1000)], [vi k], (I, zPp π, D, 147)) rfl trivial ?_
  refine z_n 1 (20, [(3, vi k), (2, vr 137), (1, vr 1), (0, vr 1000)], [vr 1000, vi k], (I, zPp π, D, 147)) rfl trivial ?_
  refine z_n 1 (21, [(3, vi k), (2, vr 137), (1, vr 1), (0, vr 1000)], [vi (I 1000 (-1)), vi k], (I, zPp π, D, 147)) rfl trivial ?_
  refine z_n 1 (22, [(3, vi k), (2, vr 137), (1, vr 1), (0, vr 1000)], [vi 4, vi (I 1000 (-1)), vi k], (I, zPp π, D, 147)) rfl trivial ?_
  refine z_n 1 (23, [(3, vi k), (2, vr 137), (1, vr 1), (0, vr 1000)], [vi ((I 1000 (-1)) - 4), vi k], (I, zPp π, D, 147)) (G := (zr ((I 1000 (-1)) - 4)) ∧ True) rfl ⟨by omega, trivial⟩ ?_
  refine z_br (((I 1000 (-1)) - 4) < k) 762 26 [] rfl (fun h => absurd h (show ¬ (((I 1000 (-1)) - 4) < k) from by omega)) (fun hx1 => ?_)
  refine z_n 1 (27, [(3, vi k), (2, vr 137), (1, vr 1), (0, vr 1000)], [vr 1000], (I, zPp π, D, 147)) rfl trivial ?_
  refine z_n 1 (28, [(3, vi k), (2, vr 137), (1, vr 1), (0, vr 1000)], [vi k, vr 1000], (I, zPp π, D, 147)) rfl trivial ?_
  refine z_n 1 (29, [(3, vi k), (2, vr 137), (1, vr 1), (0, vr 1000)], [vi (I 1000 k)], (I, zPp π, D, 147)) (G := (0 ≤ k ∧ k < (I 1000 (-1))) ∧ True) rfl ⟨by omega, trivial⟩ ?_
  refine z_n 1 (31, [(3, vi k), (2, vr 137), (1, vr 1), (0, vr 1000)], [vi 31, vi (I 1000 k)], (I, zPp π, D, 147)) rfl trivial ?_
  refine z_n 1 (32, [(3, vi k), (2, vr 137), (1, vr 1), (0, vr 1000)], [vi ((Int32.ofInt (I 1000 k) &&& Int32.ofInt 31).toInt)], (I, zPp π, D, 147)) rfl trivial ?_
  refine z_top (b := 6) (hv) ?_
  refine z_n 1 (332, [(3, vi k), (2, vr 137), (1, vr 1), (0, vr 1000)], [], (I, zPp π, D, 147)) rfl trivial ?_
  refine z_n 1 (333, [(3, vi k), (2, vr 137), (1, vr 1), (0, vr 1000)], [vr 1], (I, zPp π, D, 147)) rfl trivial ?_
  refine z_n 1 (334, [(3, vi k), (2, vr 137), (1, vr 1), (0, vr 1000)], [vr 1000, vr 1], (I, zPp π, D, 147)) rfl trivial ?_
  refine z_n 1 (335, [(3, vi k), (2, vr 137), (1, vr 1), (0, vr 1000)], [vi k, vr 1000, vr 1], (I, zPp π, D, 147)) rfl trivial ?_
  refine z_n 1 (336, [(3, vi k), (2, vr 137), (1, vr 1), (0, vr 1000)], [vi 1, vi k, vr 1000, vr 1], (I, zPp π, D, 147)) rfl trivial ?_
  refine z_n 1 (337, [(3, vi k), (2, vr 137), (1, vr 1), (0, vr 1000)], [vi (k + 1), vr 1000, vr 1], (I, zPp π, D, 147)) (G := (zr (k + 1)) ∧ True) rfl ⟨by omega, trivial⟩ ?_
  refine z_n 1 (338, [(3, vi k), (2, vr 137), (1, vr 1), (0, vr 1000)], [vi (I 1000 (k + 1)), vr 1], (I, zPp π, D, 147)) (G := (0 ≤ (k + 1) ∧ (k + 1) < (I 1000 (-1))) ∧ True) rfl ⟨by omega, trivial⟩ ?_
  refine z_ci 73 [vr 1, vi (I 1000 (k + 1))] [] rfl (g1) ?_
  refine z_n 1 (342, [(3, vi k), (2, vr 137), (1, vr 1), (0, vr 1000)], [vr 137, vi res], (I1, zPp π1, D1, 147)) rfl trivial ?_
  refine z_n 1 (343, [(3, vi k), (2, vr 137), (1, vr 1), (0, vr 1000)], [vr 1000, vr 137, vi res], (I1, zPp π1, D1, 147)) rfl trivial ?_
  refine z_n 1 (344, [(3, vi k), (2, vr 137), (1, vr 1), (0, vr 1000)], [vi k, vr 1000, vr 137, vi res], (I1, zPp π1, D1, 147)) rfl trivial ?_
  refine z_n 1 (345, [(3, vi k), (2, vr 137), (1, vr 1), (0, vr 1000)], [vi 1, vi k, vr 1000, vr 137, vi res], (I1, zPp π1, D1, 147)) rfl trivial ?_
  refine z_n 1 (346, [(3, vi k), (2, vr 137), (1, vr 1), (0, vr 1000)], [vi (k + 1), vr 1000, vr 137, vi res], (I1, zPp π1, D1, 147)) (G := (zr (k + 1)) ∧ True) rfl ⟨by omega, trivial⟩ ?_
  refine z_n 1 (347, [(3, vi k), (2, vr 137), (1, vr 1), (0, vr 1000)], [vi (I1 1000 (k + 1)), vr 137, vi res], (I1, zPp π1, D1, 147)) (G := (0 ≤ (k + 1) ∧ (k + 1) < (I1 1000 (-1))) ∧ True) rfl ⟨by rw [e1]; omega, trivial⟩ ?_
  refine z_top (b := I 1000 (k + 1)) (e1 _) ?_
  refine z_ci 114 [vr 137, vi (I 1000 (k + 1))] [vi res] rfl (g2) ?_
  refine z_br (res = res) 756 353 [] rfl (fun hx2 => ?_) (fun h => absurd (show res = res from rfl) h)
  refine z_n 1 (759, [(3, vi (k + 4)), (2, vr 137), (1, vr 1), (0, vr 1000)], [], (I2, zPp π1, D2, 147)) (G := (zr (k + 4)) ∧ True) rfl ⟨by omega, trivial⟩ ?_
  refine z_n 1 (18, [(3, vi (k + 4)), (2, vr 137), (1, vr 1), (0, vr 1000)], [], (I2, zPp π1, D2, 147)) rfl trivial ?_
  refine z_sub [(3, vi (k + 4)), (2, vr 137), (1, vr 1), (0, vr 1000)] [0, 1, 2, 3] rfl ?_
  exact hrun
set_option maxHeartbeats 4000000 in
set_option maxRecDepth 20000 in
theorem law_7 {I : zI} {π : Int → Nat} {D : zD} {k L : Int} (s : zSim I π) (hL : I 1000 (-1) = L) (hL2 : L ≤ 2048) (h0 : 0 ≤ k) (h1 : k ≤ L - 4) (hv : (Int32.ofInt (I 1000 k) &&& Int32.ofInt 31).toInt = 7) (hk : ∀ I2 π2 D2, zSim I2 π2 → (∀ j, I2 1000 j = I 1000 j) → ∃ τ, τ.2.2.2 = 147 ∧ zRuns 143 18 [(3, vi (k + 4)), (2, vr 137), (1, vr 1), (0, vr 1000)] [] (I2, zPp π2, D2, 147) (some (vi 1)) τ) : ∃ τ, τ.2.2.2 = 147 ∧ zRuns 143 18 [(3, vi k), (2, vr 137), (1, vr 1), (0, vr 1000)] [] (I, zPp π, D, 147) (some (vi 1)) τ := by
  obtain ⟨res, I1, π1, D1, I2, D2, g1, g2, s2⟩ := op_bump (D := D) s (I 1000 (k + 1)) (I 1000 (k + 2))
  have e1 : ∀ j, I1 1000 j = I 1000 j := zRuns_1000 g1 (by decide)
  have e2 : ∀ j, I2 1000 j = I 1000 j := fun j => (zRuns_1000 g2 (by decide) j).trans (e1 j)
  obtain ⟨τ, hτ, hrun⟩ := hk I2 π1 D2 s2 e2
  refine ⟨τ, hτ, ?_⟩
  refine z_n 1 (19, [(3, vi k), (2, vr 137), (1, vr 1), (0, vr 1000)], [vi k], (I, zPp π, D, 147)) rfl trivial ?_
  refine z_n 1 (20, [(3, vi k), (2, vr 137), (1, vr 1), (0, vr 1000)], [vr 1000, vi k], (I, zPp π, D, 147)) rfl trivial ?_
  refine z_n 1 (21, [(3, vi k), (2, vr 137), (1, vr 1), (0, vr 1000)], [vi (I 1000 (-1)), vi k], (I, zPp π, D, 147)) rfl trivial ?_
  refine z_n 1 (22, [(3, vi k), (2, vr 137), (1, vr 1), (0, vr 1000)], [vi 4, vi (I 1000 (-1)), vi k], (I, zPp π, D, 147)) rfl trivial ?_
  refine z_n 1 (23, [(3, vi k), (2, vr 137), (1, vr 1), (0, vr 1000)], [vi ((I 1000 (-1)) - 4), vi k], (I, zPp π, D, 147)) (G := (zr ((I 1000 (-1)) - 4)) ∧ True) rfl ⟨by omega, trivial⟩ ?_
  refine z_br (((I 1000 (-1)) - 4) < k) 762 26 [] rfl (fun h => absurd h (show ¬ (((I 1000 (-1)) - 4) < k) from by omega)) (fun hx1 => ?_)
  refine z_n 1 (27, [(3, vi k), (2, vr 137), (1, vr 1), (0, vr 1000)], [vr 1000], (I, zPp π, D, 147)) rfl trivial ?_
  refine z_n 1 (28, [(3, vi k), (2, vr 137), (1, vr 1), (0, vr 1000)], [vi k, vr 1000], (I, zPp π, D, 147)) rfl trivial ?_
  refine z_n 1 (29, [(3, vi k), (2, vr 137), (1, vr 1), (0, vr 1000)], [vi (I 1000 k)], (I, zPp π, D, 147)) (G := (0 ≤ k ∧ k < (I 1000 (-1))) ∧ True) rfl ⟨by omega, trivial⟩ ?_
  refine z_n 1 (31, [(3, vi k), (2, vr 137), (1, vr 1), (0, vr 1000)], [vi 31, vi (I 1000 k)], (I, zPp π, D, 147)) rfl trivial ?_
  refine z_n 1 (32, [(3, vi k), (2, vr 137), (1, vr 1), (0, vr 1000)], [vi ((Int32.ofInt (I 1000 k) &&& Int32.ofInt 31).toInt)], (I, zPp π, D, 147)) rfl trivial ?_
  refine z_top (b := 7) (hv) ?_
  refine z_n 1 (355, [(3, vi k), (2, vr 137), (1, vr 1), (0, vr 1000)], [], (I, zPp π, D, 147)) rfl trivial ?_
  refine z_n 1 (356, [(3, vi k), (2, vr 137), (1, vr 1), (0, vr 1000)], [vr 1], (I, zPp π, D, 147)) rfl trivial ?_
  refine z_n 1 (357, [(3, vi k), (2, vr 137), (1, vr 1), (0, vr 1000)], [vr 1000, vr 1], (I, zPp π, D, 147)) rfl trivial ?_
  refine z_n 1 (358, [(3, vi k), (2, vr 137), (1, vr 1), (0, vr 1000)], [vi k, vr 1000, vr 1], (I, zPp π, D, 147)) rfl trivial ?_
  refine z_n 1 (359, [(3, vi k), (2, vr 137), (1, vr 1), (0, vr 1000)], [vi 1, vi k, vr 1000, vr 1], (I, zPp π, D, 147)) rfl trivial ?_
  refine z_n 1 (360, [(3, vi k), (2, vr 137), (1, vr 1), (0, vr 1000)], [vi (k + 1), vr 1000, vr 1], (I, zPp π, D, 147)) (G := (zr (k + 1)) ∧ True) rfl ⟨by omega, trivial⟩ ?_
  refine z_n 1 (361, [(3, vi k), (2, vr 137), (1, vr 1), (0, vr 1000)], [vi (I 1000 (k + 1)), vr 1], (I, zPp π, D, 147)) (G := (0 ≤ (k + 1) ∧ (k + 1) < (I 1000 (-1))) ∧ True) rfl ⟨by omega, trivial⟩ ?_
  refine z_n 1 (362, [(3, vi k), (2, vr 137), (1, vr 1), (0, vr 1000)], [vr 1000, vi (I 1000 (k + 1)), vr 1], (I, zPp π, D, 147)) rfl trivial ?_
  refine z_n 1 (363, [(3, vi k), (2, vr 137), (1, vr 1), (0, vr 1000)], [vi k, vr 1000, vi (I 1000 (k + 1)), vr 1], (I, zPp π, D, 147)) rfl trivial ?_
  refine z_n 1 (364, [(3, vi k), (2, vr 137), (1, vr 1), (0, vr 1000)], [vi 2, vi k, vr 1000, vi (I 1000 (k + 1)), vr 1], (I, zPp π, D, 147)) rfl trivial ?_
  refine z_n 1 (365, [(3, vi k), (2, vr 137), (1, vr 1), (0, vr 1000)], [vi (k + 2), vr 1000, vi (I 1000 (k + 1)), vr 1], (I, zPp π, D, 147)) (G := (zr (k + 2)) ∧ True) rfl ⟨by omega, trivial⟩ ?_
  refine z_n 1 (366, [(3, vi k), (2, vr 137), (1, vr 1), (0, vr 1000)], [vi (I 1000 (k + 2)), vi (I 1000 (k + 1)), vr 1], (I, zPp π, D, 147)) (G := (0 ≤ (k + 2) ∧ (k + 2) < (I 1000 (-1))) ∧ True) rfl ⟨by omega, trivial⟩ ?_
  refine z_ci 74 [vr 1, vi (I 1000 (k + 1)), vi (I 1000 (k + 2))] [] rfl (g1) ?_
  refine z_n 1 (370, [(3, vi k), (2, vr 137), (1, vr 1), (0, vr 1000)], [vr 137, vi res], (I1, zPp π1, D1, 147)) rfl trivial ?_
  refine z_n 1 (371, [(3, vi k), (2, vr 137), (1, vr 1), (0, vr 1000)], [vr 1000, vr 137, vi res], (I1, zPp π1, D1, 147)) rfl trivial ?_
  refine z_n 1 (372, [(3, vi k), (2, vr 137), (1, vr 1), (0, vr 1000)], [vi k, vr 1000, vr 137, vi res], (I1, zPp π1, D1, 147)) rfl trivial ?_
  refine z_n 1 (373, [(3, vi k), (2, vr 137), (1, vr 1), (0, vr 1000)], [vi 1, vi k, vr 1000, vr 137, vi res], (I1, zPp π1, D1, 147)) rfl trivial ?_
  refine z_n 1 (374, [(3, vi k), (2, vr 137), (1, vr 1), (0, vr 1000)], [vi (k + 1), vr 1000, vr 137, vi res], (I1, zPp π1, D1, 147)) (G := (zr (k + 1)) ∧ True) rfl ⟨by omega, trivial⟩ ?_
  refine z_n 1 (375, [(3, vi k), (2, vr 137), (1, vr 1), (0, vr 1000)], [vi (I1 1000 (k + 1)), vr 137, vi res], (I1, zPp π1, D1, 147)) (G := (0 ≤ (k + 1) ∧ (k + 1) < (I1 1000 (-1))) ∧ True) rfl ⟨by rw [e1]; omega, trivial⟩ ?_
  refine z_top (b := I 1000 (k + 1)) (e1 _) ?_
  refine z_n 1 (376, [(3, vi k), (2, vr 137), (1, vr 1), (0, vr 1000)], [vr 1000, vi (I 1000 (k + 1)), vr 137, vi res], (I1, zPp π1, D1, 147)) rfl trivial ?_
  refine z_n 1 (377, [(3, vi k), (2, vr 137), (1, vr 1), (0, vr 1000)], [vi k, vr 1000, vi (I 1000 (k + 1)), vr 137, vi res], (I1, zPp π1, D1, 147)) rfl trivial ?_
  refine z_n 1 (378, [(3, vi k), (2, vr 137), (1, vr 1), (0, vr 1000)], [vi 2, vi k, vr 1000, vi (I 1000 (k + 1)), vr 137, vi res], (I1, zPp π1, D1, 147)) rfl trivial ?_
  refine z_n 1 (379, [(3, vi k), (2, vr 137), (1, vr 1), (0, vr 1000)], [vi (k + 2), vr 1000, vi (I 1000 (k + 1)), vr 137, vi res], (I1, zPp π1, D1, 147)) (G := (zr (k + 2)) ∧ True) rfl ⟨by omega, trivial⟩ ?_
  refine z_n 1 (380, [(3, vi k), (2, vr 137), (1, vr 1), (0, vr 1000)], [vi (I1 1000 (k + 2)), vi (I 1000 (k + 1)), vr 137, vi res], (I1, zPp π1, D1, 147)) (G := (0 ≤ (k + 2) ∧ (k + 2) < (I1 1000 (-1))) ∧ True) rfl ⟨by rw [e1]; omega, trivial⟩ ?_
  refine z_top (b := I 1000 (k + 2)) (e1 _) ?_
  refine z_ci 115 [vr 137, vi (I 1000 (k + 1)), vi (I 1000 (k + 2))] [vi res] rfl (g2) ?_
  refine z_br (res = res) 756 386 [] rfl (fun hx2 => ?_) (fun h => absurd (show res = res from rfl) h)
  refine z_n 1 (759, [(3, vi (k + 4)), (2, vr 137), (1, vr 1), (0, vr 1000)], [], (I2, zPp π1, D2, 147)) (G := (zr (k + 4)) ∧ True) rfl ⟨by omega, trivial⟩ ?_
  refine z_n 1 (18, [(3, vi (k + 4)), (2, vr 137), (1, vr 1), (0, vr 1000)], [], (I2, zPp π1, D2, 147)) rfl trivial ?_
  refine z_sub [(3, vi (k + 4)), (2, vr 137), (1, vr 1), (0, vr 1000)] [0, 1, 2, 3] rfl ?_
  exact hrun
set_option maxHeartbeats 4000000 in
set_option maxRecDepth 20000 in
theorem law_8 {I : zI} {π : Int → Nat} {D : zD} {k L : Int} (s : zSim I π) (hL : I 1000 (-1) = L) (hL2 : L ≤ 2048) (h0 : 0 ≤ k) (h1 : k ≤ L - 4) (hv : (Int32.ofInt (I 1000 k) &&& Int32.ofInt 31).toInt = 8) (hk : ∀ I2 π2 D2, zSim I2 π2 → (∀ j, I2 1000 j = I 1000 j) → ∃ τ, τ.2.2.2 = 147 ∧ zRuns 143 18 [(3, vi (k + 4)), (2, vr 137), (1, vr 1), (0, vr 1000)] [] (I2, zPp π2, D2, 147) (some (vi 1)) τ) : ∃ τ, τ.2.2.2 = 147 ∧ zRuns 143 18 [(3, vi k), (2, vr 137), (1, vr 1), (0, vr 1000)] [] (I, zPp π, D, 147) (some (vi 1)) τ := by
  obtain ⟨res, I1, π1, D1, I2, D2, g1, g2, s2⟩ := op_why (D := D) s (I 1000 (k + 1)) (I 1000 (k + 2))
  have e1 : ∀ j, I1 1000 j = I 1000 j := zRuns_1000 g1 (by decide)
  have e2 : ∀ j, I2 1000 j = I 1000 j := fun j => (zRuns_1000 g2 (by decide) j).trans (e1 j)
  obtain ⟨τ, hτ, hrun⟩ := hk I2 π1 D2 s2 e2
  refine ⟨τ, hτ, ?_⟩
  refine z_n 1 (19, [(3, vi k), (2, vr 137), (1, vr 1), (0, vr 1000)], [vi k], (I, zPp π, D, 147)) rfl trivial ?_
  refine z_n 1 (20, [(3, vi k), (2, vr 137), (1, vr 1), (0, vr 1000)], [vr 1000, vi k], (I, zPp π, D, 147)) rfl trivial ?_
  refine z_n 1 (21, [(3, vi k), (2, vr 137), (1, vr 1), (0, vr 1000)], [vi (I 1000 (-1)), vi k], (I, zPp π, D, 147)) rfl trivial ?_
  refine z_n 1 (22, [(3, vi k), (2, vr 137), (1, vr 1), (0, vr 1000)], [vi 4, vi (I 1000 (-1)), vi k], (I, zPp π, D, 147)) rfl trivial ?_
  refine z_n 1 (23, [(3, vi k), (2, vr 137), (1, vr 1), (0, vr 1000)], [vi ((I 1000 (-1)) - 4), vi k], (I, zPp π, D, 147)) (G := (zr ((I 1000 (-1)) - 4)) ∧ True) rfl ⟨by omega, trivial⟩ ?_
  refine z_br (((I 1000 (-1)) - 4) < k) 762 26 [] rfl (fun h => absurd h (show ¬ (((I 1000 (-1)) - 4) < k) from by omega)) (fun hx1 => ?_)
  refine z_n 1 (27, [(3, vi k), (2, vr 137), (1, vr 1), (0, vr 1000)], [vr 1000], (I, zPp π, D, 147)) rfl trivial ?_
  refine z_n 1 (28, [(3, vi k), (2, vr 137), (1, vr 1), (0, vr 1000)], [vi k, vr 1000], (I, zPp π, D, 147)) rfl trivial ?_
  refine z_n 1 (29, [(3, vi k), (2, vr 137), (1, vr 1), (0, vr 1000)], [vi (I 1000 k)], (I, zPp π, D, 147)) (G := (0 ≤ k ∧ k < (I 1000 (-1))) ∧ True) rfl ⟨by omega, trivial⟩ ?_
  refine z_n 1 (31, [(3, vi k), (2, vr 137), (1, vr 1), (0, vr 1000)], [vi 31, vi (I 1000 k)], (I, zPp π, D, 147)) rfl trivial ?_
  refine z_n 1 (32, [(3, vi k), (2, vr 137), (1, vr 1), (0, vr 1000)], [vi ((Int32.ofInt (I 1000 k) &&& Int32.ofInt 31).toInt)], (I, zPp π, D, 147)) rfl trivial ?_
  refine z_top (b := 8) (hv) ?_
  refine z_n 1 (388, [(3, vi k), (2, vr 137), (1, vr 1), (0, vr 1000)], [], (I, zPp π, D, 147)) rfl trivial ?_
  refine z_n 1 (389, [(3, vi k), (2, vr 137), (1, vr 1), (0, vr 1000)], [vr 1], (I, zPp π, D, 147)) rfl trivial ?_
  refine z_n 1 (390, [(3, vi k), (2, vr 137), (1, vr 1), (0, vr 1000)], [vr 1000, vr 1], (I, zPp π, D, 147)) rfl trivial ?_
  refine z_n 1 (391, [(3, vi k), (2, vr 137), (1, vr 1), (0, vr 1000)], [vi k, vr 1000, vr 1], (I, zPp π, D, 147)) rfl trivial ?_
  refine z_n 1 (392, [(3, vi k), (2, vr 137), (1, vr 1), (0, vr 1000)], [vi 1, vi k, vr 1000, vr 1], (I, zPp π, D, 147)) rfl trivial ?_
  refine z_n 1 (393, [(3, vi k), (2, vr 137), (1, vr 1), (0, vr 1000)], [vi (k + 1), vr 1000, vr 1], (I, zPp π, D, 147)) (G := (zr (k + 1)) ∧ True) rfl ⟨by omega, trivial⟩ ?_
  refine z_n 1 (394, [(3, vi k), (2, vr 137), (1, vr 1), (0, vr 1000)], [vi (I 1000 (k + 1)), vr 1], (I, zPp π, D, 147)) (G := (0 ≤ (k + 1) ∧ (k + 1) < (I 1000 (-1))) ∧ True) rfl ⟨by omega, trivial⟩ ?_
  refine z_n 1 (395, [(3, vi k), (2, vr 137), (1, vr 1), (0, vr 1000)], [vr 1000, vi (I 1000 (k + 1)), vr 1], (I, zPp π, D, 147)) rfl trivial ?_
  refine z_n 1 (396, [(3, vi k), (2, vr 137), (1, vr 1), (0, vr 1000)], [vi k, vr 1000, vi (I 1000 (k + 1)), vr 1], (I, zPp π, D, 147)) rfl trivial ?_
  refine z_n 1 (397, [(3, vi k), (2, vr 137), (1, vr 1), (0, vr 1000)], [vi 2, vi k, vr 1000, vi (I 1000 (k + 1)), vr 1], (I, zPp π, D, 147)) rfl trivial ?_
  refine z_n 1 (398, [(3, vi k), (2, vr 137), (1, vr 1), (0, vr 1000)], [vi (k + 2), vr 1000, vi (I 1000 (k + 1)), vr 1], (I, zPp π, D, 147)) (G := (zr (k + 2)) ∧ True) rfl ⟨by omega, trivial⟩ ?_
  refine z_n 1 (399, [(3, vi k), (2, vr 137), (1, vr 1), (0, vr 1000)], [vi (I 1000 (k + 2)), vi (I 1000 (k + 1)), vr 1], (I, zPp π, D, 147)) (G := (0 ≤ (k + 2) ∧ (k + 2) < (I 1000 (-1))) ∧ True) rfl ⟨by omega, trivial⟩ ?_
  refine z_ci 75 [vr 1, vi (I 1000 (k + 1)), vi (I 1000 (k + 2))] [] rfl (g1) ?_
  refine z_n 1 (403, [(3, vi k), (2, vr 137), (1, vr 1), (0, vr 1000)], [vr 137, vi res], (I1, zPp π1, D1, 147)) rfl trivial ?_
  refine z_n 1 (404, [(3, vi k), (2, vr 137), (1, vr 1), (0, vr 1000)], [vr 1000, vr 137, vi res], (I1, zPp π1, D1, 147)) rfl trivial ?_
  refine z_n 1 (405, [(3, vi k), (2, vr 137), (1, vr 1), (0, vr 1000)], [vi k, vr 1000, vr 137, vi res], (I1, zPp π1, D1, 147)) rfl trivial ?_
  refine z_n 1 (406, [(3, vi k), (2, vr 137), (1, vr 1), (0, vr 1000)], [vi 1, vi k, vr 1000, vr 137, vi res], (I1, zPp π1, D1, 147)) rfl trivial ?_
  refine z_n 1 (407, [(3, vi k), (2, vr 137), (1, vr 1), (0, vr 1000)], [vi (k + 1), vr 1000, vr 137, vi res], (I1, zPp π1, D1, 147)) (G := (zr (k + 1)) ∧ True) rfl ⟨by omega, trivial⟩ ?_
  refine z_n 1 (408, [(3, vi k), (2, vr 137), (1, vr 1), (0, vr 1000)], [vi (I1 1000 (k + 1)), vr 137, vi res], (I1, zPp π1, D1, 147)) (G := (0 ≤ (k + 1) ∧ (k + 1) < (I1 1000 (-1))) ∧ True) rfl ⟨by rw [e1]; omega, trivial⟩ ?_
  refine z_top (b := I 1000 (k + 1)) (e1 _) ?_
  refine z_n 1 (409, [(3, vi k), (2, vr 137), (1, vr 1), (0, vr 1000)], [vr 1000, vi (I 1000 (k + 1)), vr 137, vi res], (I1, zPp π1, D1, 147)) rfl trivial ?_
  refine z_n 1 (410, [(3, vi k), (2, vr 137), (1, vr 1), (0, vr 1000)], [vi k, vr 1000, vi (I 1000 (k + 1)), vr 137, vi res], (I1, zPp π1, D1, 147)) rfl trivial ?_
  refine z_n 1 (411, [(3, vi k), (2, vr 137), (1, vr 1), (0, vr 1000)], [vi 2, vi k, vr 1000, vi (I 1000 (k + 1)), vr 137, vi res], (I1, zPp π1, D1, 147)) rfl trivial ?_
  refine z_n 1 (412, [(3, vi k), (2, vr 137), (1, vr 1), (0, vr 1000)], [vi (k + 2), vr 1000, vi (I 1000 (k + 1)), vr 137, vi res], (I1, zPp π1, D1, 147)) (G := (zr (k + 2)) ∧ True) rfl ⟨by omega, trivial⟩ ?_
  refine z_n 1 (413, [(3, vi k), (2, vr 137), (1, vr 1), (0, vr 1000)], [vi (I1 1000 (k + 2)), vi (I 1000 (k + 1)), vr 137, vi res], (I1, zPp π1, D1, 147)) (G := (0 ≤ (k + 2) ∧ (k + 2) < (I1 1000 (-1))) ∧ True) rfl ⟨by rw [e1]; omega, trivial⟩ ?_
  refine z_top (b := I 1000 (k + 2)) (e1 _) ?_
  refine z_ci 116 [vr 137, vi (I 1000 (k + 1)), vi (I 1000 (k + 2))] [vi res] rfl (g2) ?_
  refine z_br (res = res) 756 419 [] rfl (fun hx2 => ?_) (fun h => absurd (show res = res from rfl) h)
  refine z_n 1 (759, [(3, vi (k + 4)), (2, vr 137), (1, vr 1), (0, vr 1000)], [], (I2, zPp π1, D2, 147)) (G := (zr (k + 4)) ∧ True) rfl ⟨by omega, trivial⟩ ?_
  refine z_n 1 (18, [(3, vi (k + 4)), (2, vr 137), (1, vr 1), (0, vr 1000)], [], (I2, zPp π1, D2, 147)) rfl trivial ?_
  refine z_sub [(3, vi (k + 4)), (2, vr 137), (1, vr 1), (0, vr 1000)] [0, 1, 2, 3] rfl ?_
  exact hrun
set_option maxHeartbeats 4000000 in
set_option maxRecDepth 20000 in
theorem law_9 {I : zI} {π : Int → Nat} {D : zD} {k L : Int} (s : zSim I π) (hL : I 1000 (-1) = L) (hL2 : L ≤ 2048) (h0 : 0 ≤ k) (h1 : k ≤ L - 4) (hv : (Int32.ofInt (I 1000 k) &&& Int32.ofInt 31).toInt = 9) (hk : ∀ I2 π2 D2, zSim I2 π2 → (∀ j, I2 1000 j = I 1000 j) → ∃ τ, τ.2.2.2 = 147 ∧ zRuns 143 18 [(3, vi (k + 4)), (2, vr 137), (1, vr 1), (0, vr 1000)] [] (I2, zPp π2, D2, 147) (some (vi 1)) τ) : ∃ τ, τ.2.2.2 = 147 ∧ zRuns 143 18 [(3, vi k), (2, vr 137), (1, vr 1), (0, vr 1000)] [] (I, zPp π, D, 147) (some (vi 1)) τ := by
  obtain ⟨res, I1, π1, D1, I2, D2, g1, g2, s2⟩ := op_bumped (D := D) s (I 1000 (k + 1)) (I 1000 (k + 2))
  have e1 : ∀ j, I1 1000 j = I 1000 j := zRuns_1000 g1 (by decide)
  have e2 : ∀ j, I2 1000 j = I 1000 j := fun j => (zRuns_1000 g2 (by decide) j).trans (e1 j)
  obtain ⟨τ, hτ, hrun⟩ := hk I2 π1 D2 s2 e2
  refine ⟨τ, hτ, ?_⟩
  refine z_n 1 (19, [(3, vi k), (2, vr 137), (1, vr 1), (0, vr 1000)], [vi k], (I, zPp π, D, 147)) rfl trivial ?_
  refine z_n 1 (20, [(3, vi k), (2, vr 137), (1, vr 1), (0, vr 1000)], [vr 1000, vi k], (I, zPp π, D, 147)) rfl trivial ?_
  refine z_n 1 (21, [(3, vi k), (2, vr 137), (1, vr 1), (0, vr 1000)], [vi (I 1000 (-1)), vi k], (I, zPp π, D, 147)) rfl trivial ?_
  refine z_n 1 (22, [(3, vi k), (2, vr 137), (1, vr 1), (0, vr 1000)], [vi 4, vi (I 1000 (-1)), vi k], (I, zPp π, D, 147)) rfl trivial ?_
  refine z_n 1 (23, [(3, vi k), (2, vr 137), (1, vr 1), (0, vr 1000)], [vi ((I 1000 (-1)) - 4), vi k], (I, zPp π, D, 147)) (G := (zr ((I 1000 (-1)) - 4)) ∧ True) rfl ⟨by omega, trivial⟩ ?_
  refine z_br (((I 1000 (-1)) - 4) < k) 762 26 [] rfl (fun h => absurd h (show ¬ (((I 1000 (-1)) - 4) < k) from by omega)) (fun hx1 => ?_)
  refine z_n 1 (27, [(3, vi k), (2, vr 137), (1, vr 1), (0, vr 1000)], [vr 1000], (I, zPp π, D, 147)) rfl trivial ?_
  refine z_n 1 (28, [(3, vi k), (2, vr 137), (1, vr 1), (0, vr 1000)], [vi k, vr 1000], (I, zPp π, D, 147)) rfl trivial ?_
  refine z_n 1 (29, [(3, vi k), (2, vr 137), (1, vr 1), (0, vr 1000)], [vi (I 1000 k)], (I, zPp π, D, 147)) (G := (0 ≤ k ∧ k < (I 1000 (-1))) ∧ True) rfl ⟨by omega, trivial⟩ ?_
  refine z_n 1 (31, [(3, vi k), (2, vr 137), (1, vr 1), (0, vr 1000)], [vi 31, vi (I 1000 k)], (I, zPp π, D, 147)) rfl trivial ?_
  refine z_n 1 (32, [(3, vi k), (2, vr 137), (1, vr 1), (0, vr 1000)], [vi ((Int32.ofInt (I 1000 k) &&& Int32.ofInt 31).toInt)], (I, zPp π, D, 147)) rfl trivial ?_
  refine z_top (b := 9) (hv) ?_
  refine z_n 1 (421, [(3, vi k), (2, vr 137), (1, vr 1), (0, vr 1000)], [], (I, zPp π, D, 147)) rfl trivial ?_
  refine z_n 1 (422, [(3, vi k), (2, vr 137), (1, vr 1), (0, vr 1000)], [vr 1], (I, zPp π, D, 147)) rfl trivial ?_
  refine z_n 1 (423, [(3, vi k), (2, vr 137), (1, vr 1), (0, vr 1000)], [vr 1000, vr 1], (I, zPp π, D, 147)) rfl trivial ?_
  refine z_n 1 (424, [(3, vi k), (2, vr 137), (1, vr 1), (0, vr 1000)], [vi k, vr 1000, vr 1], (I, zPp π, D, 147)) rfl trivial ?_
  refine z_n 1 (425, [(3, vi k), (2, vr 137), (1, vr 1), (0, vr 1000)], [vi 1, vi k, vr 1000, vr 1], (I, zPp π, D, 147)) rfl trivial ?_
  refine z_n 1 (426, [(3, vi k), (2, vr 137), (1, vr 1), (0, vr 1000)], [vi (k + 1), vr 1000, vr 1], (I, zPp π, D, 147)) (G := (zr (k + 1)) ∧ True) rfl ⟨by omega, trivial⟩ ?_
  refine z_n 1 (427, [(3, vi k), (2, vr 137), (1, vr 1), (0, vr 1000)], [vi (I 1000 (k + 1)), vr 1], (I, zPp π, D, 147)) (G := (0 ≤ (k + 1) ∧ (k + 1) < (I 1000 (-1))) ∧ True) rfl ⟨by omega, trivial⟩ ?_
  refine z_n 1 (428, [(3, vi k), (2, vr 137), (1, vr 1), (0, vr 1000)], [vr 1000, vi (I 1000 (k + 1)), vr 1], (I, zPp π, D, 147)) rfl trivial ?_
  refine z_n 1 (429, [(3, vi k), (2, vr 137), (1, vr 1), (0, vr 1000)], [vi k, vr 1000, vi (I 1000 (k + 1)), vr 1], (I, zPp π, D, 147)) rfl trivial ?_
  refine z_n 1 (430, [(3, vi k), (2, vr 137), (1, vr 1), (0, vr 1000)], [vi 2, vi k, vr 1000, vi (I 1000 (k + 1)), vr 1], (I, zPp π, D, 147)) rfl trivial ?_
  refine z_n 1 (431, [(3, vi k), (2, vr 137), (1, vr 1), (0, vr 1000)], [vi (k + 2), vr 1000, vi (I 1000 (k + 1)), vr 1], (I, zPp π, D, 147)) (G := (zr (k + 2)) ∧ True) rfl ⟨by omega, trivial⟩ ?_
  refine z_n 1 (432, [(3, vi k), (2, vr 137), (1, vr 1), (0, vr 1000)], [vi (I 1000 (k + 2)), vi (I 1000 (k + 1)), vr 1], (I, zPp π, D, 147)) (G := (0 ≤ (k + 2) ∧ (k + 2) < (I 1000 (-1))) ∧ True) rfl ⟨by omega, trivial⟩ ?_
  refine z_ci 76 [vr 1, vi (I 1000 (k + 1)), vi (I 1000 (k + 2))] [] rfl (g1) ?_
  refine z_n 1 (436, [(3, vi k), (2, vr 137), (1, vr 1), (0, vr 1000)], [vr 137, vi res], (I1, zPp π1, D1, 147)) rfl trivial ?_
  refine z_n 1 (437, [(3, vi k), (2, vr 137), (1, vr 1), (0, vr 1000)], [vr 1000, vr 137, vi res], (I1, zPp π1, D1, 147)) rfl trivial ?_
  refine z_n 1 (438, [(3, vi k), (2, vr 137), (1, vr 1), (0, vr 1000)], [vi k, vr 1000, vr 137, vi res], (I1, zPp π1, D1, 147)) rfl trivial ?_
  refine z_n 1 (439, [(3, vi k), (2, vr 137), (1, vr 1), (0, vr 1000)], [vi 1, vi k, vr 1000, vr 137, vi res], (I1, zPp π1, D1, 147)) rfl trivial ?_
  refine z_n 1 (440, [(3, vi k), (2, vr 137), (1, vr 1), (0, vr 1000)], [vi (k + 1), vr 1000, vr 137, vi res], (I1, zPp π1, D1, 147)) (G := (zr (k + 1)) ∧ True) rfl ⟨by omega, trivial⟩ ?_
  refine z_n 1 (441, [(3, vi k), (2, vr 137), (1, vr 1), (0, vr 1000)], [vi (I1 1000 (k + 1)), vr 137, vi res], (I1, zPp π1, D1, 147)) (G := (0 ≤ (k + 1) ∧ (k + 1) < (I1 1000 (-1))) ∧ True) rfl ⟨by rw [e1]; omega, trivial⟩ ?_
  refine z_top (b := I 1000 (k + 1)) (e1 _) ?_
  refine z_n 1 (442, [(3, vi k), (2, vr 137), (1, vr 1), (0, vr 1000)], [vr 1000, vi (I 1000 (k + 1)), vr 137, vi res], (I1, zPp π1, D1, 147)) rfl trivial ?_
  refine z_n 1 (443, [(3, vi k), (2, vr 137), (1, vr 1), (0, vr 1000)], [vi k, vr 1000, vi (I 1000 (k + 1)), vr 137, vi res], (I1, zPp π1, D1, 147)) rfl trivial ?_
  refine z_n 1 (444, [(3, vi k), (2, vr 137), (1, vr 1), (0, vr 1000)], [vi 2, vi k, vr 1000, vi (I 1000 (k + 1)), vr 137, vi res], (I1, zPp π1, D1, 147)) rfl trivial ?_
  refine z_n 1 (445, [(3, vi k), (2, vr 137), (1, vr 1), (0, vr 1000)], [vi (k + 2), vr 1000, vi (I 1000 (k + 1)), vr 137, vi res], (I1, zPp π1, D1, 147)) (G := (zr (k + 2)) ∧ True) rfl ⟨by omega, trivial⟩ ?_
  refine z_n 1 (446, [(3, vi k), (2, vr 137), (1, vr 1), (0, vr 1000)], [vi (I1 1000 (k + 2)), vi (I 1000 (k + 1)), vr 137, vi res], (I1, zPp π1, D1, 147)) (G := (0 ≤ (k + 2) ∧ (k + 2) < (I1 1000 (-1))) ∧ True) rfl ⟨by rw [e1]; omega, trivial⟩ ?_
  refine z_top (b := I 1000 (k + 2)) (e1 _) ?_
  refine z_ci 117 [vr 137, vi (I 1000 (k + 1)), vi (I 1000 (k + 2))] [vi res] rfl (g2) ?_
  refine z_br (res = res) 756 452 [] rfl (fun hx2 => ?_) (fun h => absurd (show res = res from rfl) h)
  refine z_n 1 (759, [(3, vi (k + 4)), (2, vr 137), (1, vr 1), (0, vr 1000)], [], (I2, zPp π1, D2, 147)) (G := (zr (k + 4)) ∧ True) rfl ⟨by omega, trivial⟩ ?_
  refine z_n 1 (18, [(3, vi (k + 4)), (2, vr 137), (1, vr 1), (0, vr 1000)], [], (I2, zPp π1, D2, 147)) rfl trivial ?_
  refine z_sub [(3, vi (k + 4)), (2, vr 137), (1, vr 1), (0, vr 1000)] [0, 1, 2, 3] rfl ?_
  exact hrun
set_option maxHeartbeats 4000000 in
set_option maxRecDepth 20000 in
theorem law_10 {I : zI} {π : Int → Nat} {D : zD} {k L : Int} (s : zSim I π) (hL : I 1000 (-1) = L) (hL2 : L ≤ 2048) (h0 : 0 ≤ k) (h1 : k ≤ L - 4) (hv : (Int32.ofInt (I 1000 k) &&& Int32.ofInt 31).toInt = 10) (hk : ∀ I2 π2 D2, zSim I2 π2 → (∀ j, I2 1000 j = I 1000 j) → ∃ τ, τ.2.2.2 = 147 ∧ zRuns 143 18 [(3, vi (k + 4)), (2, vr 137), (1, vr 1), (0, vr 1000)] [] (I2, zPp π2, D2, 147) (some (vi 1)) τ) : ∃ τ, τ.2.2.2 = 147 ∧ zRuns 143 18 [(3, vi k), (2, vr 137), (1, vr 1), (0, vr 1000)] [] (I, zPp π, D, 147) (some (vi 1)) τ := by
  obtain ⟨res, I1, π1, D1, I2, D2, g1, g2, s2⟩ := op_rerow (D := D) s (I 1000 (k + 1))
  have e1 : ∀ j, I1 1000 j = I 1000 j := zRuns_1000 g1 (by decide)
  have e2 : ∀ j, I2 1000 j = I 1000 j := fun j => (zRuns_1000 g2 (by decide) j).trans (e1 j)
  obtain ⟨τ, hτ, hrun⟩ := hk I2 π1 D2 s2 e2
  refine ⟨τ, hτ, ?_⟩
  refine z_n 1 (19, [(3, vi k), (2, vr 137), (1, vr 1), (0, vr 1000)], [vi k], (I, zPp π, D, 147)) rfl trivial ?_
  refine z_n 1 (20, [(3, vi k), (2, vr 137), (1, vr 1), (0, vr 1000)], [vr 1000, vi k], (I, zPp π, D, 147)) rfl trivial ?_
  refine z_n 1 (21, [(3, vi k), (2, vr 137), (1, vr 1), (0, vr 1000)], [vi (I 1000 (-1)), vi k], (I, zPp π, D, 147)) rfl trivial ?_
  refine z_n 1 (22, [(3, vi k), (2, vr 137), (1, vr 1), (0, vr 1000)], [vi 4, vi (I 1000 (-1)), vi k], (I, zPp π, D, 147)) rfl trivial ?_
  refine z_n 1 (23, [(3, vi k), (2, vr 137), (1, vr 1), (0, vr 1000)], [vi ((I 1000 (-1)) - 4), vi k], (I, zPp π, D, 147)) (G := (zr ((I 1000 (-1)) - 4)) ∧ True) rfl ⟨by omega, trivial⟩ ?_
  refine z_br (((I 1000 (-1)) - 4) < k) 762 26 [] rfl (fun h => absurd h (show ¬ (((I 1000 (-1)) - 4) < k) from by omega)) (fun hx1 => ?_)
  refine z_n 1 (27, [(3, vi k), (2, vr 137), (1, vr 1), (0, vr 1000)], [vr 1000], (I, zPp π, D, 147)) rfl trivial ?_
  refine z_n 1 (28, [(3, vi k), (2, vr 137), (1, vr 1), (0, vr 1000)], [vi k, vr 1000], (I, zPp π, D, 147)) rfl trivial ?_
  refine z_n 1 (29, [(3, vi k), (2, vr 137), (1, vr 1), (0, vr 1000)], [vi (I 1000 k)], (I, zPp π, D, 147)) (G := (0 ≤ k ∧ k < (I 1000 (-1))) ∧ True) rfl ⟨by omega, trivial⟩ ?_
  refine z_n 1 (31, [(3, vi k), (2, vr 137), (1, vr 1), (0, vr 1000)], [vi 31, vi (I 1000 k)], (I, zPp π, D, 147)) rfl trivial ?_
  refine z_n 1 (32, [(3, vi k), (2, vr 137), (1, vr 1), (0, vr 1000)], [vi ((Int32.ofInt (I 1000 k) &&& Int32.ofInt 31).toInt)], (I, zPp π, D, 147)) rfl trivial ?_
  refine z_top (b := 10) (hv) ?_
  refine z_n 1 (454, [(3, vi k), (2, vr 137), (1, vr 1), (0, vr 1000)], [], (I, zPp π, D, 147)) rfl trivial ?_
  refine z_n 1 (455, [(3, vi k), (2, vr 137), (1, vr 1), (0, vr 1000)], [vr 1], (I, zPp π, D, 147)) rfl trivial ?_
  refine z_n 1 (456, [(3, vi k), (2, vr 137), (1, vr 1), (0, vr 1000)], [vr 1000, vr 1], (I, zPp π, D, 147)) rfl trivial ?_
  refine z_n 1 (457, [(3, vi k), (2, vr 137), (1, vr 1), (0, vr 1000)], [vi k, vr 1000, vr 1], (I, zPp π, D, 147)) rfl trivial ?_
  refine z_n 1 (458, [(3, vi k), (2, vr 137), (1, vr 1), (0, vr 1000)], [vi 1, vi k, vr 1000, vr 1], (I, zPp π, D, 147)) rfl trivial ?_
  refine z_n 1 (459, [(3, vi k), (2, vr 137), (1, vr 1), (0, vr 1000)], [vi (k + 1), vr 1000, vr 1], (I, zPp π, D, 147)) (G := (zr (k + 1)) ∧ True) rfl ⟨by omega, trivial⟩ ?_
  refine z_n 1 (460, [(3, vi k), (2, vr 137), (1, vr 1), (0, vr 1000)], [vi (I 1000 (k + 1)), vr 1], (I, zPp π, D, 147)) (G := (0 ≤ (k + 1) ∧ (k + 1) < (I 1000 (-1))) ∧ True) rfl ⟨by omega, trivial⟩ ?_
  refine z_ci 77 [vr 1, vi (I 1000 (k + 1))] [] rfl (g1) ?_
  refine z_n 1 (464, [(3, vi k), (2, vr 137), (1, vr 1), (0, vr 1000)], [vr 137, vi res], (I1, zPp π1, D1, 147)) rfl trivial ?_
  refine z_n 1 (465, [(3, vi k), (2, vr 137), (1, vr 1), (0, vr 1000)], [vr 1000, vr 137, vi res], (I1, zPp π1, D1, 147)) rfl trivial ?_
  refine z_n 1 (466, [(3, vi k), (2, vr 137), (1, vr 1), (0, vr 1000)], [vi k, vr 1000, vr 137, vi res], (I1, zPp π1, D1, 147)) rfl trivial ?_
  refine z_n 1 (467, [(3, vi k), (2, vr 137), (1, vr 1), (0, vr 1000)], [vi 1, vi k, vr 1000, vr 137, vi res], (I1, zPp π1, D1, 147)) rfl trivial ?_
  refine z_n 1 (468, [(3, vi k), (2, vr 137), (1, vr 1), (0, vr 1000)], [vi (k + 1), vr 1000, vr 137, vi res], (I1, zPp π1, D1, 147)) (G := (zr (k + 1)) ∧ True) rfl ⟨by omega, trivial⟩ ?_
  refine z_n 1 (469, [(3, vi k), (2, vr 137), (1, vr 1), (0, vr 1000)], [vi (I1 1000 (k + 1)), vr 137, vi res], (I1, zPp π1, D1, 147)) (G := (0 ≤ (k + 1) ∧ (k + 1) < (I1 1000 (-1))) ∧ True) rfl ⟨by rw [e1]; omega, trivial⟩ ?_
  refine z_top (b := I 1000 (k + 1)) (e1 _) ?_
  refine z_ci 119 [vr 137, vi (I 1000 (k + 1))] [vi res] rfl (g2) ?_
  refine z_br (res = res) 756 475 [] rfl (fun hx2 => ?_) (fun h => absurd (show res = res from rfl) h)
  refine z_n 1 (759, [(3, vi (k + 4)), (2, vr 137), (1, vr 1), (0, vr 1000)], [], (I2, zPp π1, D2, 147)) (G := (zr (k + 4)) ∧ True) rfl ⟨by omega, trivial⟩ ?_
  refine z_n 1 (18, [(3, vi (k + 4)), (2, vr 137), (1, vr 1), (0, vr 1000)], [], (I2, zPp π1, D2, 147)) rfl trivial ?_
  refine z_sub [(3, vi (k + 4)), (2, vr 137), (1, vr 1), (0, vr 1000)] [0, 1, 2, 3] rfl ?_
  exact hrun
set_option maxHeartbeats 4000000 in
set_option maxRecDepth 20000 in
theorem law_11 {I : zI} {π : Int → Nat} {D : zD} {k L : Int} (s : zSim I π) (hL : I 1000 (-1) = L) (hL2 : L ≤ 2048) (h0 : 0 ≤ k) (h1 : k ≤ L - 4) (hv : (Int32.ofInt (I 1000 k) &&& Int32.ofInt 31).toInt = 11) (hk : ∀ I2 π2 D2, zSim I2 π2 → (∀ j, I2 1000 j = I 1000 j) → ∃ τ, τ.2.2.2 = 147 ∧ zRuns 143 18 [(3, vi (k + 4)), (2, vr 137), (1, vr 1), (0, vr 1000)] [] (I2, zPp π2, D2, 147) (some (vi 1)) τ) : ∃ τ, τ.2.2.2 = 147 ∧ zRuns 143 18 [(3, vi k), (2, vr 137), (1, vr 1), (0, vr 1000)] [] (I, zPp π, D, 147) (some (vi 1)) τ := by
  obtain ⟨res, I1, π1, D1, I2, D2, g1, g2, s2⟩ := op_finish (D := D) s
  have e1 : ∀ j, I1 1000 j = I 1000 j := zRuns_1000 g1 (by decide)
  have e2 : ∀ j, I2 1000 j = I 1000 j := fun j => (zRuns_1000 g2 (by decide) j).trans (e1 j)
  obtain ⟨τ, hτ, hrun⟩ := hk I2 π1 D2 s2 e2
  refine ⟨τ, hτ, ?_⟩
  refine z_n 1 (19, [(3, vi k), (2, vr 137), (1, vr 1), (0, vr 1000)], [vi k], (I, zPp π, D, 147)) rfl trivial ?_
  refine z_n 1 (20, [(3, vi k), (2, vr 137), (1, vr 1), (0, vr 1000)], [vr 1000, vi k], (I, zPp π, D, 147)) rfl trivial ?_
  refine z_n 1 (21, [(3, vi k), (2, vr 137), (1, vr 1), (0, vr 1000)], [vi (I 1000 (-1)), vi k], (I, zPp π, D, 147)) rfl trivial ?_
  refine z_n 1 (22, [(3, vi k), (2, vr 137), (1, vr 1), (0, vr 1000)], [vi 4, vi (I 1000 (-1)), vi k], (I, zPp π, D, 147)) rfl trivial ?_
  refine z_n 1 (23, [(3, vi k), (2, vr 137), (1, vr 1), (0, vr 1000)], [vi ((I 1000 (-1)) - 4), vi k], (I, zPp π, D, 147)) (G := (zr ((I 1000 (-1)) - 4)) ∧ True) rfl ⟨by omega, trivial⟩ ?_
  refine z_br (((I 1000 (-1)) - 4) < k) 762 26 [] rfl (fun h => absurd h (show ¬ (((I 1000 (-1)) - 4) < k) from by omega)) (fun hx1 => ?_)
  refine z_n 1 (27, [(3, vi k), (2, vr 137), (1, vr 1), (0, vr 1000)], [vr 1000], (I, zPp π, D, 147)) rfl trivial ?_
  refine z_n 1 (28, [(3, vi k), (2, vr 137), (1, vr 1), (0, vr 1000)], [vi k, vr 1000], (I, zPp π, D, 147)) rfl trivial ?_
  refine z_n 1 (29, [(3, vi k), (2, vr 137), (1, vr 1), (0, vr 1000)], [vi (I 1000 k)], (I, zPp π, D, 147)) (G := (0 ≤ k ∧ k < (I 1000 (-1))) ∧ True) rfl ⟨by omega, trivial⟩ ?_
  refine z_n 1 (31, [(3, vi k), (2, vr 137), (1, vr 1), (0, vr 1000)], [vi 31, vi (I 1000 k)], (I, zPp π, D, 147)) rfl trivial ?_
  refine z_n 1 (32, [(3, vi k), (2, vr 137), (1, vr 1), (0, vr 1000)], [vi ((Int32.ofInt (I 1000 k) &&& Int32.ofInt 31).toInt)], (I, zPp π, D, 147)) rfl trivial ?_
  refine z_top (b := 11) (hv) ?_
  refine z_n 1 (477, [(3, vi k), (2, vr 137), (1, vr 1), (0, vr 1000)], [], (I, zPp π, D, 147)) rfl trivial ?_
  refine z_n 1 (478, [(3, vi k), (2, vr 137), (1, vr 1), (0, vr 1000)], [vr 1], (I, zPp π, D, 147)) rfl trivial ?_
  refine z_ci 78 [vr 1] [] rfl (g1) ?_
  refine z_n 1 (482, [(3, vi k), (2, vr 137), (1, vr 1), (0, vr 1000)], [vr 137, vi res], (I1, zPp π1, D1, 147)) rfl trivial ?_
  refine z_ci 120 [vr 137] [vi res] rfl (g2) ?_
  refine z_br (res = res) 756 488 [] rfl (fun hx2 => ?_) (fun h => absurd (show res = res from rfl) h)
  refine z_n 1 (759, [(3, vi (k + 4)), (2, vr 137), (1, vr 1), (0, vr 1000)], [], (I2, zPp π1, D2, 147)) (G := (zr (k + 4)) ∧ True) rfl ⟨by omega, trivial⟩ ?_
  refine z_n 1 (18, [(3, vi (k + 4)), (2, vr 137), (1, vr 1), (0, vr 1000)], [], (I2, zPp π1, D2, 147)) rfl trivial ?_
  refine z_sub [(3, vi (k + 4)), (2, vr 137), (1, vr 1), (0, vr 1000)] [0, 1, 2, 3] rfl ?_
  exact hrun
set_option maxHeartbeats 4000000 in
set_option maxRecDepth 20000 in
theorem law_12 {I : zI} {π : Int → Nat} {D : zD} {k L : Int} (s : zSim I π) (hL : I 1000 (-1) = L) (hL2 : L ≤ 2048) (h0 : 0 ≤ k) (h1 : k ≤ L - 4) (hv : (Int32.ofInt (I 1000 k) &&& Int32.ofInt 31).toInt = 12) (hk : ∀ I2 π2 D2, zSim I2 π2 → (∀ j, I2 1000 j = I 1000 j) → ∃ τ, τ.2.2.2 = 147 ∧ zRuns 143 18 [(3, vi (k + 4)), (2, vr 137), (1, vr 1), (0, vr 1000)] [] (I2, zPp π2, D2, 147) (some (vi 1)) τ) : ∃ τ, τ.2.2.2 = 147 ∧ zRuns 143 18 [(3, vi k), (2, vr 137), (1, vr 1), (0, vr 1000)] [] (I, zPp π, D, 147) (some (vi 1)) τ := by
  obtain ⟨res, I1, π1, D1, I2, D2, g1, g2, s2⟩ := op_undo (D := D) s
  have e1 : ∀ j, I1 1000 j = I 1000 j := zRuns_1000 g1 (by decide)
  have e2 : ∀ j, I2 1000 j = I 1000 j := fun j => (zRuns_1000 g2 (by decide) j).trans (e1 j)
  obtain ⟨τ, hτ, hrun⟩ := hk I2 π1 D2 s2 e2
  refine ⟨τ, hτ, ?_⟩
  refine z_n 1 (19, [(3, vi k), (2, vr 137), (1, vr 1), (0, vr 1000)], [vi k], (I, zPp π, D, 147)) rfl trivial ?_
  refine z_n 1 (20, [(3, vi k), (2, vr 137), (1, vr 1), (0, vr 1000)], [vr 1000, vi k], (I, zPp π, D, 147)) rfl trivial ?_
  refine z_n 1 (21, [(3, vi k), (2, vr 137), (1, vr 1), (0, vr 1000)], [vi (I 1000 (-1)), vi k], (I, zPp π, D, 147)) rfl trivial ?_
  refine z_n 1 (22, [(3, vi k), (2, vr 137), (1, vr 1), (0, vr 1000)], [vi 4, vi (I 1000 (-1)), vi k], (I, zPp π, D, 147)) rfl trivial ?_
  refine z_n 1 (23, [(3, vi k), (2, vr 137), (1, vr 1), (0, vr 1000)], [vi ((I 1000 (-1)) - 4), vi k], (I, zPp π, D, 147)) (G := (zr ((I 1000 (-1)) - 4)) ∧ True) rfl ⟨by omega, trivial⟩ ?_
  refine z_br (((I 1000 (-1)) - 4) < k) 762 26 [] rfl (fun h => absurd h (show ¬ (((I 1000 (-1)) - 4) < k) from by omega)) (fun hx1 => ?_)
  refine z_n 1 (27, [(3, vi k), (2, vr 137), (1, vr 1), (0, vr 1000)], [vr 1000], (I, zPp π, D, 147)) rfl trivial ?_
  refine z_n 1 (28, [(3, vi k), (2, vr 137), (1, vr 1), (0, vr 1000)], [vi k, vr 1000], (I, zPp π, D, 147)) rfl trivial ?_
  refine z_n 1 (29, [(3, vi k), (2, vr 137), (1, vr 1), (0, vr 1000)], [vi (I 1000 k)], (I, zPp π, D, 147)) (G := (0 ≤ k ∧ k < (I 1000 (-1))) ∧ True) rfl ⟨by omega, trivial⟩ ?_
  refine z_n 1 (31, [(3, vi k), (2, vr 137), (1, vr 1), (0, vr 1000)], [vi 31, vi (I 1000 k)], (I, zPp π, D, 147)) rfl trivial ?_
  refine z_n 1 (32, [(3, vi k), (2, vr 137), (1, vr 1), (0, vr 1000)], [vi ((Int32.ofInt (I 1000 k) &&& Int32.ofInt 31).toInt)], (I, zPp π, D, 147)) rfl trivial ?_
  refine z_top (b := 12) (hv) ?_
  refine z_n 1 (490, [(3, vi k), (2, vr 137), (1, vr 1), (0, vr 1000)], [], (I, zPp π, D, 147)) rfl trivial ?_
  refine z_n 1 (491, [(3, vi k), (2, vr 137), (1, vr 1), (0, vr 1000)], [vr 1], (I, zPp π, D, 147)) rfl trivial ?_
  refine z_ci 79 [vr 1] [] rfl (g1) ?_
  refine z_n 1 (495, [(3, vi k), (2, vr 137), (1, vr 1), (0, vr 1000)], [vr 137, vi res], (I1, zPp π1, D1, 147)) rfl trivial ?_
  refine z_ci 121 [vr 137] [vi res] rfl (g2) ?_
  refine z_br (res = res) 756 501 [] rfl (fun hx2 => ?_) (fun h => absurd (show res = res from rfl) h)
  refine z_n 1 (759, [(3, vi (k + 4)), (2, vr 137), (1, vr 1), (0, vr 1000)], [], (I2, zPp π1, D2, 147)) (G := (zr (k + 4)) ∧ True) rfl ⟨by omega, trivial⟩ ?_
  refine z_n 1 (18, [(3, vi (k + 4)), (2, vr 137), (1, vr 1), (0, vr 1000)], [], (I2, zPp π1, D2, 147)) rfl trivial ?_
  refine z_sub [(3, vi (k + 4)), (2, vr 137), (1, vr 1), (0, vr 1000)] [0, 1, 2, 3] rfl ?_
  exact hrun
set_option maxHeartbeats 4000000 in
set_option maxRecDepth 20000 in
theorem law_13 {I : zI} {π : Int → Nat} {D : zD} {k L : Int} (s : zSim I π) (hL : I 1000 (-1) = L) (hL2 : L ≤ 2048) (h0 : 0 ≤ k) (h1 : k ≤ L - 4) (hv : (Int32.ofInt (I 1000 k) &&& Int32.ofInt 31).toInt = 13) (hk : ∀ I2 π2 D2, zSim I2 π2 → (∀ j, I2 1000 j = I 1000 j) → ∃ τ, τ.2.2.2 = 147 ∧ zRuns 143 18 [(3, vi (k + 4)), (2, vr 137), (1, vr 1), (0, vr 1000)] [] (I2, zPp π2, D2, 147) (some (vi 1)) τ) : ∃ τ, τ.2.2.2 = 147 ∧ zRuns 143 18 [(3, vi k), (2, vr 137), (1, vr 1), (0, vr 1000)] [] (I, zPp π, D, 147) (some (vi 1)) τ := by
  obtain ⟨res, I1, π1, D1, I2, D2, g1, g2, s2⟩ := op_foretold (D := D) s (I 1000 (k + 1)) (I 1000 (k + 2))
  have e1 : ∀ j, I1 1000 j = I 1000 j := zRuns_1000 g1 (by decide)
  have e2 : ∀ j, I2 1000 j = I 1000 j := fun j => (zRuns_1000 g2 (by decide) j).trans (e1 j)
  obtain ⟨τ, hτ, hrun⟩ := hk I2 π1 D2 s2 e2
  refine ⟨τ, hτ, ?_⟩
  refine z_n 1 (19, [(3, vi k), (2, vr 137), (1, vr 1), (0, vr 1000)], [vi k], (I, zPp π, D, 147)) rfl trivial ?_
  refine z_n 1 (20, [(3, vi k), (2, vr 137), (1, vr 1), (0, vr 1000)], [vr 1000, vi k], (I, zPp π, D, 147)) rfl trivial ?_
  refine z_n 1 (21, [(3, vi k), (2, vr 137), (1, vr 1), (0, vr 1000)], [vi (I 1000 (-1)), vi k], (I, zPp π, D, 147)) rfl trivial ?_
  refine z_n 1 (22, [(3, vi k), (2, vr 137), (1, vr 1), (0, vr 1000)], [vi 4, vi (I 1000 (-1)), vi k], (I, zPp π, D, 147)) rfl trivial ?_
  refine z_n 1 (23, [(3, vi k), (2, vr 137), (1, vr 1), (0, vr 1000)], [vi ((I 1000 (-1)) - 4), vi k], (I, zPp π, D, 147)) (G := (zr ((I 1000 (-1)) - 4)) ∧ True) rfl ⟨by omega, trivial⟩ ?_
  refine z_br (((I 1000 (-1)) - 4) < k) 762 26 [] rfl (fun h => absurd h (show ¬ (((I 1000 (-1)) - 4) < k) from by omega)) (fun hx1 => ?_)
  refine z_n 1 (27, [(3, vi k), (2, vr 137), (1, vr 1), (0, vr 1000)], [vr 1000], (I, zPp π, D, 147)) rfl trivial ?_
  refine z_n 1 (28, [(3, vi k), (2, vr 137), (1, vr 1), (0, vr 1000)], [vi k, vr 1000], (I, zPp π, D, 147)) rfl trivial ?_
  refine z_n 1 (29, [(3, vi k), (2, vr 137), (1, vr 1), (0, vr 1000)], [vi (I 1000 k)], (I, zPp π, D, 147)) (G := (0 ≤ k ∧ k < (I 1000 (-1))) ∧ True) rfl ⟨by omega, trivial⟩ ?_
  refine z_n 1 (31, [(3, vi k), (2, vr 137), (1, vr 1), (0, vr 1000)], [vi 31, vi (I 1000 k)], (I, zPp π, D, 147)) rfl trivial ?_
  refine z_n 1 (32, [(3, vi k), (2, vr 137), (1, vr 1), (0, vr 1000)], [vi ((Int32.ofInt (I 1000 k) &&& Int32.ofInt 31).toInt)], (I, zPp π, D, 147)) rfl trivial ?_
  refine z_top (b := 13) (hv) ?_
  refine z_n 1 (503, [(3, vi k), (2, vr 137), (1, vr 1), (0, vr 1000)], [], (I, zPp π, D, 147)) rfl trivial ?_
  refine z_n 1 (504, [(3, vi k), (2, vr 137), (1, vr 1), (0, vr 1000)], [vr 1], (I, zPp π, D, 147)) rfl trivial ?_
  refine z_n 1 (505, [(3, vi k), (2, vr 137), (1, vr 1), (0, vr 1000)], [vr 1000, vr 1], (I, zPp π, D, 147)) rfl trivial ?_
  refine z_n 1 (506, [(3, vi k), (2, vr 137), (1, vr 1), (0, vr 1000)], [vi k, vr 1000, vr 1], (I, zPp π, D, 147)) rfl trivial ?_
  refine z_n 1 (507, [(3, vi k), (2, vr 137), (1, vr 1), (0, vr 1000)], [vi 1, vi k, vr 1000, vr 1], (I, zPp π, D, 147)) rfl trivial ?_
  refine z_n 1 (508, [(3, vi k), (2, vr 137), (1, vr 1), (0, vr 1000)], [vi (k + 1), vr 1000, vr 1], (I, zPp π, D, 147)) (G := (zr (k + 1)) ∧ True) rfl ⟨by omega, trivial⟩ ?_
  refine z_n 1 (509, [(3, vi k), (2, vr 137), (1, vr 1), (0, vr 1000)], [vi (I 1000 (k + 1)), vr 1], (I, zPp π, D, 147)) (G := (0 ≤ (k + 1) ∧ (k + 1) < (I 1000 (-1))) ∧ True) rfl ⟨by omega, trivial⟩ ?_
  refine z_n 1 (510, [(3, vi k), (2, vr 137), (1, vr 1), (0, vr 1000)], [vr 1000, vi (I 1000 (k + 1)), vr 1], (I, zPp π, D, 147)) rfl trivial ?_
  refine z_n 1 (511, [(3, vi k), (2, vr 137), (1, vr 1), (0, vr 1000)], [vi k, vr 1000, vi (I 1000 (k + 1)), vr 1], (I, zPp π, D, 147)) rfl trivial ?_
  refine z_n 1 (512, [(3, vi k), (2, vr 137), (1, vr 1), (0, vr 1000)], [vi 2, vi k, vr 1000, vi (I 1000 (k + 1)), vr 1], (I, zPp π, D, 147)) rfl trivial ?_
  refine z_n 1 (513, [(3, vi k), (2, vr 137), (1, vr 1), (0, vr 1000)], [vi (k + 2), vr 1000, vi (I 1000 (k + 1)), vr 1], (I, zPp π, D, 147)) (G := (zr (k + 2)) ∧ True) rfl ⟨by omega, trivial⟩ ?_
  refine z_n 1 (514, [(3, vi k), (2, vr 137), (1, vr 1), (0, vr 1000)], [vi (I 1000 (k + 2)), vi (I 1000 (k + 1)), vr 1], (I, zPp π, D, 147)) (G := (0 ≤ (k + 2) ∧ (k + 2) < (I 1000 (-1))) ∧ True) rfl ⟨by omega, trivial⟩ ?_
  refine z_ci 80 [vr 1, vi (I 1000 (k + 1)), vi (I 1000 (k + 2))] [] rfl (g1) ?_
  refine z_n 1 (518, [(3, vi k), (2, vr 137), (1, vr 1), (0, vr 1000)], [vr 137, vi res], (I1, zPp π1, D1, 147)) rfl trivial ?_
  refine z_n 1 (519, [(3, vi k), (2, vr 137), (1, vr 1), (0, vr 1000)], [vr 1000, vr 137, vi res], (I1, zPp π1, D1, 147)) rfl trivial ?_
  refine z_n 1 (520, [(3, vi k), (2, vr 137), (1, vr 1), (0, vr 1000)], [vi k, vr 1000, vr 137, vi res], (I1, zPp π1, D1, 147)) rfl trivial ?_
  refine z_n 1 (521, [(3, vi k), (2, vr 137), (1, vr 1), (0, vr 1000)], [vi 1, vi k, vr 1000, vr 137, vi res], (I1, zPp π1, D1, 147)) rfl trivial ?_
  refine z_n 1 (522, [(3, vi k), (2, vr 137), (1, vr 1), (0, vr 1000)], [vi (k + 1), vr 1000, vr 137, vi res], (I1, zPp π1, D1, 147)) (G := (zr (k + 1)) ∧ True) rfl ⟨by omega, trivial⟩ ?_
  refine z_n 1 (523, [(3, vi k), (2, vr 137), (1, vr 1), (0, vr 1000)], [vi (I1 1000 (k + 1)), vr 137, vi res], (I1, zPp π1, D1, 147)) (G := (0 ≤ (k + 1) ∧ (k + 1) < (I1 1000 (-1))) ∧ True) rfl ⟨by rw [e1]; omega, trivial⟩ ?_
  refine z_top (b := I 1000 (k + 1)) (e1 _) ?_
  refine z_n 1 (524, [(3, vi k), (2, vr 137), (1, vr 1), (0, vr 1000)], [vr 1000, vi (I 1000 (k + 1)), vr 137, vi res], (I1, zPp π1, D1, 147)) rfl trivial ?_
  refine z_n 1 (525, [(3, vi k), (2, vr 137), (1, vr 1), (0, vr 1000)], [vi k, vr 1000, vi (I 1000 (k + 1)), vr 137, vi res], (I1, zPp π1, D1, 147)) rfl trivial ?_
  refine z_n 1 (526, [(3, vi k), (2, vr 137), (1, vr 1), (0, vr 1000)], [vi 2, vi k, vr 1000, vi (I 1000 (k + 1)), vr 137, vi res], (I1, zPp π1, D1, 147)) rfl trivial ?_
  refine z_n 1 (527, [(3, vi k), (2, vr 137), (1, vr 1), (0, vr 1000)], [vi (k + 2), vr 1000, vi (I 1000 (k + 1)), vr 137, vi res], (I1, zPp π1, D1, 147)) (G := (zr (k + 2)) ∧ True) rfl ⟨by omega, trivial⟩ ?_
  refine z_n 1 (528, [(3, vi k), (2, vr 137), (1, vr 1), (0, vr 1000)], [vi (I1 1000 (k + 2)), vi (I 1000 (k + 1)), vr 137, vi res], (I1, zPp π1, D1, 147)) (G := (0 ≤ (k + 2) ∧ (k + 2) < (I1 1000 (-1))) ∧ True) rfl ⟨by rw [e1]; omega, trivial⟩ ?_
  refine z_top (b := I 1000 (k + 2)) (e1 _) ?_
  refine z_ci 123 [vr 137, vi (I 1000 (k + 1)), vi (I 1000 (k + 2))] [vi res] rfl (g2) ?_
  refine z_br (res = res) 756 534 [] rfl (fun hx2 => ?_) (fun h => absurd (show res = res from rfl) h)
  refine z_n 1 (759, [(3, vi (k + 4)), (2, vr 137), (1, vr 1), (0, vr 1000)], [], (I2, zPp π1, D2, 147)) (G := (zr (k + 4)) ∧ True) rfl ⟨by omega, trivial⟩ ?_
  refine z_n 1 (18, [(3, vi (k + 4)), (2, vr 137), (1, vr 1), (0, vr 1000)], [], (I2, zPp π1, D2, 147)) rfl trivial ?_
  refine z_sub [(3, vi (k + 4)), (2, vr 137), (1, vr 1), (0, vr 1000)] [0, 1, 2, 3] rfl ?_
  exact hrun
set_option maxHeartbeats 4000000 in
set_option maxRecDepth 20000 in
theorem law_14 {I : zI} {π : Int → Nat} {D : zD} {k L : Int} (s : zSim I π) (hL : I 1000 (-1) = L) (hL2 : L ≤ 2048) (h0 : 0 ≤ k) (h1 : k ≤ L - 4) (hv : (Int32.ofInt (I 1000 k) &&& Int32.ofInt 31).toInt = 14) (hk : ∀ I2 π2 D2, zSim I2 π2 → (∀ j, I2 1000 j = I 1000 j) → ∃ τ, τ.2.2.2 = 147 ∧ zRuns 143 18 [(3, vi (k + 4)), (2, vr 137), (1, vr 1), (0, vr 1000)] [] (I2, zPp π2, D2, 147) (some (vi 1)) τ) : ∃ τ, τ.2.2.2 = 147 ∧ zRuns 143 18 [(3, vi k), (2, vr 137), (1, vr 1), (0, vr 1000)] [] (I, zPp π, D, 147) (some (vi 1)) τ := by
  obtain ⟨res, I1, π1, D1, I2, D2, g1, g2, s2⟩ := op_row (D := D) s
  have e1 : ∀ j, I1 1000 j = I 1000 j := zRuns_1000 g1 (by decide)
  have e2 : ∀ j, I2 1000 j = I 1000 j := fun j => (zRuns_1000 g2 (by decide) j).trans (e1 j)
  obtain ⟨τ, hτ, hrun⟩ := hk I2 π1 D2 s2 e2
  refine ⟨τ, hτ, ?_⟩
  refine z_n 1 (19, [(3, vi k), (2, vr 137), (1, vr 1), (0, vr 1000)], [vi k], (I, zPp π, D, 147)) rfl trivial ?_
  refine z_n 1 (20, [(3, vi k), (2, vr 137), (1, vr 1), (0, vr 1000)], [vr 1000, vi k], (I, zPp π, D, 147)) rfl trivial ?_
  refine z_n 1 (21, [(3, vi k), (2, vr 137), (1, vr 1), (0, vr 1000)], [vi (I 1000 (-1)), vi k], (I, zPp π, D, 147)) rfl trivial ?_
  refine z_n 1 (22, [(3, vi k), (2, vr 137), (1, vr 1), (0, vr 1000)], [vi 4, vi (I 1000 (-1)), vi k], (I, zPp π, D, 147)) rfl trivial ?_
  refine z_n 1 (23, [(3, vi k), (2, vr 137), (1, vr 1), (0, vr 1000)], [vi ((I 1000 (-1)) - 4), vi k], (I, zPp π, D, 147)) (G := (zr ((I 1000 (-1)) - 4)) ∧ True) rfl ⟨by omega, trivial⟩ ?_
  refine z_br (((I 1000 (-1)) - 4) < k) 762 26 [] rfl (fun h => absurd h (show ¬ (((I 1000 (-1)) - 4) < k) from by omega)) (fun hx1 => ?_)
  refine z_n 1 (27, [(3, vi k), (2, vr 137), (1, vr 1), (0, vr 1000)], [vr 1000], (I, zPp π, D, 147)) rfl trivial ?_
  refine z_n 1 (28, [(3, vi k), (2, vr 137), (1, vr 1), (0, vr 1000)], [vi k, vr 1000], (I, zPp π, D, 147)) rfl trivial ?_
  refine z_n 1 (29, [(3, vi k), (2, vr 137), (1, vr 1), (0, vr 1000)], [vi (I 1000 k)], (I, zPp π, D, 147)) (G := (0 ≤ k ∧ k < (I 1000 (-1))) ∧ True) rfl ⟨by omega, trivial⟩ ?_
  refine z_n 1 (31, [(3, vi k), (2, vr 137), (1, vr 1), (0, vr 1000)], [vi 31, vi (I 1000 k)], (I, zPp π, D, 147)) rfl trivial ?_
  refine z_n 1 (32, [(3, vi k), (2, vr 137), (1, vr 1), (0, vr 1000)], [vi ((Int32.ofInt (I 1000 k) &&& Int32.ofInt 31).toInt)], (I, zPp π, D, 147)) rfl trivial ?_
  refine z_top (b := 14) (hv) ?_
  refine z_n 1 (536, [(3, vi k), (2, vr 137), (1, vr 1), (0, vr 1000)], [], (I, zPp π, D, 147)) rfl trivial ?_
  refine z_n 1 (537, [(3, vi k), (2, vr 137), (1, vr 1), (0, vr 1000)], [vr 1], (I, zPp π, D, 147)) rfl trivial ?_
  refine z_ci 81 [vr 1] [] rfl (g1) ?_
  refine z_n 1 (541, [(3, vi k), (2, vr 137), (1, vr 1), (0, vr 1000)], [vr 137, vi res], (I1, zPp π1, D1, 147)) rfl trivial ?_
  refine z_ci 124 [vr 137] [vi res] rfl (g2) ?_
  refine z_br (res = res) 756 547 [] rfl (fun hx2 => ?_) (fun h => absurd (show res = res from rfl) h)
  refine z_n 1 (759, [(3, vi (k + 4)), (2, vr 137), (1, vr 1), (0, vr 1000)], [], (I2, zPp π1, D2, 147)) (G := (zr (k + 4)) ∧ True) rfl ⟨by omega, trivial⟩ ?_
  refine z_n 1 (18, [(3, vi (k + 4)), (2, vr 137), (1, vr 1), (0, vr 1000)], [], (I2, zPp π1, D2, 147)) rfl trivial ?_
  refine z_sub [(3, vi (k + 4)), (2, vr 137), (1, vr 1), (0, vr 1000)] [0, 1, 2, 3] rfl ?_
  exact hrun
set_option maxHeartbeats 4000000 in
set_option maxRecDepth 20000 in
theorem law_15 {I : zI} {π : Int → Nat} {D : zD} {k L : Int} (s : zSim I π) (hL : I 1000 (-1) = L) (hL2 : L ≤ 2048) (h0 : 0 ≤ k) (h1 : k ≤ L - 4) (hv : (Int32.ofInt (I 1000 k) &&& Int32.ofInt 31).toInt = 15) (hk : ∀ I2 π2 D2, zSim I2 π2 → (∀ j, I2 1000 j = I 1000 j) → ∃ τ, τ.2.2.2 = 147 ∧ zRuns 143 18 [(3, vi (k + 4)), (2, vr 137), (1, vr 1), (0, vr 1000)] [] (I2, zPp π2, D2, 147) (some (vi 1)) τ) : ∃ τ, τ.2.2.2 = 147 ∧ zRuns 143 18 [(3, vi k), (2, vr 137), (1, vr 1), (0, vr 1000)] [] (I, zPp π, D, 147) (some (vi 1)) τ := by
  obtain ⟨res, I1, π1, D1, I2, D2, g1, g2, s2⟩ := op_distanceBits (D := D) s (I 1000 (k + 1)) (I 1000 (k + 2))
  have e1 : ∀ j, I1 1000 j = I 1000 j := zRuns_1000 g1 (by decide)
  have e2 : ∀ j, I2 1000 j = I 1000 j := fun j => (zRuns_1000 g2 (by decide) j).trans (e1 j)
  obtain ⟨τ, hτ, hrun⟩ := hk I2 π1 D2 s2 e2
  refine ⟨τ, hτ, ?_⟩
  refine z_n 1 (19, [(3, vi k), (2, vr 137), (1, vr 1), (0, vr 1000)], [vi k], (I, zPp π, D, 147)) rfl trivial ?_
  refine z_n 1 (20, [(3, vi k), (2, vr 137), (1, vr 1), (0, vr 1000)], [vr 1000, vi k], (I, zPp π, D, 147)) rfl trivial ?_
  refine z_n 1 (21, [(3, vi k), (2, vr 137), (1, vr 1), (0, vr 1000)], [vi (I 1000 (-1)), vi k], (I, zPp π, D, 147)) rfl trivial ?_
  refine z_n 1 (22, [(3, vi k), (2, vr 137), (1, vr 1), (0, vr 1000)], [vi 4, vi (I 1000 (-1)), vi k], (I, zPp π, D, 147)) rfl trivial ?_
  refine z_n 1 (23, [(3, vi k), (2, vr 137), (1, vr 1), (0, vr 1000)], [vi ((I 1000 (-1)) - 4), vi k], (I, zPp π, D, 147)) (G := (zr ((I 1000 (-1)) - 4)) ∧ True) rfl ⟨by omega, trivial⟩ ?_
  refine z_br (((I 1000 (-1)) - 4) < k) 762 26 [] rfl (fun h => absurd h (show ¬ (((I 1000 (-1)) - 4) < k) from by omega)) (fun hx1 => ?_)
  refine z_n 1 (27, [(3, vi k), (2, vr 137), (1, vr 1), (0, vr 1000)], [vr 1000], (I, zPp π, D, 147)) rfl trivial ?_
  refine z_n 1 (28, [(3, vi k), (2, vr 137), (1, vr 1), (0, vr 1000)], [vi k, vr 1000], (I, zPp π, D, 147)) rfl trivial ?_
  refine z_n 1 (29, [(3, vi k), (2, vr 137), (1, vr 1), (0, vr 1000)], [vi (I 1000 k)], (I, zPp π, D, 147)) (G := (0 ≤ k ∧ k < (I 1000 (-1))) ∧ True) rfl ⟨by omega, trivial⟩ ?_
  refine z_n 1 (31, [(3, vi k), (2, vr 137), (1, vr 1), (0, vr 1000)], [vi 31, vi (I 1000 k)], (I, zPp π, D, 147)) rfl trivial ?_
  refine z_n 1 (32, [(3, vi k), (2, vr 137), (1, vr 1), (0, vr 1000)], [vi ((Int32.ofInt (I 1000 k) &&& Int32.ofInt 31).toInt)], (I, zPp π, D, 147)) rfl trivial ?_
  refine z_top (b := 15) (hv) ?_
  refine z_n 1 (549, [(3, vi k), (2, vr 137), (1, vr 1), (0, vr 1000)], [], (I, zPp π, D, 147)) rfl trivial ?_
  refine z_n 1 (550, [(3, vi k), (2, vr 137), (1, vr 1), (0, vr 1000)], [vr 1], (I, zPp π, D, 147)) rfl trivial ?_
  refine z_n 1 (551, [(3, vi k), (2, vr 137), (1, vr 1), (0, vr 1000)], [vr 1000, vr 1], (I, zPp π, D, 147)) rfl trivial ?_
  refine z_n 1 (552, [(3, vi k), (2, vr 137), (1, vr 1), (0, vr 1000)], [vi k, vr 1000, vr 1], (I, zPp π, D, 147)) rfl trivial ?_
  refine z_n 1 (553, [(3, vi k), (2, vr 137), (1, vr 1), (0, vr 1000)], [vi 1, vi k, vr 1000, vr 1], (I, zPp π, D, 147)) rfl trivial ?_
  refine z_n 1 (554, [(3, vi k), (2, vr 137), (1, vr 1), (0, vr 1000)], [vi (k + 1), vr 1000, vr 1], (I, zPp π, D, 147)) (G := (zr (k + 1)) ∧ True) rfl ⟨by omega, trivial⟩ ?_
  refine z_n 1 (555, [(3, vi k), (2, vr 137), (1, vr 1), (0, vr 1000)], [vi (I 1000 (k + 1)), vr 1], (I, zPp π, D, 147)) (G := (0 ≤ (k + 1) ∧ (k + 1) < (I 1000 (-1))) ∧ True) rfl ⟨by omega, trivial⟩ ?_
  refine z_n 1 (556, [(3, vi k), (2, vr 137), (1, vr 1), (0, vr 1000)], [vr 1000, vi (I 1000 (k + 1)), vr 1], (I, zPp π, D, 147)) rfl trivial ?_
  refine z_n 1 (557, [(3, vi k), (2, vr 137), (1, vr 1), (0, vr 1000)], [vi k, vr 1000, vi (I 1000 (k + 1)), vr 1], (I, zPp π, D, 147)) rfl trivial ?_
  refine z_n 1 (558, [(3, vi k), (2, vr 137), (1, vr 1), (0, vr 1000)], [vi 2, vi k, vr 1000, vi (I 1000 (k + 1)), vr 1], (I, zPp π, D, 147)) rfl trivial ?_
  refine z_n 1 (559, [(3, vi k), (2, vr 137), (1, vr 1), (0, vr 1000)], [vi (k + 2), vr 1000, vi (I 1000 (k + 1)), vr 1], (I, zPp π, D, 147)) (G := (zr (k + 2)) ∧ True) rfl ⟨by omega, trivial⟩ ?_
  refine z_n 1 (560, [(3, vi k), (2, vr 137), (1, vr 1), (0, vr 1000)], [vi (I 1000 (k + 2)), vi (I 1000 (k + 1)), vr 1], (I, zPp π, D, 147)) (G := (0 ≤ (k + 2) ∧ (k + 2) < (I 1000 (-1))) ∧ True) rfl ⟨by omega, trivial⟩ ?_
  refine z_ci 82 [vr 1, vi (I 1000 (k + 1)), vi (I 1000 (k + 2))] [] rfl (g1) ?_
  refine z_n 1 (564, [(3, vi k), (2, vr 137), (1, vr 1), (0, vr 1000)], [vr 137, vi res], (I1, zPp π1, D1, 147)) rfl trivial ?_
  refine z_n 1 (565, [(3, vi k), (2, vr 137), (1, vr 1), (0, vr 1000)], [vr 1000, vr 137, vi res], (I1, zPp π1, D1, 147)) rfl trivial ?_
  refine z_n 1 (566, [(3, vi k), (2, vr 137), (1, vr 1), (0, vr 1000)], [vi k, vr 1000, vr 137, vi res], (I1, zPp π1, D1, 147)) rfl trivial ?_
  refine z_n 1 (567, [(3, vi k), (2, vr 137), (1, vr 1), (0, vr 1000)], [vi 1, vi k, vr 1000, vr 137, vi res], (I1, zPp π1, D1, 147)) rfl trivial ?_
  refine z_n 1 (568, [(3, vi k), (2, vr 137), (1, vr 1), (0, vr 1000)], [vi (k + 1), vr 1000, vr 137, vi res], (I1, zPp π1, D1, 147)) (G := (zr (k + 1)) ∧ True) rfl ⟨by omega, trivial⟩ ?_
  refine z_n 1 (569, [(3, vi k), (2, vr 137), (1, vr 1), (0, vr 1000)], [vi (I1 1000 (k + 1)), vr 137, vi res], (I1, zPp π1, D1, 147)) (G := (0 ≤ (k + 1) ∧ (k + 1) < (I1 1000 (-1))) ∧ True) rfl ⟨by rw [e1]; omega, trivial⟩ ?_
  refine z_top (b := I 1000 (k + 1)) (e1 _) ?_
  refine z_n 1 (570, [(3, vi k), (2, vr 137), (1, vr 1), (0, vr 1000)], [vr 1000, vi (I 1000 (k + 1)), vr 137, vi res], (I1, zPp π1, D1, 147)) rfl trivial ?_
  refine z_n 1 (571, [(3, vi k), (2, vr 137), (1, vr 1), (0, vr 1000)], [vi k, vr 1000, vi (I 1000 (k + 1)), vr 137, vi res], (I1, zPp π1, D1, 147)) rfl trivial ?_
  refine z_n 1 (572, [(3, vi k), (2, vr 137), (1, vr 1), (0, vr 1000)], [vi 2, vi k, vr 1000, vi (I 1000 (k + 1)), vr 137, vi res], (I1, zPp π1, D1, 147)) rfl trivial ?_
  refine z_n 1 (573, [(3, vi k), (2, vr 137), (1, vr 1), (0, vr 1000)], [vi (k + 2), vr 1000, vi (I 1000 (k + 1)), vr 137, vi res], (I1, zPp π1, D1, 147)) (G := (zr (k + 2)) ∧ True) rfl ⟨by omega, trivial⟩ ?_
  refine z_n 1 (574, [(3, vi k), (2, vr 137), (1, vr 1), (0, vr 1000)], [vi (I1 1000 (k + 2)), vi (I 1000 (k + 1)), vr 137, vi res], (I1, zPp π1, D1, 147)) (G := (0 ≤ (k + 2) ∧ (k + 2) < (I1 1000 (-1))) ∧ True) rfl ⟨by rw [e1]; omega, trivial⟩ ?_
  refine z_top (b := I 1000 (k + 2)) (e1 _) ?_
  refine z_ci 126 [vr 137, vi (I 1000 (k + 1)), vi (I 1000 (k + 2))] [vi res] rfl (g2) ?_
  refine z_br (res = res) 756 580 [] rfl (fun hx2 => ?_) (fun h => absurd (show res = res from rfl) h)
  refine z_n 1 (759, [(3, vi (k + 4)), (2, vr 137), (1, vr 1), (0, vr 1000)], [], (I2, zPp π1, D2, 147)) (G := (zr (k + 4)) ∧ True) rfl ⟨by omega, trivial⟩ ?_
  refine z_n 1 (18, [(3, vi (k + 4)), (2, vr 137), (1, vr 1), (0, vr 1000)], [], (I2, zPp π1, D2, 147)) rfl trivial ?_
  refine z_sub [(3, vi (k + 4)), (2, vr 137), (1, vr 1), (0, vr 1000)] [0, 1, 2, 3] rfl ?_
  exact hrun
set_option maxHeartbeats 4000000 in
set_option maxRecDepth 20000 in
theorem law_16 {I : zI} {π : Int → Nat} {D : zD} {k L : Int} (s : zSim I π) (hL : I 1000 (-1) = L) (hL2 : L ≤ 2048) (h0 : 0 ≤ k) (h1 : k ≤ L - 4) (hv : (Int32.ofInt (I 1000 k) &&& Int32.ofInt 31).toInt = 16) (hk : ∀ I2 π2 D2, zSim I2 π2 → (∀ j, I2 1000 j = I 1000 j) → ∃ τ, τ.2.2.2 = 147 ∧ zRuns 143 18 [(3, vi (k + 4)), (2, vr 137), (1, vr 1), (0, vr 1000)] [] (I2, zPp π2, D2, 147) (some (vi 1)) τ) : ∃ τ, τ.2.2.2 = 147 ∧ zRuns 143 18 [(3, vi k), (2, vr 137), (1, vr 1), (0, vr 1000)] [] (I, zPp π, D, 147) (some (vi 1)) τ := by
  obtain ⟨res, I1, π1, D1, I2, D2, g1, g2, s2⟩ := op_speedFor (D := D) s (I 1000 (k + 1))
  have e1 : ∀ j, I1 1000 j = I 1000 j := zRuns_1000 g1 (by decide)
  have e2 : ∀ j, I2 1000 j = I 1000 j := fun j => (zRuns_1000 g2 (by decide) j).trans (e1 j)
  obtain ⟨τ, hτ, hrun⟩ := hk I2 π1 D2 s2 e2
  refine ⟨τ, hτ, ?_⟩
  refine z_n 1 (19, [(3, vi k), (2, vr 137), (1, vr 1), (0, vr 1000)], [vi k], (I, zPp π, D, 147)) rfl trivial ?_
  refine z_n 1 (20, [(3, vi k), (2, vr 137), (1, vr 1), (0, vr 1000)], [vr 1000, vi k], (I, zPp π, D, 147)) rfl trivial ?_
  refine z_n 1 (21, [(3, vi k), (2, vr 137), (1, vr 1), (0, vr 1000)], [vi (I 1000 (-1)), vi k], (I, zPp π, D, 147)) rfl trivial ?_
  refine z_n 1 (22, [(3, vi k), (2, vr 137), (1, vr 1), (0, vr 1000)], [vi 4, vi (I 1000 (-1)), vi k], (I, zPp π, D, 147)) rfl trivial ?_
  refine z_n 1 (23, [(3, vi k), (2, vr 137), (1, vr 1), (0, vr 1000)], [vi ((I 1000 (-1)) - 4), vi k], (I, zPp π, D, 147)) (G := (zr ((I 1000 (-1)) - 4)) ∧ True) rfl ⟨by omega, trivial⟩ ?_
  refine z_br (((I 1000 (-1)) - 4) < k) 762 26 [] rfl (fun h => absurd h (show ¬ (((I 1000 (-1)) - 4) < k) from by omega)) (fun hx1 => ?_)
  refine z_n 1 (27, [(3, vi k), (2, vr 137), (1, vr 1), (0, vr 1000)], [vr 1000], (I, zPp π, D, 147)) rfl trivial ?_
  refine z_n 1 (28, [(3, vi k), (2, vr 137), (1, vr 1), (0, vr 1000)], [vi k, vr 1000], (I, zPp π, D, 147)) rfl trivial ?_
  refine z_n 1 (29, [(3, vi k), (2, vr 137), (1, vr 1), (0, vr 1000)], [vi (I 1000 k)], (I, zPp π, D, 147)) (G := (0 ≤ k ∧ k < (I 1000 (-1))) ∧ True) rfl ⟨by omega, trivial⟩ ?_
  refine z_n 1 (31, [(3, vi k), (2, vr 137), (1, vr 1), (0, vr 1000)], [vi 31, vi (I 1000 k)], (I, zPp π, D, 147)) rfl trivial ?_
  refine z_n 1 (32, [(3, vi k), (2, vr 137), (1, vr 1), (0, vr 1000)], [vi ((Int32.ofInt (I 1000 k) &&& Int32.ofInt 31).toInt)], (I, zPp π, D, 147)) rfl trivial ?_
  refine z_top (b := 16) (hv) ?_
  refine z_n 1 (582, [(3, vi k), (2, vr 137), (1, vr 1), (0, vr 1000)], [], (I, zPp π, D, 147)) rfl trivial ?_
  refine z_n 1 (583, [(3, vi k), (2, vr 137), (1, vr 1), (0, vr 1000)], [vr 1], (I, zPp π, D, 147)) rfl trivial ?_
  refine z_n 1 (584, [(3, vi k), (2, vr 137), (1, vr 1), (0, vr 1000)], [vr 1000, vr 1], (I, zPp π, D, 147)) rfl trivial ?_
  refine z_n 1 (585, [(3, vi k), (2, vr 137), (1, vr 1), (0, vr 1000)], [vi k, vr 1000, vr 1], (I, zPp π, D, 147)) rfl trivial ?_
  refine z_n 1 (586, [(3, vi k), (2, vr 137), (1, vr 1), (0, vr 1000)], [vi 1, vi k, vr 1000, vr 1], (I, zPp π, D, 147)) rfl trivial ?_
  refine z_n 1 (587, [(3, vi k), (2, vr 137), (1, vr 1), (0, vr 1000)], [vi (k + 1), vr 1000, vr 1], (I, zPp π, D, 147)) (G := (zr (k + 1)) ∧ True) rfl ⟨by omega, trivial⟩ ?_
  refine z_n 1 (588, [(3, vi k), (2, vr 137), (1, vr 1), (0, vr 1000)], [vi (I 1000 (k + 1)), vr 1], (I, zPp π, D, 147)) (G := (0 ≤ (k + 1) ∧ (k + 1) < (I 1000 (-1))) ∧ True) rfl ⟨by omega, trivial⟩ ?_
  refine z_ci 83 [vr 1, vi (I 1000 (k + 1))] [] rfl (g1) ?_
  refine z_n 1 (592, [(3, vi k), (2, vr 137), (1, vr 1), (0, vr 1000)], [vr 137, vi res], (I1, zPp π1, D1, 147)) rfl trivial ?_
  refine z_n 1 (593, [(3, vi k), (2, vr 137), (1, vr 1), (0, vr 1000)], [vr 1000, vr 137, vi res], (I1, zPp π1, D1, 147)) rfl trivial ?_
  refine z_n 1 (594, [(3, vi k), (2, vr 137), (1, vr 1), (0, vr 1000)], [vi k, vr 1000, vr 137, vi res], (I1, zPp π1, D1, 147)) rfl trivial ?_
  refine z_n 1 (595, [(3, vi k), (2, vr 137), (1, vr 1), (0, vr 1000)], [vi 1, vi k, vr 1000, vr 137, vi res], (I1, zPp π1, D1, 147)) rfl trivial ?_
  refine z_n 1 (596, [(3, vi k), (2, vr 137), (1, vr 1), (0, vr 1000)], [vi (k + 1), vr 1000, vr 137, vi res], (I1, zPp π1, D1, 147)) (G := (zr (k + 1)) ∧ True) rfl ⟨by omega, trivial⟩ ?_
  refine z_n 1 (597, [(3, vi k), (2, vr 137), (1, vr 1), (0, vr 1000)], [vi (I1 1000 (k + 1)), vr 137, vi res], (I1, zPp π1, D1, 147)) (G := (0 ≤ (k + 1) ∧ (k + 1) < (I1 1000 (-1))) ∧ True) rfl ⟨by rw [e1]; omega, trivial⟩ ?_
  refine z_top (b := I 1000 (k + 1)) (e1 _) ?_
  refine z_ci 127 [vr 137, vi (I 1000 (k + 1))] [vi res] rfl (g2) ?_
  refine z_br (res = res) 756 603 [] rfl (fun hx2 => ?_) (fun h => absurd (show res = res from rfl) h)
  refine z_n 1 (759, [(3, vi (k + 4)), (2, vr 137), (1, vr 1), (0, vr 1000)], [], (I2, zPp π1, D2, 147)) (G := (zr (k + 4)) ∧ True) rfl ⟨by omega, trivial⟩ ?_
  refine z_n 1 (18, [(3, vi (k + 4)), (2, vr 137), (1, vr 1), (0, vr 1000)], [], (I2, zPp π1, D2, 147)) rfl trivial ?_
  refine z_sub [(3, vi (k + 4)), (2, vr 137), (1, vr 1), (0, vr 1000)] [0, 1, 2, 3] rfl ?_
  exact hrun
set_option maxHeartbeats 4000000 in
set_option maxRecDepth 20000 in
theorem law_17 {I : zI} {π : Int → Nat} {D : zD} {k L : Int} (s : zSim I π) (hL : I 1000 (-1) = L) (hL2 : L ≤ 2048) (h0 : 0 ≤ k) (h1 : k ≤ L - 4) (hv : (Int32.ofInt (I 1000 k) &&& Int32.ofInt 31).toInt = 17) (hk : ∀ I2 π2 D2, zSim I2 π2 → (∀ j, I2 1000 j = I 1000 j) → ∃ τ, τ.2.2.2 = 147 ∧ zRuns 143 18 [(3, vi (k + 4)), (2, vr 137), (1, vr 1), (0, vr 1000)] [] (I2, zPp π2, D2, 147) (some (vi 1)) τ) : ∃ τ, τ.2.2.2 = 147 ∧ zRuns 143 18 [(3, vi k), (2, vr 137), (1, vr 1), (0, vr 1000)] [] (I, zPp π, D, 147) (some (vi 1)) τ := by
  obtain ⟨res, I1, π1, D1, I2, D2, g1, g2, s2⟩ := op_place (D := D) s (I 1000 (k + 1)) (I 1000 (k + 2))
  have e1 : ∀ j, I1 1000 j = I 1000 j := zRuns_1000 g1 (by decide)
  have e2 : ∀ j, I2 1000 j = I 1000 j := fun j => (zRuns_1000 g2 (by decide) j).trans (e1 j)
  obtain ⟨τ, hτ, hrun⟩ := hk I2 π1 D2 s2 e2
  refine ⟨τ, hτ, ?_⟩
  refine z_n 1 (19, [(3, vi k), (2, vr 137), (1, vr 1), (0, vr 1000)], [vi k], (I, zPp π, D, 147)) rfl trivial ?_
  refine z_n 1 (20, [(3, vi k), (2, vr 137), (1, vr 1), (0, vr 1000)], [vr 1000, vi k], (I, zPp π, D, 147)) rfl trivial ?_
  refine z_n 1 (21, [(3, vi k), (2, vr 137), (1, vr 1), (0, vr 1000)], [vi (I 1000 (-1)), vi k], (I, zPp π, D, 147)) rfl trivial ?_
  refine z_n 1 (22, [(3, vi k), (2, vr 137), (1, vr 1), (0, vr 1000)], [vi 4, vi (I 1000 (-1)), vi k], (I, zPp π, D, 147)) rfl trivial ?_
  refine z_n 1 (23, [(3, vi k), (2, vr 137), (1, vr 1), (0, vr 1000)], [vi ((I 1000 (-1)) - 4), vi k], (I, zPp π, D, 147)) (G := (zr ((I 1000 (-1)) - 4)) ∧ True) rfl ⟨by omega, trivial⟩ ?_
  refine z_br (((I 1000 (-1)) - 4) < k) 762 26 [] rfl (fun h => absurd h (show ¬ (((I 1000 (-1)) - 4) < k) from by omega)) (fun hx1 => ?_)
  refine z_n 1 (27, [(3, vi k), (2, vr 137), (1, vr 1), (0, vr 1000)], [vr 1000], (I, zPp π, D, 147)) rfl trivial ?_
  refine z_n 1 (28, [(3, vi k), (2, vr 137), (1, vr 1), (0, vr 1000)], [vi k, vr 1000], (I, zPp π, D, 147)) rfl trivial ?_
  refine z_n 1 (29, [(3, vi k), (2, vr 137), (1, vr 1), (0, vr 1000)], [vi (I 1000 k)], (I, zPp π, D, 147)) (G := (0 ≤ k ∧ k < (I 1000 (-1))) ∧ True) rfl ⟨by omega, trivial⟩ ?_
  refine z_n 1 (31, [(3, vi k), (2, vr 137), (1, vr 1), (0, vr 1000)], [vi 31, vi (I 1000 k)], (I, zPp π, D, 147)) rfl trivial ?_
  refine z_n 1 (32, [(3, vi k), (2, vr 137), (1, vr 1), (0, vr 1000)], [vi ((Int32.ofInt (I 1000 k) &&& Int32.ofInt 31).toInt)], (I, zPp π, D, 147)) rfl trivial ?_
  refine z_top (b := 17) (hv) ?_
  refine z_n 1 (605, [(3, vi k), (2, vr 137), (1, vr 1), (0, vr 1000)], [], (I, zPp π, D, 147)) rfl trivial ?_
  refine z_n 1 (606, [(3, vi k), (2, vr 137), (1, vr 1), (0, vr 1000)], [vr 1], (I, zPp π, D, 147)) rfl trivial ?_
  refine z_n 1 (607, [(3, vi k), (2, vr 137), (1, vr 1), (0, vr 1000)], [vr 1000, vr 1], (I, zPp π, D, 147)) rfl trivial ?_
  refine z_n 1 (608, [(3, vi k), (2, vr 137), (1, vr 1), (0, vr 1000)], [vi k, vr 1000, vr 1], (I, zPp π, D, 147)) rfl trivial ?_
  refine z_n 1 (609, [(3, vi k), (2, vr 137), (1, vr 1), (0, vr 1000)], [vi 1, vi k, vr 1000, vr 1], (I, zPp π, D, 147)) rfl trivial ?_
  refine z_n 1 (610, [(3, vi k), (2, vr 137), (1, vr 1), (0, vr 1000)], [vi (k + 1), vr 1000, vr 1], (I, zPp π, D, 147)) (G := (zr (k + 1)) ∧ True) rfl ⟨by omega, trivial⟩ ?_
  refine z_n 1 (611, [(3, vi k), (2, vr 137), (1, vr 1), (0, vr 1000)], [vi (I 1000 (k + 1)), vr 1], (I, zPp π, D, 147)) (G := (0 ≤ (k + 1) ∧ (k + 1) < (I 1000 (-1))) ∧ True) rfl ⟨by omega, trivial⟩ ?_
  refine z_n 1 (612, [(3, vi k), (2, vr 137), (1, vr 1), (0, vr 1000)], [vr 1000, vi (I 1000 (k + 1)), vr 1], (I, zPp π, D, 147)) rfl trivial ?_
  refine z_n 1 (613, [(3, vi k), (2, vr 137), (1, vr 1), (0, vr 1000)], [vi k, vr 1000, vi (I 1000 (k + 1)), vr 1], (I, zPp π, D, 147)) rfl trivial ?_
  refine z_n 1 (614, [(3, vi k), (2, vr 137), (1, vr 1), (0, vr 1000)], [vi 2, vi k, vr 1000, vi (I 1000 (k + 1)), vr 1], (I, zPp π, D, 147)) rfl trivial ?_
  refine z_n 1 (615, [(3, vi k), (2, vr 137), (1, vr 1), (0, vr 1000)], [vi (k + 2), vr 1000, vi (I 1000 (k + 1)), vr 1], (I, zPp π, D, 147)) (G := (zr (k + 2)) ∧ True) rfl ⟨by omega, trivial⟩ ?_
  refine z_n 1 (616, [(3, vi k), (2, vr 137), (1, vr 1), (0, vr 1000)], [vi (I 1000 (k + 2)), vi (I 1000 (k + 1)), vr 1], (I, zPp π, D, 147)) (G := (0 ≤ (k + 2) ∧ (k + 2) < (I 1000 (-1))) ∧ True) rfl ⟨by omega, trivial⟩ ?_
  refine z_ci 85 [vr 1, vi (I 1000 (k + 1)), vi (I 1000 (k + 2))] [] rfl (g1) ?_
  refine z_n 1 (620, [(3, vi k), (2, vr 137), (1, vr 1), (0, vr 1000)], [vr 137, vi res], (I1, zPp π1, D1, 147)) rfl trivial ?_
  refine z_n 1 (621, [(3, vi k), (2, vr 137), (1, vr 1), (0, vr 1000)], [vr 1000, vr 137, vi res], (I1, zPp π1, D1, 147)) rfl trivial ?_
  refine z_n 1 (622, [(3, vi k), (2, vr 137), (1, vr 1), (0, vr 1000)], [vi k, vr 1000, vr 137, vi res], (I1, zPp π1, D1, 147)) rfl trivial ?_
  refine z_n 1 (623, [(3, vi k), (2, vr 137), (1, vr 1), (0, vr 1000)], [vi 1, vi k, vr 1000, vr 137, vi res], (I1, zPp π1, D1, 147)) rfl trivial ?_
  refine z_n 1 (624, [(3, vi k), (2, vr 137), (1, vr 1), (0, vr 1000)], [vi (k + 1), vr 1000, vr 137, vi res], (I1, zPp π1, D1, 147)) (G := (zr (k + 1)) ∧ True) rfl ⟨by omega, trivial⟩ ?_
  refine z_n 1 (625, [(3, vi k), (2, vr 137), (1, vr 1), (0, vr 1000)], [vi (I1 1000 (k + 1)), vr 137, vi res], (I1, zPp π1, D1, 147)) (G := (0 ≤ (k + 1) ∧ (k + 1) < (I1 1000 (-1))) ∧ True) rfl ⟨by rw [e1]; omega, trivial⟩ ?_
  refine z_top (b := I 1000 (k + 1)) (e1 _) ?_
  refine z_n 1 (626, [(3, vi k), (2, vr 137), (1, vr 1), (0, vr 1000)], [vr 1000, vi (I 1000 (k + 1)), vr 137, vi res], (I1, zPp π1, D1, 147)) rfl trivial ?_
  refine z_n 1 (627, [(3, vi k), (2, vr 137), (1, vr 1), (0, vr 1000)], [vi k, vr 1000, vi (I 1000 (k + 1)), vr 137, vi res], (I1, zPp π1, D1, 147)) rfl trivial ?_
  refine z_n 1 (628, [(3, vi k), (2, vr 137), (1, vr 1), (0, vr 1000)], [vi 2, vi k, vr 1000, vi (I 1000 (k + 1)), vr 137, vi res], (I1, zPp π1, D1, 147)) rfl trivial ?_
  refine z_n 1 (629, [(3, vi k), (2, vr 137), (1, vr 1), (0, vr 1000)], [vi (k + 2), vr 1000, vi (I 1000 (k + 1)), vr 137, vi res], (I1, zPp π1, D1, 147)) (G := (zr (k + 2)) ∧ True) rfl ⟨by omega, trivial⟩ ?_
  refine z_n 1 (630, [(3, vi k), (2, vr 137), (1, vr 1), (0, vr 1000)], [vi (I1 1000 (k + 2)), vi (I 1000 (k + 1)), vr 137, vi res], (I1, zPp π1, D1, 147)) (G := (0 ≤ (k + 2) ∧ (k + 2) < (I1 1000 (-1))) ∧ True) rfl ⟨by rw [e1]; omega, trivial⟩ ?_
  refine z_top (b := I 1000 (k + 2)) (e1 _) ?_
  refine z_ci 129 [vr 137, vi (I 1000 (k + 1)), vi (I 1000 (k + 2))] [vi res] rfl (g2) ?_
  refine z_br (res = res) 756 636 [] rfl (fun hx2 => ?_) (fun h => absurd (show res = res from rfl) h)
  refine z_n 1 (759, [(3, vi (k + 4)), (2, vr 137), (1, vr 1), (0, vr 1000)], [], (I2, zPp π1, D2, 147)) (G := (zr (k + 4)) ∧ True) rfl ⟨by omega, trivial⟩ ?_
  refine z_n 1 (18, [(3, vi (k + 4)), (2, vr 137), (1, vr 1), (0, vr 1000)], [], (I2, zPp π1, D2, 147)) rfl trivial ?_
  refine z_sub [(3, vi (k + 4)), (2, vr 137), (1, vr 1), (0, vr 1000)] [0, 1, 2, 3] rfl ?_
  exact hrun
set_option maxHeartbeats 4000000 in
set_option maxRecDepth 20000 in
theorem law_18 {I : zI} {π : Int → Nat} {D : zD} {k L : Int} (s : zSim I π) (hL : I 1000 (-1) = L) (hL2 : L ≤ 2048) (h0 : 0 ≤ k) (h1 : k ≤ L - 4) (hv : (Int32.ofInt (I 1000 k) &&& Int32.ofInt 31).toInt = 18) (hk : ∀ I2 π2 D2, zSim I2 π2 → (∀ j, I2 1000 j = I 1000 j) → ∃ τ, τ.2.2.2 = 147 ∧ zRuns 143 18 [(3, vi (k + 4)), (2, vr 137), (1, vr 1), (0, vr 1000)] [] (I2, zPp π2, D2, 147) (some (vi 1)) τ) : ∃ τ, τ.2.2.2 = 147 ∧ zRuns 143 18 [(3, vi k), (2, vr 137), (1, vr 1), (0, vr 1000)] [] (I, zPp π, D, 147) (some (vi 1)) τ := by
  obtain ⟨res, I1, π1, D1, I2, D2, g1, g2, s2⟩ := op_again (D := D) s (I 1000 (k + 1)) (I 1000 (k + 2))
  have e1 : ∀ j, I1 1000 j = I 1000 j := zRuns_1000 g1 (by decide)
  have e2 : ∀ j, I2 1000 j = I 1000 j := fun j => (zRuns_1000 g2 (by decide) j).trans (e1 j)
  obtain ⟨τ, hτ, hrun⟩ := hk I2 π1 D2 s2 e2
  refine ⟨τ, hτ, ?_⟩
  refine z_n 1 (19, [(3, vi k), (2, vr 137), (1, vr 1), (0, vr 1000)], [vi k], (I, zPp π, D, 147)) rfl trivial ?_
  refine z_n 1 (20, [(3, vi k), (2, vr 137), (1, vr 1), (0, vr 1000)], [vr 1000, vi k], (I, zPp π, D, 147)) rfl trivial ?_
  refine z_n 1 (21, [(3, vi k), (2, vr 137), (1, vr 1), (0, vr 1000)], [vi (I 1000 (-1)), vi k], (I, zPp π, D, 147)) rfl trivial ?_
  refine z_n 1 (22, [(3, vi k), (2, vr 137), (1, vr 1), (0, vr 1000)], [vi 4, vi (I 1000 (-1)), vi k], (I, zPp π, D, 147)) rfl trivial ?_
  refine z_n 1 (23, [(3, vi k), (2, vr 137), (1, vr 1), (0, vr 1000)], [vi ((I 1000 (-1)) - 4), vi k], (I, zPp π, D, 147)) (G := (zr ((I 1000 (-1)) - 4)) ∧ True) rfl ⟨by omega, trivial⟩ ?_
  refine z_br (((I 1000 (-1)) - 4) < k) 762 26 [] rfl (fun h => absurd h (show ¬ (((I 1000 (-1)) - 4) < k) from by omega)) (fun hx1 => ?_)
  refine z_n 1 (27, [(3, vi k), (2, vr 137), (1, vr 1), (0, vr 1000)], [vr 1000], (I, zPp π, D, 147)) rfl trivial ?_
  refine z_n 1 (28, [(3, vi k), (2, vr 137), (1, vr 1), (0, vr 1000)], [vi k, vr 1000], (I, zPp π, D, 147)) rfl trivial ?_
  refine z_n 1 (29, [(3, vi k), (2, vr 137), (1, vr 1), (0, vr 1000)], [vi (I 1000 k)], (I, zPp π, D, 147)) (G := (0 ≤ k ∧ k < (I 1000 (-1))) ∧ True) rfl ⟨by omega, trivial⟩ ?_
  refine z_n 1 (31, [(3, vi k), (2, vr 137), (1, vr 1), (0, vr 1000)], [vi 31, vi (I 1000 k)], (I, zPp π, D, 147)) rfl trivial ?_
  refine z_n 1 (32, [(3, vi k), (2, vr 137), (1, vr 1), (0, vr 1000)], [vi ((Int32.ofInt (I 1000 k) &&& Int32.ofInt 31).toInt)], (I, zPp π, D, 147)) rfl trivial ?_
  refine z_top (b := 18) (hv) ?_
  refine z_n 1 (638, [(3, vi k), (2, vr 137), (1, vr 1), (0, vr 1000)], [], (I, zPp π, D, 147)) rfl trivial ?_
  refine z_n 1 (639, [(3, vi k), (2, vr 137), (1, vr 1), (0, vr 1000)], [vr 1], (I, zPp π, D, 147)) rfl trivial ?_
  refine z_n 1 (640, [(3, vi k), (2, vr 137), (1, vr 1), (0, vr 1000)], [vr 1000, vr 1], (I, zPp π, D, 147)) rfl trivial ?_
  refine z_n 1 (641, [(3, vi k), (2, vr 137), (1, vr 1), (0, vr 1000)], [vi k, vr 1000, vr 1], (I, zPp π, D, 147)) rfl trivial ?_
  refine z_n 1 (642, [(3, vi k), (2, vr 137), (1, vr 1), (0, vr 1000)], [vi 1, vi k, vr 1000, vr 1], (I, zPp π, D, 147)) rfl trivial ?_
  refine z_n 1 (643, [(3, vi k), (2, vr 137), (1, vr 1), (0, vr 1000)], [vi (k + 1), vr 1000, vr 1], (I, zPp π, D, 147)) (G := (zr (k + 1)) ∧ True) rfl ⟨by omega, trivial⟩ ?_
  refine z_n 1 (644, [(3, vi k), (2, vr 137), (1, vr 1), (0, vr 1000)], [vi (I 1000 (k + 1)), vr 1], (I, zPp π, D, 147)) (G := (0 ≤ (k + 1) ∧ (k + 1) < (I 1000 (-1))) ∧ True) rfl ⟨by omega, trivial⟩ ?_
  refine z_n 1 (645, [(3, vi k), (2, vr 137), (1, vr 1), (0, vr 1000)], [vr 1000, vi (I 1000 (k + 1)), vr 1], (I, zPp π, D, 147)) rfl trivial ?_
  refine z_n 1 (646, [(3, vi k), (2, vr 137), (1, vr 1), (0, vr 1000)], [vi k, vr 1000, vi (I 1000 (k + 1)), vr 1], (I, zPp π, D, 147)) rfl trivial ?_
  refine z_n 1 (647, [(3, vi k), (2, vr 137), (1, vr 1), (0, vr 1000)], [vi 2, vi k, vr 1000, vi (I 1000 (k + 1)), vr 1], (I, zPp π, D, 147)) rfl trivial ?_
  refine z_n 1 (648, [(3, vi k), (2, vr 137), (1, vr 1), (0, vr 1000)], [vi (k + 2), vr 1000, vi (I 1000 (k + 1)), vr 1], (I, zPp π, D, 147)) (G := (zr (k + 2)) ∧ True) rfl ⟨by omega, trivial⟩ ?_
  refine z_n 1 (649, [(3, vi k), (2, vr 137), (1, vr 1), (0, vr 1000)], [vi (I 1000 (k + 2)), vi (I 1000 (k + 1)), vr 1], (I, zPp π, D, 147)) (G := (0 ≤ (k + 2) ∧ (k + 2) < (I 1000 (-1))) ∧ True) rfl ⟨by omega, trivial⟩ ?_
  refine z_ci 86 [vr 1, vi (I 1000 (k + 1)), vi (I 1000 (k + 2))] [] rfl (g1) ?_
  refine z_n 1 (653, [(3, vi k), (2, vr 137), (1, vr 1), (0, vr 1000)], [vr 137, vi res], (I1, zPp π1, D1, 147)) rfl trivial ?_
  refine z_n 1 (654, [(3, vi k), (2, vr 137), (1, vr 1), (0, vr 1000)], [vr 1000, vr 137, vi res], (I1, zPp π1, D1, 147)) rfl trivial ?_
  refine z_n 1 (655, [(3, vi k), (2, vr 137), (1, vr 1), (0, vr 1000)], [vi k, vr 1000, vr 137, vi res], (I1, zPp π1, D1, 147)) rfl trivial ?_
  refine z_n 1 (656, [(3, vi k), (2, vr 137), (1, vr 1), (0, vr 1000)], [vi 1, vi k, vr 1000, vr 137, vi res], (I1, zPp π1, D1, 147)) rfl trivial ?_
  refine z_n 1 (657, [(3, vi k), (2, vr 137), (1, vr 1), (0, vr 1000)], [vi (k + 1), vr 1000, vr 137, vi res], (I1, zPp π1, D1, 147)) (G := (zr (k + 1)) ∧ True) rfl ⟨by omega, trivial⟩ ?_
  refine z_n 1 (658, [(3, vi k), (2, vr 137), (1, vr 1), (0, vr 1000)], [vi (I1 1000 (k + 1)), vr 137, vi res], (I1, zPp π1, D1, 147)) (G := (0 ≤ (k + 1) ∧ (k + 1) < (I1 1000 (-1))) ∧ True) rfl ⟨by rw [e1]; omega, trivial⟩ ?_
  refine z_top (b := I 1000 (k + 1)) (e1 _) ?_
  refine z_n 1 (659, [(3, vi k), (2, vr 137), (1, vr 1), (0, vr 1000)], [vr 1000, vi (I 1000 (k + 1)), vr 137, vi res], (I1, zPp π1, D1, 147)) rfl trivial ?_
  refine z_n 1 (660, [(3, vi k), (2, vr 137), (1, vr 1), (0, vr 1000)], [vi k, vr 1000, vi (I 1000 (k + 1)), vr 137, vi res], (I1, zPp π1, D1, 147)) rfl trivial ?_
  refine z_n 1 (661, [(3, vi k), (2, vr 137), (1, vr 1), (0, vr 1000)], [vi 2, vi k, vr 1000, vi (I 1000 (k + 1)), vr 137, vi res], (I1, zPp π1, D1, 147)) rfl trivial ?_
  refine z_n 1 (662, [(3, vi k), (2, vr 137), (1, vr 1), (0, vr 1000)], [vi (k + 2), vr 1000, vi (I 1000 (k + 1)), vr 137, vi res], (I1, zPp π1, D1, 147)) (G := (zr (k + 2)) ∧ True) rfl ⟨by omega, trivial⟩ ?_
  refine z_n 1 (663, [(3, vi k), (2, vr 137), (1, vr 1), (0, vr 1000)], [vi (I1 1000 (k + 2)), vi (I 1000 (k + 1)), vr 137, vi res], (I1, zPp π1, D1, 147)) (G := (0 ≤ (k + 2) ∧ (k + 2) < (I1 1000 (-1))) ∧ True) rfl ⟨by rw [e1]; omega, trivial⟩ ?_
  refine z_top (b := I 1000 (k + 2)) (e1 _) ?_
  refine z_ci 130 [vr 137, vi (I 1000 (k + 1)), vi (I 1000 (k + 2))] [vi res] rfl (g2) ?_
  refine z_br (res = res) 756 669 [] rfl (fun hx2 => ?_) (fun h => absurd (show res = res from rfl) h)
  refine z_n 1 (759, [(3, vi (k + 4)), (2, vr 137), (1, vr 1), (0, vr 1000)], [], (I2, zPp π1, D2, 147)) (G := (zr (k + 4)) ∧ True) rfl ⟨by omega, trivial⟩ ?_
  refine z_n 1 (18, [(3, vi (k + 4)), (2, vr 137), (1, vr 1), (0, vr 1000)], [], (I2, zPp π1, D2, 147)) rfl trivial ?_
  refine z_sub [(3, vi (k + 4)), (2, vr 137), (1, vr 1), (0, vr 1000)] [0, 1, 2, 3] rfl ?_
  exact hrun
set_option maxHeartbeats 4000000 in
set_option maxRecDepth 20000 in
theorem law_19 {I : zI} {π : Int → Nat} {D : zD} {k L : Int} (s : zSim I π) (hL : I 1000 (-1) = L) (hL2 : L ≤ 2048) (h0 : 0 ≤ k) (h1 : k ≤ L - 4) (hv : (Int32.ofInt (I 1000 k) &&& Int32.ofInt 31).toInt = 19) (hk : ∀ I2 π2 D2, zSim I2 π2 → (∀ j, I2 1000 j = I 1000 j) → ∃ τ, τ.2.2.2 = 147 ∧ zRuns 143 18 [(3, vi (k + 4)), (2, vr 137), (1, vr 1), (0, vr 1000)] [] (I2, zPp π2, D2, 147) (some (vi 1)) τ) : ∃ τ, τ.2.2.2 = 147 ∧ zRuns 143 18 [(3, vi k), (2, vr 137), (1, vr 1), (0, vr 1000)] [] (I, zPp π, D, 147) (some (vi 1)) τ := by
  obtain ⟨res, I1, π1, D1, I2, D2, g1, g2, s2⟩ := op_bestRise (D := D) s
  have e1 : ∀ j, I1 1000 j = I 1000 j := zRuns_1000 g1 (by decide)
  have e2 : ∀ j, I2 1000 j = I 1000 j := fun j => (zRuns_1000 g2 (by decide) j).trans (e1 j)
  obtain ⟨τ, hτ, hrun⟩ := hk I2 π1 D2 s2 e2
  refine ⟨τ, hτ, ?_⟩
  refine z_n 1 (19, [(3, vi k), (2, vr 137), (1, vr 1), (0, vr 1000)], [vi k], (I, zPp π, D, 147)) rfl trivial ?_
  refine z_n 1 (20, [(3, vi k), (2, vr 137), (1, vr 1), (0, vr 1000)], [vr 1000, vi k], (I, zPp π, D, 147)) rfl trivial ?_
  refine z_n 1 (21, [(3, vi k), (2, vr 137), (1, vr 1), (0, vr 1000)], [vi (I 1000 (-1)), vi k], (I, zPp π, D, 147)) rfl trivial ?_
  refine z_n 1 (22, [(3, vi k), (2, vr 137), (1, vr 1), (0, vr 1000)], [vi 4, vi (I 1000 (-1)), vi k], (I, zPp π, D, 147)) rfl trivial ?_
  refine z_n 1 (23, [(3, vi k), (2, vr 137), (1, vr 1), (0, vr 1000)], [vi ((I 1000 (-1)) - 4), vi k], (I, zPp π, D, 147)) (G := (zr ((I 1000 (-1)) - 4)) ∧ True) rfl ⟨by omega, trivial⟩ ?_
  refine z_br (((I 1000 (-1)) - 4) < k) 762 26 [] rfl (fun h => absurd h (show ¬ (((I 1000 (-1)) - 4) < k) from by omega)) (fun hx1 => ?_)
  refine z_n 1 (27, [(3, vi k), (2, vr 137), (1, vr 1), (0, vr 1000)], [vr 1000], (I, zPp π, D, 147)) rfl trivial ?_
  refine z_n 1 (28, [(3, vi k), (2, vr 137), (1, vr 1), (0, vr 1000)], [vi k, vr 1000], (I, zPp π, D, 147)) rfl trivial ?_
  refine z_n 1 (29, [(3, vi k), (2, vr 137), (1, vr 1), (0, vr 1000)], [vi (I 1000 k)], (I, zPp π, D, 147)) (G := (0 ≤ k ∧ k < (I 1000 (-1))) ∧ True) rfl ⟨by omega, trivial⟩ ?_
  refine z_n 1 (31, [(3, vi k), (2, vr 137), (1, vr 1), (0, vr 1000)], [vi 31, vi (I 1000 k)], (I, zPp π, D, 147)) rfl trivial ?_
  refine z_n 1 (32, [(3, vi k), (2, vr 137), (1, vr 1), (0, vr 1000)], [vi ((Int32.ofInt (I 1000 k) &&& Int32.ofInt 31).toInt)], (I, zPp π, D, 147)) rfl trivial ?_
  refine z_top (b := 19) (hv) ?_
  refine z_n 1 (671, [(3, vi k), (2, vr 137), (1, vr 1), (0, vr 1000)], [], (I, zPp π, D, 147)) rfl trivial ?_
  refine z_n 1 (672, [(3, vi k), (2, vr 137), (1, vr 1), (0, vr 1000)], [vr 1], (I, zPp π, D, 147)) rfl trivial ?_
  refine z_ci 87 [vr 1] [] rfl (g1) ?_
  refine z_n 1 (676, [(3, vi k), (2, vr 137), (1, vr 1), (0, vr 1000)], [vr 137, vi res], (I1, zPp π1, D1, 147)) rfl trivial ?_
  refine z_ci 131 [vr 137] [vi res] rfl (g2) ?_
  refine z_br (res = res) 756 682 [] rfl (fun hx2 => ?_) (fun h => absurd (show res = res from rfl) h)
  refine z_n 1 (759, [(3, vi (k + 4)), (2, vr 137), (1, vr 1), (0, vr 1000)], [], (I2, zPp π1, D2, 147)) (G := (zr (k + 4)) ∧ True) rfl ⟨by omega, trivial⟩ ?_
  refine z_n 1 (18, [(3, vi (k + 4)), (2, vr 137), (1, vr 1), (0, vr 1000)], [], (I2, zPp π1, D2, 147)) rfl trivial ?_
  refine z_sub [(3, vi (k + 4)), (2, vr 137), (1, vr 1), (0, vr 1000)] [0, 1, 2, 3] rfl ?_
  exact hrun
set_option maxHeartbeats 4000000 in
set_option maxRecDepth 20000 in
theorem law_20 {I : zI} {π : Int → Nat} {D : zD} {k L : Int} (s : zSim I π) (hL : I 1000 (-1) = L) (hL2 : L ≤ 2048) (h0 : 0 ≤ k) (h1 : k ≤ L - 4) (hv : (Int32.ofInt (I 1000 k) &&& Int32.ofInt 31).toInt = 20) (hk : ∀ I2 π2 D2, zSim I2 π2 → (∀ j, I2 1000 j = I 1000 j) → ∃ τ, τ.2.2.2 = 147 ∧ zRuns 143 18 [(3, vi (k + 4)), (2, vr 137), (1, vr 1), (0, vr 1000)] [] (I2, zPp π2, D2, 147) (some (vi 1)) τ) : ∃ τ, τ.2.2.2 = 147 ∧ zRuns 143 18 [(3, vi k), (2, vr 137), (1, vr 1), (0, vr 1000)] [] (I, zPp π, D, 147) (some (vi 1)) τ := by
  obtain ⟨res, I1, π1, D1, I2, D2, g1, g2, s2⟩ := op_type (D := D) s (I 1000 (k + 1))
  have e1 : ∀ j, I1 1000 j = I 1000 j := zRuns_1000 g1 (by decide)
  have e2 : ∀ j, I2 1000 j = I 1000 j := fun j => (zRuns_1000 g2 (by decide) j).trans (e1 j)
  obtain ⟨τ, hτ, hrun⟩ := hk I2 π1 D2 s2 e2
  refine ⟨τ, hτ, ?_⟩
  refine z_n 1 (19, [(3, vi k), (2, vr 137), (1, vr 1), (0, vr 1000)], [vi k], (I, zPp π, D, 147)) rfl trivial ?_
  refine z_n 1 (20, [(3, vi k), (2, vr 137), (1, vr 1), (0, vr 1000)], [vr 1000, vi k], (I, zPp π, D, 147)) rfl trivial ?_
  refine z_n 1 (21, [(3, vi k), (2, vr 137), (1, vr 1), (0, vr 1000)], [vi (I 1000 (-1)), vi k], (I, zPp π, D, 147)) rfl trivial ?_
  refine z_n 1 (22, [(3, vi k), (2, vr 137), (1, vr 1), (0, vr 1000)], [vi 4, vi (I 1000 (-1)), vi k], (I, zPp π, D, 147)) rfl trivial ?_
  refine z_n 1 (23, [(3, vi k), (2, vr 137), (1, vr 1), (0, vr 1000)], [vi ((I 1000 (-1)) - 4), vi k], (I, zPp π, D, 147)) (G := (zr ((I 1000 (-1)) - 4)) ∧ True) rfl ⟨by omega, trivial⟩ ?_
  refine z_br (((I 1000 (-1)) - 4) < k) 762 26 [] rfl (fun h => absurd h (show ¬ (((I 1000 (-1)) - 4) < k) from by omega)) (fun hx1 => ?_)
  refine z_n 1 (27, [(3, vi k), (2, vr 137), (1, vr 1), (0, vr 1000)], [vr 1000], (I, zPp π, D, 147)) rfl trivial ?_
  refine z_n 1 (28, [(3, vi k), (2, vr 137), (1, vr 1), (0, vr 1000)], [vi k, vr 1000], (I, zPp π, D, 147)) rfl trivial ?_
  refine z_n 1 (29, [(3, vi k), (2, vr 137), (1, vr 1), (0, vr 1000)], [vi (I 1000 k)], (I, zPp π, D, 147)) (G := (0 ≤ k ∧ k < (I 1000 (-1))) ∧ True) rfl ⟨by omega, trivial⟩ ?_
  refine z_n 1 (31, [(3, vi k), (2, vr 137), (1, vr 1), (0, vr 1000)], [vi 31, vi (I 1000 k)], (I, zPp π, D, 147)) rfl trivial ?_
  refine z_n 1 (32, [(3, vi k), (2, vr 137), (1, vr 1), (0, vr 1000)], [vi ((Int32.ofInt (I 1000 k) &&& Int32.ofInt 31).toInt)], (I, zPp π, D, 147)) rfl trivial ?_
  refine z_top (b := 20) (hv) ?_
  refine z_n 1 (684, [(3, vi k), (2, vr 137), (1, vr 1), (0, vr 1000)], [], (I, zPp π, D, 147)) rfl trivial ?_
  refine z_n 1 (685, [(3, vi k), (2, vr 137), (1, vr 1), (0, vr 1000)], [vr 1], (I, zPp π, D, 147)) rfl trivial ?_
  refine z_n 1 (686, [(3, vi k), (2, vr 137), (1, vr 1), (0, vr 1000)], [vr 1000, vr 1], (I, zPp π, D, 147)) rfl trivial ?_
  refine z_n 1 (687, [(3, vi k), (2, vr 137), (1, vr 1), (0, vr 1000)], [vi k, vr 1000, vr 1], (I, zPp π, D, 147)) rfl trivial ?_
  refine z_n 1 (688, [(3, vi k), (2, vr 137), (1, vr 1), (0, vr 1000)], [vi 1, vi k, vr 1000, vr 1], (I, zPp π, D, 147)) rfl trivial ?_
  refine z_n 1 (689, [(3, vi k), (2, vr 137), (1, vr 1), (0, vr 1000)], [vi (k + 1), vr 1000, vr 1], (I, zPp π, D, 147)) (G := (zr (k + 1)) ∧ True) rfl ⟨by omega, trivial⟩ ?_
  refine z_n 1 (690, [(3, vi k), (2, vr 137), (1, vr 1), (0, vr 1000)], [vi (I 1000 (k + 1)), vr 1], (I, zPp π, D, 147)) (G := (0 ≤ (k + 1) ∧ (k + 1) < (I 1000 (-1))) ∧ True) rfl ⟨by omega, trivial⟩ ?_
  refine z_ci 88 [vr 1, vi (I 1000 (k + 1))] [] rfl (g1) ?_
  refine z_n 1 (694, [(3, vi k), (2, vr 137), (1, vr 1), (0, vr 1000)], [vr 137, vi res], (I1, zPp π1, D1, 147)) rfl trivial ?_
  refine z_n 1 (695, [(3, vi k), (2, vr 137), (1, vr 1), (0, vr 1000)], [vr 1000, vr 137, vi res], (I1, zPp π1, D1, 147)) rfl trivial ?_
  refine z_n 1 (696, [(3, vi k), (2, vr 137), (1, vr 1), (0, vr 1000)], [vi k, vr 1000, vr 137, vi res], (I1, zPp π1, D1, 147)) rfl trivial ?_
  refine z_n 1 (697, [(3, vi k), (2, vr 137), (1, vr 1), (0, vr 1000)], [vi 1, vi k, vr 1000, vr 137, vi res], (I1, zPp π1, D1, 147)) rfl trivial ?_
  refine z_n 1 (698, [(3, vi k), (2, vr 137), (1, vr 1), (0, vr 1000)], [vi (k + 1), vr 1000, vr 137, vi res], (I1, zPp π1, D1, 147)) (G := (zr (k + 1)) ∧ True) rfl ⟨by omega, trivial⟩ ?_
  refine z_n 1 (699, [(3, vi k), (2, vr 137), (1, vr 1), (0, vr 1000)], [vi (I1 1000 (k + 1)), vr 137, vi res], (I1, zPp π1, D1, 147)) (G := (0 ≤ (k + 1) ∧ (k + 1) < (I1 1000 (-1))) ∧ True) rfl ⟨by rw [e1]; omega, trivial⟩ ?_
  refine z_top (b := I 1000 (k + 1)) (e1 _) ?_
  refine z_ci 132 [vr 137, vi (I 1000 (k + 1))] [vi res] rfl (g2) ?_
  refine z_br (res = res) 756 705 [] rfl (fun hx2 => ?_) (fun h => absurd (show res = res from rfl) h)
  refine z_n 1 (759, [(3, vi (k + 4)), (2, vr 137), (1, vr 1), (0, vr 1000)], [], (I2, zPp π1, D2, 147)) (G := (zr (k + 4)) ∧ True) rfl ⟨by omega, trivial⟩ ?_
  refine z_n 1 (18, [(3, vi (k + 4)), (2, vr 137), (1, vr 1), (0, vr 1000)], [], (I2, zPp π1, D2, 147)) rfl trivial ?_
  refine z_sub [(3, vi (k + 4)), (2, vr 137), (1, vr 1), (0, vr 1000)] [0, 1, 2, 3] rfl ?_
  exact hrun
set_option maxHeartbeats 4000000 in
set_option maxRecDepth 20000 in
theorem law_21 {I : zI} {π : Int → Nat} {D : zD} {k L : Int} (s : zSim I π) (hL : I 1000 (-1) = L) (hL2 : L ≤ 2048) (h0 : 0 ≤ k) (h1 : k ≤ L - 4) (hv : (Int32.ofInt (I 1000 k) &&& Int32.ofInt 31).toInt = 21) (hk : ∀ I2 π2 D2, zSim I2 π2 → (∀ j, I2 1000 j = I 1000 j) → ∃ τ, τ.2.2.2 = 147 ∧ zRuns 143 18 [(3, vi (k + 4)), (2, vr 137), (1, vr 1), (0, vr 1000)] [] (I2, zPp π2, D2, 147) (some (vi 1)) τ) : ∃ τ, τ.2.2.2 = 147 ∧ zRuns 143 18 [(3, vi k), (2, vr 137), (1, vr 1), (0, vr 1000)] [] (I, zPp π, D, 147) (some (vi 1)) τ := by
  obtain ⟨res, I1, π1, D1, I2, D2, g1, g2, s2⟩ := op_clearText (D := D) s
  have e1 : ∀ j, I1 1000 j = I 1000 j := zRuns_1000 g1 (by decide)
  have e2 : ∀ j, I2 1000 j = I 1000 j := fun j => (zRuns_1000 g2 (by decide) j).trans (e1 j)
  obtain ⟨τ, hτ, hrun⟩ := hk I2 π1 D2 s2 e2
  refine ⟨τ, hτ, ?_⟩
  refine z_n 1 (19, [(3, vi k), (2, vr 137), (1, vr 1), (0, vr 1000)], [vi k], (I, zPp π, D, 147)) rfl trivial ?_
  refine z_n 1 (20, [(3, vi k), (2, vr 137), (1, vr 1), (0, vr 1000)], [vr 1000, vi k], (I, zPp π, D, 147)) rfl trivial ?_
  refine z_n 1 (21, [(3, vi k), (2, vr 137), (1, vr 1), (0, vr 1000)], [vi (I 1000 (-1)), vi k], (I, zPp π, D, 147)) rfl trivial ?_
  refine z_n 1 (22, [(3, vi k), (2, vr 137), (1, vr 1), (0, vr 1000)], [vi 4, vi (I 1000 (-1)), vi k], (I, zPp π, D, 147)) rfl trivial ?_
  refine z_n 1 (23, [(3, vi k), (2, vr 137), (1, vr 1), (0, vr 1000)], [vi ((I 1000 (-1)) - 4), vi k], (I, zPp π, D, 147)) (G := (zr ((I 1000 (-1)) - 4)) ∧ True) rfl ⟨by omega, trivial⟩ ?_
  refine z_br (((I 1000 (-1)) - 4) < k) 762 26 [] rfl (fun h => absurd h (show ¬ (((I 1000 (-1)) - 4) < k) from by omega)) (fun hx1 => ?_)
  refine z_n 1 (27, [(3, vi k), (2, vr 137), (1, vr 1), (0, vr 1000)], [vr 1000], (I, zPp π, D, 147)) rfl trivial ?_
  refine z_n 1 (28, [(3, vi k), (2, vr 137), (1, vr 1), (0, vr 1000)], [vi k, vr 1000], (I, zPp π, D, 147)) rfl trivial ?_
  refine z_n 1 (29, [(3, vi k), (2, vr 137), (1, vr 1), (0, vr 1000)], [vi (I 1000 k)], (I, zPp π, D, 147)) (G := (0 ≤ k ∧ k < (I 1000 (-1))) ∧ True) rfl ⟨by omega, trivial⟩ ?_
  refine z_n 1 (31, [(3, vi k), (2, vr 137), (1, vr 1), (0, vr 1000)], [vi 31, vi (I 1000 k)], (I, zPp π, D, 147)) rfl trivial ?_
  refine z_n 1 (32, [(3, vi k), (2, vr 137), (1, vr 1), (0, vr 1000)], [vi ((Int32.ofInt (I 1000 k) &&& Int32.ofInt 31).toInt)], (I, zPp π, D, 147)) rfl trivial ?_
  refine z_top (b := 21) (hv) ?_
  refine z_n 1 (707, [(3, vi k), (2, vr 137), (1, vr 1), (0, vr 1000)], [], (I, zPp π, D, 147)) rfl trivial ?_
  refine z_n 1 (708, [(3, vi k), (2, vr 137), (1, vr 1), (0, vr 1000)], [vr 1], (I, zPp π, D, 147)) rfl trivial ?_
  refine z_ci 89 [vr 1] [] rfl (g1) ?_
  refine z_n 1 (712, [(3, vi k), (2, vr 137), (1, vr 1), (0, vr 1000)], [vr 137, vi res], (I1, zPp π1, D1, 147)) rfl trivial ?_
  refine z_ci 133 [vr 137] [vi res] rfl (g2) ?_
  refine z_br (res = res) 756 718 [] rfl (fun hx2 => ?_) (fun h => absurd (show res = res from rfl) h)
  refine z_n 1 (759, [(3, vi (k + 4)), (2, vr 137), (1, vr 1), (0, vr 1000)], [], (I2, zPp π1, D2, 147)) (G := (zr (k + 4)) ∧ True) rfl ⟨by omega, trivial⟩ ?_
  refine z_n 1 (18, [(3, vi (k + 4)), (2, vr 137), (1, vr 1), (0, vr 1000)], [], (I2, zPp π1, D2, 147)) rfl trivial ?_
  refine z_sub [(3, vi (k + 4)), (2, vr 137), (1, vr 1), (0, vr 1000)] [0, 1, 2, 3] rfl ?_
  exact hrun
set_option maxHeartbeats 4000000 in
set_option maxRecDepth 20000 in
theorem law_22 {I : zI} {π : Int → Nat} {D : zD} {k L : Int} (s : zSim I π) (hL : I 1000 (-1) = L) (hL2 : L ≤ 2048) (h0 : 0 ≤ k) (h1 : k ≤ L - 4) (hv : (Int32.ofInt (I 1000 k) &&& Int32.ofInt 31).toInt = 22) (hk : ∀ I2 π2 D2, zSim I2 π2 → (∀ j, I2 1000 j = I 1000 j) → ∃ τ, τ.2.2.2 = 147 ∧ zRuns 143 18 [(3, vi (k + 4)), (2, vr 137), (1, vr 1), (0, vr 1000)] [] (I2, zPp π2, D2, 147) (some (vi 1)) τ) : ∃ τ, τ.2.2.2 = 147 ∧ zRuns 143 18 [(3, vi k), (2, vr 137), (1, vr 1), (0, vr 1000)] [] (I, zPp π, D, 147) (some (vi 1)) τ := by
  obtain ⟨res, I1, π1, D1, I2, D2, g1, g2, s2⟩ := op_fault (D := D) s (I 1000 (k + 1))
  have e1 : ∀ j, I1 1000 j = I 1000 j := zRuns_1000 g1 (by decide)
  have e2 : ∀ j, I2 1000 j = I 1000 j := fun j => (zRuns_1000 g2 (by decide) j).trans (e1 j)
  obtain ⟨τ, hτ, hrun⟩ := hk I2 π1 D2 s2 e2
  refine ⟨τ, hτ, ?_⟩
  refine z_n 1 (19, [(3, vi k), (2, vr 137), (1, vr 1), (0, vr 1000)], [vi k], (I, zPp π, D, 147)) rfl trivial ?_
  refine z_n 1 (20, [(3, vi k), (2, vr 137), (1, vr 1), (0, vr 1000)], [vr 1000, vi k], (I, zPp π, D, 147)) rfl trivial ?_
  refine z_n 1 (21, [(3, vi k), (2, vr 137), (1, vr 1), (0, vr 1000)], [vi (I 1000 (-1)), vi k], (I, zPp π, D, 147)) rfl trivial ?_
  refine z_n 1 (22, [(3, vi k), (2, vr 137), (1, vr 1), (0, vr 1000)], [vi 4, vi (I 1000 (-1)), vi k], (I, zPp π, D, 147)) rfl trivial ?_
  refine z_n 1 (23, [(3, vi k), (2, vr 137), (1, vr 1), (0, vr 1000)], [vi ((I 1000 (-1)) - 4), vi k], (I, zPp π, D, 147)) (G := (zr ((I 1000 (-1)) - 4)) ∧ True) rfl ⟨by omega, trivial⟩ ?_
  refine z_br (((I 1000 (-1)) - 4) < k) 762 26 [] rfl (fun h => absurd h (show ¬ (((I 1000 (-1)) - 4) < k) from by omega)) (fun hx1 => ?_)
  refine z_n 1 (27, [(3, vi k), (2, vr 137), (1, vr 1), (0, vr 1000)], [vr 1000], (I, zPp π, D, 147)) rfl trivial ?_
  refine z_n 1 (28, [(3, vi k), (2, vr 137), (1, vr 1), (0, vr 1000)], [vi k, vr 1000], (I, zPp π, D, 147)) rfl trivial ?_
  refine z_n 1 (29, [(3, vi k), (2, vr 137), (1, vr 1), (0, vr 1000)], [vi (I 1000 k)], (I, zPp π, D, 147)) (G := (0 ≤ k ∧ k < (I 1000 (-1))) ∧ True) rfl ⟨by omega, trivial⟩ ?_
  refine z_n 1 (31, [(3, vi k), (2, vr 137), (1, vr 1), (0, vr 1000)], [vi 31, vi (I 1000 k)], (I, zPp π, D, 147)) rfl trivial ?_
  refine z_n 1 (32, [(3, vi k), (2, vr 137), (1, vr 1), (0, vr 1000)], [vi ((Int32.ofInt (I 1000 k) &&& Int32.ofInt 31).toInt)], (I, zPp π, D, 147)) rfl trivial ?_
  refine z_top (b := 22) (hv) ?_
  refine z_n 1 (720, [(3, vi k), (2, vr 137), (1, vr 1), (0, vr 1000)], [], (I, zPp π, D, 147)) rfl trivial ?_
  refine z_n 1 (721, [(3, vi k), (2, vr 137), (1, vr 1), (0, vr 1000)], [vr 1], (I, zPp π, D, 147)) rfl trivial ?_
  refine z_n 1 (722, [(3, vi k), (2, vr 137), (1, vr 1), (0, vr 1000)], [vr 1000, vr 1], (I, zPp π, D, 147)) rfl trivial ?_
  refine z_n 1 (723, [(3, vi k), (2, vr 137), (1, vr 1), (0, vr 1000)], [vi k, vr 1000, vr 1], (I, zPp π, D, 147)) rfl trivial ?_
  refine z_n 1 (724, [(3, vi k), (2, vr 137), (1, vr 1), (0, vr 1000)], [vi 1, vi k, vr 1000, vr 1], (I, zPp π, D, 147)) rfl trivial ?_
  refine z_n 1 (725, [(3, vi k), (2, vr 137), (1, vr 1), (0, vr 1000)], [vi (k + 1), vr 1000, vr 1], (I, zPp π, D, 147)) (G := (zr (k + 1)) ∧ True) rfl ⟨by omega, trivial⟩ ?_
  refine z_n 1 (726, [(3, vi k), (2, vr 137), (1, vr 1), (0, vr 1000)], [vi (I 1000 (k + 1)), vr 1], (I, zPp π, D, 147)) (G := (0 ≤ (k + 1) ∧ (k + 1) < (I 1000 (-1))) ∧ True) rfl ⟨by omega, trivial⟩ ?_
  refine z_ci 90 [vr 1, vi (I 1000 (k + 1))] [] rfl (g1) ?_
  refine z_n 1 (730, [(3, vi k), (2, vr 137), (1, vr 1), (0, vr 1000)], [vr 137, vi res], (I1, zPp π1, D1, 147)) rfl trivial ?_
  refine z_n 1 (731, [(3, vi k), (2, vr 137), (1, vr 1), (0, vr 1000)], [vr 1000, vr 137, vi res], (I1, zPp π1, D1, 147)) rfl trivial ?_
  refine z_n 1 (732, [(3, vi k), (2, vr 137), (1, vr 1), (0, vr 1000)], [vi k, vr 1000, vr 137, vi res], (I1, zPp π1, D1, 147)) rfl trivial ?_
  refine z_n 1 (733, [(3, vi k), (2, vr 137), (1, vr 1), (0, vr 1000)], [vi 1, vi k, vr 1000, vr 137, vi res], (I1, zPp π1, D1, 147)) rfl trivial ?_
  refine z_n 1 (734, [(3, vi k), (2, vr 137), (1, vr 1), (0, vr 1000)], [vi (k + 1), vr 1000, vr 137, vi res], (I1, zPp π1, D1, 147)) (G := (zr (k + 1)) ∧ True) rfl ⟨by omega, trivial⟩ ?_
  refine z_n 1 (735, [(3, vi k), (2, vr 137), (1, vr 1), (0, vr 1000)], [vi (I1 1000 (k + 1)), vr 137, vi res], (I1, zPp π1, D1, 147)) (G := (0 ≤ (k + 1) ∧ (k + 1) < (I1 1000 (-1))) ∧ True) rfl ⟨by rw [e1]; omega, trivial⟩ ?_
  refine z_top (b := I 1000 (k + 1)) (e1 _) ?_
  refine z_ci 137 [vr 137, vi (I 1000 (k + 1))] [vi res] rfl (g2) ?_
  refine z_br (res = res) 756 741 [] rfl (fun hx2 => ?_) (fun h => absurd (show res = res from rfl) h)
  refine z_n 1 (759, [(3, vi (k + 4)), (2, vr 137), (1, vr 1), (0, vr 1000)], [], (I2, zPp π1, D2, 147)) (G := (zr (k + 4)) ∧ True) rfl ⟨by omega, trivial⟩ ?_
  refine z_n 1 (18, [(3, vi (k + 4)), (2, vr 137), (1, vr 1), (0, vr 1000)], [], (I2, zPp π1, D2, 147)) rfl trivial ?_
  refine z_sub [(3, vi (k + 4)), (2, vr 137), (1, vr 1), (0, vr 1000)] [0, 1, 2, 3] rfl ?_
  exact hrun
set_option maxHeartbeats 4000000 in
set_option maxRecDepth 20000 in
theorem law_23 {I : zI} {π : Int → Nat} {D : zD} {k L : Int} (s : zSim I π) (hL : I 1000 (-1) = L) (hL2 : L ≤ 2048) (h0 : 0 ≤ k) (h1 : k ≤ L - 4) (hv : (Int32.ofInt (I 1000 k) &&& Int32.ofInt 31).toInt = 23) (hk : ∀ I2 π2 D2, zSim I2 π2 → (∀ j, I2 1000 j = I 1000 j) → ∃ τ, τ.2.2.2 = 147 ∧ zRuns 143 18 [(3, vi (k + 4)), (2, vr 137), (1, vr 1), (0, vr 1000)] [] (I2, zPp π2, D2, 147) (some (vi 1)) τ) : ∃ τ, τ.2.2.2 = 147 ∧ zRuns 143 18 [(3, vi k), (2, vr 137), (1, vr 1), (0, vr 1000)] [] (I, zPp π, D, 147) (some (vi 1)) τ := by
  obtain ⟨res, I1, π1, D1, I2, D2, g1, g2, s2⟩ := op_enter (D := D) s
  have e1 : ∀ j, I1 1000 j = I 1000 j := zRuns_1000 g1 (by decide)
  have e2 : ∀ j, I2 1000 j = I 1000 j := fun j => (zRuns_1000 g2 (by decide) j).trans (e1 j)
  obtain ⟨τ, hτ, hrun⟩ := hk I2 π1 D2 s2 e2
  refine ⟨τ, hτ, ?_⟩
  refine z_n 1 (19, [(3, vi k), (2, vr 137), (1, vr 1), (0, vr 1000)], [vi k], (I, zPp π, D, 147)) rfl trivial ?_
  refine z_n 1 (20, [(3, vi k), (2, vr 137), (1, vr 1), (0, vr 1000)], [vr 1000, vi k], (I, zPp π, D, 147)) rfl trivial ?_
  refine z_n 1 (21, [(3, vi k), (2, vr 137), (1, vr 1), (0, vr 1000)], [vi (I 1000 (-1)), vi k], (I, zPp π, D, 147)) rfl trivial ?_
  refine z_n 1 (22, [(3, vi k), (2, vr 137), (1, vr 1), (0, vr 1000)], [vi 4, vi (I 1000 (-1)), vi k], (I, zPp π, D, 147)) rfl trivial ?_
  refine z_n 1 (23, [(3, vi k), (2, vr 137), (1, vr 1), (0, vr 1000)], [vi ((I 1000 (-1)) - 4), vi k], (I, zPp π, D, 147)) (G := (zr ((I 1000 (-1)) - 4)) ∧ True) rfl ⟨by omega, trivial⟩ ?_
  refine z_br (((I 1000 (-1)) - 4) < k) 762 26 [] rfl (fun h => absurd h (show ¬ (((I 1000 (-1)) - 4) < k) from by omega)) (fun hx1 => ?_)
  refine z_n 1 (27, [(3, vi k), (2, vr 137), (1, vr 1), (0, vr 1000)], [vr 1000], (I, zPp π, D, 147)) rfl trivial ?_
  refine z_n 1 (28, [(3, vi k), (2, vr 137), (1, vr 1), (0, vr 1000)], [vi k, vr 1000], (I, zPp π, D, 147)) rfl trivial ?_
  refine z_n 1 (29, [(3, vi k), (2, vr 137), (1, vr 1), (0, vr 1000)], [vi (I 1000 k)], (I, zPp π, D, 147)) (G := (0 ≤ k ∧ k < (I 1000 (-1))) ∧ True) rfl ⟨by omega, trivial⟩ ?_
  refine z_n 1 (31, [(3, vi k), (2, vr 137), (1, vr 1), (0, vr 1000)], [vi 31, vi (I 1000 k)], (I, zPp π, D, 147)) rfl trivial ?_
  refine z_n 1 (32, [(3, vi k), (2, vr 137), (1, vr 1), (0, vr 1000)], [vi ((Int32.ofInt (I 1000 k) &&& Int32.ofInt 31).toInt)], (I, zPp π, D, 147)) rfl trivial ?_
  refine z_top (b := 23) (hv) ?_
  refine z_n 1 (743, [(3, vi k), (2, vr 137), (1, vr 1), (0, vr 1000)], [], (I, zPp π, D, 147)) rfl trivial ?_
  refine z_n 1 (744, [(3, vi k), (2, vr 137), (1, vr 1), (0, vr 1000)], [vr 1], (I, zPp π, D, 147)) rfl trivial ?_
  refine z_ci 91 [vr 1] [] rfl (g1) ?_
  refine z_n 1 (748, [(3, vi k), (2, vr 137), (1, vr 1), (0, vr 1000)], [vr 137, vi res], (I1, zPp π1, D1, 147)) rfl trivial ?_
  refine z_ci 138 [vr 137] [vi res] rfl (g2) ?_
  refine z_br (res = res) 756 754 [] rfl (fun hx2 => ?_) (fun h => absurd (show res = res from rfl) h)
  refine z_n 1 (759, [(3, vi (k + 4)), (2, vr 137), (1, vr 1), (0, vr 1000)], [], (I2, zPp π1, D2, 147)) (G := (zr (k + 4)) ∧ True) rfl ⟨by omega, trivial⟩ ?_
  refine z_n 1 (18, [(3, vi (k + 4)), (2, vr 137), (1, vr 1), (0, vr 1000)], [], (I2, zPp π1, D2, 147)) rfl trivial ?_
  refine z_sub [(3, vi (k + 4)), (2, vr 137), (1, vr 1), (0, vr 1000)] [0, 1, 2, 3] rfl ?_
  exact hrun
set_option maxHeartbeats 4000000 in
set_option maxRecDepth 20000 in
theorem law_x {I : zI} {π : Int → Nat} {D : zD} {k L : Int} (s : zSim I π) (hL : I 1000 (-1) = L) (hL2 : L ≤ 2048) (h0 : 0 ≤ k) (h1 : k ≤ L - 4) (hv : (Int32.ofInt (I 1000 k) &&& Int32.ofInt 31).toInt < 0 ∨ 23 < (Int32.ofInt (I 1000 k) &&& Int32.ofInt 31).toInt) (hk : ∀ I2 π2 D2, zSim I2 π2 → (∀ j, I2 1000 j = I 1000 j) → ∃ τ, τ.2.2.2 = 147 ∧ zRuns 143 18 [(3, vi (k + 4)), (2, vr 137), (1, vr 1), (0, vr 1000)] [] (I2, zPp π2, D2, 147) (some (vi 1)) τ) : ∃ τ, τ.2.2.2 = 147 ∧ zRuns 143 18 [(3, vi k), (2, vr 137), (1, vr 1), (0, vr 1000)] [] (I, zPp π, D, 147) (some (vi 1)) τ := by
  obtain ⟨τ, hτ, hrun⟩ := hk I π D s (fun _ => rfl)
  refine ⟨τ, hτ, ?_⟩
  refine z_n 5 (23, [(3, vi k), (2, vr 137), (1, vr 1), (0, vr 1000)], [vi ((I 1000 (-1)) - 4), vi k], (I, zPp π, D, 147)) (G := (zr ((I 1000 (-1)) - 4)) ∧ True) rfl ⟨by omega, trivial⟩ ?_
  refine z_br (((I 1000 (-1)) - 4) < k) 762 26 [] rfl (fun h => absurd h (show ¬ (((I 1000 (-1)) - 4) < k) from by omega)) (fun hx1 => ?_)
  refine z_n 5 (32, [(3, vi k), (2, vr 137), (1, vr 1), (0, vr 1000)], [vi ((Int32.ofInt (I 1000 k) &&& Int32.ofInt 31).toInt)], (I, zPp π, D, 147)) (G := (0 ≤ k ∧ k < (I 1000 (-1))) ∧ True) rfl ⟨by omega, trivial⟩ ?_
  refine z_tsd rfl (hv) (show 32 + Int.toNat 724 = 756 from rfl) ?_
  refine z_n 2 (18, [(3, vi (k + 4)), (2, vr 137), (1, vr 1), (0, vr 1000)], [], (I, zPp π, D, 147)) (G := (zr (k + 4)) ∧ True) rfl ⟨by omega, trivial⟩ ?_
  refine z_sub [(3, vi (k + 4)), (2, vr 137), (1, vr 1), (0, vr 1000)] [0, 1, 2, 3] rfl ?_
  exact hrun
set_option maxHeartbeats 4000000 in
set_option maxRecDepth 20000 in
theorem law_e {I : zI} {π : Int → Nat} {D : zD} {k L : Int} (hL : I 1000 (-1) = L) (hL2 : 0 ≤ L ∧ L ≤ 2048) (h0 : 0 ≤ k) (h9 : L < k + 4) : ∃ τ, τ.2.2.2 = 147 ∧ zRuns 143 18 [(3, vi k), (2, vr 137), (1, vr 1), (0, vr 1000)] [] (I, zPp π, D, 147) (some (vi 1)) τ := by
  refine ⟨(I, zPp π, D, 147), rfl, ?_⟩
  refine z_n 5 (23, [(3, vi k), (2, vr 137), (1, vr 1), (0, vr 1000)], [vi ((I 1000 (-1)) - 4), vi k], (I, zPp π, D, 147)) (G := (zr ((I 1000 (-1)) - 4)) ∧ True) rfl ⟨by omega, trivial⟩ ?_
  refine z_br (((I 1000 (-1)) - 4) < k) 762 26 [] rfl (fun hx1 => ?_) (fun h => absurd (show ((I 1000 (-1)) - 4) < k from by omega) h)
  refine z_n 1 (763, [(3, vi k), (2, vr 137), (1, vr 1), (0, vr 1000)], [vi 1], (I, zPp π, D, 147)) rfl trivial ?_
  exact z_ret rfl rfl rfl
theorem law_l {L : Int} (hL2 : 0 ≤ L ∧ L ≤ 2048) : ∀ (N : Nat) (k : Int) (I : zI) (π : Int → Nat) (D : zD), zSim I π → I 1000 (-1) = L → 0 ≤ k → L < k + 4 * N + 4 → ∃ τ, τ.2.2.2 = 147 ∧ zRuns 143 18 [(3, vi k), (2, vr 137), (1, vr 1), (0, vr 1000)] [] (I, zPp π, D, 147) (some (vi 1)) τ := by
  intro N
  induction N with
  | zero =>
    intro k I π D s hL h0 hN
    exact law_e hL hL2 h0 (by omega)
  | succ N ih =>
  intro k I π D s hL h0 hN
  by_cases h9 : L < k + 4
  · exact law_e hL hL2 h0 h9
  have hk : ∀ I2 π2 D2, zSim I2 π2 → (∀ j, I2 1000 j = I 1000 j) → ∃ τ, τ.2.2.2 = 147 ∧ zRuns 143 18 [(3, vi (k + 4)), (2, vr 137), (1, vr 1), (0, vr 1000)] [] (I2, zPp π2, D2, 147) (some (vi 1)) τ := fun I2 π2 D2 s2 e2 => ih (k + 4) I2 π2 D2 s2 ((e2 (-1)).trans hL) (by omega) (by omega)
  by_cases hx : (Int32.ofInt (I 1000 k) &&& Int32.ofInt 31).toInt < 0 ∨ 23 < (Int32.ofInt (I 1000 k) &&& Int32.ofInt 31).toInt
  · exact law_x s hL hL2.2 h0 (by omega) hx hk
  rcases (show (Int32.ofInt (I 1000 k) &&& Int32.ofInt 31).toInt = 0 ∨ (Int32.ofInt (I 1000 k) &&& Int32.ofInt 31).toInt = 1 ∨ (Int32.ofInt (I 1000 k) &&& Int32.ofInt 31).toInt = 2 ∨ (Int32.ofInt (I 1000 k) &&& Int32.ofInt 31).toInt = 3 ∨ (Int32.ofInt (I 1000 k) &&& Int32.ofInt 31).toInt = 4 ∨ (Int32.ofInt (I 1000 k) &&& Int32.ofInt 31).toInt = 5 ∨ (Int32.ofInt (I 1000 k) &&& Int32.ofInt 31).toInt = 6 ∨ (Int32.ofInt (I 1000 k) &&& Int32.ofInt 31).toInt = 7 ∨ (Int32.ofInt (I 1000 k) &&& Int32.ofInt 31).toInt = 8 ∨ (Int32.ofInt (I 1000 k) &&& Int32.ofInt 31).toInt = 9 ∨ (Int32.ofInt (I 1000 k) &&& Int32.ofInt 31).toInt = 10 ∨ (Int32.ofInt (I 1000 k) &&& Int32.ofInt 31).toInt = 11 ∨ (Int32.ofInt (I 1000 k) &&& Int32.ofInt 31).toInt = 12 ∨ (Int32.ofInt (I 1000 k) &&& Int32.ofInt 31).toInt = 13 ∨ (Int32.ofInt (I 1000 k) &&& Int32.ofInt 31).toInt = 14 ∨ (Int32.ofInt (I 1000 k) &&& Int32.ofInt 31).toInt = 15 ∨ (Int32.ofInt (I 1000 k) &&& Int32.ofInt 31).toInt = 16 ∨ (Int32.ofInt (I 1000 k) &&& Int32.ofInt 31).toInt = 17 ∨ (Int32.ofInt (I 1000 k) &&& Int32.ofInt 31).toInt = 18 ∨ (Int32.ofInt (I 1000 k) &&& Int32.ofInt 31).toInt = 19 ∨ (Int32.ofInt (I 1000 k) &&& Int32.ofInt 31).toInt = 20 ∨ (Int32.ofInt (I 1000 k) &&& Int32.ofInt 31).toInt = 21 ∨ (Int32.ofInt (I 1000 k) &&& Int32.ofInt 31).toInt = 22 ∨ (Int32.ofInt (I 1000 k) &&& Int32.ofInt 31).toInt = 23 by omega) with hv | hv | hv | hv | hv | hv | hv | hv | hv | hv | hv | hv | hv | hv | hv | hv | hv | hv | hv | hv | hv | hv | hv | hv
  · exact law_0 s hL hL2.2 h0 (by omega) hv hk
  · exact law_1 s hL hL2.2 h0 (by omega) hv hk
  · exact law_2 s hL hL2.2 h0 (by omega) hv hk
  · exact law_3 s hL hL2.2 h0 (by omega) hv hk
  · exact law_4 s hL hL2.2 h0 (by omega) hv hk
  · exact law_5 s hL hL2.2 h0 (by omega) hv hk
  · exact law_6 s hL hL2.2 h0 (by omega) hv hk
  · exact law_7 s hL hL2.2 h0 (by omega) hv hk
  · exact law_8 s hL hL2.2 h0 (by omega) hv hk
  · exact law_9 s hL hL2.2 h0 (by omega) hv hk
  · exact law_10 s hL hL2.2 h0 (by omega) hv hk
  · exact law_11 s hL hL2.2 h0 (by omega) hv hk
  · exact law_12 s hL hL2.2 h0 (by omega) hv hk
  · exact law_13 s hL hL2.2 h0 (by omega) hv hk
  · exact law_14 s hL hL2.2 h0 (by omega) hv hk
  · exact law_15 s hL hL2.2 h0 (by omega) hv hk
  · exact law_16 s hL hL2.2 h0 (by omega) hv hk
  · exact law_17 s hL hL2.2 h0 (by omega) hv hk
  · exact law_18 s hL hL2.2 h0 (by omega) hv hk
  · exact law_19 s hL hL2.2 h0 (by omega) hv hk
  · exact law_20 s hL hL2.2 h0 (by omega) hv hk
  · exact law_21 s hL hL2.2 h0 (by omega) hv hk
  · exact law_22 s hL hL2.2 h0 (by omega) hv hk
  · exact law_23 s hL hL2.2 h0 (by omega) hv hk
