set_option maxHeartbeats 4000000 in
set_option maxRecDepth 20000 in
theorem law_0 {I : zI} {π : Int → Nat} {D : zD} {k L : Int} (s : zSim I π) (hL : I 1000 (-1) = L) (hL2 : L ≤ 2048) (h0 : 0 ≤ k) (h1 : k ≤ L - 4) (hv : (Int32.ofInt (I 1000 k) &&& Int32.ofInt 31).toInt = 0) (hk : ∀ I2 π2 D2, zSim I2 π2 → (∀ j, I2 1000 j = I 1000 j) → ∃ τ, τ.2.2.2 = 147 ∧ zRuns 143 18 [(3, vi (k + 4)), (2, vr 137), (1, vr 1), (0, vr 1000)] [] (I2, zPp π2, D2, 147) (some (vi 1)) τ) : ∃ τ, τ.2.2.2 = 147 ∧ zRuns 143 18 [(3, vi k), (2, vr 137), (1, vr 1), (0, vr 1000)] [] (I, zPp π, D, 147) (some (vi 1)) τ := by
  obtain ⟨res, I1, π1, D1, I2, D2, g1, g2, s2⟩ := op_begin (D := D) s (I 1000 (k + 1)) (I 1000 (k + 2)) (I 1000 (k + 3))
  have e1 : ∀ j, I1 1000 j = I 1000 j := zRuns_1000 g1 (by decide)
  have e2 : ∀ j, I2 1000 j = I 1000 j := fun j => (zRuns_1000 g2 (by decide) j).trans (e1 j)
  obtain ⟨τ, hτ, hrun⟩ := hk I2 π1 D2 s2 e2
  refine ⟨τ, hτ, ?_⟩
  refine z_n 5 (23, [(3, vi k), (2, vr 137), (1, vr 1), (0, vr 1000)], [vi ((I 1000 (-1)) - 4), vi k], (I, zPp π, D, 147)) (G := (zr ((I 1000 (-1)) - 4)) ∧ True) rfl ⟨by omega, trivial⟩ ?_
  refine z_br (((I 1000 (-1)) - 4) < k) 762 26 [] rfl (fun h => absurd h (show ¬ (((I 1000 (-1)) - 4) < k) from by omega)) (fun hx1 => ?_)
  refine z_n 5 (32, [(3, vi k), (2, vr 137), (1, vr 1), (0, vr 1000)], [vi ((Int32.ofInt (I 1000 k) &&& Int32.ofInt 31).toInt)], (I, zPp π, D, 147)) (G := (0 ≤ k ∧ k < (I 1000 (-1))) ∧ True) rfl ⟨by omega, trivial⟩ ?_
  refine z_top (b := 0) (hv) ?_
  refine z_n 17 (160, [(3, vi k), (2, vr 137), (1, vr 1), (0, vr 1000)], [vi (I 1000 (k + 3)), vi (I 1000 (k + 2)), vi (I 1000 (k + 1)), vr 1], (I, zPp π, D, 147)) (G := (zr (k + 1)) ∧ (0 ≤ (k + 1) ∧ (k + 1) < (I 1000 (-1))) ∧ (zr (k + 2)) ∧ (0 ≤ (k + 2) ∧ (k + 2) < (I 1000 (-1))) ∧ (zr (k + 3)) ∧ (0 ≤ (k + 3) ∧ (k + 3) < (I 1000 (-1))) ∧ True) rfl ⟨by omega, by omega, by omega, by omega, by omega, by omega, trivial⟩ ?_
  refine z_ci 66 [vr 1, vi (I 1000 (k + 1)), vi (I 1000 (k + 2)), vi (I 1000 (k + 3))] [] rfl (g1) ?_
  refine z_n 6 (169, [(3, vi k), (2, vr 137), (1, vr 1), (0, vr 1000)], [vi (I1 1000 (k + 1)), vr 137, vi res], (I1, zPp π1, D1, 147)) (G := (zr (k + 1)) ∧ (0 ≤ (k + 1) ∧ (k + 1) < (I1 1000 (-1))) ∧ True) rfl ⟨by omega, by rw [e1]; omega, trivial⟩ ?_
  refine z_top (b := I 1000 (k + 1)) (e1 _) ?_
  refine z_n 5 (174, [(3, vi k), (2, vr 137), (1, vr 1), (0, vr 1000)], [vi (I1 1000 (k + 2)), vi (I 1000 (k + 1)), vr 137, vi res], (I1, zPp π1, D1, 147)) (G := (zr (k + 2)) ∧ (0 ≤ (k + 2) ∧ (k + 2) < (I1 1000 (-1))) ∧ True) rfl ⟨by omega, by rw [e1]; omega, trivial⟩ ?_
  refine z_top (b := I 1000 (k + 2)) (e1 _) ?_
  refine z_n 5 (179, [(3, vi k), (2, vr 137), (1, vr 1), (0, vr 1000)], [vi (I1 1000 (k + 3)), vi (I 1000 (k + 2)), vi (I 1000 (k + 1)), vr 137, vi res], (I1, zPp π1, D1, 147)) (G := (zr (k + 3)) ∧ (0 ≤ (k + 3) ∧ (k + 3) < (I1 1000 (-1))) ∧ True) rfl ⟨by omega, by rw [e1]; omega, trivial⟩ ?_
  refine z_top (b := I 1000 (k + 3)) (e1 _) ?_
  refine z_ci 106 [vr 137, vi (I 1000 (k + 1)), vi (I 1000 (k + 2)), vi (I 1000 (k + 3))] [vi res] rfl (g2) ?_
  refine z_br (res = res) 756 185 [] rfl (fun hx2 => ?_) (fun h => absurd (show res = res from rfl) h)
  refine z_n 2 (18, [(3, vi (k + 4)), (2, vr 137), (1, vr 1), (0, vr 1000)], [], (I2, zPp π1, D2, 147)) (G := (zr (k + 4)) ∧ True) rfl ⟨by omega, trivial⟩ ?_
  refine z_sub [(3, vi (k + 4)), (2, vr 137), (1, vr 1), (0, vr 1000)] [0, 1, 2, 3] rfl ?_
  exact hrun
set_option maxHeartbeats 4000000 in
set_option maxRecDepth 20000 in
theorem law_1 {I : zI} {π : Int → Nat} {D : zD} {k L : Int} (s : zSim I π) (hL : I 1000 (-1) = L) (hL2 : L ≤ 2048) (h0 : 0 ≤ k) (h1 : k ≤ L - 4) (hv : (Int32.ofInt (I 1000 k) &&& Int32.ofInt 31).toInt = 1) (hk : ∀ I2 π2 D2, zSim I2 π2 → (∀ j, I2 1000 j = I 1000 j) → ∃ τ, τ.2.2.2 = 147 ∧ zRuns 143 18 [(3, vi (k + 4)), (2, vr 137), (1, vr 1), (0, vr 1000)] [] (I2, zPp π2, D2, 147) (some (vi 1)) τ) : ∃ τ, τ.2.2.2 = 147 ∧ zRuns 143 18 [(3, vi k), (2, vr 137), (1, vr 1), (0, vr 1000)] [] (I, zPp π, D, 147) (some (vi 1)) τ := by
  obtain ⟨res, I1, π1, D1, I2, D2, g1, g2, s2⟩ := op_setSpeed (D := D) s (I 1000 (k + 1)) (I 1000 (k + 2))
  have e1 : ∀ j, I1 1000 j = I 1000 j := zRuns_1000 g1 (by decide)
  have e2 : ∀ j, I2 1000 j = I 1000 j := fun j => (zRuns_1000 g2 (by decide) j).trans (e1 j)
  obtain ⟨τ, hτ, hrun⟩ := hk I2 π1 D2 s2 e2
  refine ⟨τ, hτ, ?_⟩
  refine z_n 5 (23, [(3, vi k), (2, vr 137), (1, vr 1), (0, vr 1000)], [vi ((I 1000 (-1)) - 4), vi k], (I, zPp π, D, 147)) (G := (zr ((I 1000 (-1)) - 4)) ∧ True) rfl ⟨by omega, trivial⟩ ?_
  refine z_br (((I 1000 (-1)) - 4) < k) 762 26 [] rfl (fun h => absurd h (show ¬ (((I 1000 (-1)) - 4) < k) from by omega)) (fun hx1 => ?_)
  refine z_n 5 (32, [(3, vi k), (2, vr 137), (1, vr 1), (0, vr 1000)], [vi ((Int32.ofInt (I 1000 k) &&& Int32.ofInt 31).toInt)], (I, zPp π, D, 147)) (G := (0 ≤ k ∧ k < (I 1000 (-1))) ∧ True) rfl ⟨by omega, trivial⟩ ?_
  refine z_top (b := 1) (hv) ?_
  refine z_n 12 (198, [(3, vi k), (2, vr 137), (1, vr 1), (0, vr 1000)], [vi (I 1000 (k + 2)), vi (I 1000 (k + 1)), vr 1], (I, zPp π, D, 147)) (G := (zr (k + 1)) ∧ (0 ≤ (k + 1) ∧ (k + 1) < (I 1000 (-1))) ∧ (zr (k + 2)) ∧ (0 ≤ (k + 2) ∧ (k + 2) < (I 1000 (-1))) ∧ True) rfl ⟨by omega, by omega, by omega, by omega, trivial⟩ ?_
  refine z_ci 67 [vr 1, vi (I 1000 (k + 1)), vi (I 1000 (k + 2))] [] rfl (g1) ?_
  refine z_n 6 (207, [(3, vi k), (2, vr 137), (1, vr 1), (0, vr 1000)], [vi (I1 1000 (k + 1)), vr 137, vi res], (I1, zPp π1, D1, 147)) (G := (zr (k + 1)) ∧ (0 ≤ (k + 1) ∧ (k + 1) < (I1 1000 (-1))) ∧ True) rfl ⟨by omega, by rw [e1]; omega, trivial⟩ ?_
  refine z_top (b := I 1000 (k + 1)) (e1 _) ?_
  refine z_n 5 (212, [(3, vi k), (2, vr 137), (1, vr 1), (0, vr 1000)], [vi (I1 1000 (k + 2)), vi (I 1000 (k + 1)), vr 137, vi res], (I1, zPp π1, D1, 147)) (G := (zr (k + 2)) ∧ (0 ≤ (k + 2) ∧ (k + 2) < (I1 1000 (-1))) ∧ True) rfl ⟨by omega, by rw [e1]; omega, trivial⟩ ?_
  refine z_top (b := I 1000 (k + 2)) (e1 _) ?_
  refine z_ci 107 [vr 137, vi (I 1000 (k + 1)), vi (I 1000 (k + 2))] [vi res] rfl (g2) ?_
  refine z_br (res = res) 756 218 [] rfl (fun hx2 => ?_) (fun h => absurd (show res = res from rfl) h)
  refine z_n 2 (18, [(3, vi (k + 4)), (2, vr 137), (1, vr 1), (0, vr 1000)], [], (I2, zPp π1, D2, 147)) (G := (zr (k + 4)) ∧ True) rfl ⟨by omega, trivial⟩ ?_
  refine z_sub [(3, vi (k + 4)), (2, vr 137), (1, vr 1), (0, vr 1000)] [0, 1, 2, 3] rfl ?_
  exact hrun
set_option maxHeartbeats 4000000 in
set_option maxRecDepth 20000 in
theorem law_2 {I : zI} {π : Int → Nat} {D : zD} {k L : Int} (s : zSim I π) (hL : I 1000 (-1) = L) (hL2 : L ≤ 2048) (h0 : 0 ≤ k) (h1 : k ≤ L - 4) (hv : (Int32.ofInt (I 1000 k) &&& Int32.ofInt 31).toInt = 2) (hk : ∀ I2 π2 D2, zSim I2 π2 → (∀ j, I2 1000 j = I 1000 j) → ∃ τ, τ.2.2.2 = 147 ∧ zRuns 143 18 [(3, vi (k + 4)), (2, vr 137), (1, vr 1), (0, vr 1000)] [] (I2, zPp π2, D2, 147) (some (vi 1)) τ) : ∃ τ, τ.2.2.2 = 147 ∧ zRuns 143 18 [(3, vi k), (2, vr 137), (1, vr 1), (0, vr 1000)] [] (I, zPp π, D, 147) (some (vi 1)) τ := by
  obtain ⟨res, I1, π1, D1, I2, D2, g1, g2, s2⟩ := op_set (D := D) s (I 1000 (k + 1)) (I 1000 (k + 2))
  have e1 : ∀ j, I1 1000 j = I 1000 j := zRuns_1000 g1 (by decide)
  have e2 : ∀ j, I2 1000 j = I 1000 j := fun j => (zRuns_1000 g2 (by decide) j).trans (e1 j)
  obtain ⟨τ, hτ, hrun⟩ := hk I2 π1 D2 s2 e2
  refine ⟨τ, hτ, ?_⟩
  refine z_n 5 (23, [(3, vi k), (2, vr 137), (1, vr 1), (0, vr 1000)], [vi ((I 1000 (-1)) - 4), vi k], (I, zPp π, D, 147)) (G := (zr ((I 1000 (-1)) - 4)) ∧ True) rfl ⟨by omega, trivial⟩ ?_
  refine z_br (((I 1000 (-1)) - 4) < k) 762 26 [] rfl (fun h => absurd h (show ¬ (((I 1000 (-1)) - 4) < k) from by omega)) (fun hx1 => ?_)
  refine z_n 5 (32, [(3, vi k), (2, vr 137), (1, vr 1), (0, vr 1000)], [vi ((Int32.ofInt (I 1000 k) &&& Int32.ofInt 31).toInt)], (I, zPp π, D, 147)) (G := (0 ≤ k ∧ k < (I 1000 (-1))) ∧ True) rfl ⟨by omega, trivial⟩ ?_
  refine z_top (b := 2) (hv) ?_
  refine z_n 12 (231, [(3, vi k), (2, vr 137), (1, vr 1), (0, vr 1000)], [vi (I 1000 (k + 2)), vi (I 1000 (k + 1)), vr 1], (I, zPp π, D, 147)) (G := (zr (k + 1)) ∧ (0 ≤ (k + 1) ∧ (k + 1) < (I 1000 (-1))) ∧ (zr (k + 2)) ∧ (0 ≤ (k + 2) ∧ (k + 2) < (I 1000 (-1))) ∧ True) rfl ⟨by omega, by omega, by omega, by omega, trivial⟩ ?_
  refine z_ci 68 [vr 1, vi (I 1000 (k + 1)), vi (I 1000 (k + 2))] [] rfl (g1) ?_
  refine z_n 6 (240, [(3, vi k), (2, vr 137), (1, vr 1), (0, vr 1000)], [vi (I1 1000 (k + 1)), vr 137, vi res], (I1, zPp π1, D1, 147)) (G := (zr (k + 1)) ∧ (0 ≤ (k + 1) ∧ (k + 1) < (I1 1000 (-1))) ∧ True) rfl ⟨by omega, by rw [e1]; omega, trivial⟩ ?_
  refine z_top (b := I 1000 (k + 1)) (e1 _) ?_
  refine z_n 5 (245, [(3, vi k), (2, vr 137), (1, vr 1), (0, vr 1000)], [vi (I1 1000 (k + 2)), vi (I 1000 (k + 1)), vr 137, vi res], (I1, zPp π1, D1, 147)) (G := (zr (k + 2)) ∧ (0 ≤ (k + 2) ∧ (k + 2) < (I1 1000 (-1))) ∧ True) rfl ⟨by omega, by rw [e1]; omega, trivial⟩ ?_
  refine z_top (b := I 1000 (k + 2)) (e1 _) ?_
  refine z_ci 108 [vr 137, vi (I 1000 (k + 1)), vi (I 1000 (k + 2))] [vi res] rfl (g2) ?_
  refine z_br (res = res) 756 251 [] rfl (fun hx2 => ?_) (fun h => absurd (show res = res from rfl) h)
  refine z_n 2 (18, [(3, vi (k + 4)), (2, vr 137), (1, vr 1), (0, vr 1000)], [], (I2, zPp π1, D2, 147)) (G := (zr (k + 4)) ∧ True) rfl ⟨by omega, trivial⟩ ?_
  refine z_sub [(3, vi (k + 4)), (2, vr 137), (1, vr 1), (0, vr 1000)] [0, 1, 2, 3] rfl ?_
  exact hrun
set_option maxHeartbeats 4000000 in
set_option maxRecDepth 20000 in
theorem law_3 {I : zI} {π : Int → Nat} {D : zD} {k L : Int} (s : zSim I π) (hL : I 1000 (-1) = L) (hL2 : L ≤ 2048) (h0 : 0 ≤ k) (h1 : k ≤ L - 4) (hv : (Int32.ofInt (I 1000 k) &&& Int32.ofInt 31).toInt = 3) (hk : ∀ I2 π2 D2, zSim I2 π2 → (∀ j, I2 1000 j = I 1000 j) → ∃ τ, τ.2.2.2 = 147 ∧ zRuns 143 18 [(3, vi (k + 4)), (2, vr 137), (1, vr 1), (0, vr 1000)] [] (I2, zPp π2, D2, 147) (some (vi 1)) τ) : ∃ τ, τ.2.2.2 = 147 ∧ zRuns 143 18 [(3, vi k), (2, vr 137), (1, vr 1), (0, vr 1000)] [] (I, zPp π, D, 147) (some (vi 1)) τ := by
  obtain ⟨res, I1, π1, D1, I2, D2, g1, g2, s2⟩ := op_count (D := D) s (I 1000 (k + 1))
  have e1 : ∀ j, I1 1000 j = I 1000 j := zRuns_1000 g1 (by decide)
  have e2 : ∀ j, I2 1000 j = I 1000 j := fun j => (zRuns_1000 g2 (by decide) j).trans (e1 j)
  obtain ⟨τ, hτ, hrun⟩ := hk I2 π1 D2 s2 e2
  refine ⟨τ, hτ, ?_⟩
  refine z_n 5 (23, [(3, vi k), (2, vr 137), (1, vr 1), (0, vr 1000)], [vi ((I 1000 (-1)) - 4), vi k], (I, zPp π, D, 147)) (G := (zr ((I 1000 (-1)) - 4)) ∧ True) rfl ⟨by omega, trivial⟩ ?_
  refine z_br (((I 1000 (-1)) - 4) < k) 762 26 [] rfl (fun h => absurd h (show ¬ (((I 1000 (-1)) - 4) < k) from by omega)) (fun hx1 => ?_)
  refine z_n 5 (32, [(3, vi k), (2, vr 137), (1, vr 1), (0, vr 1000)], [vi ((Int32.ofInt (I 1000 k) &&& Int32.ofInt 31).toInt)], (I, zPp π, D, 147)) (G := (0 ≤ k ∧ k < (I 1000 (-1))) ∧ True) rfl ⟨by omega, trivial⟩ ?_
  refine z_top (b := 3) (hv) ?_
  refine z_n 7 (259, [(3, vi k), (2, vr 137), (1, vr 1), (0, vr 1000)], [vi (I 1000 (k + 1)), vr 1], (I, zPp π, D, 147)) (G := (zr (k + 1)) ∧ (0 ≤ (k + 1) ∧ (k + 1) < (I 1000 (-1))) ∧ True) rfl ⟨by omega, by omega, trivial⟩ ?_
  refine z_ci 69 [vr 1, vi (I 1000 (k + 1))] [] rfl (g1) ?_
  refine z_n 6 (268, [(3, vi k), (2, vr 137), (1, vr 1), (0, vr 1000)], [vi (I1 1000 (k + 1)), vr 137, vi res], (I1, zPp π1, D1, 147)) (G := (zr (k + 1)) ∧ (0 ≤ (k + 1) ∧ (k + 1) < (I1 1000 (-1))) ∧ True) rfl ⟨by omega, by rw [e1]; omega, trivial⟩ ?_
  refine z_top (b := I 1000 (k + 1)) (e1 _) ?_
  refine z_ci 109 [vr 137, vi (I 1000 (k + 1))] [vi res] rfl (g2) ?_
  refine z_br (res = res) 756 274 [] rfl (fun hx2 => ?_) (fun h => absurd (show res = res from rfl) h)
  refine z_n 2 (18, [(3, vi (k + 4)), (2, vr 137), (1, vr 1), (0, vr 1000)], [], (I2, zPp π1, D2, 147)) (G := (zr (k + 4)) ∧ True) rfl ⟨by omega, trivial⟩ ?_
  refine z_sub [(3, vi (k + 4)), (2, vr 137), (1, vr 1), (0, vr 1000)] [0, 1, 2, 3] rfl ?_
  exact hrun
set_option maxHeartbeats 4000000 in
set_option maxRecDepth 20000 in
theorem law_4 {I : zI} {π : Int → Nat} {D : zD} {k L : Int} (s : zSim I π) (hL : I 1000 (-1) = L) (hL2 : L ≤ 2048) (h0 : 0 ≤ k) (h1 : k ≤ L - 4) (hv : (Int32.ofInt (I 1000 k) &&& Int32.ofInt 31).toInt = 4) (hk : ∀ I2 π2 D2, zSim I2 π2 → (∀ j, I2 1000 j = I 1000 j) → ∃ τ, τ.2.2.2 = 147 ∧ zRuns 143 18 [(3, vi (k + 4)), (2, vr 137), (1, vr 1), (0, vr 1000)] [] (I2, zPp π2, D2, 147) (some (vi 1)) τ) : ∃ τ, τ.2.2.2 = 147 ∧ zRuns 143 18 [(3, vi k), (2, vr 137), (1, vr 1), (0, vr 1000)] [] (I, zPp π, D, 147) (some (vi 1)) τ := by
  obtain ⟨res, I1, π1, D1, I2, D2, g1, g2, s2⟩ := op_crew (D := D) s (I 1000 (k + 1)) (I 1000 (k + 2))
  have e1 : ∀ j, I1 1000 j = I 1000 j := zRuns_1000 g1 (by decide)
  have e2 : ∀ j, I2 1000 j = I 1000 j := fun j => (zRuns_1000 g2 (by decide) j).trans (e1 j)
  obtain ⟨τ, hτ, hrun⟩ := hk I2 π1 D2 s2 e2
  refine ⟨τ, hτ, ?_⟩
  refine z_n 5 (23, [(3, vi k), (2, vr 137), (1, vr 1), (0, vr 1000)], [vi ((I 1000 (-1)) - 4), vi k], (I, zPp π, D, 147)) (G := (zr ((I 1000 (-1)) - 4)) ∧ True) rfl ⟨by omega, trivial⟩ ?_
  refine z_br (((I 1000 (-1)) - 4) < k) 762 26 [] rfl (fun h => absurd h (show ¬ (((I 1000 (-1)) - 4) < k) from by omega)) (fun hx1 => ?_)
  refine z_n 5 (32, [(3, vi k), (2, vr 137), (1, vr 1), (0, vr 1000)], [vi ((Int32.ofInt (I 1000 k) &&& Int32.ofInt 31).toInt)], (I, zPp π, D, 147)) (G := (0 ≤ k ∧ k < (I 1000 (-1))) ∧ True) rfl ⟨by omega, trivial⟩ ?_
  refine z_top (b := 4) (hv) ?_
  refine z_n 12 (287, [(3, vi k), (2, vr 137), (1, vr 1), (0, vr 1000)], [vi (I 1000 (k + 2)), vi (I 1000 (k + 1)), vr 1], (I, zPp π, D, 147)) (G := (zr (k + 1)) ∧ (0 ≤ (k + 1) ∧ (k + 1) < (I 1000 (-1))) ∧ (zr (k + 2)) ∧ (0 ≤ (k + 2) ∧ (k + 2) < (I 1000 (-1))) ∧ True) rfl ⟨by omega, by omega, by omega, by omega, trivial⟩ ?_
  refine z_ci 70 [vr 1, vi (I 1000 (k + 1)), vi (I 1000 (k + 2))] [] rfl (g1) ?_
  refine z_n 6 (296, [(3, vi k), (2, vr 137), (1, vr 1), (0, vr 1000)], [vi (I1 1000 (k + 1)), vr 137, vi res], (I1, zPp π1, D1, 147)) (G := (zr (k + 1)) ∧ (0 ≤ (k + 1) ∧ (k + 1) < (I1 1000 (-1))) ∧ True) rfl ⟨by omega, by rw [e1]; omega, trivial⟩ ?_
  refine z_top (b := I 1000 (k + 1)) (e1 _) ?_
  refine z_n 5 (301, [(3, vi k), (2, vr 137), (1, vr 1), (0, vr 1000)], [vi (I1 1000 (k + 2)), vi (I 1000 (k + 1)), vr 137, vi res], (I1, zPp π1, D1, 147)) (G := (zr (k + 2)) ∧ (0 ≤ (k + 2) ∧ (k + 2) < (I1 1000 (-1))) ∧ True) rfl ⟨by omega, by rw [e1]; omega, trivial⟩ ?_
  refine z_top (b := I 1000 (k + 2)) (e1 _) ?_
  refine z_ci 112 [vr 137, vi (I 1000 (k + 1)), vi (I 1000 (k + 2))] [vi res] rfl (g2) ?_
  refine z_br (res = res) 756 307 [] rfl (fun hx2 => ?_) (fun h => absurd (show res = res from rfl) h)
  refine z_n 2 (18, [(3, vi (k + 4)), (2, vr 137), (1, vr 1), (0, vr 1000)], [], (I2, zPp π1, D2, 147)) (G := (zr (k + 4)) ∧ True) rfl ⟨by omega, trivial⟩ ?_
  refine z_sub [(3, vi (k + 4)), (2, vr 137), (1, vr 1), (0, vr 1000)] [0, 1, 2, 3] rfl ?_
  exact hrun
set_option maxHeartbeats 4000000 in
set_option maxRecDepth 20000 in
theorem law_5 {I : zI} {π : Int → Nat} {D : zD} {k L : Int} (s : zSim I π) (hL : I 1000 (-1) = L) (hL2 : L ≤ 2048) (h0 : 0 ≤ k) (h1 : k ≤ L - 4) (hv : (Int32.ofInt (I 1000 k) &&& Int32.ofInt 31).toInt = 5) (hk : ∀ I2 π2 D2, zSim I2 π2 → (∀ j, I2 1000 j = I 1000 j) → ∃ τ, τ.2.2.2 = 147 ∧ zRuns 143 18 [(3, vi (k + 4)), (2, vr 137), (1, vr 1), (0, vr 1000)] [] (I2, zPp π2, D2, 147) (some (vi 1)) τ) : ∃ τ, τ.2.2.2 = 147 ∧ zRuns 143 18 [(3, vi k), (2, vr 137), (1, vr 1), (0, vr 1000)] [] (I, zPp π, D, 147) (some (vi 1)) τ := by
  obtain ⟨res, I1, π1, D1, I2, D2, g1, g2, s2⟩ := op_at (D := D) s (I 1000 (k + 1))
  have e1 : ∀ j, I1 1000 j = I 1000 j := zRuns_1000 g1 (by decide)
  have e2 : ∀ j, I2 1000 j = I 1000 j := fun j => (zRuns_1000 g2 (by decide) j).trans (e1 j)
  obtain ⟨τ, hτ, hrun⟩ := hk I2 π1 D2 s2 e2
  refine ⟨τ, hτ, ?_⟩
  refine z_n 5 (23, [(3, vi k), (2, vr 137), (1, vr 1), (0, vr 1000)], [vi ((I 1000 (-1)) - 4), vi k], (I, zPp π, D, 147)) (G := (zr ((I 1000 (-1)) - 4)) ∧ True) rfl ⟨by omega, trivial⟩ ?_
  refine z_br (((I 1000 (-1)) - 4) < k) 762 26 [] rfl (fun h => absurd h (show ¬ (((I 1000 (-1)) - 4) < k) from by omega)) (fun hx1 => ?_)
  refine z_n 5 (32, [(3, vi k), (2, vr 137), (1, vr 1), (0, vr 1000)], [vi ((Int32.ofInt (I 1000 k) &&& Int32.ofInt 31).toInt)], (I, zPp π, D, 147)) (G := (0 ≤ k ∧ k < (I 1000 (-1))) ∧ True) rfl ⟨by omega, trivial⟩ ?_
  refine z_top (b := 5) (hv) ?_
  refine z_n 7 (315, [(3, vi k), (2, vr 137), (1, vr 1), (0, vr 1000)], [vi (I 1000 (k + 1)), vr 1], (I, zPp π, D, 147)) (G := (zr (k + 1)) ∧ (0 ≤ (k + 1) ∧ (k + 1) < (I 1000 (-1))) ∧ True) rfl ⟨by omega, by omega, trivial⟩ ?_
  refine z_ci 72 [vr 1, vi (I 1000 (k + 1))] [] rfl (g1) ?_
  refine z_n 6 (324, [(3, vi k), (2, vr 137), (1, vr 1), (0, vr 1000)], [vi (I1 1000 (k + 1)), vr 137, vi res], (I1, zPp π1, D1, 147)) (G := (zr (k + 1)) ∧ (0 ≤ (k + 1) ∧ (k + 1) < (I1 1000 (-1))) ∧ True) rfl ⟨by omega, by rw [e1]; omega, trivial⟩ ?_
  refine z_top (b := I 1000 (k + 1)) (e1 _) ?_
  refine z_ci 113 [vr 137, vi (I 1000 (k + 1))] [vi res] rfl (g2) ?_
  refine z_br (res = res) 756 330 [] rfl (fun hx2 => ?_) (fun h => absurd (show res = res from rfl) h)
  refine z_n 2 (18, [(3, vi (k + 4)), (2, vr 137), (1, vr 1), (0, vr 1000)], [], (I2, zPp π1, D2, 147)) (G := (zr (k + 4)) ∧ True) rfl ⟨by omega, trivial⟩ ?_
  refine z_sub [(3, vi (k + 4)), (2, vr 137), (1, vr 1), (0, vr 1000)] [0, 1, 2, 3] rfl ?_
  exact hrun
set_option maxHeartbeats 4000000 in
set_option maxRecDepth 20000 in
theorem law_6 {I : zI} {π : Int → Nat} {D : zD} {k L : Int} (s : zSim I π) (hL : I 1000 (-1) = L) (hL2 : L ≤ 2048) (h0 : 0 ≤ k) (h1 : k ≤ L - 4) (hv : (Int32.ofInt (I 1000 k) &&& Int32.ofInt 31).toInt = 6) (hk : ∀ I2 π2 D2, zSim I2 π2 → (∀ j, I2 1000 j = I 1000 j) → ∃ τ, τ.2.2.2 = 147 ∧ zRuns 143 18 [(3, vi (k + 4)), (2, vr 137), (1, vr 1), (0, vr 1000)] [] (I2, zPp π2, D2, 147) (some (vi 1)) τ) : ∃ τ, τ.2.2.2 = 147 ∧ zRuns 143 18 [(3, vi k), (2, vr 137), (1, vr 1), (0, vr 1000)] [] (I, zPp π, D, 147) (some (vi 1)) τ := by
  obtain ⟨res, I1, π1, D1, I2, D2, g1, g2, s2⟩ := op_starter (D := D) s (I 1000 (k + 1))
  have e1 : ∀ j, I1 1000 j = I 1000 j := zRuns_1000 g1 (by decide)
  have e2 : ∀ j, I2 1000 j = I 1000 j := fun j => (zRuns_1000 g2 (by decide) j).trans (e1 j)
  obtain ⟨τ, hτ, hrun⟩ := hk I2 π1 D2 s2 e2
  refine ⟨τ, hτ, ?_⟩
  refine z_n 5 (23, [(3, vi k), (2, vr 137), (1, vr 1), (0, vr 1000)], [vi ((I 1000 (-1)) - 4), vi k], (I, zPp π, D, 147)) (G := (zr ((I 1000 (-1)) - 4)) ∧ True) rfl ⟨by omega, trivial⟩ ?_
  refine z_br (((I 1000 (-1)) - 4) < k) 762 26 [] rfl (fun h => absurd h (show ¬ (((I 1000 (-1)) - 4) < k) from by omega)) (fun hx1 => ?_)
  refine z_n 5 (32, [(3, vi k), (2, vr 137), (1, vr 1), (0, vr 1000)], [vi ((Int32.ofInt (I 1000 k) &&& Int32.ofInt 31).toInt)], (I, zPp π, D, 147)) (G := (0 ≤ k ∧ k < (I 1000 (-1))) ∧ True) rfl ⟨by omega, trivial⟩ ?_
  refine z_top (b := 6) (hv) ?_
  refine z_n 7 (338, [(3, vi k), (2, vr 137), (1, vr 1), (0, vr 1000)], [vi (I 1000 (k + 1)), vr 1], (I, zPp π, D, 147)) (G := (zr (k + 1)) ∧ (0 ≤ (k + 1) ∧ (k + 1) < (I 1000 (-1))) ∧ True) rfl ⟨by omega, by omega, trivial⟩ ?_
  refine z_ci 73 [vr 1, vi (I 1000 (k + 1))] [] rfl (g1) ?_
  refine z_n 6 (347, [(3, vi k), (2, vr 137), (1, vr 1), (0, vr 1000)], [vi (I1 1000 (k + 1)), vr 137, vi res], (I1, zPp π1, D1, 147)) (G := (zr (k + 1)) ∧ (0 ≤ (k + 1) ∧ (k + 1) < (I1 1000 (-1))) ∧ True) rfl ⟨by omega, by rw [e1]; omega, trivial⟩ ?_
  refine z_top (b := I 1000 (k + 1)) (e1 _) ?_
  refine z_ci 114 [vr 137, vi (I 1000 (k + 1))] [vi res] rfl (g2) ?_
  refine z_br (res = res) 756 353 [] rfl (fun hx2 => ?_) (fun h => absurd (show res = res from rfl) h)
  refine z_n 2 (18, [(3, vi (k + 4)), (2, vr 137), (1, vr 1), (0, vr 1000)], [], (I2, zPp π1, D2, 147)) (G := (zr (k + 4)) ∧ True) rfl ⟨by omega, trivial⟩ ?_
  refine z_sub [(3, vi (k + 4)), (2, vr 137), (1, vr 1), (0, vr 1000)] [0, 1, 2, 3] rfl ?_
  exact hrun
set_option maxHeartbeats 4000000 in
set_option maxRecDepth 20000 in
theorem law_7 {I : zI} {π : Int → Nat} {D : zD} {k L : Int} (s : zSim I π) (hL : I 1000 (-1) = L) (hL2 : L ≤ 2048) (h0 : 0 ≤ k) (h1 : k ≤ L - 4) (hv : (Int32.ofInt (I 1000 k) &&& Int32.ofInt 31).toInt = 7) (hk : ∀ I2 π2 D2, zSim I2 π2 → (∀ j, I2 1000 j = I 1000 j) → ∃ τ, τ.2.2.2 = 147 ∧ zRuns 143 18 [(3, vi (k + 4)), (2, vr 137), (1, vr 1), (0, vr 1000)] [] (I2, zPp π2, D2, 147) (some (vi 1)) τ) : ∃ τ, τ.2.2.2 = 147 ∧ zRuns 143 18 [(3, vi k), (2, vr 137), (1, vr 1), (0, vr 1000)] [] (I, zPp π, D, 147) (some (vi 1)) τ := by
  obtain ⟨res, I1, π1, D1, I2, D2, g1, g2, s2⟩ := op_bump (D := D) s (I 1000 (k + 1)) (I 1000 (k + 2))
  have e1 : ∀ j, I1 1000 j = I 1000 j := zRuns_1000 g1 (by decide)
  have e2 : ∀ j, I2 1000 j = I 1000 j := fun j => (zRuns_1000 g2 (by decide) j).trans (e1 j)
  obtain ⟨τ, hτ, hrun⟩ := hk I2 π1 D2 s2 e2
  refine ⟨τ, hτ, ?_⟩
  refine z_n 5 (23, [(3, vi k), (2, vr 137), (1, vr 1), (0, vr 1000)], [vi ((I 1000 (-1)) - 4), vi k], (I, zPp π, D, 147)) (G := (zr ((I 1000 (-1)) - 4)) ∧ True) rfl ⟨by omega, trivial⟩ ?_
  refine z_br (((I 1000 (-1)) - 4) < k) 762 26 [] rfl (fun h => absurd h (show ¬ (((I 1000 (-1)) - 4) < k) from by omega)) (fun hx1 => ?_)
  refine z_n 5 (32, [(3, vi k), (2, vr 137), (1, vr 1), (0, vr 1000)], [vi ((Int32.ofInt (I 1000 k) &&& Int32.ofInt 31).toInt)], (I, zPp π, D, 147)) (G := (0 ≤ k ∧ k < (I 1000 (-1))) ∧ True) rfl ⟨by omega, trivial⟩ ?_
  refine z_top (b := 7) (hv) ?_
  refine z_n 12 (366, [(3, vi k), (2, vr 137), (1, vr 1), (0, vr 1000)], [vi (I 1000 (k + 2)), vi (I 1000 (k + 1)), vr 1], (I, zPp π, D, 147)) (G := (zr (k + 1)) ∧ (0 ≤ (k + 1) ∧ (k + 1) < (I 1000 (-1))) ∧ (zr (k + 2)) ∧ (0 ≤ (k + 2) ∧ (k + 2) < (I 1000 (-1))) ∧ True) rfl ⟨by omega, by omega, by omega, by omega, trivial⟩ ?_
  refine z_ci 74 [vr 1, vi (I 1000 (k + 1)), vi (I 1000 (k + 2))] [] rfl (g1) ?_
  refine z_n 6 (375, [(3, vi k), (2, vr 137), (1, vr 1), (0, vr 1000)], [vi (I1 1000 (k + 1)), vr 137, vi res], (I1, zPp π1, D1, 147)) (G := (zr (k + 1)) ∧ (0 ≤ (k + 1) ∧ (k + 1) < (I1 1000 (-1))) ∧ True) rfl ⟨by omega, by rw [e1]; omega, trivial⟩ ?_
  refine z_top (b := I 1000 (k + 1)) (e1 _) ?_
  refine z_n 5 (380, [(3, vi k), (2, vr 137), (1, vr 1), (0, vr 1000)], [vi (I1 1000 (k + 2)), vi (I 1000 (k + 1)), vr 137, vi res], (I1, zPp π1, D1, 147)) (G := (zr (k + 2)) ∧ (0 ≤ (k + 2) ∧ (k + 2) < (I1 1000 (-1))) ∧ True) rfl ⟨by omega, by rw [e1]; omega, trivial⟩ ?_
  refine z_top (b := I 1000 (k + 2)) (e1 _) ?_
  refine z_ci 115 [vr 137, vi (I 1000 (k + 1)), vi (I 1000 (k + 2))] [vi res] rfl (g2) ?_
  refine z_br (res = res) 756 386 [] rfl (fun hx2 => ?_) (fun h => absurd (show res = res from rfl) h)
  refine z_n 2 (18, [(3, vi (k + 4)), (2, vr 137), (1, vr 1), (0, vr 1000)], [], (I2, zPp π1, D2, 147)) (G := (zr (k + 4)) ∧ True) rfl ⟨by omega, trivial⟩ ?_
  refine z_sub [(3, vi (k + 4)), (2, vr 137), (1, vr 1), (0, vr 1000)] [0, 1, 2, 3] rfl ?_
  exact hrun
set_option maxHeartbeats 4000000 in
set_option maxRecDepth 20000 in
theorem law_8 {I : zI} {π : Int → Nat} {D : zD} {k L : Int} (s : zSim I π) (hL : I 1000 (-1) = L) (hL2 : L ≤ 2048) (h0 : 0 ≤ k) (h1 : k ≤ L - 4) (hv : (Int32.ofInt (I 1000 k) &&& Int32.ofInt 31).toInt = 8) (hk : ∀ I2 π2 D2, zSim I2 π2 → (∀ j, I2 1000 j = I 1000 j) → ∃ τ, τ.2.2.2 = 147 ∧ zRuns 143 18 [(3, vi (k + 4)), (2, vr 137), (1, vr 1), (0, vr 1000)] [] (I2, zPp π2, D2, 147) (some (vi 1)) τ) : ∃ τ, τ.2.2.2 = 147 ∧ zRuns 143 18 [(3, vi k), (2, vr 137), (1, vr 1), (0, vr 1000)] [] (I, zPp π, D, 147) (some (vi 1)) τ := by
  obtain ⟨res, I1, π1, D1, I2, D2, g1, g2, s2⟩ := op_why (D := D) s (I 1000 (k + 1)) (I 1000 (k + 2))
  have e1 : ∀ j, I1 1000 j = I 1000 j := zRuns_1000 g1 (by decide)
  have e2 : ∀ j, I2 1000 j = I 1000 j := fun j => (zRuns_1000 g2 (by decide) j).trans (e1 j)
  obtain ⟨τ, hτ, hrun⟩ := hk I2 π1 D2 s2 e2
  refine ⟨τ, hτ, ?_⟩
  refine z_n 5 (23, [(3, vi k), (2, vr 137), (1, vr 1), (0, vr 1000)], [vi ((I 1000 (-1)) - 4), vi k], (I, zPp π, D, 147)) (G := (zr ((I 1000 (-1)) - 4)) ∧ True) rfl ⟨by omega, trivial⟩ ?_
  refine z_br (((I 1000 (-1)) - 4) < k) 762 26 [] rfl (fun h => absurd h (show ¬ (((I 1000 (-1)) - 4) < k) from by omega)) (fun hx1 => ?_)
  refine z_n 5 (32, [(3, vi k), (2, vr 137), (1, vr 1), (0, vr 1000)], [vi ((Int32.ofInt (I 1000 k) &&& Int32.ofInt 31).toInt)], (I, zPp π, D, 147)) (G := (0 ≤ k ∧ k < (I 1000 (-1))) ∧ True) rfl ⟨by omega, trivial⟩ ?_
  refine z_top (b := 8) (hv) ?_
  refine z_n 12 (399, [(3, vi k), (2, vr 137), (1, vr 1), (0, vr 1000)], [vi (I 1000 (k + 2)), vi (I 1000 (k + 1)), vr 1], (I, zPp π, D, 147)) (G := (zr (k + 1)) ∧ (0 ≤ (k + 1) ∧ (k + 1) < (I 1000 (-1))) ∧ (zr (k + 2)) ∧ (0 ≤ (k + 2) ∧ (k + 2) < (I 1000 (-1))) ∧ True) rfl ⟨by omega, by omega, by omega, by omega, trivial⟩ ?_
  refine z_ci 75 [vr 1, vi (I 1000 (k + 1)), vi (I 1000 (k + 2))] [] rfl (g1) ?_
  refine z_n 6 (408, [(3, vi k), (2, vr 137), (1, vr 1), (0, vr 1000)], [vi (I1 1000 (k + 1)), vr 137, vi res], (I1, zPp π1, D1, 147)) (G := (zr (k + 1)) ∧ (0 ≤ (k + 1) ∧ (k + 1) < (I1 1000 (-1))) ∧ True) rfl ⟨by omega, by rw [e1]; omega, trivial⟩ ?_
  refine z_top (b := I 1000 (k + 1)) (e1 _) ?_
  refine z_n 5 (413, [(3, vi k), (2, vr 137), (1, vr 1), (0, vr 1000)], [vi (I1 1000 (k + 2)), vi (I 1000 (k + 1)), vr 137, vi res], (I1, zPp π1, D1, 147)) (G := (zr (k + 2)) ∧ (0 ≤ (k + 2) ∧ (k + 2) < (I1 1000 (-1))) ∧ True) rfl ⟨by omega, by rw [e1]; omega, trivial⟩ ?_
  refine z_top (b := I 1000 (k + 2)) (e1 _) ?_
  refine z_ci 116 [vr 137, vi (I 1000 (k + 1)), vi (I 1000 (k + 2))] [vi res] rfl (g2) ?_
  refine z_br (res = res) 756 419 [] rfl (fun hx2 => ?_) (fun h => absurd (show res = res from rfl) h)
  refine z_n 2 (18, [(3, vi (k + 4)), (2, vr 137), (1, vr 1), (0, vr 1000)], [], (I2, zPp π1, D2, 147)) (G := (zr (k + 4)) ∧ True) rfl ⟨by omega, trivial⟩ ?_
  refine z_sub [(3, vi (k + 4)), (2, vr 137), (1, vr 1), (0, vr 1000)] [0, 1, 2, 3] rfl ?_
  exact hrun
set_option maxHeartbeats 4000000 in
set_option maxRecDepth 20000 in
theorem law_9 {I : zI} {π : Int → Nat} {D : zD} {k L : Int} (s : zSim I π) (hL : I 1000 (-1) = L) (hL2 : L ≤ 2048) (h0 : 0 ≤ k) (h1 : k ≤ L - 4) (hv : (Int32.ofInt (I 1000 k) &&& Int32.ofInt 31).toInt = 9) (hk : ∀ I2 π2 D2, zSim I2 π2 → (∀ j, I2 1000 j = I 1000 j) → ∃ τ, τ.2.2.2 = 147 ∧ zRuns 143 18 [(3, vi (k + 4)), (2, vr 137), (1, vr 1), (0, vr 1000)] [] (I2, zPp π2, D2, 147) (some (vi 1)) τ) : ∃ τ, τ.2.2.2 = 147 ∧ zRuns 143 18 [(3, vi k), (2, vr 137), (1, vr 1), (0, vr 1000)] [] (I, zPp π, D, 147) (some (vi 1)) τ := by
  obtain ⟨res, I1, π1, D1, I2, D2, g1, g2, s2⟩ := op_bumped (D := D) s (I 1000 (k + 1)) (I 1000 (k + 2))
  have e1 : ∀ j, I1 1000 j = I 1000 j := zRuns_1000 g1 (by decide)
  have e2 : ∀ j, I2 1000 j = I 1000 j := fun j => (zRuns_1000 g2 (by decide) j).trans (e1 j)
  obtain ⟨τ, hτ, hrun⟩ := hk I2 π1 D2 s2 e2
  refine ⟨τ, hτ, ?_⟩
  refine z_n 5 (23, [(3, vi k), (2, vr 137), (1, vr 1), (0, vr 1000)], [vi ((I 1000 (-1)) - 4), vi k], (I, zPp π, D, 147)) (G := (zr ((I 1000 (-1)) - 4)) ∧ True) rfl ⟨by omega, trivial⟩ ?_
  refine z_br (((I 1000 (-1)) - 4) < k) 762 26 [] rfl (fun h => absurd h (show ¬ (((I 1000 (-1)) - 4) < k) from by omega)) (fun hx1 => ?_)
  refine z_n 5 (32, [(3, vi k), (2, vr 137), (1, vr 1), (0, vr 1000)], [vi ((Int32.ofInt (I 1000 k) &&& Int32.ofInt 31).toInt)], (I, zPp π, D, 147)) (G := (0 ≤ k ∧ k < (I 1000 (-1))) ∧ True) rfl ⟨by omega, trivial⟩ ?_
  refine z_top (b := 9) (hv) ?_
  refine z_n 12 (432, [(3, vi k), (2, vr 137), (1, vr 1), (0, vr 1000)], [vi (I 1000 (k + 2)), vi (I 1000 (k + 1)), vr 1], (I, zPp π, D, 147)) (G := (zr (k + 1)) ∧ (0 ≤ (k + 1) ∧ (k + 1) < (I 1000 (-1))) ∧ (zr (k + 2)) ∧ (0 ≤ (k + 2) ∧ (k + 2) < (I 1000 (-1))) ∧ True) rfl ⟨by omega, by omega, by omega, by omega, trivial⟩ ?_
  refine z_ci 76 [vr 1, vi (I 1000 (k + 1)), vi (I 1000 (k + 2))] [] rfl (g1) ?_
  refine z_n 6 (441, [(3, vi k), (2, vr 137), (1, vr 1), (0, vr 1000)], [vi (I1 1000 (k + 1)), vr 137, vi res], (I1, zPp π1, D1, 147)) (G := (zr (k + 1)) ∧ (0 ≤ (k + 1) ∧ (k + 1) < (I1 1000 (-1))) ∧ True) rfl ⟨by omega, by rw [e1]; omega, trivial⟩ ?_
  refine z_top (b := I 1000 (k + 1)) (e1 _) ?_
  refine z_n 5 (446, [(3, vi k), (2, vr 137), (1, vr 1), (0, vr 1000)], [vi (I1 1000 (k + 2)), vi (I 1000 (k + 1)), vr 137, vi res], (I1, zPp π1, D1, 147)) (G := (zr (k + 2)) ∧ (0 ≤ (k + 2) ∧ (k + 2) < (I1 1000 (-1))) ∧ True) rfl ⟨by omega, by rw [e1]; omega, trivial⟩ ?_
  refine z_top (b := I 1000 (k + 2)) (e1 _) ?_
  refine z_ci 117 [vr 137, vi (I 1000 (k + 1)), vi (I 1000 (k + 2))] [vi res] rfl (g2) ?_
  refine z_br (res = res) 756 452 [] rfl (fun hx2 => ?_) (fun h => absurd (show res = res from rfl) h)
  refine z_n 2 (18, [(3, vi (k + 4)), (2, vr 137), (1, vr 1), (0, vr 1000)], [], (I2, zPp π1, D2, 147)) (G := (zr (k + 4)) ∧ True) rfl ⟨by omega, trivial⟩ ?_
  refine z_sub [(3, vi (k + 4)), (2, vr 137), (1, vr 1), (0, vr 1000)] [0, 1, 2, 3] rfl ?_
  exact hrun
set_option maxHeartbeats 4000000 in
set_option maxRecDepth 20000 in
theorem law_10 {I : zI} {π : Int → Nat} {D : zD} {k L : Int} (s : zSim I π) (hL : I 1000 (-1) = L) (hL2 : L ≤ 2048) (h0 : 0 ≤ k) (h1 : k ≤ L - 4) (hv : (Int32.ofInt (I 1000 k) &&& Int32.ofInt 31).toInt = 10) (hk : ∀ I2 π2 D2, zSim I2 π2 → (∀ j, I2 1000 j = I 1000 j) → ∃ τ, τ.2.2.2 = 147 ∧ zRuns 143 18 [(3, vi (k + 4)), (2, vr 137), (1, vr 1), (0, vr 1000)] [] (I2, zPp π2, D2, 147) (some (vi 1)) τ) : ∃ τ, τ.2.2.2 = 147 ∧ zRuns 143 18 [(3, vi k), (2, vr 137), (1, vr 1), (0, vr 1000)] [] (I, zPp π, D, 147) (some (vi 1)) τ := by
  obtain ⟨res, I1, π1, D1, I2, D2, g1, g2, s2⟩ := op_rerow (D := D) s (I 1000 (k + 1))
  have e1 : ∀ j, I1 1000 j = I 1000 j := zRuns_1000 g1 (by decide)
  have e2 : ∀ j, I2 1000 j = I 1000 j := fun j => (zRuns_1000 g2 (by decide) j).trans (e1 j)
  obtain ⟨τ, hτ, hrun⟩ := hk I2 π1 D2 s2 e2
  refine ⟨τ, hτ, ?_⟩
  refine z_n 5 (23, [(3, vi k), (2, vr 137), (1, vr 1), (0, vr 1000)], [vi ((I 1000 (-1)) - 4), vi k], (I, zPp π, D, 147)) (G := (zr ((I 1000 (-1)) - 4)) ∧ True) rfl ⟨by omega, trivial⟩ ?_
  refine z_br (((I 1000 (-1)) - 4) < k) 762 26 [] rfl (fun h => absurd h (show ¬ (((I 1000 (-1)) - 4) < k) from by omega)) (fun hx1 => ?_)
  refine z_n 5 (32, [(3, vi k), (2, vr 137), (1, vr 1), (0, vr 1000)], [vi ((Int32.ofInt (I 1000 k) &&& Int32.ofInt 31).toInt)], (I, zPp π, D, 147)) (G := (0 ≤ k ∧ k < (I 1000 (-1))) ∧ True) rfl ⟨by omega, trivial⟩ ?_
  refine z_top (b := 10) (hv) ?_
  refine z_n 7 (460, [(3, vi k), (2, vr 137), (1, vr 1), (0, vr 1000)], [vi (I 1000 (k + 1)), vr 1], (I, zPp π, D, 147)) (G := (zr (k + 1)) ∧ (0 ≤ (k + 1) ∧ (k + 1) < (I 1000 (-1))) ∧ True) rfl ⟨by omega, by omega, trivial⟩ ?_
  refine z_ci 77 [vr 1, vi (I 1000 (k + 1))] [] rfl (g1) ?_
  refine z_n 6 (469, [(3, vi k), (2, vr 137), (1, vr 1), (0, vr 1000)], [vi (I1 1000 (k + 1)), vr 137, vi res], (I1, zPp π1, D1, 147)) (G := (zr (k + 1)) ∧ (0 ≤ (k + 1) ∧ (k + 1) < (I1 1000 (-1))) ∧ True) rfl ⟨by omega, by rw [e1]; omega, trivial⟩ ?_
  refine z_top (b := I 1000 (k + 1)) (e1 _) ?_
  refine z_ci 119 [vr 137, vi (I 1000 (k + 1))] [vi res] rfl (g2) ?_
  refine z_br (res = res) 756 475 [] rfl (fun hx2 => ?_) (fun h => absurd (show res = res from rfl) h)
  refine z_n 2 (18, [(3, vi (k + 4)), (2, vr 137), (1, vr 1), (0, vr 1000)], [], (I2, zPp π1, D2, 147)) (G := (zr (k + 4)) ∧ True) rfl ⟨by omega, trivial⟩ ?_
  refine z_sub [(3, vi (k + 4)), (2, vr 137), (1, vr 1), (0, vr 1000)] [0, 1, 2, 3] rfl ?_
  exact hrun
set_option maxHeartbeats 4000000 in
set_option maxRecDepth 20000 in
theorem law_11 {I : zI} {π : Int → Nat} {D : zD} {k L : Int} (s : zSim I π) (hL : I 1000 (-1) = L) (hL2 : L ≤ 2048) (h0 : 0 ≤ k) (h1 : k ≤ L - 4) (hv : (Int32.ofInt (I 1000 k) &&& Int32.ofInt 31).toInt = 11) (hk : ∀ I2 π2 D2, zSim I2 π2 → (∀ j, I2 1000 j = I 1000 j) → ∃ τ, τ.2.2.2 = 147 ∧ zRuns 143 18 [(3, vi (k + 4)), (2, vr 137), (1, vr 1), (0, vr 1000)] [] (I2, zPp π2, D2, 147) (some (vi 1)) τ) : ∃ τ, τ.2.2.2 = 147 ∧ zRuns 143 18 [(3, vi k), (2, vr 137), (1, vr 1), (0, vr 1000)] [] (I, zPp π, D, 147) (some (vi 1)) τ := by
  obtain ⟨res, I1, π1, D1, I2, D2, g1, g2, s2⟩ := op_finish (D := D) s
  have e1 : ∀ j, I1 1000 j = I 1000 j := zRuns_1000 g1 (by decide)
  have e2 : ∀ j, I2 1000 j = I 1000 j := fun j => (zRuns_1000 g2 (by decide) j).trans (e1 j)
  obtain ⟨τ, hτ, hrun⟩ := hk I2 π1 D2 s2 e2
  refine ⟨τ, hτ, ?_⟩
  refine z_n 5 (23, [(3, vi k), (2, vr 137), (1, vr 1), (0, vr 1000)], [vi ((I 1000 (-1)) - 4), vi k], (I, zPp π, D, 147)) (G := (zr ((I 1000 (-1)) - 4)) ∧ True) rfl ⟨by omega, trivial⟩ ?_
  refine z_br (((I 1000 (-1)) - 4) < k) 762 26 [] rfl (fun h => absurd h (show ¬ (((I 1000 (-1)) - 4) < k) from by omega)) (fun hx1 => ?_)
  refine z_n 5 (32, [(3, vi k), (2, vr 137), (1, vr 1), (0, vr 1000)], [vi ((Int32.ofInt (I 1000 k) &&& Int32.ofInt 31).toInt)], (I, zPp π, D, 147)) (G := (0 ≤ k ∧ k < (I 1000 (-1))) ∧ True) rfl ⟨by omega, trivial⟩ ?_
  refine z_top (b := 11) (hv) ?_
  refine z_n 2 (478, [(3, vi k), (2, vr 137), (1, vr 1), (0, vr 1000)], [vr 1], (I, zPp π, D, 147)) rfl trivial ?_
  refine z_ci 78 [vr 1] [] rfl (g1) ?_
  refine z_n 1 (482, [(3, vi k), (2, vr 137), (1, vr 1), (0, vr 1000)], [vr 137, vi res], (I1, zPp π1, D1, 147)) rfl trivial ?_
  refine z_ci 120 [vr 137] [vi res] rfl (g2) ?_
  refine z_br (res = res) 756 488 [] rfl (fun hx2 => ?_) (fun h => absurd (show res = res from rfl) h)
  refine z_n 2 (18, [(3, vi (k + 4)), (2, vr 137), (1, vr 1), (0, vr 1000)], [], (I2, zPp π1, D2, 147)) (G := (zr (k + 4)) ∧ True) rfl ⟨by omega, trivial⟩ ?_
  refine z_sub [(3, vi (k + 4)), (2, vr 137), (1, vr 1), (0, vr 1000)] [0, 1, 2, 3] rfl ?_
  exact hrun
set_option maxHeartbeats 4000000 in
set_option maxRecDepth 20000 in
theorem law_12 {I : zI} {π : Int → Nat} {D : zD} {k L : Int} (s : zSim I π) (hL : I 1000 (-1) = L) (hL2 : L ≤ 2048) (h0 : 0 ≤ k) (h1 : k ≤ L - 4) (hv : (Int32.ofInt (I 1000 k) &&& Int32.ofInt 31).toInt = 12) (hk : ∀ I2 π2 D2, zSim I2 π2 → (∀ j, I2 1000 j = I 1000 j) → ∃ τ, τ.2.2.2 = 147 ∧ zRuns 143 18 [(3, vi (k + 4)), (2, vr 137), (1, vr 1), (0, vr 1000)] [] (I2, zPp π2, D2, 147) (some (vi 1)) τ) : ∃ τ, τ.2.2.2 = 147 ∧ zRuns 143 18 [(3, vi k), (2, vr 137), (1, vr 1), (0, vr 1000)] [] (I, zPp π, D, 147) (some (vi 1)) τ := by
  obtain ⟨res, I1, π1, D1, I2, D2, g1, g2, s2⟩ := op_undo (D := D) s
  have e1 : ∀ j, I1 1000 j = I 1000 j := zRuns_1000 g1 (by decide)
  have e2 : ∀ j, I2 1000 j = I 1000 j := fun j => (zRuns_1000 g2 (by decide) j).trans (e1 j)
  obtain ⟨τ, hτ, hrun⟩ := hk I2 π1 D2 s2 e2
  refine ⟨τ, hτ, ?_⟩
  refine z_n 5 (23, [(3, vi k), (2, vr 137), (1, vr 1), (0, vr 1000)], [vi ((I 1000 (-1)) - 4), vi k], (I, zPp π, D, 147)) (G := (zr ((I 1000 (-1)) - 4)) ∧ True) rfl ⟨by omega, trivial⟩ ?_
  refine z_br (((I 1000 (-1)) - 4) < k) 762 26 [] rfl (fun h => absurd h (show ¬ (((I 1000 (-1)) - 4) < k) from by omega)) (fun hx1 => ?_)
  refine z_n 5 (32, [(3, vi k), (2, vr 137), (1, vr 1), (0, vr 1000)], [vi ((Int32.ofInt (I 1000 k) &&& Int32.ofInt 31).toInt)], (I, zPp π, D, 147)) (G := (0 ≤ k ∧ k < (I 1000 (-1))) ∧ True) rfl ⟨by omega, trivial⟩ ?_
  refine z_top (b := 12) (hv) ?_
  refine z_n 2 (491, [(3, vi k), (2, vr 137), (1, vr 1), (0, vr 1000)], [vr 1], (I, zPp π, D, 147)) rfl trivial ?_
  refine z_ci 79 [vr 1] [] rfl (g1) ?_
  refine z_n 1 (495, [(3, vi k), (2, vr 137), (1, vr 1), (0, vr 1000)], [vr 137, vi res], (I1, zPp π1, D1, 147)) rfl trivial ?_
  refine z_ci 121 [vr 137] [vi res] rfl (g2) ?_
  refine z_br (res = res) 756 501 [] rfl (fun hx2 => ?_) (fun h => absurd (show res = res from rfl) h)
  refine z_n 2 (18, [(3, vi (k + 4)), (2, vr 137), (1, vr 1), (0, vr 1000)], [], (I2, zPp π1, D2, 147)) (G := (zr (k + 4)) ∧ True) rfl ⟨by omega, trivial⟩ ?_
  refine z_sub [(3, vi (k + 4)), (2, vr 137), (1, vr 1), (0, vr 1000)] [0, 1, 2, 3] rfl ?_
  exact hrun
set_option maxHeartbeats 4000000 in
set_option maxRecDepth 20000 in
theorem law_13 {I : zI} {π : Int → Nat} {D : zD} {k L : Int} (s : zSim I π) (hL : I 1000 (-1) = L) (hL2 : L ≤ 2048) (h0 : 0 ≤ k) (h1 : k ≤ L - 4) (hv : (Int32.ofInt (I 1000 k) &&& Int32.ofInt 31).toInt = 13) (hk : ∀ I2 π2 D2, zSim I2 π2 → (∀ j, I2 1000 j = I 1000 j) → ∃ τ, τ.2.2.2 = 147 ∧ zRuns 143 18 [(3, vi (k + 4)), (2, vr 137), (1, vr 1), (0, vr 1000)] [] (I2, zPp π2, D2, 147) (some (vi 1)) τ) : ∃ τ, τ.2.2.2 = 147 ∧ zRuns 143 18 [(3, vi k), (2, vr 137), (1, vr 1), (0, vr 1000)] [] (I, zPp π, D, 147) (some (vi 1)) τ := by
  obtain ⟨res, I1, π1, D1, I2, D2, g1, g2, s2⟩ := op_foretold (D := D) s (I 1000 (k + 1)) (I 1000 (k + 2))
  have e1 : ∀ j, I1 1000 j = I 1000 j := zRuns_1000 g1 (by decide)
  have e2 : ∀ j, I2 1000 j = I 1000 j := fun j => (zRuns_1000 g2 (by decide) j).trans (e1 j)
  obtain ⟨τ, hτ, hrun⟩ := hk I2 π1 D2 s2 e2
  refine ⟨τ, hτ, ?_⟩
  refine z_n 5 (23, [(3, vi k), (2, vr 137), (1, vr 1), (0, vr 1000)], [vi ((I 1000 (-1)) - 4), vi k], (I, zPp π, D, 147)) (G := (zr ((I 1000 (-1)) - 4)) ∧ True) rfl ⟨by omega, trivial⟩ ?_
  refine z_br (((I 1000 (-1)) - 4) < k) 762 26 [] rfl (fun h => absurd h (show ¬ (((I 1000 (-1)) - 4) < k) from by omega)) (fun hx1 => ?_)
  refine z_n 5 (32, [(3, vi k), (2, vr 137), (1, vr 1), (0, vr 1000)], [vi ((Int32.ofInt (I 1000 k) &&& Int32.ofInt 31).toInt)], (I, zPp π, D, 147)) (G := (0 ≤ k ∧ k < (I 1000 (-1))) ∧ True) rfl ⟨by omega, trivial⟩ ?_
  refine z_top (b := 13) (hv) ?_
  refine z_n 12 (514, [(3, vi k), (2, vr 137), (1, vr 1), (0, vr 1000)], [vi (I 1000 (k + 2)), vi (I 1000 (k + 1)), vr 1], (I, zPp π, D, 147)) (G := (zr (k + 1)) ∧ (0 ≤ (k + 1) ∧ (k + 1) < (I 1000 (-1))) ∧ (zr (k + 2)) ∧ (0 ≤ (k + 2) ∧ (k + 2) < (I 1000 (-1))) ∧ True) rfl ⟨by omega, by omega, by omega, by omega, trivial⟩ ?_
  refine z_ci 80 [vr 1, vi (I 1000 (k + 1)), vi (I 1000 (k + 2))] [] rfl (g1) ?_
  refine z_n 6 (523, [(3, vi k), (2, vr 137), (1, vr 1), (0, vr 1000)], [vi (I1 1000 (k + 1)), vr 137, vi res], (I1, zPp π1, D1, 147)) (G := (zr (k + 1)) ∧ (0 ≤ (k + 1) ∧ (k + 1) < (I1 1000 (-1))) ∧ True) rfl ⟨by omega, by rw [e1]; omega, trivial⟩ ?_
  refine z_top (b := I 1000 (k + 1)) (e1 _) ?_
  refine z_n 5 (528, [(3, vi k), (2, vr 137), (1, vr 1), (0, vr 1000)], [vi (I1 1000 (k + 2)), vi (I 1000 (k + 1)), vr 137, vi res], (I1, zPp π1, D1, 147)) (G := (zr (k + 2)) ∧ (0 ≤ (k + 2) ∧ (k + 2) < (I1 1000 (-1))) ∧ True) rfl ⟨by omega, by rw [e1]; omega, trivial⟩ ?_
  refine z_top (b := I 1000 (k + 2)) (e1 _) ?_
  refine z_ci 123 [vr 137, vi (I 1000 (k + 1)), vi (I 1000 (k + 2))] [vi res] rfl (g2) ?_
  refine z_br (res = res) 756 534 [] rfl (fun hx2 => ?_) (fun h => absurd (show res = res from rfl) h)
  refine z_n 2 (18, [(3, vi (k + 4)), (2, vr 137), (1, vr 1), (0, vr 1000)], [], (I2, zPp π1, D2, 147)) (G := (zr (k + 4)) ∧ True) rfl ⟨by omega, trivial⟩ ?_
  refine z_sub [(3, vi (k + 4)), (2, vr 137), (1, vr 1), (0, vr 1000)] [0, 1, 2, 3] rfl ?_
  exact hrun
set_option maxHeartbeats 4000000 in
set_option maxRecDepth 20000 in
theorem law_14 {I : zI} {π : Int → Nat} {D : zD} {k L : Int} (s : zSim I π) (hL : I 1000 (-1) = L) (hL2 : L ≤ 2048) (h0 : 0 ≤ k) (h1 : k ≤ L - 4) (hv : (Int32.ofInt (I 1000 k) &&& Int32.ofInt 31).toInt = 14) (hk : ∀ I2 π2 D2, zSim I2 π2 → (∀ j, I2 1000 j = I 1000 j) → ∃ τ, τ.2.2.2 = 147 ∧ zRuns 143 18 [(3, vi (k + 4)), (2, vr 137), (1, vr 1), (0, vr 1000)] [] (I2, zPp π2, D2, 147) (some (vi 1)) τ) : ∃ τ, τ.2.2.2 = 147 ∧ zRuns 143 18 [(3, vi k), (2, vr 137), (1, vr 1), (0, vr 1000)] [] (I, zPp π, D, 147) (some (vi 1)) τ := by
  obtain ⟨res, I1, π1, D1, I2, D2, g1, g2, s2⟩ := op_row (D := D) s
  have e1 : ∀ j, I1 1000 j = I 1000 j := zRuns_1000 g1 (by decide)
  have e2 : ∀ j, I2 1000 j = I 1000 j := fun j => (zRuns_1000 g2 (by decide) j).trans (e1 j)
  obtain ⟨τ, hτ, hrun⟩ := hk I2 π1 D2 s2 e2
  refine ⟨τ, hτ, ?_⟩
  refine z_n 5 (23, [(3, vi k), (2, vr 137), (1, vr 1), (0, vr 1000)], [vi ((I 1000 (-1)) - 4), vi k], (I, zPp π, D, 147)) (G := (zr ((I 1000 (-1)) - 4)) ∧ True) rfl ⟨by omega, trivial⟩ ?_
  refine z_br (((I 1000 (-1)) - 4) < k) 762 26 [] rfl (fun h => absurd h (show ¬ (((I 1000 (-1)) - 4) < k) from by omega)) (fun hx1 => ?_)
  refine z_n 5 (32, [(3, vi k), (2, vr 137), (1, vr 1), (0, vr 1000)], [vi ((Int32.ofInt (I 1000 k) &&& Int32.ofInt 31).toInt)], (I, zPp π, D, 147)) (G := (0 ≤ k ∧ k < (I 1000 (-1))) ∧ True) rfl ⟨by omega, trivial⟩ ?_
  refine z_top (b := 14) (hv) ?_
  refine z_n 2 (537, [(3, vi k), (2, vr 137), (1, vr 1), (0, vr 1000)], [vr 1], (I, zPp π, D, 147)) rfl trivial ?_
  refine z_ci 81 [vr 1] [] rfl (g1) ?_
  refine z_n 1 (541, [(3, vi k), (2, vr 137), (1, vr 1), (0, vr 1000)], [vr 137, vi res], (I1, zPp π1, D1, 147)) rfl trivial ?_
  refine z_ci 124 [vr 137] [vi res] rfl (g2) ?_
  refine z_br (res = res) 756 547 [] rfl (fun hx2 => ?_) (fun h => absurd (show res = res from rfl) h)
  refine z_n 2 (18, [(3, vi (k + 4)), (2, vr 137), (1, vr 1), (0, vr 1000)], [], (I2, zPp π1, D2, 147)) (G := (zr (k + 4)) ∧ True) rfl ⟨by omega, trivial⟩ ?_
  refine z_sub [(3, vi (k + 4)), (2, vr 137), (1, vr 1), (0, vr 1000)] [0, 1, 2, 3] rfl ?_
  exact hrun
set_option maxHeartbeats 4000000 in
set_option maxRecDepth 20000 in
theorem law_15 {I : zI} {π : Int → Nat} {D : zD} {k L : Int} (s : zSim I π) (hL : I 1000 (-1) = L) (hL2 : L ≤ 2048) (h0 : 0 ≤ k) (h1 : k ≤ L - 4) (hv : (Int32.ofInt (I 1000 k) &&& Int32.ofInt 31).toInt = 15) (hk : ∀ I2 π2 D2, zSim I2 π2 → (∀ j, I2 1000 j = I 1000 j) → ∃ τ, τ.2.2.2 = 147 ∧ zRuns 143 18 [(3, vi (k + 4)), (2, vr 137), (1, vr 1), (0, vr 1000)] [] (I2, zPp π2, D2, 147) (some (vi 1)) τ) : ∃ τ, τ.2.2.2 = 147 ∧ zRuns 143 18 [(3, vi k), (2, vr 137), (1, vr 1), (0, vr 1000)] [] (I, zPp π, D, 147) (some (vi 1)) τ := by
  obtain ⟨res, I1, π1, D1, I2, D2, g1, g2, s2⟩ := op_distanceBits (D := D) s (I 1000 (k + 1)) (I 1000 (k + 2))
  have e1 : ∀ j, I1 1000 j = I 1000 j := zRuns_1000 g1 (by decide)
  have e2 : ∀ j, I2 1000 j = I 1000 j := fun j => (zRuns_1000 g2 (by decide) j).trans (e1 j)
  obtain ⟨τ, hτ, hrun⟩ := hk I2 π1 D2 s2 e2
  refine ⟨τ, hτ, ?_⟩
  refine z_n 5 (23, [(3, vi k), (2, vr 137), (1, vr 1), (0, vr 1000)], [vi ((I 1000 (-1)) - 4), vi k], (I, zPp π, D, 147)) (G := (zr ((I 1000 (-1)) - 4)) ∧ True) rfl ⟨by omega, trivial⟩ ?_
  refine z_br (((I 1000 (-1)) - 4) < k) 762 26 [] rfl (fun h => absurd h (show ¬ (((I 1000 (-1)) - 4) < k) from by omega)) (fun hx1 => ?_)
  refine z_n 5 (32, [(3, vi k), (2, vr 137), (1, vr 1), (0, vr 1000)], [vi ((Int32.ofInt (I 1000 k) &&& Int32.ofInt 31).toInt)], (I, zPp π, D, 147)) (G := (0 ≤ k ∧ k < (I 1000 (-1))) ∧ True) rfl ⟨by omega, trivial⟩ ?_
  refine z_top (b := 15) (hv) ?_
  refine z_n 12 (560, [(3, vi k), (2, vr 137), (1, vr 1), (0, vr 1000)], [vi (I 1000 (k + 2)), vi (I 1000 (k + 1)), vr 1], (I, zPp π, D, 147)) (G := (zr (k + 1)) ∧ (0 ≤ (k + 1) ∧ (k + 1) < (I 1000 (-1))) ∧ (zr (k + 2)) ∧ (0 ≤ (k + 2) ∧ (k + 2) < (I 1000 (-1))) ∧ True) rfl ⟨by omega, by omega, by omega, by omega, trivial⟩ ?_
  refine z_ci 82 [vr 1, vi (I 1000 (k + 1)), vi (I 1000 (k + 2))] [] rfl (g1) ?_
  refine z_n 6 (569, [(3, vi k), (2, vr 137), (1, vr 1), (0, vr 1000)], [vi (I1 1000 (k + 1)), vr 137, vi res], (I1, zPp π1, D1, 147)) (G := (zr (k + 1)) ∧ (0 ≤ (k + 1) ∧ (k + 1) < (I1 1000 (-1))) ∧ True) rfl ⟨by omega, by rw [e1]; omega, trivial⟩ ?_
  refine z_top (b := I 1000 (k + 1)) (e1 _) ?_
  refine z_n 5 (574, [(3, vi k), (2, vr 137), (1, vr 1), (0, vr 1000)], [vi (I1 1000 (k + 2)), vi (I 1000 (k + 1)), vr 137, vi res], (I1, zPp π1, D1, 147)) (G := (zr (k + 2)) ∧ (0 ≤ (k + 2) ∧ (k + 2) < (I1 1000 (-1))) ∧ True) rfl ⟨by omega, by rw [e1]; omega, trivial⟩ ?_
  refine z_top (b := I 1000 (k + 2)) (e1 _) ?_
  refine z_ci 126 [vr 137, vi (I 1000 (k + 1)), vi (I 1000 (k + 2))] [vi res] rfl (g2) ?_
  refine z_br (res = res) 756 580 [] rfl (fun hx2 => ?_) (fun h => absurd (show res = res from rfl) h)
  refine z_n 2 (18, [(3, vi (k + 4)), (2, vr 137), (1, vr 1), (0, vr 1000)], [], (I2, zPp π1, D2, 147)) (G := (zr (k + 4)) ∧ True) rfl ⟨by omega, trivial⟩ ?_
  refine z_sub [(3, vi (k + 4)), (2, vr 137), (1, vr 1), (0, vr 1000)] [0, 1, 2, 3] rfl ?_
  exact hrun
set_option maxHeartbeats 4000000 in
set_option maxRecDepth 20000 in
theorem law_16 {I : zI} {π : Int → Nat} {D : zD} {k L : Int} (s : zSim I π) (hL : I 1000 (-1) = L) (hL2 : L ≤ 2048) (h0 : 0 ≤ k) (h1 : k ≤ L - 4) (hv : (Int32.ofInt (I 1000 k) &&& Int32.ofInt 31).toInt = 16) (hk : ∀ I2 π2 D2, zSim I2 π2 → (∀ j, I2 1000 j = I 1000 j) → ∃ τ, τ.2.2.2 = 147 ∧ zRuns 143 18 [(3, vi (k + 4)), (2, vr 137), (1, vr 1), (0, vr 1000)] [] (I2, zPp π2, D2, 147) (some (vi 1)) τ) : ∃ τ, τ.2.2.2 = 147 ∧ zRuns 143 18 [(3, vi k), (2, vr 137), (1, vr 1), (0, vr 1000)] [] (I, zPp π, D, 147) (some (vi 1)) τ := by
  obtain ⟨res, I1, π1, D1, I2, D2, g1, g2, s2⟩ := op_speedFor (D := D) s (I 1000 (k + 1))
  have e1 : ∀ j, I1 1000 j = I 1000 j := zRuns_1000 g1 (by decide)
  have e2 : ∀ j, I2 1000 j = I 1000 j := fun j => (zRuns_1000 g2 (by decide) j).trans (e1 j)
  obtain ⟨τ, hτ, hrun⟩ := hk I2 π1 D2 s2 e2
  refine ⟨τ, hτ, ?_⟩
  refine z_n 5 (23, [(3, vi k), (2, vr 137), (1, vr 1), (0, vr 1000)], [vi ((I 1000 (-1)) - 4), vi k], (I, zPp π, D, 147)) (G := (zr ((I 1000 (-1)) - 4)) ∧ True) rfl ⟨by omega, trivial⟩ ?_
  refine z_br (((I 1000 (-1)) - 4) < k) 762 26 [] rfl (fun h => absurd h (show ¬ (((I 1000 (-1)) - 4) < k) from by omega)) (fun hx1 => ?_)
  refine z_n 5 (32, [(3, vi k), (2, vr 137), (1, vr 1), (0, vr 1000)], [vi ((Int32.ofInt (I 1000 k) &&& Int32.ofInt 31).toInt)], (I, zPp π, D, 147)) (G := (0 ≤ k ∧ k < (I 1000 (-1))) ∧ True) rfl ⟨by omega, trivial⟩ ?_
  refine z_top (b := 16) (hv) ?_
  refine z_n 7 (588, [(3, vi k), (2, vr 137), (1, vr 1), (0, vr 1000)], [vi (I 1000 (k + 1)), vr 1], (I, zPp π, D, 147)) (G := (zr (k + 1)) ∧ (0 ≤ (k + 1) ∧ (k + 1) < (I 1000 (-1))) ∧ True) rfl ⟨by omega, by omega, trivial⟩ ?_
  refine z_ci 83 [vr 1, vi (I 1000 (k + 1))] [] rfl (g1) ?_
  refine z_n 6 (597, [(3, vi k), (2, vr 137), (1, vr 1), (0, vr 1000)], [vi (I1 1000 (k + 1)), vr 137, vi res], (I1, zPp π1, D1, 147)) (G := (zr (k + 1)) ∧ (0 ≤ (k + 1) ∧ (k + 1) < (I1 1000 (-1))) ∧ True) rfl ⟨by omega, by rw [e1]; omega, trivial⟩ ?_
  refine z_top (b := I 1000 (k + 1)) (e1 _) ?_
  refine z_ci 127 [vr 137, vi (I 1000 (k + 1))] [vi res] rfl (g2) ?_
  refine z_br (res = res) 756 603 [] rfl (fun hx2 => ?_) (fun h => absurd (show res = res from rfl) h)
  refine z_n 2 (18, [(3, vi (k + 4)), (2, vr 137), (1, vr 1), (0, vr 1000)], [], (I2, zPp π1, D2, 147)) (G := (zr (k + 4)) ∧ True) rfl ⟨by omega, trivial⟩ ?_
  refine z_sub [(3, vi (k + 4)), (2, vr 137), (1, vr 1), (0, vr 1000)] [0, 1, 2, 3] rfl ?_
  exact hrun
set_option maxHeartbeats 4000000 in
set_option maxRecDepth 20000 in
theorem law_17 {I : zI} {π : Int → Nat} {D : zD} {k L : Int} (s : zSim I π) (hL : I 1000 (-1) = L) (hL2 : L ≤ 2048) (h0 : 0 ≤ k) (h1 : k ≤ L - 4) (hv : (Int32.ofInt (I 1000 k) &&& Int32.ofInt 31).toInt = 17) (hk : ∀ I2 π2 D2, zSim I2 π2 → (∀ j, I2 1000 j = I 1000 j) → ∃ τ, τ.2.2.2 = 147 ∧ zRuns 143 18 [(3, vi (k + 4)), (2, vr 137), (1, vr 1), (0, vr 1000)] [] (I2, zPp π2, D2, 147) (some (vi 1)) τ) : ∃ τ, τ.2.2.2 = 147 ∧ zRuns 143 18 [(3, vi k), (2, vr 137), (1, vr 1), (0, vr 1000)] [] (I, zPp π, D, 147) (some (vi 1)) τ := by
  obtain ⟨res, I1, π1, D1, I2, D2, g1, g2, s2⟩ := op_place (D := D) s (I 1000 (k + 1)) (I 1000 (k + 2))
  have e1 : ∀ j, I1 1000 j = I 1000 j := zRuns_1000 g1 (by decide)
  have e2 : ∀ j, I2 1000 j = I 1000 j := fun j => (zRuns_1000 g2 (by decide) j).trans (e1 j)
  obtain ⟨τ, hτ, hrun⟩ := hk I2 π1 D2 s2 e2
  refine ⟨τ, hτ, ?_⟩
  refine z_n 5 (23, [(3, vi k), (2, vr 137), (1, vr 1), (0, vr 1000)], [vi ((I 1000 (-1)) - 4), vi k], (I, zPp π, D, 147)) (G := (zr ((I 1000 (-1)) - 4)) ∧ True) rfl ⟨by omega, trivial⟩ ?_
  refine z_br (((I 1000 (-1)) - 4) < k) 762 26 [] rfl (fun h => absurd h (show ¬ (((I 1000 (-1)) - 4) < k) from by omega)) (fun hx1 => ?_)
  refine z_n 5 (32, [(3, vi k), (2, vr 137), (1, vr 1), (0, vr 1000)], [vi ((Int32.ofInt (I 1000 k) &&& Int32.ofInt 31).toInt)], (I, zPp π, D, 147)) (G := (0 ≤ k ∧ k < (I 1000 (-1))) ∧ True) rfl ⟨by omega, trivial⟩ ?_
  refine z_top (b := 17) (hv) ?_
  refine z_n 12 (616, [(3, vi k), (2, vr 137), (1, vr 1), (0, vr 1000)], [vi (I 1000 (k + 2)), vi (I 1000 (k + 1)), vr 1], (I, zPp π, D, 147)) (G := (zr (k + 1)) ∧ (0 ≤ (k + 1) ∧ (k + 1) < (I 1000 (-1))) ∧ (zr (k + 2)) ∧ (0 ≤ (k + 2) ∧ (k + 2) < (I 1000 (-1))) ∧ True) rfl ⟨by omega, by omega, by omega, by omega, trivial⟩ ?_
  refine z_ci 85 [vr 1, vi (I 1000 (k + 1)), vi (I 1000 (k + 2))] [] rfl (g1) ?_
  refine z_n 6 (625, [(3, vi k), (2, vr 137), (1, vr 1), (0, vr 1000)], [vi (I1 1000 (k + 1)), vr 137, vi res], (I1, zPp π1, D1, 147)) (G := (zr (k + 1)) ∧ (0 ≤ (k + 1) ∧ (k + 1) < (I1 1000 (-1))) ∧ True) rfl ⟨by omega, by rw [e1]; omega, trivial⟩ ?_
  refine z_top (b := I 1000 (k + 1)) (e1 _) ?_
  refine z_n 5 (630, [(3, vi k), (2, vr 137), (1, vr 1), (0, vr 1000)], [vi (I1 1000 (k + 2)), vi (I 1000 (k + 1)), vr 137, vi res], (I1, zPp π1, D1, 147)) (G := (zr (k + 2)) ∧ (0 ≤ (k + 2) ∧ (k + 2) < (I1 1000 (-1))) ∧ True) rfl ⟨by omega, by rw [e1]; omega, trivial⟩ ?_
  refine z_top (b := I 1000 (k + 2)) (e1 _) ?_
  refine z_ci 129 [vr 137, vi (I 1000 (k + 1)), vi (I 1000 (k + 2))] [vi res] rfl (g2) ?_
  refine z_br (res = res) 756 636 [] rfl (fun hx2 => ?_) (fun h => absurd (show res = res from rfl) h)
  refine z_n 2 (18, [(3, vi (k + 4)), (2, vr 137), (1, vr 1), (0, vr 1000)], [], (I2, zPp π1, D2, 147)) (G := (zr (k + 4)) ∧ True) rfl ⟨by omega, trivial⟩ ?_
  refine z_sub [(3, vi (k + 4)), (2, vr 137), (1, vr 1), (0, vr 1000)] [0, 1, 2, 3] rfl ?_
  exact hrun
set_option maxHeartbeats 4000000 in
set_option maxRecDepth 20000 in
theorem law_18 {I : zI} {π : Int → Nat} {D : zD} {k L : Int} (s : zSim I π) (hL : I 1000 (-1) = L) (hL2 : L ≤ 2048) (h0 : 0 ≤ k) (h1 : k ≤ L - 4) (hv : (Int32.ofInt (I 1000 k) &&& Int32.ofInt 31).toInt = 18) (hk : ∀ I2 π2 D2, zSim I2 π2 → (∀ j, I2 1000 j = I 1000 j) → ∃ τ, τ.2.2.2 = 147 ∧ zRuns 143 18 [(3, vi (k + 4)), (2, vr 137), (1, vr 1), (0, vr 1000)] [] (I2, zPp π2, D2, 147) (some (vi 1)) τ) : ∃ τ, τ.2.2.2 = 147 ∧ zRuns 143 18 [(3, vi k), (2, vr 137), (1, vr 1), (0, vr 1000)] [] (I, zPp π, D, 147) (some (vi 1)) τ := by
  obtain ⟨res, I1, π1, D1, I2, D2, g1, g2, s2⟩ := op_again (D := D) s (I 1000 (k + 1)) (I 1000 (k + 2))
  have e1 : ∀ j, I1 1000 j = I 1000 j := zRuns_1000 g1 (by decide)
  have e2 : ∀ j, I2 1000 j = I 1000 j := fun j => (zRuns_1000 g2 (by decide) j).trans (e1 j)
  obtain ⟨τ, hτ, hrun⟩ := hk I2 π1 D2 s2 e2
  refine ⟨τ, hτ, ?_⟩
  refine z_n 5 (23, [(3, vi k), (2, vr 137), (1, vr 1), (0, vr 1000)], [vi ((I 1000 (-1)) - 4), vi k], (I, zPp π, D, 147)) (G := (zr ((I 1000 (-1)) - 4)) ∧ True) rfl ⟨by omega, trivial⟩ ?_
  refine z_br (((I 1000 (-1)) - 4) < k) 762 26 [] rfl (fun h => absurd h (show ¬ (((I 1000 (-1)) - 4) < k) from by omega)) (fun hx1 => ?_)
  refine z_n 5 (32, [(3, vi k), (2, vr 137), (1, vr 1), (0, vr 1000)], [vi ((Int32.ofInt (I 1000 k) &&& Int32.ofInt 31).toInt)], (I, zPp π, D, 147)) (G := (0 ≤ k ∧ k < (I 1000 (-1))) ∧ True) rfl ⟨by omega, trivial⟩ ?_
  refine z_top (b := 18) (hv) ?_
  refine z_n 12 (649, [(3, vi k), (2, vr 137), (1, vr 1), (0, vr 1000)], [vi (I 1000 (k + 2)), vi (I 1000 (k + 1)), vr 1], (I, zPp π, D, 147)) (G := (zr (k + 1)) ∧ (0 ≤ (k + 1) ∧ (k + 1) < (I 1000 (-1))) ∧ (zr (k + 2)) ∧ (0 ≤ (k + 2) ∧ (k + 2) < (I 1000 (-1))) ∧ True) rfl ⟨by omega, by omega, by omega, by omega, trivial⟩ ?_
  refine z_ci 86 [vr 1, vi (I 1000 (k + 1)), vi (I 1000 (k + 2))] [] rfl (g1) ?_
  refine z_n 6 (658, [(3, vi k), (2, vr 137), (1, vr 1), (0, vr 1000)], [vi (I1 1000 (k + 1)), vr 137, vi res], (I1, zPp π1, D1, 147)) (G := (zr (k + 1)) ∧ (0 ≤ (k + 1) ∧ (k + 1) < (I1 1000 (-1))) ∧ True) rfl ⟨by omega, by rw [e1]; omega, trivial⟩ ?_
  refine z_top (b := I 1000 (k + 1)) (e1 _) ?_
  refine z_n 5 (663, [(3, vi k), (2, vr 137), (1, vr 1), (0, vr 1000)], [vi (I1 1000 (k + 2)), vi (I 1000 (k + 1)), vr 137, vi res], (I1, zPp π1, D1, 147)) (G := (zr (k + 2)) ∧ (0 ≤ (k + 2) ∧ (k + 2) < (I1 1000 (-1))) ∧ True) rfl ⟨by omega, by rw [e1]; omega, trivial⟩ ?_
  refine z_top (b := I 1000 (k + 2)) (e1 _) ?_
  refine z_ci 130 [vr 137, vi (I 1000 (k + 1)), vi (I 1000 (k + 2))] [vi res] rfl (g2) ?_
  refine z_br (res = res) 756 669 [] rfl (fun hx2 => ?_) (fun h => absurd (show res = res from rfl) h)
  refine z_n 2 (18, [(3, vi (k + 4)), (2, vr 137), (1, vr 1), (0, vr 1000)], [], (I2, zPp π1, D2, 147)) (G := (zr (k + 4)) ∧ True) rfl ⟨by omega, trivial⟩ ?_
  refine z_sub [(3, vi (k + 4)), (2, vr 137), (1, vr 1), (0, vr 1000)] [0, 1, 2, 3] rfl ?_
  exact hrun
set_option maxHeartbeats 4000000 in
set_option maxRecDepth 20000 in
theorem law_19 {I : zI} {π : Int → Nat} {D : zD} {k L : Int} (s : zSim I π) (hL : I 1000 (-1) = L) (hL2 : L ≤ 2048) (h0 : 0 ≤ k) (h1 : k ≤ L - 4) (hv : (Int32.ofInt (I 1000 k) &&& Int32.ofInt 31).toInt = 19) (hk : ∀ I2 π2 D2, zSim I2 π2 → (∀ j, I2 1000 j = I 1000 j) → ∃ τ, τ.2.2.2 = 147 ∧ zRuns 143 18 [(3, vi (k + 4)), (2, vr 137), (1, vr 1), (0, vr 1000)] [] (I2, zPp π2, D2, 147) (some (vi 1)) τ) : ∃ τ, τ.2.2.2 = 147 ∧ zRuns 143 18 [(3, vi k), (2, vr 137), (1, vr 1), (0, vr 1000)] [] (I, zPp π, D, 147) (some (vi 1)) τ := by
  obtain ⟨res, I1, π1, D1, I2, D2, g1, g2, s2⟩ := op_bestRise (D := D) s
  have e1 : ∀ j, I1 1000 j = I 1000 j := zRuns_1000 g1 (by decide)
  have e2 : ∀ j, I2 1000 j = I 1000 j := fun j => (zRuns_1000 g2 (by decide) j).trans (e1 j)
  obtain ⟨τ, hτ, hrun⟩ := hk I2 π1 D2 s2 e2
  refine ⟨τ, hτ, ?_⟩
  refine z_n 5 (23, [(3, vi k), (2, vr 137), (1, vr 1), (0, vr 1000)], [vi ((I 1000 (-1)) - 4), vi k], (I, zPp π, D, 147)) (G := (zr ((I 1000 (-1)) - 4)) ∧ True) rfl ⟨by omega, trivial⟩ ?_
  refine z_br (((I 1000 (-1)) - 4) < k) 762 26 [] rfl (fun h => absurd h (show ¬ (((I 1000 (-1)) - 4) < k) from by omega)) (fun hx1 => ?_)
  refine z_n 5 (32, [(3, vi k), (2, vr 137), (1, vr 1), (0, vr 1000)], [vi ((Int32.ofInt (I 1000 k) &&& Int32.ofInt 31).toInt)], (I, zPp π, D, 147)) (G := (0 ≤ k ∧ k < (I 1000 (-1))) ∧ True) rfl ⟨by omega, trivial⟩ ?_
  refine z_top (b := 19) (hv) ?_
  refine z_n 2 (672, [(3, vi k), (2, vr 137), (1, vr 1), (0, vr 1000)], [vr 1], (I, zPp π, D, 147)) rfl trivial ?_
  refine z_ci 87 [vr 1] [] rfl (g1) ?_
  refine z_n 1 (676, [(3, vi k), (2, vr 137), (1, vr 1), (0, vr 1000)], [vr 137, vi res], (I1, zPp π1, D1, 147)) rfl trivial ?_
  refine z_ci 131 [vr 137] [vi res] rfl (g2) ?_
  refine z_br (res = res) 756 682 [] rfl (fun hx2 => ?_) (fun h => absurd (show res = res from rfl) h)
  refine z_n 2 (18, [(3, vi (k + 4)), (2, vr 137), (1, vr 1), (0, vr 1000)], [], (I2, zPp π1, D2, 147)) (G := (zr (k + 4)) ∧ True) rfl ⟨by omega, trivial⟩ ?_
  refine z_sub [(3, vi (k + 4)), (2, vr 137), (1, vr 1), (0, vr 1000)] [0, 1, 2, 3] rfl ?_
  exact hrun
set_option maxHeartbeats 4000000 in
set_option maxRecDepth 20000 in
theorem law_20 {I : zI} {π : Int → Nat} {D : zD} {k L : Int} (s : zSim I π) (hL : I 1000 (-1) = L) (hL2 : L ≤ 2048) (h0 : 0 ≤ k) (h1 : k ≤ L - 4) (hv : (Int32.ofInt (I 1000 k) &&& Int32.ofInt 31).toInt = 20) (hk : ∀ I2 π2 D2, zSim I2 π2 → (∀ j, I2 1000 j = I 1000 j) → ∃ τ, τ.2.2.2 = 147 ∧ zRuns 143 18 [(3, vi (k + 4)), (2, vr 137), (1, vr 1), (0, vr 1000)] [] (I2, zPp π2, D2, 147) (some (vi 1)) τ) : ∃ τ, τ.2.2.2 = 147 ∧ zRuns 143 18 [(3, vi k), (2, vr 137), (1, vr 1), (0, vr 1000)] [] (I, zPp π, D, 147) (some (vi 1)) τ := by
  obtain ⟨res, I1, π1, D1, I2, D2, g1, g2, s2⟩ := op_type (D := D) s (I 1000 (k + 1))
  have e1 : ∀ j, I1 1000 j = I 1000 j := zRuns_1000 g1 (by decide)
  have e2 : ∀ j, I2 1000 j = I 1000 j := fun j => (zRuns_1000 g2 (by decide) j).trans (e1 j)
  obtain ⟨τ, hτ, hrun⟩ := hk I2 π1 D2 s2 e2
  refine ⟨τ, hτ, ?_⟩
  refine z_n 5 (23, [(3, vi k), (2, vr 137), (1, vr 1), (0, vr 1000)], [vi ((I 1000 (-1)) - 4), vi k], (I, zPp π, D, 147)) (G := (zr ((I 1000 (-1)) - 4)) ∧ True) rfl ⟨by omega, trivial⟩ ?_
  refine z_br (((I 1000 (-1)) - 4) < k) 762 26 [] rfl (fun h => absurd h (show ¬ (((I 1000 (-1)) - 4) < k) from by omega)) (fun hx1 => ?_)
  refine z_n 5 (32, [(3, vi k), (2, vr 137), (1, vr 1), (0, vr 1000)], [vi ((Int32.ofInt (I 1000 k) &&& Int32.ofInt 31).toInt)], (I, zPp π, D, 147)) (G := (0 ≤ k ∧ k < (I 1000 (-1))) ∧ True) rfl ⟨by omega, trivial⟩ ?_
  refine z_top (b := 20) (hv) ?_
  refine z_n 7 (690, [(3, vi k), (2, vr 137), (1, vr 1), (0, vr 1000)], [vi (I 1000 (k + 1)), vr 1], (I, zPp π, D, 147)) (G := (zr (k + 1)) ∧ (0 ≤ (k + 1) ∧ (k + 1) < (I 1000 (-1))) ∧ True) rfl ⟨by omega, by omega, trivial⟩ ?_
  refine z_ci 88 [vr 1, vi (I 1000 (k + 1))] [] rfl (g1) ?_
  refine z_n 6 (699, [(3, vi k), (2, vr 137), (1, vr 1), (0, vr 1000)], [vi (I1 1000 (k + 1)), vr 137, vi res], (I1, zPp π1, D1, 147)) (G := (zr (k + 1)) ∧ (0 ≤ (k + 1) ∧ (k + 1) < (I1 1000 (-1))) ∧ True) rfl ⟨by omega, by rw [e1]; omega, trivial⟩ ?_
  refine z_top (b := I 1000 (k + 1)) (e1 _) ?_
  refine z_ci 132 [vr 137, vi (I 1000 (k + 1))] [vi res] rfl (g2) ?_
  refine z_br (res = res) 756 705 [] rfl (fun hx2 => ?_) (fun h => absurd (show res = res from rfl) h)
  refine z_n 2 (18, [(3, vi (k + 4)), (2, vr 137), (1, vr 1), (0, vr 1000)], [], (I2, zPp π1, D2, 147)) (G := (zr (k + 4)) ∧ True) rfl ⟨by omega, trivial⟩ ?_
  refine z_sub [(3, vi (k + 4)), (2, vr 137), (1, vr 1), (0, vr 1000)] [0, 1, 2, 3] rfl ?_
  exact hrun
set_option maxHeartbeats 4000000 in
set_option maxRecDepth 20000 in
theorem law_21 {I : zI} {π : Int → Nat} {D : zD} {k L : Int} (s : zSim I π) (hL : I 1000 (-1) = L) (hL2 : L ≤ 2048) (h0 : 0 ≤ k) (h1 : k ≤ L - 4) (hv : (Int32.ofInt (I 1000 k) &&& Int32.ofInt 31).toInt = 21) (hk : ∀ I2 π2 D2, zSim I2 π2 → (∀ j, I2 1000 j = I 1000 j) → ∃ τ, τ.2.2.2 = 147 ∧ zRuns 143 18 [(3, vi (k + 4)), (2, vr 137), (1, vr 1), (0, vr 1000)] [] (I2, zPp π2, D2, 147) (some (vi 1)) τ) : ∃ τ, τ.2.2.2 = 147 ∧ zRuns 143 18 [(3, vi k), (2, vr 137), (1, vr 1), (0, vr 1000)] [] (I, zPp π, D, 147) (some (vi 1)) τ := by
  obtain ⟨res, I1, π1, D1, I2, D2, g1, g2, s2⟩ := op_clearText (D := D) s
  have e1 : ∀ j, I1 1000 j = I 1000 j := zRuns_1000 g1 (by decide)
  have e2 : ∀ j, I2 1000 j = I 1000 j := fun j => (zRuns_1000 g2 (by decide) j).trans (e1 j)
  obtain ⟨τ, hτ, hrun⟩ := hk I2 π1 D2 s2 e2
  refine ⟨τ, hτ, ?_⟩
  refine z_n 5 (23, [(3, vi k), (2, vr 137), (1, vr 1), (0, vr 1000)], [vi ((I 1000 (-1)) - 4), vi k], (I, zPp π, D, 147)) (G := (zr ((I 1000 (-1)) - 4)) ∧ True) rfl ⟨by omega, trivial⟩ ?_
  refine z_br (((I 1000 (-1)) - 4) < k) 762 26 [] rfl (fun h => absurd h (show ¬ (((I 1000 (-1)) - 4) < k) from by omega)) (fun hx1 => ?_)
  refine z_n 5 (32, [(3, vi k), (2, vr 137), (1, vr 1), (0, vr 1000)], [vi ((Int32.ofInt (I 1000 k) &&& Int32.ofInt 31).toInt)], (I, zPp π, D, 147)) (G := (0 ≤ k ∧ k < (I 1000 (-1))) ∧ True) rfl ⟨by omega, trivial⟩ ?_
  refine z_top (b := 21) (hv) ?_
  refine z_n 2 (708, [(3, vi k), (2, vr 137), (1, vr 1), (0, vr 1000)], [vr 1], (I, zPp π, D, 147)) rfl trivial ?_
  refine z_ci 89 [vr 1] [] rfl (g1) ?_
  refine z_n 1 (712, [(3, vi k), (2, vr 137), (1, vr 1), (0, vr 1000)], [vr 137, vi res], (I1, zPp π1, D1, 147)) rfl trivial ?_
  refine z_ci 133 [vr 137] [vi res] rfl (g2) ?_
  refine z_br (res = res) 756 718 [] rfl (fun hx2 => ?_) (fun h => absurd (show res = res from rfl) h)
  refine z_n 2 (18, [(3, vi (k + 4)), (2, vr 137), (1, vr 1), (0, vr 1000)], [], (I2, zPp π1, D2, 147)) (G := (zr (k + 4)) ∧ True) rfl ⟨by omega, trivial⟩ ?_
  refine z_sub [(3, vi (k + 4)), (2, vr 137), (1, vr 1), (0, vr 1000)] [0, 1, 2, 3] rfl ?_
  exact hrun
set_option maxHeartbeats 4000000 in
set_option maxRecDepth 20000 in
theorem law_22 {I : zI} {π : Int → Nat} {D : zD} {k L : Int} (s : zSim I π) (hL : I 1000 (-1) = L) (hL2 : L ≤ 2048) (h0 : 0 ≤ k) (h1 : k ≤ L - 4) (hv : (Int32.ofInt (I 1000 k) &&& Int32.ofInt 31).toInt = 22) (hk : ∀ I2 π2 D2, zSim I2 π2 → (∀ j, I2 1000 j = I 1000 j) → ∃ τ, τ.2.2.2 = 147 ∧ zRuns 143 18 [(3, vi (k + 4)), (2, vr 137), (1, vr 1), (0, vr 1000)] [] (I2, zPp π2, D2, 147) (some (vi 1)) τ) : ∃ τ, τ.2.2.2 = 147 ∧ zRuns 143 18 [(3, vi k), (2, vr 137), (1, vr 1), (0, vr 1000)] [] (I, zPp π, D, 147) (some (vi 1)) τ := by
  obtain ⟨res, I1, π1, D1, I2, D2, g1, g2, s2⟩ := op_fault (D := D) s (I 1000 (k + 1))
  have e1 : ∀ j, I1 1000 j = I 1000 j := zRuns_1000 g1 (by decide)
  have e2 : ∀ j, I2 1000 j = I 1000 j := fun j => (zRuns_1000 g2 (by decide) j).trans (e1 j)
  obtain ⟨τ, hτ, hrun⟩ := hk I2 π1 D2 s2 e2
  refine ⟨τ, hτ, ?_⟩
  refine z_n 5 (23, [(3, vi k), (2, vr 137), (1, vr 1), (0, vr 1000)], [vi ((I 1000 (-1)) - 4), vi k], (I, zPp π, D, 147)) (G := (zr ((I 1000 (-1)) - 4)) ∧ True) rfl ⟨by omega, trivial⟩ ?_
  refine z_br (((I 1000 (-1)) - 4) < k) 762 26 [] rfl (fun h => absurd h (show ¬ (((I 1000 (-1)) - 4) < k) from by omega)) (fun hx1 => ?_)
  refine z_n 5 (32, [(3, vi k), (2, vr 137), (1, vr 1), (0, vr 1000)], [vi ((Int32.ofInt (I 1000 k) &&& Int32.ofInt 31).toInt)], (I, zPp π, D, 147)) (G := (0 ≤ k ∧ k < (I 1000 (-1))) ∧ True) rfl ⟨by omega, trivial⟩ ?_
  refine z_top (b := 22) (hv) ?_
  refine z_n 7 (726, [(3, vi k), (2, vr 137), (1, vr 1), (0, vr 1000)], [vi (I 1000 (k + 1)), vr 1], (I, zPp π, D, 147)) (G := (zr (k + 1)) ∧ (0 ≤ (k + 1) ∧ (k + 1) < (I 1000 (-1))) ∧ True) rfl ⟨by omega, by omega, trivial⟩ ?_
  refine z_ci 90 [vr 1, vi (I 1000 (k + 1))] [] rfl (g1) ?_
  refine z_n 6 (735, [(3, vi k), (2, vr 137), (1, vr 1), (0, vr 1000)], [vi (I1 1000 (k + 1)), vr 137, vi res], (I1, zPp π1, D1, 147)) (G := (zr (k + 1)) ∧ (0 ≤ (k + 1) ∧ (k + 1) < (I1 1000 (-1))) ∧ True) rfl ⟨by omega, by rw [e1]; omega, trivial⟩ ?_
  refine z_top (b := I 1000 (k + 1)) (e1 _) ?_
  refine z_ci 137 [vr 137, vi (I 1000 (k + 1))] [vi res] rfl (g2) ?_
  refine z_br (res = res) 756 741 [] rfl (fun hx2 => ?_) (fun h => absurd (show res = res from rfl) h)
  refine z_n 2 (18, [(3, vi (k + 4)), (2, vr 137), (1, vr 1), (0, vr 1000)], [], (I2, zPp π1, D2, 147)) (G := (zr (k + 4)) ∧ True) rfl ⟨by omega, trivial⟩ ?_
  refine z_sub [(3, vi (k + 4)), (2, vr 137), (1, vr 1), (0, vr 1000)] [0, 1, 2, 3] rfl ?_
  exact hrun
set_option maxHeartbeats 4000000 in
set_option maxRecDepth 20000 in
theorem law_23 {I : zI} {π : Int → Nat} {D : zD} {k L : Int} (s : zSim I π) (hL : I 1000 (-1) = L) (hL2 : L ≤ 2048) (h0 : 0 ≤ k) (h1 : k ≤ L - 4) (hv : (Int32.ofInt (I 1000 k) &&& Int32.ofInt 31).toInt = 23) (hk : ∀ I2 π2 D2, zSim I2 π2 → (∀ j, I2 1000 j = I 1000 j) → ∃ τ, τ.2.2.2 = 147 ∧ zRuns 143 18 [(3, vi (k + 4)), (2, vr 137), (1, vr 1), (0, vr 1000)] [] (I2, zPp π2, D2, 147) (some (vi 1)) τ) : ∃ τ, τ.2.2.2 = 147 ∧ zRuns 143 18 [(3, vi k), (2, vr 137), (1, vr 1), (0, vr 1000)] [] (I, zPp π, D, 147) (some (vi 1)) τ := by
  obtain ⟨res, I1, π1, D1, I2, D2, g1, g2, s2⟩ := op_enter (D := D) s
  have e1 : ∀ j, I1 1000 j = I 1000 j := zRuns_1000 g1 (by decide)
  have e2 : ∀ j, I2 1000 j = I 1000 j := fun j => (zRuns_1000 g2 (by decide) j).trans (e1 j)
  obtain ⟨τ, hτ, hrun⟩ := hk I2 π1 D2 s2 e2
  refine ⟨τ, hτ, ?_⟩
  refine z_n 5 (23, [(3, vi k), (2, vr 137), (1, vr 1), (0, vr 1000)], [vi ((I 1000 (-1)) - 4), vi k], (I, zPp π, D, 147)) (G := (zr ((I 1000 (-1)) - 4)) ∧ True) rfl ⟨by omega, trivial⟩ ?_
  refine z_br (((I 1000 (-1)) - 4) < k) 762 26 [] rfl (fun h => absurd h (show ¬ (((I 1000 (-1)) - 4) < k) from by omega)) (fun hx1 => ?_)
  refine z_n 5 (32, [(3, vi k), (2, vr 137), (1, vr 1), (0, vr 1000)], [vi ((Int32.ofInt (I 1000 k) &&& Int32.ofInt 31).toInt)], (I, zPp π, D, 147)) (G := (0 ≤ k ∧ k < (I 1000 (-1))) ∧ True) rfl ⟨by omega, trivial⟩ ?_
  refine z_top (b := 23) (hv) ?_
  refine z_n 2 (744, [(3, vi k), (2, vr 137), (1, vr 1), (0, vr 1000)], [vr 1], (I, zPp π, D, 147)) rfl trivial ?_
  refine z_ci 91 [vr 1] [] rfl (g1) ?_
  refine z_n 1 (748, [(3, vi k), (2, vr 137), (1, vr 1), (0, vr 1000)], [vr 137, vi res], (I1, zPp π1, D1, 147)) rfl trivial ?_
  refine z_ci 138 [vr 137] [vi res] rfl (g2) ?_
  refine z_br (res = res) 756 754 [] rfl (fun hx2 => ?_) (fun h => absurd (show res = res from rfl) h)
  refine z_n 2 (18, [(3, vi (k + 4)), (2, vr 137), (1, vr 1), (0, vr 1000)], [], (I2, zPp π1, D2, 147)) (G := (zr (k + 4)) ∧ True) rfl ⟨by omega, trivial⟩ ?_
  refine z_sub [(3, vi (k + 4)), (2, vr 137), (1, vr 1), (0, vr 1000)] [0, 1, 2, 3] rfl ?_
  exact hrun
set_option maxHeartbeats 4000000 in
set_option maxRecDepth 20000 in
theorem law_x {I : zI} {π : Int → Nat} {D : zD} {k L : Int} (s : zSim I π) (hL : I 1000 (-1) = L) (hL2 : L ≤ 2048) (h0 : 0 ≤ k) (h1 : k ≤ L - 4) (hv : (Int32.ofInt (I 1000 k) &&& Int32.ofInt 31).toInt < 0 ∨ 23 < (Int32.ofInt (I 1000 k) &&& Int32.ofInt 31).toInt) (hk : ∀ I2 π2 D2, zSim I2 π2 → (∀ j, I2 1000 j = I 1000 j) → ∃ τ, τ.2.2.2 = 147 ∧ zRuns 143 18 [(3, vi (k + 4)), (2, vr 137), (1, vr 1), (0, vr 1000)] [] (I2, zPp π2, D2, 147) (some (vi 1)) τ) : ∃ τ, τ.2.2.2 = 147 ∧ zRuns 143 18 [(3, vi k), (2, vr 137), (1, vr 1), (0, vr 1000)] [] (I, zPp π, D, 147) (some (vi 1)) τ := by
  obtain ⟨τ, hτ, hrun⟩ := hk I π D s (fun _ => rfl)
  refine ⟨τ, hτ, ?_⟩
  refine z_n 5 (23, [(3, vi k), (2, vr 137), (1, vr 1), (0, vr 1000)], [vi ((I 1000 (-1)) - 4), vi k], (I, zPp π, D, 147)) (G := (zr ((I 1000 (-1)) - 4)) ∧ True) rfl ⟨by omega, trivial⟩ ?_
  refine z_br (((I 1000 (-1)) - 4) < k) 762 26 [] rfl (fun h => absurd h (show ¬ (((I 1000 (-1)) - 4) < k) from by omega)) (fun hx1 => ?_)
  refine z_n 5 (32, [(3, vi k), (2, vr 137), (1, vr 1), (0, vr 1000)], [vi ((Int32.ofInt (I 1000 k) &&& Int32.ofInt 31).toInt)], (I, zPp π, D, 147)) (G := (0 ≤ k ∧ k < (I 1000 (-1))) ∧ True) rfl ⟨by omega, trivial⟩ ?_
  refine z_tsd rfl (hv) (show 32 + Int.toNat 724 = 756 from rfl) ?_
  refine z_n 2 (18, [(3, vi (k + 4)), (2, vr 137), (1, vr 1), (0, vr 1000)], [], (I, zPp π, D, 147)) (G := (zr (k + 4)) ∧ True) rfl ⟨by omega, trivial⟩ ?_
  refine z_sub [(3, vi (k + 4)), (2, vr 137), (1, vr 1), (0, vr 1000)] [0, 1, 2, 3] rfl ?_
  exact hrun
set_option maxHeartbeats 4000000 in
set_option maxRecDepth 20000 in
theorem law_e {I : zI} {π : Int → Nat} {D : zD} {k L : Int} (hL : I 1000 (-1) = L) (hL2 : 0 ≤ L ∧ L ≤ 2048) (h0 : 0 ≤ k) (h9 : L < k + 4) : ∃ τ, τ.2.2.2 = 147 ∧ zRuns 143 18 [(3, vi k), (2, vr 137), (1, vr 1), (0, vr 1000)] [] (I, zPp π, D, 147) (some (vi 1)) τ := by
  refine ⟨(I, zPp π, D, 147), rfl, ?_⟩
  refine z_n 5 (23, [(3, vi k), (2, vr 137), (1, vr 1), (0, vr 1000)], [vi ((I 1000 (-1)) - 4), vi k], (I, zPp π, D, 147)) (G := (zr ((I 1000 (-1)) - 4)) ∧ True) rfl ⟨by omega, trivial⟩ ?_
  refine z_br (((I 1000 (-1)) - 4) < k) 762 26 [] rfl (fun hx1 => ?_) (fun h => absurd (show ((I 1000 (-1)) - 4) < k from by omega) h)
  refine z_n 1 (763, [(3, vi k), (2, vr 137), (1, vr 1), (0, vr 1000)], [vi 1], (I, zPp π, D, 147)) rfl trivial ?_
  exact z_ret rfl rfl rfl
theorem law_l {L : Int} (hL2 : 0 ≤ L ∧ L ≤ 2048) : ∀ (N : Nat) (k : Int) (I : zI) (π : Int → Nat) (D : zD), zSim I π → I 1000 (-1) = L → 0 ≤ k → L < k + 4 * N + 4 → ∃ τ, τ.2.2.2 = 147 ∧ zRuns 143 18 [(3, vi k), (2, vr 137), (1, vr 1), (0, vr 1000)] [] (I, zPp π, D, 147) (some (vi 1)) τ := by
  intro N
  induction N with
  | zero =>
    intro k I π D s hL h0 hN
    exact law_e hL hL2 h0 (by omega)
  | succ N ih =>
  intro k I π D s hL h0 hN
  by_cases h9 : L < k + 4
  · exact law_e hL hL2 h0 h9
  have hk : ∀ I2 π2 D2, zSim I2 π2 → (∀ j, I2 1000 j = I 1000 j) → ∃ τ, τ.2.2.2 = 147 ∧ zRuns 143 18 [(3, vi (k + 4)), (2, vr 137), (1, vr 1), (0, vr 1000)] [] (I2, zPp π2, D2, 147) (some (vi 1)) τ := fun I2 π2 D2 s2 e2 => ih (k + 4) I2 π2 D2 s2 ((e2 (-1)).trans hL) (by omega) (by omega)
  by_cases hx : (Int32.ofInt (I 1000 k) &&& Int32.ofInt 31).toInt < 0 ∨ 23 < (Int32.ofInt (I 1000 k) &&& Int32.ofInt 31).toInt
  · exact law_x s hL hL2.2 h0 (by omega) hx hk
  rcases (show (Int32.ofInt (I 1000 k) &&& Int32.ofInt 31).toInt = 0 ∨ (Int32.ofInt (I 1000 k) &&& Int32.ofInt 31).toInt = 1 ∨ (Int32.ofInt (I 1000 k) &&& Int32.ofInt 31).toInt = 2 ∨ (Int32.ofInt (I 1000 k) &&& Int32.ofInt 31).toInt = 3 ∨ (Int32.ofInt (I 1000 k) &&& Int32.ofInt 31).toInt = 4 ∨ (Int32.ofInt (I 1000 k) &&& Int32.ofInt 31).toInt = 5 ∨ (Int32.ofInt (I 1000 k) &&& Int32.ofInt 31).toInt = 6 ∨ (Int32.ofInt (I 1000 k) &&& Int32.ofInt 31).toInt = 7 ∨ (Int32.ofInt (I 1000 k) &&& Int32.ofInt 31).toInt = 8 ∨ (Int32.ofInt (I 1000 k) &&& Int32.ofInt 31).toInt = 9 ∨ (Int32.ofInt (I 1000 k) &&& Int32.ofInt 31).toInt = 10 ∨ (Int32.ofInt (I 1000 k) &&& Int32.ofInt 31).toInt = 11 ∨ (Int32.ofInt (I 1000 k) &&& Int32.ofInt 31).toInt = 12 ∨ (Int32.ofInt (I 1000 k) &&& Int32.ofInt 31).toInt = 13 ∨ (Int32.ofInt (I 1000 k) &&& Int32.ofInt 31).toInt = 14 ∨ (Int32.ofInt (I 1000 k) &&& Int32.ofInt 31).toInt = 15 ∨ (Int32.ofInt (I 1000 k) &&& Int32.ofInt 31).toInt = 16 ∨ (Int32.ofInt (I 1000 k) &&& Int32.ofInt 31).toInt = 17 ∨ (Int32.ofInt (I 1000 k) &&& Int32.ofInt 31).toInt = 18 ∨ (Int32.ofInt (I 1000 k) &&& Int32.ofInt 31).toInt = 19 ∨ (Int32.ofInt (I 1000 k) &&& Int32.ofInt 31).toInt = 20 ∨ (Int32.ofInt (I 1000 k) &&& Int32.ofInt 31).toInt = 21 ∨ (Int32.ofInt (I 1000 k) &&& Int32.ofInt 31).toInt = 22 ∨ (Int32.ofInt (I 1000 k) &&& Int32.ofInt 31).toInt = 23 by omega) with hv | hv | hv | hv | hv | hv | hv | hv | hv | hv | hv | hv | hv | hv | hv | hv | hv | hv | hv | hv | hv | hv | hv | hv
  · exact law_0 s hL hL2.2 h0 (by omega) hv hk
  · exact law_1 s hL hL2.2 h0 (by omega) hv hk
  · exact law_2 s hL hL2.2 h0 (by omega) hv hk
  · exact law_3 s hL hL2.2 h0 (by omega) hv hk
  · exact law_4 s hL hL2.2 h0 (by omega) hv hk
  · exact law_5 s hL hL2.2 h0 (by omega) hv hk
  · exact law_6 s hL hL2.2 h0 (by omega) hv hk
  · exact law_7 s hL hL2.2 h0 (by omega) hv hk
  · exact law_8 s hL hL2.2 h0 (by omega) hv hk
  · exact law_9 s hL hL2.2 h0 (by omega) hv hk
  · exact law_10 s hL hL2.2 h0 (by omega) hv hk
  · exact law_11 s hL hL2.2 h0 (by omega) hv hk
  · exact law_12 s hL hL2.2 h0 (by omega) hv hk
  · exact law_13 s hL hL2.2 h0 (by omega) hv hk
  · exact law_14 s hL hL2.2 h0 (by omega) hv hk
  · exact law_15 s hL hL2.2 h0 (by omega) hv hk
  · exact law_16 s hL hL2.2 h0 (by omega) hv hk
  · exact law_17 s hL hL2.2 h0 (by omega) hv hk
  · exact law_18 s hL hL2.2 h0 (by omega) hv hk
  · exact law_19 s hL hL2.2 h0 (by omega) hv hk
  · exact law_20 s hL hL2.2 h0 (by omega) hv hk
  · exact law_21 s hL hL2.2 h0 (by omega) hv hk
  · exact law_22 s hL hL2.2 h0 (by omega) hv hk
  · exact law_23 s hL hL2.2 h0 (by omega) hv hk
