set_option maxRecDepth 20000 in
theorem m_in1 {σ : zS} {a b c : Int} (h1 : b ≤ a) (h2 : a ≤ c) : zMet 93 [vi a, vi b, vi c] σ (some (vi 1)) σ := by
  refine z_n 2 (2, [(0, vi a), (1, vi b), (2, vi c)], [vi b, vi a], σ) rfl trivial ?_
  refine z_br (a < b) 14 5 [] rfl (fun h => absurd h (show ¬ (a < b) from by omega)) (fun hx1 => ?_)
  refine z_n 2 (7, [(0, vi a), (1, vi b), (2, vi c)], [vi c, vi a], σ) rfl trivial ?_
  refine z_br (c < a) 14 10 [] rfl (fun h => absurd h (show ¬ (c < a) from by omega)) (fun hx2 => ?_)
  refine z_n 2 (15, [(0, vi a), (1, vi b), (2, vi c)], [vi 1], σ) rfl trivial ?_
  first | exact z_ret rfl rfl rfl | (exfalso; omega)
set_option maxRecDepth 20000 in
theorem m_in0 {σ : zS} {a b c : Int} (h1 : a < b ∨ c < a) : zMet 93 [vi a, vi b, vi c] σ (some (vi 0)) σ := by
  refine z_n 2 (2, [(0, vi a), (1, vi b), (2, vi c)], [vi b, vi a], σ) rfl trivial ?_
  refine z_br (a < b) 14 5 [] rfl (fun hx1 => ?_) (fun hx1 => ?_)
  · refine z_n 1 (15, [(0, vi a), (1, vi b), (2, vi c)], [vi 0], σ) rfl trivial ?_
    first | exact z_ret rfl rfl rfl | (exfalso; omega)
  · refine z_n 2 (7, [(0, vi a), (1, vi b), (2, vi c)], [vi c, vi a], σ) rfl trivial ?_
    refine z_br (c < a) 14 10 [] rfl (fun hx2 => ?_) (fun hx2 => ?_)
    · refine z_n 1 (15, [(0, vi a), (1, vi b), (2, vi c)], [vi 0], σ) rfl trivial ?_
      first | exact z_ret rfl rfl rfl | (exfalso; omega)
    · refine z_n 2 (15, [(0, vi a), (1, vi b), (2, vi c)], [vi 1], σ) rfl trivial ?_
      first | exact z_ret rfl rfl rfl | (exfalso; omega)
set_option maxRecDepth 20000 in
theorem m_isCrew1 {I : zI} {π : Int → Nat} {D : zD} {c : Int} (hN : 0 ≤ I 138 0 ∧ I 138 0 ≤ 24) (hq : 0 ≤ c ∧ c < I 138 0) : zMet 94 [vr 137, vi c] (I, zPp π, D, 147) (some (vi 1)) (I, zPp π, D, 147) := by
  refine z_n 8 (10, [(0, vr 137), (1, vi c)], [vi ((I 138 0) - 1), vi 0, vi c], (I, zPp π, D, 147)) (G := (0 ≤ 0 ∧ 0 < 585) ∧ (zr ((I 138 0) - 1)) ∧ True) rfl ⟨by omega, by omega, trivial⟩ ?_
  refine z_ci 93 [vi c, vi 0, vi ((I 138 0) - 1)] [] rfl (m_in1 (by omega) (by omega)) ?_
  first | exact z_ret rfl rfl rfl | exact z_ret rfl (zv1 (by omega)) rfl | (exfalso; omega)
set_option maxRecDepth 20000 in
theorem m_isCrew0 {I : zI} {π : Int → Nat} {D : zD} {c : Int} (hN : 0 ≤ I 138 0 ∧ I 138 0 ≤ 24) (hq : ¬ (0 ≤ c ∧ c < I 138 0)) : zMet 94 [vr 137, vi c] (I, zPp π, D, 147) (some (vi 0)) (I, zPp π, D, 147) := by
  refine z_n 8 (10, [(0, vr 137), (1, vi c)], [vi ((I 138 0) - 1), vi 0, vi c], (I, zPp π, D, 147)) (G := (0 ≤ 0 ∧ 0 < 585) ∧ (zr ((I 138 0) - 1)) ∧ True) rfl ⟨by omega, by omega, trivial⟩ ?_
  refine z_ci 93 [vi c, vi 0, vi ((I 138 0) - 1)] [] rfl (m_in0 (by omega)) ?_
  first | exact z_ret rfl rfl rfl | exact z_ret rfl (zv1 (by omega)) rfl | (exfalso; omega)
set_option maxRecDepth 20000 in
theorem m_mdiv {I : zI} {π : Int → Nat} {D : zD}  (hN : 0 ≤ I 138 0 ∧ I 138 0 ≤ 24) (hD : 3 ≤ I 138 1 ∧ I 138 1 ≤ 8) : zMet 95 [vr 137] (I, zPp π, D, 147) (some (vi ((I 138 0 + I 138 1 - 1) / I 138 1))) (I, zPp π, D, 147) := by
  refine z_n 16 (22, [(0, vr 137)], [vi ((((I 138 0) + (I 138 1)) - 1) / (I 138 1))], (I, zPp π, D, 147)) (G := (0 ≤ 0 ∧ 0 < 585) ∧ (0 ≤ 1 ∧ 1 < 585) ∧ (zr ((I 138 0) + (I 138 1))) ∧ (zr (((I 138 0) + (I 138 1)) - 1)) ∧ (0 ≤ 1 ∧ 1 < 585) ∧ (0 ≤ (((I 138 0) + (I 138 1)) - 1) ∧ 0 < (I 138 1)) ∧ True) rfl ⟨by omega, by omega, by omega, by omega, by omega, by omega, trivial⟩ ?_
  first | exact z_ret rfl rfl rfl | exact z_ret rfl (zv1 (by omega)) rfl | (exfalso; omega)
set_option maxRecDepth 20000 in
theorem m_crewAt_l {I : zI} {π : Int → Nat} {D : zD} {c p : Int} (hN : 0 ≤ I 138 0 ∧ I 138 0 ≤ 24) (hc : 0 ≤ c ∧ c < I 138 0) (hp : I 138 (31 + c) = p) (hf : ∀ j, 0 ≤ j → j < c → ¬ I 138 (31 + j) = p) : ∀ (n : Nat) (k : Int), 0 ≤ k → k + n = c → zRuns 99 2 [(2, vi k), (0, vr 137), (1, vi p)] [] (I, zPp π, D, 147) (some (vi c)) (I, zPp π, D, 147) := by
  intro n
  induction n with
  | zero =>
    intro k h0 hn
    obtain rfl : k = c := by omega
    refine z_n 5 (9, [(2, vi k), (0, vr 137), (1, vi p)], [vi (I 138 0), vi k], (I, zPp π, D, 147)) (G := (0 ≤ 0 ∧ 0 < 585) ∧ True) rfl ⟨by omega, trivial⟩ ?_
    refine z_br ((I 138 0) ≤ k) 33 12 [] rfl (fun h => absurd h (show ¬ ((I 138 0) ≤ k) from by omega)) (fun hx1 => ?_)
    refine z_n 7 (22, [(2, vi k), (0, vr 137), (1, vi p)], [vi p, vi (I 138 (31 + k))], (I, zPp π, D, 147)) (G := (zr (31 + k)) ∧ (0 ≤ (31 + k) ∧ (31 + k) < 585) ∧ True) rfl ⟨by omega, by omega, trivial⟩ ?_
    refine z_br (¬ (I 138 (31 + k)) = p) 27 25 [] rfl (fun h => absurd h (show ¬ (¬ (I 138 (31 + k)) = p) from fun h9 => h9 hp)) (fun hx2 => ?_)
    refine z_n 1 (26, [(2, vi k), (0, vr 137), (1, vi p)], [vi k], (I, zPp π, D, 147)) rfl trivial ?_
    exact z_ret rfl rfl rfl
  | succ n ih =>
  intro k h0 hn
  refine z_n 5 (9, [(2, vi k), (0, vr 137), (1, vi p)], [vi (I 138 0), vi k], (I, zPp π, D, 147)) (G := (0 ≤ 0 ∧ 0 < 585) ∧ True) rfl ⟨by omega, trivial⟩ ?_
  refine z_br ((I 138 0) ≤ k) 33 12 [] rfl (fun h => absurd h (show ¬ ((I 138 0) ≤ k) from by omega)) (fun hx1 => ?_)
  refine z_n 7 (22, [(2, vi k), (0, vr 137), (1, vi p)], [vi p, vi (I 138 (31 + k))], (I, zPp π, D, 147)) (G := (zr (31 + k)) ∧ (0 ≤ (31 + k) ∧ (31 + k) < 585) ∧ True) rfl ⟨by omega, by omega, trivial⟩ ?_
  refine z_br (¬ (I 138 (31 + k)) = p) 27 25 [] rfl (fun hx2 => ?_) (fun h => absurd (show ¬ (I 138 (31 + k)) = p from hf k h0 (by omega)) h)
  refine z_n 2 (2, [(2, vi (k + 1)), (0, vr 137), (1, vi p)], [], (I, zPp π, D, 147)) (G := (zr (k + 1)) ∧ True) rfl ⟨by omega, trivial⟩ ?_
  refine z_sub [(2, vi (k + 1)), (0, vr 137), (1, vi p)] [0, 1, 2] rfl ?_
  exact ih (k + 1) (by omega) (by omega)
set_option maxRecDepth 20000 in
theorem m_crewAt {I : zI} {π : Int → Nat} {D : zD} {c p : Int} (hN : 0 ≤ I 138 0 ∧ I 138 0 ≤ 24) (hc : 0 ≤ c ∧ c < I 138 0) (hp : I 138 (31 + c) = p) (hf : ∀ j, 0 ≤ j → j < c → ¬ I 138 (31 + j) = p) : zMet 99 [vr 137, vi p] (I, zPp π, D, 147) (some (vi c)) (I, zPp π, D, 147) := by
  refine z_n 2 (2, [(2, vi 0), (0, vr 137), (1, vi p)], [], (I, zPp π, D, 147)) rfl trivial ?_
  refine z_sub [(2, vi 0), (0, vr 137), (1, vi p)] [0, 1, 2] rfl ?_
  exact m_crewAt_l hN hc hp hf c.toNat 0 (by omega) (by omega)
set_option maxRecDepth 20000 in
theorem m_numOf_l1 {I : zI} {π : Int → Nat} {D : zD} {c q : Int} (hn : 0 ≤ I 137 10 ∧ I 137 10 ≤ 9) (hc : 0 ≤ q ∧ q < I 137 10) (hp : I 141 q = c) (hf : ∀ j, 0 ≤ j → j < q → ¬ I 141 j = c) : ∀ (n : Nat) (k : Int), 0 ≤ k → k + n = q → zRuns 101 2 [(2, vi k), (0, vr 137), (1, vi c)] [] (I, zPp π, D, 147) (some (vi q)) (I, zPp π, D, 147) := by
  intro n
  induction n with
  | zero =>
    intro k h0 hk
    obtain rfl : k = q := by omega
    refine z_n 3 (7, [(2, vi k), (0, vr 137), (1, vi c)], [vi (I 137 10), vi k], (I, zPp π, D, 147)) rfl trivial ?_
    refine z_br ((I 137 10) ≤ k) 28 10 [] rfl (fun h => absurd h (show ¬ ((I 137 10) ≤ k) from by omega)) (fun hx1 => ?_)
    refine z_n 5 (17, [(2, vi k), (0, vr 137), (1, vi c)], [vi c, vi (I 141 k)], (I, zPp π, D, 147)) (G := (0 ≤ k ∧ k < 9) ∧ True) rfl ⟨by omega, trivial⟩ ?_
    refine z_br (¬ (I 141 k) = c) 22 20 [] rfl (fun h => absurd h (show ¬ (¬ (I 141 k) = c) from fun h9 => h9 hp)) (fun hx2 => ?_)
    refine z_n 1 (21, [(2, vi k), (0, vr 137), (1, vi c)], [vi k], (I, zPp π, D, 147)) rfl trivial ?_
    exact z_ret rfl rfl rfl
  | succ n ih =>
  intro k h0 hk
  refine z_n 3 (7, [(2, vi k), (0, vr 137), (1, vi c)], [vi (I 137 10), vi k], (I, zPp π, D, 147)) rfl trivial ?_
  refine z_br ((I 137 10) ≤ k) 28 10 [] rfl (fun h => absurd h (show ¬ ((I 137 10) ≤ k) from by omega)) (fun hx1 => ?_)
  refine z_n 5 (17, [(2, vi k), (0, vr 137), (1, vi c)], [vi c, vi (I 141 k)], (I, zPp π, D, 147)) (G := (0 ≤ k ∧ k < 9) ∧ True) rfl ⟨by omega, trivial⟩ ?_
  refine z_br (¬ (I 141 k) = c) 22 20 [] rfl (fun hx2 => ?_) (fun h => absurd (show ¬ (I 141 k) = c from hf k h0 (by omega)) h)
  refine z_n 2 (2, [(2, vi (k + 1)), (0, vr 137), (1, vi c)], [], (I, zPp π, D, 147)) (G := (zr (k + 1)) ∧ True) rfl ⟨by omega, trivial⟩ ?_
  refine z_sub [(2, vi (k + 1)), (0, vr 137), (1, vi c)] [0, 1, 2] rfl ?_
  exact ih (k + 1) (by omega) (by omega)
set_option maxRecDepth 20000 in
theorem m_numOf_l0 {I : zI} {π : Int → Nat} {D : zD} {c : Int} (hn : 0 ≤ I 137 10 ∧ I 137 10 ≤ 9) (hf : ∀ j, 0 ≤ j → j < I 137 10 → ¬ I 141 j = c) : ∀ (n : Nat) (k : Int), 0 ≤ k → k + n = I 137 10 → zRuns 101 2 [(2, vi k), (0, vr 137), (1, vi c)] [] (I, zPp π, D, 147) (some (vi (-1))) (I, zPp π, D, 147) := by
  intro n
  induction n with
  | zero =>
    intro k h0 hk
    refine z_n 3 (7, [(2, vi k), (0, vr 137), (1, vi c)], [vi (I 137 10), vi k], (I, zPp π, D, 147)) rfl trivial ?_
    refine z_br ((I 137 10) ≤ k) 28 10 [] rfl (fun hx1 => ?_) (fun h => absurd (show (I 137 10) ≤ k from by omega) h)
    refine z_n 1 (29, [(2, vi k), (0, vr 137), (1, vi c)], [vi (-1)], (I, zPp π, D, 147)) rfl trivial ?_
    exact z_ret rfl rfl rfl
  | succ n ih =>
  intro k h0 hk
  refine z_n 3 (7, [(2, vi k), (0, vr 137), (1, vi c)], [vi (I 137 10), vi k], (I, zPp π, D, 147)) rfl trivial ?_
  refine z_br ((I 137 10) ≤ k) 28 10 [] rfl (fun h => absurd h (show ¬ ((I 137 10) ≤ k) from by omega)) (fun hx1 => ?_)
  refine z_n 5 (17, [(2, vi k), (0, vr 137), (1, vi c)], [vi c, vi (I 141 k)], (I, zPp π, D, 147)) (G := (0 ≤ k ∧ k < 9) ∧ True) rfl ⟨by omega, trivial⟩ ?_
  refine z_br (¬ (I 141 k) = c) 22 20 [] rfl (fun hx2 => ?_) (fun h => absurd (show ¬ (I 141 k) = c from hf k h0 (by omega)) h)
  refine z_n 2 (2, [(2, vi (k + 1)), (0, vr 137), (1, vi c)], [], (I, zPp π, D, 147)) (G := (zr (k + 1)) ∧ True) rfl ⟨by omega, trivial⟩ ?_
  refine z_sub [(2, vi (k + 1)), (0, vr 137), (1, vi c)] [0, 1, 2] rfl ?_
  exact ih (k + 1) (by omega) (by omega)
set_option maxRecDepth 20000 in
theorem m_numOf1 {I : zI} {π : Int → Nat} {D : zD} {c q : Int} (hn : 0 ≤ I 137 10 ∧ I 137 10 ≤ 9) (hc : 0 ≤ q ∧ q < I 137 10) (hp : I 141 q = c) (hf : ∀ j, 0 ≤ j → j < q → ¬ I 141 j = c) : zMet 101 [vr 137, vi c] (I, zPp π, D, 147) (some (vi q)) (I, zPp π, D, 147) := by
  refine z_n 2 (2, [(2, vi 0), (0, vr 137), (1, vi c)], [], (I, zPp π, D, 147)) rfl trivial ?_
  refine z_sub [(2, vi 0), (0, vr 137), (1, vi c)] [0, 1, 2] rfl ?_
  exact m_numOf_l1 hn hc hp hf q.toNat 0 (by omega) (by omega)
set_option maxRecDepth 20000 in
theorem m_numOf0 {I : zI} {π : Int → Nat} {D : zD} {c : Int} (hn : 0 ≤ I 137 10 ∧ I 137 10 ≤ 9) (hf : ∀ j, 0 ≤ j → j < I 137 10 → ¬ I 141 j = c) : zMet 101 [vr 137, vi c] (I, zPp π, D, 147) (some (vi (-1))) (I, zPp π, D, 147) := by
  refine z_n 2 (2, [(2, vi 0), (0, vr 137), (1, vi c)], [], (I, zPp π, D, 147)) rfl trivial ?_
  refine z_sub [(2, vi 0), (0, vr 137), (1, vi c)] [0, 1, 2] rfl ?_
  exact m_numOf_l0 hn hf (I 137 10).toNat 0 (by omega) (by omega)
