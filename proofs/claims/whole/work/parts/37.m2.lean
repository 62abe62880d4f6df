/-- the reference has its starters lined up, O who is out -/
def zLn (I : zI) (F Or : Int → Int) (O : Int → Prop) : Prop := I 137 10 = zns F ∧ (∀ k, 0 ≤ k → k < zns F → I 141 k = Or (F 9 * F 6 + k)) ∧ ∀ k, 0 ≤ k → k < zns F → ((O (Or (F 9 * F 6 + k)) ∧ I 142 k = 1) ∨ (¬ O (Or (F 9 * F 6 + k)) ∧ I 142 k = 0))
theorem m_no1 {I : zI} {π : Int → Nat} {D : zD} {F Pl Or : Int → Int} {O : Int → Prop} {a : Int} (w : zW1 F) (v : zW2 F Pl Or) (hl : zLn I F Or O) (h : zIs F Pl a) : zMet 101 [vr 137, vi a] (I, zPp π, D, 147) (some (vi (Pl a - F 9 * F 6))) (I, zPp π, D, 147) := by
  have hb := zns_b w
  have va := v.1 a h.1.1 h.1.2
  have h2 := h.2
  refine m_numOf1 (by rw [hl.1]; exact hb.1) (by rw [hl.1]; omega) ?_ (fun j j0 j1 e => ?_)
  · rw [hl.2.1 _ (by omega) (by omega), show F 9 * F 6 + (Pl a - F 9 * F 6) = Pl a by omega]
    exact va.2.2
  · rw [hl.2.1 _ j0 (by omega)] at e
    have := v.2.1 (F 9 * F 6 + j) (by omega) (by omega)
    rw [e] at this
    omega
theorem m_no0 {I : zI} {π : Int → Nat} {D : zD} {F Pl Or : Int → Int} {O : Int → Prop} {a : Int} (w : zW1 F) (v : zW2 F Pl Or) (hl : zLn I F Or O) (h : ¬ zIs F Pl a) : zMet 101 [vr 137, vi a] (I, zPp π, D, 147) (some (vi (-1))) (I, zPp π, D, 147) := by
  have hb := zns_b w
  refine m_numOf0 (by rw [hl.1]; exact hb.1) (fun j j0 j1 e => h ?_)
  rw [hl.1] at j1
  rw [hl.2.1 _ j0 j1] at e
  have := v.2.1 (F 9 * F 6 + j) (by omega) (by omega)
  rw [e] at this
  exact ⟨⟨this.1, this.2.1⟩, by omega, by omega⟩
set_option maxRecDepth 20000 in
theorem m_clr_l0 {I : zI} {π : Int → Nat} {D : zD} {a b : Int} (ha : 0 ≤ a) (hb : b ≤ 9) : ∀ (n : Nat) (k : Int), a < k → k + n = b → zRuns 102 7 [(4, vi k), (3, vi 0), (0, vr 137), (1, vi a), (2, vi b)] [] (I, zPp π, D, 147) (some (vi 0)) (I, zPp π, D, 147) := by
  intro n
  induction n with
  | zero =>
    intro k h0 hn
    refine z_n 2 (10, [(4, vi k), (3, vi 0), (0, vr 137), (1, vi a), (2, vi b)], [vi b, vi k], (I, zPp π, D, 147)) rfl trivial ?_
    refine z_br (b ≤ k) 39 13 [] rfl (fun hx1 => ?_) (fun h => absurd (show b ≤ k from by omega) h)
    refine z_n 1 (40, [(4, vi k), (3, vi 0), (0, vr 137), (1, vi a), (2, vi b)], [vi 0], (I, zPp π, D, 147)) rfl trivial ?_
    exact z_ret rfl rfl rfl
  | succ n ih =>
  intro k h0 hn
  refine z_n 2 (10, [(4, vi k), (3, vi 0), (0, vr 137), (1, vi a), (2, vi b)], [vi b, vi k], (I, zPp π, D, 147)) rfl trivial ?_
  refine z_br (b ≤ k) 39 13 [] rfl (fun h => absurd h (show ¬ (b ≤ k) from by omega)) (fun hx1 => ?_)
  refine z_n 1 (14, [(4, vi k), (3, vi 0), (0, vr 137), (1, vi a), (2, vi b)], [vi 0], (I, zPp π, D, 147)) rfl trivial ?_
  refine z_br ((0 : Int) = 0) 31 17 [] rfl (fun hx2 => ?_) (fun h => absurd (show (0 : Int) = 0 from by decide) h)
  refine z_n 4 (7, [(4, vi (k + 1)), (3, vi 0), (0, vr 137), (1, vi a), (2, vi b)], [], (I, zPp π, D, 147)) (G := (zr (k + 1)) ∧ True) rfl ⟨by omega, trivial⟩ ?_
  refine z_sub [(4, vi (k + 1)), (3, vi 0), (0, vr 137), (1, vi a), (2, vi b)] [0, 1, 2, 3, 4] rfl ?_
  exact ih (k + 1) (by omega) (by omega)
set_option maxRecDepth 20000 in
theorem m_clr_l1 {I : zI} {π : Int → Nat} {D : zD} {a b : Int} (ha : 0 ≤ a) (hb : b ≤ 9) : ∀ (n : Nat) (k : Int), a < k → k + n = b → (∀ j, a < j → j < b → ¬ I 142 j = 0) → zRuns 102 7 [(4, vi k), (3, vi 1), (0, vr 137), (1, vi a), (2, vi b)] [] (I, zPp π, D, 147) (some (vi 1)) (I, zPp π, D, 147) := by
  intro n
  induction n with
  | zero =>
    intro k h0 hn hj
    refine z_n 2 (10, [(4, vi k), (3, vi 1), (0, vr 137), (1, vi a), (2, vi b)], [vi b, vi k], (I, zPp π, D, 147)) rfl trivial ?_
    refine z_br (b ≤ k) 39 13 [] rfl (fun hx1 => ?_) (fun h => absurd (show b ≤ k from by omega) h)
    refine z_n 1 (40, [(4, vi k), (3, vi 1), (0, vr 137), (1, vi a), (2, vi b)], [vi 1], (I, zPp π, D, 147)) rfl trivial ?_
    exact z_ret rfl rfl rfl
  | succ n ih =>
  intro k h0 hn hj
  refine z_n 2 (10, [(4, vi k), (3, vi 1), (0, vr 137), (1, vi a), (2, vi b)], [vi b, vi k], (I, zPp π, D, 147)) rfl trivial ?_
  refine z_br (b ≤ k) 39 13 [] rfl (fun h => absurd h (show ¬ (b ≤ k) from by omega)) (fun hx1 => ?_)
  refine z_n 1 (14, [(4, vi k), (3, vi 1), (0, vr 137), (1, vi a), (2, vi b)], [vi 1], (I, zPp π, D, 147)) rfl trivial ?_
  refine z_br ((1 : Int) = 0) 31 17 [] rfl (fun h => absurd h (show ¬ ((1 : Int) = 0) from by decide)) (fun hx2 => ?_)
  refine z_n 4 (24, [(4, vi k), (3, vi 1), (0, vr 137), (1, vi a), (2, vi b)], [vi (I 142 k)], (I, zPp π, D, 147)) (G := (0 ≤ k ∧ k < 9) ∧ True) rfl ⟨by omega, trivial⟩ ?_
  refine z_br ((I 142 k) = 0) 31 27 [] rfl (fun h => absurd h (show ¬ ((I 142 k) = 0) from hj k (by omega) (by omega))) (fun hx3 => ?_)
  refine z_n 5 (7, [(4, vi (k + 1)), (3, vi 1), (0, vr 137), (1, vi a), (2, vi b)], [], (I, zPp π, D, 147)) (G := (zr (k + 1)) ∧ True) rfl ⟨by omega, trivial⟩ ?_
  refine z_sub [(4, vi (k + 1)), (3, vi 1), (0, vr 137), (1, vi a), (2, vi b)] [0, 1, 2, 3, 4] rfl ?_
  exact ih (k + 1) (by omega) (by omega) hj
set_option maxRecDepth 20000 in
theorem m_clr_l2 {I : zI} {π : Int → Nat} {D : zD} {a b : Int} (ha : 0 ≤ a) (hb : b ≤ 9) : ∀ (n : Nat) (k : Int), a < k → k + n = b → (∃ j, k ≤ j ∧ j < b ∧ I 142 j = 0) → zRuns 102 7 [(4, vi k), (3, vi 1), (0, vr 137), (1, vi a), (2, vi b)] [] (I, zPp π, D, 147) (some (vi 0)) (I, zPp π, D, 147) := by
  intro n
  induction n with
  | zero => intro k h0 hn hj; obtain ⟨j, a1, a2, a3⟩ := hj; exfalso; omega
  | succ n ih =>
  intro k h0 hn hj
  refine z_n 2 (10, [(4, vi k), (3, vi 1), (0, vr 137), (1, vi a), (2, vi b)], [vi b, vi k], (I, zPp π, D, 147)) rfl trivial ?_
  refine z_br (b ≤ k) 39 13 [] rfl (fun h => absurd h (show ¬ (b ≤ k) from by omega)) (fun hx1 => ?_)
  refine z_n 1 (14, [(4, vi k), (3, vi 1), (0, vr 137), (1, vi a), (2, vi b)], [vi 1], (I, zPp π, D, 147)) rfl trivial ?_
  refine z_br ((1 : Int) = 0) 31 17 [] rfl (fun h => absurd h (show ¬ ((1 : Int) = 0) from by decide)) (fun hx2 => ?_)
  refine z_n 4 (24, [(4, vi k), (3, vi 1), (0, vr 137), (1, vi a), (2, vi b)], [vi (I 142 k)], (I, zPp π, D, 147)) (G := (0 ≤ k ∧ k < 9) ∧ True) rfl ⟨by omega, trivial⟩ ?_
  refine z_br ((I 142 k) = 0) 31 27 [] rfl (fun hx3 => ?_) (fun hx3 => ?_)
  · refine z_n 4 (7, [(4, vi (k + 1)), (3, vi 0), (0, vr 137), (1, vi a), (2, vi b)], [], (I, zPp π, D, 147)) (G := (zr (k + 1)) ∧ True) rfl ⟨by omega, trivial⟩ ?_
    refine z_sub [(4, vi (k + 1)), (3, vi 0), (0, vr 137), (1, vi a), (2, vi b)] [0, 1, 2, 3, 4] rfl ?_
    exact m_clr_l0 ha hb n (k + 1) (by omega) (by omega)
  · refine z_n 5 (7, [(4, vi (k + 1)), (3, vi 1), (0, vr 137), (1, vi a), (2, vi b)], [], (I, zPp π, D, 147)) (G := (zr (k + 1)) ∧ True) rfl ⟨by omega, trivial⟩ ?_
    refine z_sub [(4, vi (k + 1)), (3, vi 1), (0, vr 137), (1, vi a), (2, vi b)] [0, 1, 2, 3, 4] rfl ?_
    exact ih (k + 1) (by omega) (by omega) (by obtain ⟨j, a1, a2, a3⟩ := hj; refine ⟨j, ?_, a2, a3⟩; rcases Int.lt_or_lt_of_ne (show j ≠ k by rintro rfl; contradiction) with h9 | h9 <;> omega)
set_option maxRecDepth 20000 in
theorem m_clear1 {I : zI} {π : Int → Nat} {D : zD} {a b : Int} (ha : 0 ≤ a) (hb : b ≤ 9) (hab : a < b) (hj : ∀ j, a < j → j < b → ¬ I 142 j = 0) : zMet 102 [vr 137, vi a, vi b] (I, zPp π, D, 147) (some (vi 1)) (I, zPp π, D, 147) := by
  refine z_n 6 (7, [(4, vi (a + 1)), (3, vi 1), (0, vr 137), (1, vi a), (2, vi b)], [], (I, zPp π, D, 147)) (G := (zr (a + 1)) ∧ True) rfl ⟨by omega, trivial⟩ ?_
  refine z_sub [(4, vi (a + 1)), (3, vi 1), (0, vr 137), (1, vi a), (2, vi b)] [0, 1, 2, 3, 4] rfl ?_
  exact m_clr_l1 ha hb (b - a - 1).toNat (a + 1) (by omega) (by omega) hj
set_option maxRecDepth 20000 in
theorem m_clear0 {I : zI} {π : Int → Nat} {D : zD} {a b : Int} (ha : 0 ≤ a) (hb : b ≤ 9) (hab : a < b) (hj : ∃ j, a < j ∧ j < b ∧ I 142 j = 0) : zMet 102 [vr 137, vi a, vi b] (I, zPp π, D, 147) (some (vi 0)) (I, zPp π, D, 147) := by
  refine z_n 6 (7, [(4, vi (a + 1)), (3, vi 1), (0, vr 137), (1, vi a), (2, vi b)], [], (I, zPp π, D, 147)) (G := (zr (a + 1)) ∧ True) rfl ⟨by omega, trivial⟩ ?_
  refine z_sub [(4, vi (a + 1)), (3, vi 1), (0, vr 137), (1, vi a), (2, vi b)] [0, 1, 2, 3, 4] rfl ?_
  exact m_clr_l2 ha hb (b - a - 1).toNat (a + 1) (by omega) (by omega) (by obtain ⟨j, a1, a2, a3⟩ := hj; exact ⟨j, by omega, a2, a3⟩)
set_option maxRecDepth 20000 in
theorem m_ref2a {I : zI} {π : Int → Nat} {D : zD} {F Pl Or u d : Int → Int} {m a b : Int}  (w : zW1 F) (v : zW2 F Pl Or) (hl : zLn I F Or (zOut m u d)) (ha : ¬ zIs F Pl a) : zMet 103 [vr 137, vi a, vi b] (I, zPp π, D, 147) (some (vi 2)) (I, zPp π, D, 147) := by
  refine z_n 2 (2, [(0, vr 137), (1, vi a), (2, vi b)], [vi a, vr 137], (I, zPp π, D, 147)) rfl trivial ?_
  refine z_ci 101 [vr 137, vi a] [] rfl (m_no0 w v hl ha) ?_
  refine z_n 3 (8, [(3, vi (-1)), (0, vr 137), (1, vi a), (2, vi b)], [vi b, vr 137], (I, zPp π, D, 147)) rfl trivial ?_
  by_cases hx1 : zIs F Pl b
  · refine z_ci 101 [vr 137, vi b] [] rfl (m_no1 w v hl hx1) ?_
    refine z_n 3 (15, [(4, vi (Pl b - F 9 * F 6)), (3, vi (-1)), (0, vr 137), (1, vi a), (2, vi b)], [vi (-1), vi (-1)], (I, zPp π, D, 147)) rfl trivial ?_
    refine z_br ((-1 : Int) = (-1)) 24 18 [] rfl (fun hx2 => ?_) (fun h => absurd (show (-1 : Int) = (-1) from by decide) h)
    refine z_n 1 (25, [(4, vi (Pl b - F 9 * F 6)), (3, vi (-1)), (0, vr 137), (1, vi a), (2, vi b)], [vi 2], (I, zPp π, D, 147)) rfl trivial ?_
    exact z_ret rfl rfl rfl
  · refine z_ci 101 [vr 137, vi b] [] rfl (m_no0 w v hl hx1) ?_
    refine z_n 3 (15, [(4, vi (-1)), (3, vi (-1)), (0, vr 137), (1, vi a), (2, vi b)], [vi (-1), vi (-1)], (I, zPp π, D, 147)) rfl trivial ?_
    refine z_br ((-1 : Int) = (-1)) 24 18 [] rfl (fun hx3 => ?_) (fun h => absurd (show (-1 : Int) = (-1) from by decide) h)
    refine z_n 1 (25, [(4, vi (-1)), (3, vi (-1)), (0, vr 137), (1, vi a), (2, vi b)], [vi 2], (I, zPp π, D, 147)) rfl trivial ?_
    exact z_ret rfl rfl rfl
set_option maxRecDepth 20000 in
theorem m_ref2b {I : zI} {π : Int → Nat} {D : zD} {F Pl Or u d : Int → Int} {m a b : Int}  (w : zW1 F) (v : zW2 F Pl Or) (hl : zLn I F Or (zOut m u d)) (ha : zIs F Pl a) (hb : ¬ zIs F Pl b) : zMet 103 [vr 137, vi a, vi b] (I, zPp π, D, 147) (some (vi 2)) (I, zPp π, D, 147) := by
  have hzb := zns_b w
  have ha2 := ha.2
  refine z_n 2 (2, [(0, vr 137), (1, vi a), (2, vi b)], [vi a, vr 137], (I, zPp π, D, 147)) rfl trivial ?_
  refine z_ci 101 [vr 137, vi a] [] rfl (m_no1 w v hl ha) ?_
  refine z_n 3 (8, [(3, vi (Pl a - F 9 * F 6)), (0, vr 137), (1, vi a), (2, vi b)], [vi b, vr 137], (I, zPp π, D, 147)) rfl trivial ?_
  refine z_ci 101 [vr 137, vi b] [] rfl (m_no0 w v hl hb) ?_
  refine z_n 3 (15, [(4, vi (-1)), (3, vi (Pl a - F 9 * F 6)), (0, vr 137), (1, vi a), (2, vi b)], [vi (-1), vi (Pl a - F 9 * F 6)], (I, zPp π, D, 147)) rfl trivial ?_
  refine z_br ((Pl a - F 9 * F 6) = (-1)) 24 18 [] rfl (fun h => absurd h (show ¬ ((Pl a - F 9 * F 6) = (-1)) from by omega)) (fun hx1 => ?_)
  refine z_n 2 (21, [(4, vi (-1)), (3, vi (Pl a - F 9 * F 6)), (0, vr 137), (1, vi a), (2, vi b)], [vi (-1), vi (-1)], (I, zPp π, D, 147)) rfl trivial ?_
  refine z_br (¬ (-1 : Int) = (-1)) 26 24 [] rfl (fun h => absurd h (show ¬ (¬ (-1 : Int) = (-1)) from by decide)) (fun hx2 => ?_)
  refine z_n 1 (25, [(4, vi (-1)), (3, vi (Pl a - F 9 * F 6)), (0, vr 137), (1, vi a), (2, vi b)], [vi 2], (I, zPp π, D, 147)) rfl trivial ?_
  exact z_ret rfl rfl rfl
set_option maxRecDepth 20000 in
theorem m_ref3a {I : zI} {π : Int → Nat} {D : zD} {F Pl Or u d : Int → Int} {m a b : Int}  (w : zW1 F) (v : zW2 F Pl Or) (hl : zLn I F Or (zOut m u d)) (ha : zIs F Pl a) (hb : zIs F Pl b) (oa : zOut m u d a) : zMet 103 [vr 137, vi a, vi b] (I, zPp π, D, 147) (some (vi 3)) (I, zPp π, D, 147) := by
  have hzb := zns_b w
  have ha2 := ha.2
  have va := v.1 a ha.1.1 ha.1.2
  have la := hl.2.2 (Pl a - F 9 * F 6) (by omega) (by omega)
  rw [show F 9 * F 6 + (Pl a - F 9 * F 6) = Pl a by omega, va.2.2] at la
  have hb2 := hb.2
  have vb := v.1 b hb.1.1 hb.1.2
  have lb := hl.2.2 (Pl b - F 9 * F 6) (by omega) (by omega)
  rw [show F 9 * F 6 + (Pl b - F 9 * F 6) = Pl b by omega, vb.2.2] at lb
  have l1 : I 142 (Pl a - F 9 * F 6) = 1 := by rcases la with h9 | h9; exact h9.2; exact absurd oa h9.1
  refine z_n 2 (2, [(0, vr 137), (1, vi a), (2, vi b)], [vi a, vr 137], (I, zPp π, D, 147)) rfl trivial ?_
  refine z_ci 101 [vr 137, vi a] [] rfl (m_no1 w v hl ha) ?_
  refine z_n 3 (8, [(3, vi (Pl a - F 9 * F 6)), (0, vr 137), (1, vi a), (2, vi b)], [vi b, vr 137], (I, zPp π, D, 147)) rfl trivial ?_
  refine z_ci 101 [vr 137, vi b] [] rfl (m_no1 w v hl hb) ?_
  refine z_n 3 (15, [(4, vi (Pl b - F 9 * F 6)), (3, vi (Pl a - F 9 * F 6)), (0, vr 137), (1, vi a), (2, vi b)], [vi (-1), vi (Pl a - F 9 * F 6)], (I, zPp π, D, 147)) rfl trivial ?_
  refine z_br ((Pl a - F 9 * F 6) = (-1)) 24 18 [] rfl (fun h => absurd h (show ¬ ((Pl a - F 9 * F 6) = (-1)) from by omega)) (fun hx1 => ?_)
  refine z_n 2 (21, [(4, vi (Pl b - F 9 * F 6)), (3, vi (Pl a - F 9 * F 6)), (0, vr 137), (1, vi a), (2, vi b)], [vi (-1), vi (Pl b - F 9 * F 6)], (I, zPp π, D, 147)) rfl trivial ?_
  refine z_br (¬ (Pl b - F 9 * F 6) = (-1)) 26 24 [] rfl (fun hx2 => ?_) (fun h => absurd (show ¬ (Pl b - F 9 * F 6) = (-1) from by omega) h)
  refine z_n 4 (32, [(4, vi (Pl b - F 9 * F 6)), (3, vi (Pl a - F 9 * F 6)), (0, vr 137), (1, vi a), (2, vi b)], [vi (I 142 (Pl a - F 9 * F 6))], (I, zPp π, D, 147)) (G := (0 ≤ (Pl a - F 9 * F 6) ∧ (Pl a - F 9 * F 6) < 9) ∧ True) rfl ⟨by omega, trivial⟩ ?_
  refine z_br (¬ (I 142 (Pl a - F 9 * F 6)) = 0) 45 35 [] rfl (fun hx3 => ?_) (fun h => absurd (show ¬ (I 142 (Pl a - F 9 * F 6)) = 0 from by omega) h)
  refine z_n 1 (46, [(4, vi (Pl b - F 9 * F 6)), (3, vi (Pl a - F 9 * F 6)), (0, vr 137), (1, vi a), (2, vi b)], [vi 3], (I, zPp π, D, 147)) rfl trivial ?_
  exact z_ret rfl rfl rfl
set_option maxRecDepth 20000 in
theorem m_ref3b {I : zI} {π : Int → Nat} {D : zD} {F Pl Or u d : Int → Int} {m a b : Int}  (w : zW1 F) (v : zW2 F Pl Or) (hl : zLn I F Or (zOut m u d)) (ha : zIs F Pl a) (hb : zIs F Pl b) (oa : ¬ zOut m u d a) (ob : zOut m u d b) : zMet 103 [vr 137, vi a, vi b] (I, zPp π, D, 147) (some (vi 3)) (I, zPp π, D, 147) := by
  have hzb := zns_b w
  have ha2 := ha.2
  have va := v.1 a ha.1.1 ha.1.2
  have la := hl.2.2 (Pl a - F 9 * F 6) (by omega) (by omega)
  rw [show F 9 * F 6 + (Pl a - F 9 * F 6) = Pl a by omega, va.2.2] at la
  have hb2 := hb.2
  have vb := v.1 b hb.1.1 hb.1.2
  have lb := hl.2.2 (Pl b - F 9 * F 6) (by omega) (by omega)
  rw [show F 9 * F 6 + (Pl b - F 9 * F 6) = Pl b by omega, vb.2.2] at lb
  have l1 : I 142 (Pl a - F 9 * F 6) = 0 := by rcases la with h9 | h9; exact absurd h9.1 oa; exact h9.2
  have l2 : I 142 (Pl b - F 9 * F 6) = 1 := by rcases lb with h9 | h9; exact h9.2; exact absurd ob h9.1
  refine z_n 2 (2, [(0, vr 137), (1, vi a), (2, vi b)], [vi a, vr 137], (I, zPp π, D, 147)) rfl trivial ?_
  refine z_ci 101 [vr 137, vi a] [] rfl (m_no1 w v hl ha) ?_
  refine z_n 3 (8, [(3, vi (Pl a - F 9 * F 6)), (0, vr 137), (1, vi a), (2, vi b)], [vi b, vr 137], (I, zPp π, D, 147)) rfl trivial ?_
  refine z_ci 101 [vr 137, vi b] [] rfl (m_no1 w v hl hb) ?_
  refine z_n 3 (15, [(4, vi (Pl b - F 9 * F 6)), (3, vi (Pl a - F 9 * F 6)), (0, vr 137), (1, vi a), (2, vi b)], [vi (-1), vi (Pl a - F 9 * F 6)], (I, zPp π, D, 147)) rfl trivial ?_
  refine z_br ((Pl a - F 9 * F 6) = (-1)) 24 18 [] rfl (fun h => absurd h (show ¬ ((Pl a - F 9 * F 6) = (-1)) from by omega)) (fun hx1 => ?_)
  refine z_n 2 (21, [(4, vi (Pl b - F 9 * F 6)), (3, vi (Pl a - F 9 * F 6)), (0, vr 137), (1, vi a), (2, vi b)], [vi (-1), vi (Pl b - F 9 * F 6)], (I, zPp π, D, 147)) rfl trivial ?_
  refine z_br (¬ (Pl b - F 9 * F 6) = (-1)) 26 24 [] rfl (fun hx2 => ?_) (fun h => absurd (show ¬ (Pl b - F 9 * F 6) = (-1) from by omega) h)
  refine z_n 4 (32, [(4, vi (Pl b - F 9 * F 6)), (3, vi (Pl a - F 9 * F 6)), (0, vr 137), (1, vi a), (2, vi b)], [vi (I 142 (Pl a - F 9 * F 6))], (I, zPp π, D, 147)) (G := (0 ≤ (Pl a - F 9 * F 6) ∧ (Pl a - F 9 * F 6) < 9) ∧ True) rfl ⟨by omega, trivial⟩ ?_
  refine z_br (¬ (I 142 (Pl a - F 9 * F 6)) = 0) 45 35 [] rfl (fun h => absurd h (show ¬ (¬ (I 142 (Pl a - F 9 * F 6)) = 0) from by omega)) (fun hx3 => ?_)
  refine z_n 4 (42, [(4, vi (Pl b - F 9 * F 6)), (3, vi (Pl a - F 9 * F 6)), (0, vr 137), (1, vi a), (2, vi b)], [vi (I 142 (Pl b - F 9 * F 6))], (I, zPp π, D, 147)) (G := (0 ≤ (Pl b - F 9 * F 6) ∧ (Pl b - F 9 * F 6) < 9) ∧ True) rfl ⟨by omega, trivial⟩ ?_
  refine z_br ((I 142 (Pl b - F 9 * F 6)) = 0) 47 45 [] rfl (fun h => absurd h (show ¬ ((I 142 (Pl b - F 9 * F 6)) = 0) from by omega)) (fun hx4 => ?_)
  refine z_n 1 (46, [(4, vi (Pl b - F 9 * F 6)), (3, vi (Pl a - F 9 * F 6)), (0, vr 137), (1, vi a), (2, vi b)], [vi 3], (I, zPp π, D, 147)) rfl trivial ?_
  exact z_ret rfl rfl rfl
set_option maxRecDepth 20000 in
theorem m_ref4 {I : zI} {π : Int → Nat} {D : zD} {F Pl Or u d : Int → Int} {m a b : Int}  (w : zW1 F) (v : zW2 F Pl Or) (hl : zLn I F Or (zOut m u d)) (ha : zIs F Pl a) (hb : zIs F Pl b) (oa : ¬ zOut m u d a) (ob : ¬ zOut m u d b) (hp : Pl a ≤ Pl b) : zMet 103 [vr 137, vi a, vi b] (I, zPp π, D, 147) (some (vi 4)) (I, zPp π, D, 147) := by
  have hzb := zns_b w
  have ha2 := ha.2
  have va := v.1 a ha.1.1 ha.1.2
  have la := hl.2.2 (Pl a - F 9 * F 6) (by omega) (by omega)
  rw [show F 9 * F 6 + (Pl a - F 9 * F 6) = Pl a by omega, va.2.2] at la
  have hb2 := hb.2
  have vb := v.1 b hb.1.1 hb.1.2
  have lb := hl.2.2 (Pl b - F 9 * F 6) (by omega) (by omega)
  rw [show F 9 * F 6 + (Pl b - F 9 * F 6) = Pl b by omega, vb.2.2] at lb
  have l1 : I 142 (Pl a - F 9 * F 6) = 0 := by rcases la with h9 | h9; exact absurd h9.1 oa; exact h9.2
  have l2 : I 142 (Pl b - F 9 * F 6) = 0 := by rcases lb with h9 | h9; exact absurd h9.1 ob; exact h9.2
  refine z_n 2 (2, [(0, vr 137), (1, vi a), (2, vi b)], [vi a, vr 137], (I, zPp π, D, 147)) rfl trivial ?_
  refine z_ci 101 [vr 137, vi a] [] rfl (m_no1 w v hl ha) ?_
  refine z_n 3 (8, [(3, vi (Pl a - F 9 * F 6)), (0, vr 137), (1, vi a), (2, vi b)], [vi b, vr 137], (I, zPp π, D, 147)) rfl trivial ?_
  refine z_ci 101 [vr 137, vi b] [] rfl (m_no1 w v hl hb) ?_
  refine z_n 3 (15, [(4, vi (Pl b - F 9 * F 6)), (3, vi (Pl a - F 9 * F 6)), (0, vr 137), (1, vi a), (2, vi b)], [vi (-1), vi (Pl a - F 9 * F 6)], (I, zPp π, D, 147)) rfl trivial ?_
  refine z_br ((Pl a - F 9 * F 6) = (-1)) 24 18 [] rfl (fun h => absurd h (show ¬ ((Pl a - F 9 * F 6) = (-1)) from by omega)) (fun hx1 => ?_)
  refine z_n 2 (21, [(4, vi (Pl b - F 9 * F 6)), (3, vi (Pl a - F 9 * F 6)), (0, vr 137), (1, vi a), (2, vi b)], [vi (-1), vi (Pl b - F 9 * F 6)], (I, zPp π, D, 147)) rfl trivial ?_
  refine z_br (¬ (Pl b - F 9 * F 6) = (-1)) 26 24 [] rfl (fun hx2 => ?_) (fun h => absurd (show ¬ (Pl b - F 9 * F 6) = (-1) from by omega) h)
  refine z_n 4 (32, [(4, vi (Pl b - F 9 * F 6)), (3, vi (Pl a - F 9 * F 6)), (0, vr 137), (1, vi a), (2, vi b)], [vi (I 142 (Pl a - F 9 * F 6))], (I, zPp π, D, 147)) (G := (0 ≤ (Pl a - F 9 * F 6) ∧ (Pl a - F 9 * F 6) < 9) ∧ True) rfl ⟨by omega, trivial⟩ ?_
  refine z_br (¬ (I 142 (Pl a - F 9 * F 6)) = 0) 45 35 [] rfl (fun h => absurd h (show ¬ (¬ (I 142 (Pl a - F 9 * F 6)) = 0) from by omega)) (fun hx3 => ?_)
  refine z_n 4 (42, [(4, vi (Pl b - F 9 * F 6)), (3, vi (Pl a - F 9 * F 6)), (0, vr 137), (1, vi a), (2, vi b)], [vi (I 142 (Pl b - F 9 * F 6))], (I, zPp π, D, 147)) (G := (0 ≤ (Pl b - F 9 * F 6) ∧ (Pl b - F 9 * F 6) < 9) ∧ True) rfl ⟨by omega, trivial⟩ ?_
  refine z_br ((I 142 (Pl b - F 9 * F 6)) = 0) 47 45 [] rfl (fun hx4 => ?_) (fun h => absurd (show (I 142 (Pl b - F 9 * F 6)) = 0 from by omega) h)
  refine z_n 2 (50, [(4, vi (Pl b - F 9 * F 6)), (3, vi (Pl a - F 9 * F 6)), (0, vr 137), (1, vi a), (2, vi b)], [vi (Pl b - F 9 * F 6), vi (Pl a - F 9 * F 6)], (I, zPp π, D, 147)) rfl trivial ?_
  refine z_br ((Pl b - F 9 * F 6) < (Pl a - F 9 * F 6)) 55 53 [] rfl (fun h => absurd h (show ¬ ((Pl b - F 9 * F 6) < (Pl a - F 9 * F 6)) from by omega)) (fun hx5 => ?_)
  refine z_n 1 (54, [(4, vi (Pl b - F 9 * F 6)), (3, vi (Pl a - F 9 * F 6)), (0, vr 137), (1, vi a), (2, vi b)], [vi 4], (I, zPp π, D, 147)) rfl trivial ?_
  exact z_ret rfl rfl rfl
set_option maxRecDepth 20000 in
theorem m_ref5 {I : zI} {π : Int → Nat} {D : zD} {F Pl Or u d : Int → Int} {m a b : Int}  (w : zW1 F) (v : zW2 F Pl Or) (hl : zLn I F Or (zOut m u d)) (ha : zIs F Pl a) (hb : zIs F Pl b) (oa : ¬ zOut m u d a) (ob : ¬ zOut m u d b) (hp : Pl b < Pl a) (hj : ∃ q, Pl b < q ∧ q < Pl a ∧ ¬ zOut m u d (Or q)) : zMet 103 [vr 137, vi a, vi b] (I, zPp π, D, 147) (some (vi 5)) (I, zPp π, D, 147) := by
  have hzb := zns_b w
  have ha2 := ha.2
  have va := v.1 a ha.1.1 ha.1.2
  have la := hl.2.2 (Pl a - F 9 * F 6) (by omega) (by omega)
  rw [show F 9 * F 6 + (Pl a - F 9 * F 6) = Pl a by omega, va.2.2] at la
  have hb2 := hb.2
  have vb := v.1 b hb.1.1 hb.1.2
  have lb := hl.2.2 (Pl b - F 9 * F 6) (by omega) (by omega)
  rw [show F 9 * F 6 + (Pl b - F 9 * F 6) = Pl b by omega, vb.2.2] at lb
  have l1 : I 142 (Pl a - F 9 * F 6) = 0 := by rcases la with h9 | h9; exact absurd h9.1 oa; exact h9.2
  have l2 : I 142 (Pl b - F 9 * F 6) = 0 := by rcases lb with h9 | h9; exact absurd h9.1 ob; exact h9.2
  refine z_n 2 (2, [(0, vr 137), (1, vi a), (2, vi b)], [vi a, vr 137], (I, zPp π, D, 147)) rfl trivial ?_
  refine z_ci 101 [vr 137, vi a] [] rfl (m_no1 w v hl ha) ?_
  refine z_n 3 (8, [(3, vi (Pl a - F 9 * F 6)), (0, vr 137), (1, vi a), (2, vi b)], [vi b, vr 137], (I, zPp π, D, 147)) rfl trivial ?_
  refine z_ci 101 [vr 137, vi b] [] rfl (m_no1 w v hl hb) ?_
  refine z_n 3 (15, [(4, vi (Pl b - F 9 * F 6)), (3, vi (Pl a - F 9 * F 6)), (0, vr 137), (1, vi a), (2, vi b)], [vi (-1), vi (Pl a - F 9 * F 6)], (I, zPp π, D, 147)) rfl trivial ?_
  refine z_br ((Pl a - F 9 * F 6) = (-1)) 24 18 [] rfl (fun h => absurd h (show ¬ ((Pl a - F 9 * F 6) = (-1)) from by omega)) (fun hx1 => ?_)
  refine z_n 2 (21, [(4, vi (Pl b - F 9 * F 6)), (3, vi (Pl a - F 9 * F 6)), (0, vr 137), (1, vi a), (2, vi b)], [vi (-1), vi (Pl b - F 9 * F 6)], (I, zPp π, D, 147)) rfl trivial ?_
  refine z_br (¬ (Pl b - F 9 * F 6) = (-1)) 26 24 [] rfl (fun hx2 => ?_) (fun h => absurd (show ¬ (Pl b - F 9 * F 6) = (-1) from by omega) h)
  refine z_n 4 (32, [(4, vi (Pl b - F 9 * F 6)), (3, vi (Pl a - F 9 * F 6)), (0, vr 137), (1, vi a), (2, vi b)], [vi (I 142 (Pl a - F 9 * F 6))], (I, zPp π, D, 147)) (G := (0 ≤ (Pl a - F 9 * F 6) ∧ (Pl a - F 9 * F 6) < 9) ∧ True) rfl ⟨by omega, trivial⟩ ?_
  refine z_br (¬ (I 142 (Pl a - F 9 * F 6)) = 0) 45 35 [] rfl (fun h => absurd h (show ¬ (¬ (I 142 (Pl a - F 9 * F 6)) = 0) from by omega)) (fun hx3 => ?_)
  refine z_n 4 (42, [(4, vi (Pl b - F 9 * F 6)), (3, vi (Pl a - F 9 * F 6)), (0, vr 137), (1, vi a), (2, vi b)], [vi (I 142 (Pl b - F 9 * F 6))], (I, zPp π, D, 147)) (G := (0 ≤ (Pl b - F 9 * F 6) ∧ (Pl b - F 9 * F 6) < 9) ∧ True) rfl ⟨by omega, trivial⟩ ?_
  refine z_br ((I 142 (Pl b - F 9 * F 6)) = 0) 47 45 [] rfl (fun hx4 => ?_) (fun h => absurd (show (I 142 (Pl b - F 9 * F 6)) = 0 from by omega) h)
  refine z_n 2 (50, [(4, vi (Pl b - F 9 * F 6)), (3, vi (Pl a - F 9 * F 6)), (0, vr 137), (1, vi a), (2, vi b)], [vi (Pl b - F 9 * F 6), vi (Pl a - F 9 * F 6)], (I, zPp π, D, 147)) rfl trivial ?_
  refine z_br ((Pl b - F 9 * F 6) < (Pl a - F 9 * F 6)) 55 53 [] rfl (fun hx5 => ?_) (fun h => absurd (show (Pl b - F 9 * F 6) < (Pl a - F 9 * F 6) from by omega) h)
  refine z_n 3 (59, [(4, vi (Pl b - F 9 * F 6)), (3, vi (Pl a - F 9 * F 6)), (0, vr 137), (1, vi a), (2, vi b)], [vi (Pl a - F 9 * F 6), vi (Pl b - F 9 * F 6), vr 137], (I, zPp π, D, 147)) rfl trivial ?_
  refine z_ci 102 [vr 137, vi (Pl b - F 9 * F 6), vi (Pl a - F 9 * F 6)] [] rfl (m_clear0 (a := Pl b - F 9 * F 6) (b := Pl a - F 9 * F 6) (by omega) (by omega) (by omega) (by obtain ⟨q, q0, q1, q2⟩ := hj; refine ⟨q - F 9 * F 6, by omega, by omega, ?_⟩; have lq := hl.2.2 (q - F 9 * F 6) (by omega) (by omega); rw [show F 9 * F 6 + (q - F 9 * F 6) = q by omega] at lq; rcases lq with h9 | h9; exact absurd h9.1 q2; exact h9.2)) ?_
  refine z_br ((0 : Int) = 0) 69 65 [] rfl (fun hx6 => ?_) (fun h => absurd (show (0 : Int) = 0 from by decide) h)
  refine z_n 1 (70, [(4, vi (Pl b - F 9 * F 6)), (3, vi (Pl a - F 9 * F 6)), (0, vr 137), (1, vi a), (2, vi b)], [vi 5], (I, zPp π, D, 147)) rfl trivial ?_
  exact z_ret rfl rfl rfl
set_option maxRecDepth 20000 in
theorem m_ref0 {I : zI} {π : Int → Nat} {D : zD} {F Pl Or u d : Int → Int} {m a b : Int}  (w : zW1 F) (v : zW2 F Pl Or) (hl : zLn I F Or (zOut m u d)) (ha : zIs F Pl a) (hb : zIs F Pl b) (oa : ¬ zOut m u d a) (ob : ¬ zOut m u d b) (hp : Pl b < Pl a) (hj : ∀ q, Pl b < q → q < Pl a → zOut m u d (Or q)) : zMet 103 [vr 137, vi a, vi b] (I, zPp π, D, 147) (some (vi 0)) (I, zPp π, D, 147) := by
  have hzb := zns_b w
  have ha2 := ha.2
  have va := v.1 a ha.1.1 ha.1.2
  have la := hl.2.2 (Pl a - F 9 * F 6) (by omega) (by omega)
  rw [show F 9 * F 6 + (Pl a - F 9 * F 6) = Pl a by omega, va.2.2] at la
  have hb2 := hb.2
  have vb := v.1 b hb.1.1 hb.1.2
  have lb := hl.2.2 (Pl b - F 9 * F 6) (by omega) (by omega)
  rw [show F 9 * F 6 + (Pl b - F 9 * F 6) = Pl b by omega, vb.2.2] at lb
  have l1 : I 142 (Pl a - F 9 * F 6) = 0 := by rcases la with h9 | h9; exact absurd h9.1 oa; exact h9.2
  have l2 : I 142 (Pl b - F 9 * F 6) = 0 := by rcases lb with h9 | h9; exact absurd h9.1 ob; exact h9.2
  refine z_n 2 (2, [(0, vr 137), (1, vi a), (2, vi b)], [vi a, vr 137], (I, zPp π, D, 147)) rfl trivial ?_
  refine z_ci 101 [vr 137, vi a] [] rfl (m_no1 w v hl ha) ?_
  refine z_n 3 (8, [(3, vi (Pl a - F 9 * F 6)), (0, vr 137), (1, vi a), (2, vi b)], [vi b, vr 137], (I, zPp π, D, 147)) rfl trivial ?_
  refine z_ci 101 [vr 137, vi b] [] rfl (m_no1 w v hl hb) ?_
  refine z_n 3 (15, [(4, vi (Pl b - F 9 * F 6)), (3, vi (Pl a - F 9 * F 6)), (0, vr 137), (1, vi a), (2, vi b)], [vi (-1), vi (Pl a - F 9 * F 6)], (I, zPp π, D, 147)) rfl trivial ?_
  refine z_br ((Pl a - F 9 * F 6) = (-1)) 24 18 [] rfl (fun h => absurd h (show ¬ ((Pl a - F 9 * F 6) = (-1)) from by omega)) (fun hx1 => ?_)
  refine z_n 2 (21, [(4, vi (Pl b - F 9 * F 6)), (3, vi (Pl a - F 9 * F 6)), (0, vr 137), (1, vi a), (2, vi b)], [vi (-1), vi (Pl b - F 9 * F 6)], (I, zPp π, D, 147)) rfl trivial ?_
  refine z_br (¬ (Pl b - F 9 * F 6) = (-1)) 26 24 [] rfl (fun hx2 => ?_) (fun h => absurd (show ¬ (Pl b - F 9 * F 6) = (-1) from by omega) h)
  refine z_n 4 (32, [(4, vi (Pl b - F 9 * F 6)), (3, vi (Pl a - F 9 * F 6)), (0, vr 137), (1, vi a), (2, vi b)], [vi (I 142 (Pl a - F 9 * F 6))], (I, zPp π, D, 147)) (G := (0 ≤ (Pl a - F 9 * F 6) ∧ (Pl a - F 9 * F 6) < 9) ∧ True) rfl ⟨by omega, trivial⟩ ?_
  refine z_br (¬ (I 142 (Pl a - F 9 * F 6)) = 0) 45 35 [] rfl (fun h => absurd h (show ¬ (¬ (I 142 (Pl a - F 9 * F 6)) = 0) from by omega)) (fun hx3 => ?_)
  refine z_n 4 (42, [(4, vi (Pl b - F 9 * F 6)), (3, vi (Pl a - F 9 * F 6)), (0, vr 137), (1, vi a), (2, vi b)], [vi (I 142 (Pl b - F 9 * F 6))], (I, zPp π, D, 147)) (G := (0 ≤ (Pl b - F 9 * F 6) ∧ (Pl b - F 9 * F 6) < 9) ∧ True) rfl ⟨by omega, trivial⟩ ?_
  refine z_br ((I 142 (Pl b - F 9 * F 6)) = 0) 47 45 [] rfl (fun hx4 => ?_) (fun h => absurd (show (I 142 (Pl b - F 9 * F 6)) = 0 from by omega) h)
  refine z_n 2 (50, [(4, vi (Pl b - F 9 * F 6)), (3, vi (Pl a - F 9 * F 6)), (0, vr 137), (1, vi a), (2, vi b)], [vi (Pl b - F 9 * F 6), vi (Pl a - F 9 * F 6)], (I, zPp π, D, 147)) rfl trivial ?_
  refine z_br ((Pl b - F 9 * F 6) < (Pl a - F 9 * F 6)) 55 53 [] rfl (fun hx5 => ?_) (fun h => absurd (show (Pl b - F 9 * F 6) < (Pl a - F 9 * F 6) from by omega) h)
  refine z_n 3 (59, [(4, vi (Pl b - F 9 * F 6)), (3, vi (Pl a - F 9 * F 6)), (0, vr 137), (1, vi a), (2, vi b)], [vi (Pl a - F 9 * F 6), vi (Pl b - F 9 * F 6), vr 137], (I, zPp π, D, 147)) rfl trivial ?_
  refine z_ci 102 [vr 137, vi (Pl b - F 9 * F 6), vi (Pl a - F 9 * F 6)] [] rfl (m_clear1 (a := Pl b - F 9 * F 6) (b := Pl a - F 9 * F 6) (by omega) (by omega) (by omega) (fun j j0 j1 => by have lq := hl.2.2 j (by omega) (by omega); have oq := hj (F 9 * F 6 + j) (by omega) (by omega); rcases lq with h9 | h9; omega; exact absurd oq h9.1)) ?_
  refine z_br ((1 : Int) = 0) 69 65 [] rfl (fun h => absurd h (show ¬ ((1 : Int) = 0) from by decide)) (fun hx6 => ?_)
  refine z_n 2 (70, [(4, vi (Pl b - F 9 * F 6)), (3, vi (Pl a - F 9 * F 6)), (0, vr 137), (1, vi a), (2, vi b)], [vi 0], (I, zPp π, D, 147)) rfl trivial ?_
  exact z_ret rfl rfl rfl
theorem m_refusal {I : zI} {π : Int → Nat} {D : zD} {F Pl Or u d : Int → Int} {m a b : Int}  {res : Int} (w : zW1 F) (v : zW2 F Pl Or) (hl : zLn I F Or (zOut m u d))  (hz : zReas F Pl Or m u d a b res) : zMet 103 [vr 137, vi a, vi b] (I, zPp π, D, 147) (some (vi res)) (I, zPp π, D, 147) := by
  rcases hz with ⟨rfl, h2⟩ | ⟨ha, hb, ⟨rfl, h3⟩ | ⟨oa, ob, ⟨rfl, h4⟩ | ⟨hp, ⟨rfl, hj⟩ | ⟨rfl, hj⟩⟩⟩⟩
  · by_cases ha : zIs F Pl a
    · exact m_ref2b w v hl ha (fun hb => h2 ⟨ha, hb⟩)
    · exact m_ref2a w v hl ha
  · by_cases oa : zOut m u d a
    · exact m_ref3a w v hl ha hb oa
    · exact m_ref3b w v hl ha hb oa (h3.resolve_left oa)
  · exact m_ref4 w v hl ha hb oa ob h4
  · exact m_ref5 w v hl ha hb oa ob hp hj
  · exact m_ref0 w v hl ha hb oa ob hp hj
