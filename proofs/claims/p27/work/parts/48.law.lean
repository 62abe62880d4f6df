set_option maxHeartbeats 4000000 in
set_option maxRecDepth 20000 in
theorem m_l347 {I : zI} {π : Int → Nat} {D : zD} (s : zSm I π) (h1 : 1 ≤ I 25 1) : ∃ τ : zS, τ.2.2.2 = 137 ∧ zRuns 82 347 [(3, vi 1), (1, vr 1)] [] (I, zPp π, D, 137) (some (vi 1)) τ := by
  have hk := s.2.1
  obtain ⟨I2, h2, s2, -, -⟩ := op_undo (D := D) s (by omega)
  refine ⟨(I2, zPp π, D, 137), rfl, ?_⟩
  refine z_n 2 (350, [(3, vi 1), (1, vr 1)], [vi 10, vr 1], (I, zPp π, D, 137)) rfl trivial ?_
  refine z_ci 60 [vr 1, vi 10] [] rfl (m_count10) ?_
  refine z_n 2 (356, [(5, vi (I 25 1)), (3, vi 1), (1, vr 1)], [vi 1], (I, zPp π, D, 137)) rfl trivial ?_
  refine z_br ((1 : Int) = 0) 386 359 [] rfl (fun h => absurd h (show ¬ ((1 : Int) = 0) from by decide)) (fun hx1 => ?_)
  refine z_n 1 (361, [(5, vi (I 25 1)), (3, vi 1), (1, vr 1)], [vi (I 25 1)], (I, zPp π, D, 137)) rfl trivial ?_
  refine z_br ((I 25 1) ≤ 0) 386 364 [] rfl (fun h => absurd h (show ¬ ((I 25 1) ≤ 0) from by omega)) (fun hx2 => ?_)
  refine z_n 1 (365, [(5, vi (I 25 1)), (3, vi 1), (1, vr 1)], [vr 1], (I, zPp π, D, 137)) rfl trivial ?_
  refine z_ci 70 [vr 1] [] rfl (h2) ?_
  refine z_n 3 (372, [(5, vi (I 25 1)), (3, vi 1), (1, vr 1)], [vi ((I 25 1) - 1), vi (I 25 1 - 1)], (I2, zPp (π), D, 137)) (G := (zr ((I 25 1) - 1)) ∧ True) rfl ⟨by omega, trivial⟩ ?_
  refine z_br (¬ (I 25 1 - 1) = ((I 25 1) - 1)) 386 375 [] rfl (fun h => absurd h (show ¬ (¬ (I 25 1 - 1) = ((I 25 1) - 1)) from fun h9 => h9 rfl)) (fun hx3 => ?_)
  refine z_n 1 (376, [(5, vi (I 25 1)), (3, vi 1), (1, vr 1)], [vr 1], (I2, zPp (π), D, 137)) rfl trivial ?_
  refine z_ci 80 [vr 1] [] rfl (m_holds (I := I2) s2.1) ?_
  refine z_br ((1 : Int) = 0) 386 382 [] rfl (fun h => absurd h (show ¬ ((1 : Int) = 0) from by decide)) (fun hx4 => ?_)
  refine z_n 2 (387, [(5, vi (I 25 1)), (3, vi 1), (1, vr 1)], [vi 1], (I2, zPp (π), D, 137)) rfl trivial ?_
  exact z_ret rfl rfl rfl
set_option maxHeartbeats 4000000 in
set_option maxRecDepth 20000 in
theorem m_l284 {I : zI} {π : Int → Nat} {D : zD} {b : Int} {τ : zS} (s : zSm I π) (hb : 0 ≤ b ∧ b < I 2 5) (hmx : ∀ c, 0 ≤ c → c < I 2 5 → c - I 24 (I 2 8 * 24 + c) ≤ b - I 24 (I 2 8 * 24 + b)) (hrun : zRuns 82 347 [(3, vi 1), (1, vr 1)] [] (I, zPp π, D, 137) (some (vi 1)) τ) : ∀ (N : Nat) (c : Int), 0 ≤ c → c + N = I 2 5 → zRuns 82 284 [(5, vi c), (4, vi b), (3, vi 1), (1, vr 1)] [] (I, zPp π, D, 137) (some (vi 1)) τ := by
  have ci := s.1.1
  have w : zW1 (I 2) := ci.1.1
  have v : zW2 (I 2) (I 6) (I 8) := ci.1.2.1
  have hN := w.1
  have hO := w.2.2.2.1
  have hT := w.2.2.1
  have hk := s.2.1
  have hpa : ∀ c, 0 ≤ c → c < I 2 5 → 0 ≤ I 24 (I 2 8 * 24 + c) ∧ I 24 (I 2 8 * 24 + c) < I 2 5 := fun c c0 c1 => ci.1.2.2.2.2.1 (I 2 8) c (by omega) (Int.le_refl _) c0 c1
  have pb := hpa b hb.1 hb.2
  intro N
  induction N with
  | zero =>
    intro c h0 hN9
    refine z_n 3 (288, [(5, vi c), (4, vi b), (3, vi 1), (1, vr 1)], [vi 0, vr 1, vi c], (I, zPp π, D, 137)) rfl trivial ?_
    refine z_ci 60 [vr 1, vi 0] [vi c] rfl (m_count0) ?_
    refine z_br ((I 2 5) ≤ c) 347 294 [] rfl (fun hx1 => ?_) (fun h => absurd (show (I 2 5) ≤ c from by omega) h)
    refine z_sub [(3, vi 1), (1, vr 1)] [2, 3] rfl ?_
    exact hrun
  | succ N ih =>
  intro c h0 hN9
  have pc := hpa c h0 (by omega)
  have mc := hmx c h0 (by omega)
  refine z_n 3 (288, [(5, vi c), (4, vi b), (3, vi 1), (1, vr 1)], [vi 0, vr 1, vi c], (I, zPp π, D, 137)) rfl trivial ?_
  refine z_ci 60 [vr 1, vi 0] [vi c] rfl (m_count0) ?_
  refine z_br ((I 2 5) ≤ c) 347 294 [] rfl (fun h => absurd h (show ¬ ((I 2 5) ≤ c) from by omega)) (fun hx1 => ?_)
  refine z_n 1 (295, [(5, vi c), (4, vi b), (3, vi 1), (1, vr 1)], [vi 1], (I, zPp π, D, 137)) rfl trivial ?_
  refine z_br ((1 : Int) = 0) 347 298 [] rfl (fun h => absurd h (show ¬ ((1 : Int) = 0) from by decide)) (fun hx2 => ?_)
  refine z_n 1 (300, [(5, vi c), (4, vi b), (3, vi 1), (1, vr 1)], [vi b], (I, zPp π, D, 137)) rfl trivial ?_
  refine z_br (b < 0) 347 303 [] rfl (fun h => absurd h (show ¬ (b < 0) from by omega)) (fun hx3 => ?_)
  refine z_n 2 (305, [(5, vi c), (4, vi b), (3, vi 1), (1, vr 1)], [vi 4, vr 1], (I, zPp π, D, 137)) rfl trivial ?_
  refine z_ci 60 [vr 1, vi 4] [] rfl (m_count4) ?_
  refine z_n 5 (317, [(6, vi (I 2 8)), (5, vi c), (4, vi b), (3, vi 1), (1, vr 1)], [vi (I 2 8), vi c, vr 1, vi c], (I, zPp π, D, 137)) rfl trivial ?_
  refine z_ci 74 [vr 1, vi c, vi (I 2 8)] [vi c] rfl (m_place1 ⟨⟨h0, by omega⟩, by omega, by omega⟩ w) ?_
  refine z_n 5 (328, [(6, vi (I 2 8)), (5, vi c), (4, vi b), (3, vi 1), (1, vr 1)], [vi (I 2 8), vi b, vr 1, vi b, vi (c - (I 24 (I 2 8 * 24 + c)))], (I, zPp π, D, 137)) (G := (zr (c - (I 24 (I 2 8 * 24 + c)))) ∧ True) rfl ⟨by omega, trivial⟩ ?_
  refine z_ci 74 [vr 1, vi b, vi (I 2 8)] [vi b, vi (c - (I 24 (I 2 8 * 24 + c)))] rfl (m_place1 ⟨hb, by omega, by omega⟩ w) ?_
  refine z_n 1 (332, [(6, vi (I 2 8)), (5, vi c), (4, vi b), (3, vi 1), (1, vr 1)], [vi (b - (I 24 (I 2 8 * 24 + b))), vi (c - (I 24 (I 2 8 * 24 + c)))], (I, zPp π, D, 137)) (G := (zr (b - (I 24 (I 2 8 * 24 + b)))) ∧ True) rfl ⟨by omega, trivial⟩ ?_
  refine z_br ((b - (I 24 (I 2 8 * 24 + b))) < (c - (I 24 (I 2 8 * 24 + c)))) 339 335 [] rfl (fun h => absurd h (show ¬ ((b - (I 24 (I 2 8 * 24 + b))) < (c - (I 24 (I 2 8 * 24 + c)))) from by omega)) (fun hx4 => ?_)
  refine z_n 5 (284, [(5, vi (c + 1)), (3, vi 1), (6, vi (I 2 8)), (4, vi b), (1, vr 1)], [], (I, zPp π, D, 137)) (G := (zr (c + 1)) ∧ True) rfl ⟨by omega, trivial⟩ ?_
  refine z_sub [(5, vi (c + 1)), (4, vi b), (3, vi 1), (1, vr 1)] [0, 3, 1, 4] rfl ?_
  exact ih (c + 1) (by omega) (by omega)
set_option maxHeartbeats 4000000 in
set_option maxRecDepth 20000 in
theorem m_l236 {I : zI} {π : Int → Nat} {D : zD} (s : zSm I π) (h1 : 1 ≤ I 25 1) : ∃ τ : zS, τ.2.2.2 = 137 ∧ zRuns 82 236 [(3, vi 1), (1, vr 1)] [] (I, zPp π, D, 137) (some (vi 1)) τ := by
  have ci := s.1.1
  have w : zW1 (I 2) := ci.1.1
  have v : zW2 (I 2) (I 6) (I 8) := ci.1.2.1
  have hN := w.1
  have hO := w.2.2.2.1
  have hT := w.2.2.1
  have hk := s.2.1
  obtain ⟨τ, hτ, hrun⟩ := m_l347 (D := D) s h1
  refine ⟨τ, hτ, ?_⟩
  by_cases h8 : I 2 8 ≤ 0
  · refine z_n 1 (237, [(3, vi 1), (1, vr 1)], [vr 1], (I, zPp π, D, 137)) rfl trivial ?_
    refine z_ci 76 [vr 1] [] rfl (m_bestRise0 h8) ?_
    refine z_n 2 (243, [(4, vi (-1004)), (3, vi 1), (1, vr 1)], [vi 1], (I, zPp π, D, 137)) rfl trivial ?_
    refine z_br ((1 : Int) = 0) 279 246 [] rfl (fun h => absurd h (show ¬ ((1 : Int) = 0) from by decide)) (fun hx1 => ?_)
    refine z_n 2 (251, [(4, vi (-1004)), (3, vi 1), (1, vr 1)], [vi (-1004), vi (-1004)], (I, zPp π, D, 137)) rfl trivial ?_
    refine z_br (¬ (-1004 : Int) = (-1004)) 258 254 [] rfl (fun h => absurd h (show ¬ (¬ (-1004 : Int) = (-1004)) from by decide)) (fun hx2 => ?_)
    refine z_n 4 (261, [(4, vi (-1004)), (3, vi 1), (1, vr 1)], [vi 4, vr 1, vi 1], (I, zPp π, D, 137)) rfl trivial ?_
    refine z_ci 60 [vr 1, vi 4] [vi 1] rfl (m_count4) ?_
    refine z_br (¬ (I 2 8) = 0) 271 267 [vi 1] rfl (fun h => absurd h (show ¬ (¬ (I 2 8) = 0) from by omega)) (fun hx3 => ?_)
    refine z_n 2 (272, [(4, vi (-1004)), (3, vi 1), (1, vr 1)], [vi 1, vi 1], (I, zPp π, D, 137)) rfl trivial ?_
    refine z_br (¬ (1 : Int) = 1) 279 275 [] rfl (fun h => absurd h (show ¬ (¬ (1 : Int) = 1) from by decide)) (fun hx4 => ?_)
    refine z_n 8 (288, [(5, vi 0), (3, vi 1), (4, vi (-1004)), (1, vr 1)], [vi 0, vr 1, vi 0], (I, zPp π, D, 137)) rfl trivial ?_
    refine z_ci 60 [vr 1, vi 0] [vi 0] rfl (m_count0) ?_
    refine z_br ((I 2 5) ≤ 0) 347 294 [] rfl (fun h => absurd h (show ¬ ((I 2 5) ≤ 0) from by omega)) (fun hx5 => ?_)
    refine z_n 1 (295, [(5, vi 0), (3, vi 1), (4, vi (-1004)), (1, vr 1)], [vi 1], (I, zPp π, D, 137)) rfl trivial ?_
    refine z_br ((1 : Int) = 0) 347 298 [] rfl (fun h => absurd h (show ¬ ((1 : Int) = 0) from by decide)) (fun hx6 => ?_)
    refine z_n 1 (300, [(5, vi 0), (3, vi 1), (4, vi (-1004)), (1, vr 1)], [vi (-1004)], (I, zPp π, D, 137)) rfl trivial ?_
    refine z_br ((-1004 : Int) < 0) 347 303 [] rfl (fun hx7 => ?_) (fun h => absurd (show (-1004 : Int) < 0 from by decide) h)
    refine z_sub [(3, vi 1), (1, vr 1)] [1, 3] rfl ?_
    exact hrun
  have hpa : ∀ d c, 0 ≤ d → d ≤ I 2 8 → 0 ≤ c → c < I 2 5 → 0 ≤ I 24 (d * 24 + c) ∧ I 24 (d * 24 + c) < 24 := fun d c d0 d1 c0 c1 => by
    have := ci.1.2.2.2.2.1 d c d0 d1 c0 c1
    have h9 : 0 ≤ I 24 (d * 24 + c) ∧ I 24 (d * 24 + c) < I 2 5 := this
    omega
  have hp0 : ∀ c, 0 ≤ c → c < I 2 5 → I 24 (0 * 24 + c) = c := fun c c0 c1 => ci.1.2.2.2.2.2 c c0 c1
  have hbr := m_bestRise1 (π := π) (D := D) (by omega) w v hpa
  have hb := zbst_in (ri := (fun c => I 24 (0 * 24 + c) - I 24 (I 2 8 * 24 + c))) (Or := I 8) (N := I 2 5) (fun q a b => ⟨(v.2.1 q a b).1, (v.2.1 q a b).2.1⟩) (I 2 5).toNat (by omega) (by omega)
  have hmx : ∀ c, 0 ≤ c → c < I 2 5 → c - I 24 (I 2 8 * 24 + c) ≤ (zbst (fun c => I 24 (0 * 24 + c) - I 24 (I 2 8 * 24 + c)) (I 8) (I 2 5).toNat) - I 24 (I 2 8 * 24 + (zbst (fun c => I 24 (0 * 24 + c) - I 24 (I 2 8 * 24 + c)) (I 8) (I 2 5).toNat)) := fun c c0 c1 => by
    have q := v.1 c c0 c1
    have h9 := zbst_max (ri := (fun c => I 24 (0 * 24 + c) - I 24 (I 2 8 * 24 + c))) (Or := I 8) (I 2 5).toNat (I 6 c) q.1 (by omega)
    rw [q.2.2] at h9
    have h8 : I 24 (0 * 24 + c) - I 24 (I 2 8 * 24 + c) ≤ I 24 (0 * 24 + (zbst (fun c => I 24 (0 * 24 + c) - I 24 (I 2 8 * 24 + c)) (I 8) (I 2 5).toNat)) - I 24 (I 2 8 * 24 + (zbst (fun c => I 24 (0 * 24 + c) - I 24 (I 2 8 * 24 + c)) (I 8) (I 2 5).toNat)) := h9
    rw [hp0 c c0 c1, hp0 _ hb.1 hb.2] at h8
    exact h8
  generalize zbst (fun c => I 24 (0 * 24 + c) - I 24 (I 2 8 * 24 + c)) (I 8) (I 2 5).toNat = b at hbr hb hmx
  refine z_n 1 (237, [(3, vi 1), (1, vr 1)], [vr 1], (I, zPp π, D, 137)) rfl trivial ?_
  refine z_ci 76 [vr 1] [] rfl (hbr) ?_
  refine z_n 2 (243, [(4, vi b), (3, vi 1), (1, vr 1)], [vi 1], (I, zPp π, D, 137)) rfl trivial ?_
  refine z_br ((1 : Int) = 0) 279 246 [] rfl (fun h => absurd h (show ¬ ((1 : Int) = 0) from by decide)) (fun hx1 => ?_)
  refine z_n 2 (251, [(4, vi b), (3, vi 1), (1, vr 1)], [vi (-1004), vi b], (I, zPp π, D, 137)) rfl trivial ?_
  refine z_br (¬ b = (-1004)) 258 254 [] rfl (fun hx2 => ?_) (fun h => absurd (show ¬ b = (-1004) from by omega) h)
  refine z_n 3 (261, [(4, vi b), (3, vi 1), (1, vr 1)], [vi 4, vr 1, vi 0], (I, zPp π, D, 137)) rfl trivial ?_
  refine z_ci 60 [vr 1, vi 4] [vi 0] rfl (m_count4) ?_
  refine z_br (¬ (I 2 8) = 0) 271 267 [vi 0] rfl (fun hx3 => ?_) (fun h => absurd (show ¬ (I 2 8) = 0 from by omega) h)
  refine z_n 1 (272, [(4, vi b), (3, vi 1), (1, vr 1)], [vi 0, vi 0], (I, zPp π, D, 137)) rfl trivial ?_
  refine z_br (¬ (0 : Int) = 0) 279 275 [] rfl (fun h => absurd h (show ¬ (¬ (0 : Int) = 0) from by decide)) (fun hx4 => ?_)
  refine z_n 5 (284, [(5, vi 0), (3, vi 1), (4, vi b), (1, vr 1)], [], (I, zPp π, D, 137)) rfl trivial ?_
  refine z_sub [(5, vi 0), (4, vi b), (3, vi 1), (1, vr 1)] [0, 2, 1, 3] rfl ?_
  exact m_l284 s hb hmx hrun (I 2 5).toNat 0 (by omega) (by omega)
set_option maxHeartbeats 4000000 in
set_option maxRecDepth 20000 in
theorem m_l122  : ∀ (N : Nat) (k : Int) (I : zI) (π : Int → Nat) (D : zD), 0 ≤ k → k + N = 14 → zSm I π → 1 ≤ I 25 1 → I 9 2 = 0 → ∃ τ : zS, τ.2.2.2 = 137 ∧ zRuns 82 122 [(4, vi k), (3, vi 1), (1, vr 1), (0, vr 1000)] [] (I, zPp π, D, 137) (some (vi 1)) τ := by
  intro N
  induction N with
  | zero =>
    intro k I π D h0 hN9 s k1 h9
    obtain ⟨τ, hτ, hrun⟩ := m_l236 (D := D) s k1
    refine ⟨τ, hτ, ?_⟩
    refine z_n 2 (126, [(4, vi k), (3, vi 1), (1, vr 1), (0, vr 1000)], [vi 14, vi k], (I, zPp π, D, 137)) rfl trivial ?_
    refine z_br (14 ≤ k) 236 129 [] rfl (fun hx1 => ?_) (fun h => absurd (show 14 ≤ k from by omega) h)
    refine z_sub [(3, vi 1), (1, vr 1)] [1, 2] rfl ?_
    exact hrun
  | succ N ih =>
  intro k I π D h0 hN9 s k1 h9
  have ci := s.1.1
  have w : zW1 (I 2) := ci.1.1
  have v : zW2 (I 2) (I 6) (I 8) := ci.1.2.1
  have hN := w.1
  have hO := w.2.2.2.1
  have hT := w.2.2.1
  have hk := s.2.1
  by_cases hR : I 2 9 = -1
  · obtain ⟨τ, hτ, hrun⟩ := m_l236 (D := D) s k1
    refine ⟨τ, hτ, ?_⟩
    refine z_n 2 (126, [(4, vi k), (3, vi 1), (1, vr 1), (0, vr 1000)], [vi 14, vi k], (I, zPp π, D, 137)) rfl trivial ?_
    refine z_br (14 ≤ k) 236 129 [] rfl (fun h => absurd h (show ¬ (14 ≤ k) from by omega)) (fun hx1 => ?_)
    refine z_n 1 (130, [(4, vi k), (3, vi 1), (1, vr 1), (0, vr 1000)], [vi 1], (I, zPp π, D, 137)) rfl trivial ?_
    refine z_br ((1 : Int) = 0) 236 133 [] rfl (fun h => absurd h (show ¬ ((1 : Int) = 0) from by decide)) (fun hx2 => ?_)
    refine z_n 2 (135, [(4, vi k), (3, vi 1), (1, vr 1), (0, vr 1000)], [vi 5, vr 1], (I, zPp π, D, 137)) rfl trivial ?_
    refine z_ci 60 [vr 1, vi 5] [] rfl (m_count5 w) ?_
    refine z_br ((if I 2 9 = -1 then -1004 else I 2 9) < 0) 236 141 [] rfl (fun hx3 => ?_) (fun h => absurd (show (if I 2 9 = -1 then -1004 else I 2 9) < 0 from by rw [if_pos hR]; decide) h)
    refine z_sub [(3, vi 1), (1, vr 1)] [1, 2] rfl ?_
    exact hrun
  have hR2 := w.2.2.2.2.1
  obtain ⟨x, hx0, hx⟩ := m_cell (I := I) (π := π) (D := D) (k := 27 + k) (by omega)
  by_cases h3 : x % 3 = 0
  · obtain ⟨xf, I1, D1, hfo, ar, hxf⟩ := op_foretold (D := D) s
    have s1 := zSm_r s ar
    have hq : ¬ I1 2 9 = -1 ∧ I1 9 2 = 0 := by rw [ar 2 (by decide), ar 9 (by decide)]; exact ⟨hR, h9⟩
    obtain ⟨I2, D2, hro, s2, k2, e9, ht⟩ := op_row (D := D1) s1 hq
    have hkp := zkp_b s1.2.1
    have eX : zFX (zX I1 2) = zFX (zX I 2) := by
      unfold zFX
      rw [show zX I1 2 0 = zX I 2 0 from ar 2 (by decide), show zX I1 2 2 = zX I 2 2 from ar 4 (by decide), show zX I1 2 6 = zX I 2 6 from ar 8 (by decide)]
    rw [← eX] at hxf
    obtain ⟨τ, hτ, hrun⟩ := ih (k + 1) I2 (zkr π (I1 25 1)) D2 (by omega) (by omega) s2 (by omega) e9
    refine ⟨τ, hτ, ?_⟩
    by_cases e4 : xf = -1004
    · have e0 := hxf.mp e4
      refine z_n 2 (126, [(4, vi k), (3, vi 1), (1, vr 1), (0, vr 1000)], [vi 14, vi k], (I, zPp π, D, 137)) rfl trivial ?_
      refine z_br (14 ≤ k) 236 129 [] rfl (fun h => absurd h (show ¬ (14 ≤ k) from by omega)) (fun hx1 => ?_)
      refine z_n 1 (130, [(4, vi k), (3, vi 1), (1, vr 1), (0, vr 1000)], [vi 1], (I, zPp π, D, 137)) rfl trivial ?_
      refine z_br ((1 : Int) = 0) 236 133 [] rfl (fun h => absurd h (show ¬ ((1 : Int) = 0) from by decide)) (fun hx2 => ?_)
      refine z_n 2 (135, [(4, vi k), (3, vi 1), (1, vr 1), (0, vr 1000)], [vi 5, vr 1], (I, zPp π, D, 137)) rfl trivial ?_
      refine z_ci 60 [vr 1, vi 5] [] rfl (m_c5r w hR) ?_
      refine z_br ((I 2 9) < 0) 236 141 [] rfl (fun h => absurd h (show ¬ ((I 2 9) < 0) from by omega)) (fun hx3 => ?_)
      refine z_n 4 (147, [(4, vi k), (3, vi 1), (1, vr 1), (0, vr 1000)], [vi (27 + k), vr 1000], (I, zPp π, D, 137)) (G := (zr (27 + k)) ∧ True) rfl ⟨by omega, trivial⟩ ?_
      refine z_ci 79 [vr 1000, vi (27 + k)] [] rfl (hx) ?_
      refine z_n 2 (152, [(4, vi k), (3, vi 1), (1, vr 1), (0, vr 1000)], [vi (x % 3)], (I, zPp π, D, 137)) (G := (0 ≤ x ∧ 0 < 3) ∧ True) rfl ⟨⟨hx0.1, by omega⟩, trivial⟩ ?_
      refine z_br (¬ (x % 3) = 0) 216 155 [] rfl (fun h => absurd h (show ¬ (¬ (x % 3) = 0) from by omega)) (fun hx4 => ?_)
      refine z_n 3 (158, [(4, vi k), (3, vi 1), (1, vr 1), (0, vr 1000)], [vi 0, vi 0, vr 1], (I, zPp π, D, 137)) rfl trivial ?_
      refine z_ci 71 [vr 1, vi 0, vi 0] [] rfl (hfo) ?_
      refine z_n 2 (164, [(5, vi xf), (4, vi k), (3, vi 1), (1, vr 1), (0, vr 1000)], [vr 1], (I1, zPp (π), D1, 137)) rfl trivial ?_
      refine z_ci 72 [vr 1] [] rfl (hro) ?_
      refine z_n 2 (171, [(6, vi ((zFX (zX I1 2)).2.1)), (5, vi xf), (4, vi k), (3, vi 1), (1, vr 1), (0, vr 1000)], [vi ((zFX (zX I1 2)).2.1)], (I2, zPp (zkr π (I1 25 1)), D2, 137)) rfl trivial ?_
      refine z_br (((zFX (zX I1 2)).2.1) < 0) 211 174 [] rfl (fun h => absurd h (show ¬ (((zFX (zX I1 2)).2.1) < 0) from by omega)) (fun hx5 => ?_)
      refine z_n 2 (179, [(6, vi ((zFX (zX I1 2)).2.1)), (5, vi xf), (4, vi k), (3, vi 1), (1, vr 1), (0, vr 1000)], [vi (-1004), vi xf], (I2, zPp (zkr π (I1 25 1)), D2, 137)) rfl trivial ?_
      refine z_br (¬ xf = (-1004)) 186 182 [] rfl (fun h => absurd h (show ¬ (¬ xf = (-1004)) from fun h9 => h9 e4)) (fun hx6 => ?_)
      refine z_n 3 (189, [(6, vi ((zFX (zX I1 2)).2.1)), (5, vi xf), (4, vi k), (3, vi 1), (1, vr 1), (0, vr 1000)], [vi ((zFX (zX I1 2)).2.1), vi 1], (I2, zPp (zkr π (I1 25 1)), D2, 137)) rfl trivial ?_
      refine z_br (¬ ((zFX (zX I1 2)).2.1) = 0) 196 192 [vi 1] rfl (fun h => absurd h (show ¬ (¬ ((zFX (zX I1 2)).2.1) = 0) from fun h9 => h9 (by omega))) (fun hx7 => ?_)
      refine z_n 2 (197, [(6, vi ((zFX (zX I1 2)).2.1)), (5, vi xf), (4, vi k), (3, vi 1), (1, vr 1), (0, vr 1000)], [vi 1, vi 1], (I2, zPp (zkr π (I1 25 1)), D2, 137)) rfl trivial ?_
      refine z_br (¬ (1 : Int) = 1) 211 200 [] rfl (fun h => absurd h (show ¬ (¬ (1 : Int) = 1) from by decide)) (fun hx8 => ?_)
      refine z_n 1 (201, [(6, vi ((zFX (zX I1 2)).2.1)), (5, vi xf), (4, vi k), (3, vi 1), (1, vr 1), (0, vr 1000)], [vr 1], (I2, zPp (zkr π (I1 25 1)), D2, 137)) rfl trivial ?_
      refine z_ci 80 [vr 1] [] rfl (m_holds (I := I2) s2.1) ?_
      refine z_br ((1 : Int) = 0) 211 207 [] rfl (fun h => absurd h (show ¬ ((1 : Int) = 0) from by decide)) (fun hx9 => ?_)
      refine z_n 6 (122, [(4, vi (k + 1)), (3, vi 1), (6, vi ((zFX (zX I1 2)).2.1)), (5, vi xf), (1, vr 1), (0, vr 1000)], [], (I2, zPp (zkr π (I1 25 1)), D2, 137)) (G := (zr (k + 1)) ∧ True) rfl ⟨by omega, trivial⟩ ?_
      refine z_sub [(4, vi (k + 1)), (3, vi 1), (1, vr 1), (0, vr 1000)] [0, 1, 4, 5] rfl ?_
      exact hrun
    · have e0 : ¬ (zFX (zX I1 2)).2.1 = 0 := fun h9 => e4 (hxf.mpr h9)
      refine z_n 2 (126, [(4, vi k), (3, vi 1), (1, vr 1), (0, vr 1000)], [vi 14, vi k], (I, zPp π, D, 137)) rfl trivial ?_
      refine z_br (14 ≤ k) 236 129 [] rfl (fun h => absurd h (show ¬ (14 ≤ k) from by omega)) (fun hx1 => ?_)
      refine z_n 1 (130, [(4, vi k), (3, vi 1), (1, vr 1), (0, vr 1000)], [vi 1], (I, zPp π, D, 137)) rfl trivial ?_
      refine z_br ((1 : Int) = 0) 236 133 [] rfl (fun h => absurd h (show ¬ ((1 : Int) = 0) from by decide)) (fun hx2 => ?_)
      refine z_n 2 (135, [(4, vi k), (3, vi 1), (1, vr 1), (0, vr 1000)], [vi 5, vr 1], (I, zPp π, D, 137)) rfl trivial ?_
      refine z_ci 60 [vr 1, vi 5] [] rfl (m_c5r w hR) ?_
      refine z_br ((I 2 9) < 0) 236 141 [] rfl (fun h => absurd h (show ¬ ((I 2 9) < 0) from by omega)) (fun hx3 => ?_)
      refine z_n 4 (147, [(4, vi k), (3, vi 1), (1, vr 1), (0, vr 1000)], [vi (27 + k), vr 1000], (I, zPp π, D, 137)) (G := (zr (27 + k)) ∧ True) rfl ⟨by omega, trivial⟩ ?_
      refine z_ci 79 [vr 1000, vi (27 + k)] [] rfl (hx) ?_
      refine z_n 2 (152, [(4, vi k), (3, vi 1), (1, vr 1), (0, vr 1000)], [vi (x % 3)], (I, zPp π, D, 137)) (G := (0 ≤ x ∧ 0 < 3) ∧ True) rfl ⟨⟨hx0.1, by omega⟩, trivial⟩ ?_
      refine z_br (¬ (x % 3) = 0) 216 155 [] rfl (fun h => absurd h (show ¬ (¬ (x % 3) = 0) from by omega)) (fun hx4 => ?_)
      refine z_n 3 (158, [(4, vi k), (3, vi 1), (1, vr 1), (0, vr 1000)], [vi 0, vi 0, vr 1], (I, zPp π, D, 137)) rfl trivial ?_
      refine z_ci 71 [vr 1, vi 0, vi 0] [] rfl (hfo) ?_
      refine z_n 2 (164, [(5, vi xf), (4, vi k), (3, vi 1), (1, vr 1), (0, vr 1000)], [vr 1], (I1, zPp (π), D1, 137)) rfl trivial ?_
      refine z_ci 72 [vr 1] [] rfl (hro) ?_
      refine z_n 2 (171, [(6, vi ((zFX (zX I1 2)).2.1)), (5, vi xf), (4, vi k), (3, vi 1), (1, vr 1), (0, vr 1000)], [vi ((zFX (zX I1 2)).2.1)], (I2, zPp (zkr π (I1 25 1)), D2, 137)) rfl trivial ?_
      refine z_br (((zFX (zX I1 2)).2.1) < 0) 211 174 [] rfl (fun h => absurd h (show ¬ (((zFX (zX I1 2)).2.1) < 0) from by omega)) (fun hx5 => ?_)
      refine z_n 2 (179, [(6, vi ((zFX (zX I1 2)).2.1)), (5, vi xf), (4, vi k), (3, vi 1), (1, vr 1), (0, vr 1000)], [vi (-1004), vi xf], (I2, zPp (zkr π (I1 25 1)), D2, 137)) rfl trivial ?_
      refine z_br (¬ xf = (-1004)) 186 182 [] rfl (fun hx6 => ?_) (fun h => absurd (show ¬ xf = (-1004) from e4) h)
      refine z_n 2 (189, [(6, vi ((zFX (zX I1 2)).2.1)), (5, vi xf), (4, vi k), (3, vi 1), (1, vr 1), (0, vr 1000)], [vi ((zFX (zX I1 2)).2.1), vi 0], (I2, zPp (zkr π (I1 25 1)), D2, 137)) rfl trivial ?_
      refine z_br (¬ ((zFX (zX I1 2)).2.1) = 0) 196 192 [vi 0] rfl (fun hx7 => ?_) (fun h => absurd (show ¬ ((zFX (zX I1 2)).2.1) = 0 from by omega) h)
      refine z_n 1 (197, [(6, vi ((zFX (zX I1 2)).2.1)), (5, vi xf), (4, vi k), (3, vi 1), (1, vr 1), (0, vr 1000)], [vi 0, vi 0], (I2, zPp (zkr π (I1 25 1)), D2, 137)) rfl trivial ?_
      refine z_br (¬ (0 : Int) = 0) 211 200 [] rfl (fun h => absurd h (show ¬ (¬ (0 : Int) = 0) from by decide)) (fun hx8 => ?_)
      refine z_n 1 (201, [(6, vi ((zFX (zX I1 2)).2.1)), (5, vi xf), (4, vi k), (3, vi 1), (1, vr 1), (0, vr 1000)], [vr 1], (I2, zPp (zkr π (I1 25 1)), D2, 137)) rfl trivial ?_
      refine z_ci 80 [vr 1] [] rfl (m_holds (I := I2) s2.1) ?_
      refine z_br ((1 : Int) = 0) 211 207 [] rfl (fun h => absurd h (show ¬ ((1 : Int) = 0) from by decide)) (fun hx9 => ?_)
      refine z_n 6 (122, [(4, vi (k + 1)), (3, vi 1), (6, vi ((zFX (zX I1 2)).2.1)), (5, vi xf), (1, vr 1), (0, vr 1000)], [], (I2, zPp (zkr π (I1 25 1)), D2, 137)) (G := (zr (k + 1)) ∧ True) rfl ⟨by omega, trivial⟩ ?_
      refine z_sub [(4, vi (k + 1)), (3, vi 1), (1, vr 1), (0, vr 1000)] [0, 1, 4, 5] rfl ?_
      exact hrun
  · obtain ⟨I2, π2, hra, s2, k2, e9⟩ := m_raced (D := D) (f := 41 + 6 * k) s hR (by omega)
    obtain ⟨τ, hτ, hrun⟩ := ih (k + 1) I2 π2 D (by omega) (by omega) s2 k2 e9
    refine ⟨τ, hτ, ?_⟩
    refine z_n 2 (126, [(4, vi k), (3, vi 1), (1, vr 1), (0, vr 1000)], [vi 14, vi k], (I, zPp π, D, 137)) rfl trivial ?_
    refine z_br (14 ≤ k) 236 129 [] rfl (fun h => absurd h (show ¬ (14 ≤ k) from by omega)) (fun hx1 => ?_)
    refine z_n 1 (130, [(4, vi k), (3, vi 1), (1, vr 1), (0, vr 1000)], [vi 1], (I, zPp π, D, 137)) rfl trivial ?_
    refine z_br ((1 : Int) = 0) 236 133 [] rfl (fun h => absurd h (show ¬ ((1 : Int) = 0) from by decide)) (fun hx2 => ?_)
    refine z_n 2 (135, [(4, vi k), (3, vi 1), (1, vr 1), (0, vr 1000)], [vi 5, vr 1], (I, zPp π, D, 137)) rfl trivial ?_
    refine z_ci 60 [vr 1, vi 5] [] rfl (m_c5r w hR) ?_
    refine z_br ((I 2 9) < 0) 236 141 [] rfl (fun h => absurd h (show ¬ ((I 2 9) < 0) from by omega)) (fun hx3 => ?_)
    refine z_n 4 (147, [(4, vi k), (3, vi 1), (1, vr 1), (0, vr 1000)], [vi (27 + k), vr 1000], (I, zPp π, D, 137)) (G := (zr (27 + k)) ∧ True) rfl ⟨by omega, trivial⟩ ?_
    refine z_ci 79 [vr 1000, vi (27 + k)] [] rfl (hx) ?_
    refine z_n 2 (152, [(4, vi k), (3, vi 1), (1, vr 1), (0, vr 1000)], [vi (x % 3)], (I, zPp π, D, 137)) (G := (0 ≤ x ∧ 0 < 3) ∧ True) rfl ⟨⟨hx0.1, by omega⟩, trivial⟩ ?_
    refine z_br (¬ (x % 3) = 0) 216 155 [] rfl (fun hx4 => ?_) (fun h => absurd (show ¬ (x % 3) = 0 from by omega) h)
    refine z_n 7 (226, [(4, vi k), (3, vi 1), (1, vr 1), (0, vr 1000)], [vi (41 + (6 * k)), vr 1000, vr 1], (I, zPp π, D, 137)) (G := (zr (6 * k)) ∧ (zr (41 + (6 * k))) ∧ True) rfl ⟨by omega, by omega, trivial⟩ ?_
    refine z_ci 81 [vr 1, vr 1000, vi (41 + (6 * k))] [] rfl (hra) ?_
    refine z_n 3 (122, [(4, vi (k + 1)), (3, vi 1), (1, vr 1), (0, vr 1000)], [], (I2, zPp (π2), D, 137)) (G := (zr (k + 1)) ∧ True) rfl ⟨by omega, trivial⟩ ?_
    refine z_sub [(4, vi (k + 1)), (3, vi 1), (1, vr 1), (0, vr 1000)] [0, 1, 2, 3] rfl ?_
    exact hrun
set_option maxHeartbeats 4000000 in
set_option maxRecDepth 20000 in
theorem m_l67  : ∀ (N : Nat) (c : Int) (I : zI) (π : Int → Nat) (D : zD), 0 ≤ c → c + N = I 2 5 → zSm I π → 1 ≤ I 25 1 → I 9 2 = 0 → (∀ q, c ≤ q → q < I 2 5 → I 4 q = 400) → ∃ τ : zS, τ.2.2.2 = 137 ∧ zRuns 82 67 [(4, vi c), (3, vi 1), (1, vr 1), (0, vr 1000)] [] (I, zPp π, D, 137) (some (vi 1)) τ := by
  intro N
  induction N with
  | zero =>
    intro c I π D h0 hN9 s k1 h9 hsp
    have ci := s.1.1
    have w : zW1 (I 2) := ci.1.1
    have v : zW2 (I 2) (I 6) (I 8) := ci.1.2.1
    have hN := w.1
    have hO := w.2.2.2.1
    have hT := w.2.2.1
    have hk := s.2.1
    obtain ⟨τ, hτ, hrun⟩ := m_l122 14 0 I π D (by omega) (by omega) s k1 h9
    refine ⟨τ, hτ, ?_⟩
    refine z_n 3 (71, [(4, vi c), (3, vi 1), (1, vr 1), (0, vr 1000)], [vi 0, vr 1, vi c], (I, zPp π, D, 137)) rfl trivial ?_
    refine z_ci 60 [vr 1, vi 0] [vi c] rfl (m_count0) ?_
    refine z_br ((I 2 5) ≤ c) 119 77 [] rfl (fun hx1 => ?_) (fun h => absurd (show (I 2 5) ≤ c from by omega) h)
    refine z_n 2 (122, [(4, vi 0), (3, vi 1), (1, vr 1), (0, vr 1000)], [], (I, zPp π, D, 137)) rfl trivial ?_
    refine z_sub [(4, vi 0), (3, vi 1), (1, vr 1), (0, vr 1000)] [0, 1, 2, 3] rfl ?_
    exact hrun
  | succ N ih =>
  intro c I π D h0 hN9 s k1 h9 hsp
  have ci := s.1.1
  have w : zW1 (I 2) := ci.1.1
  have v : zW2 (I 2) (I 6) (I 8) := ci.1.2.1
  have hN := w.1
  have hO := w.2.2.2.1
  have hT := w.2.2.1
  have hk := s.2.1
  obtain ⟨x, hx0, hx⟩ := m_cell (I := I) (π := π) (D := D) (k := 3 + c) (by omega)
  have e4 := hsp c (Int.le_refl _) (by omega)
  obtain ⟨I1, hs, s1, k2, f2, f9, f4⟩ := op_setSpeed (D := D) (c := c) (x := 1 + x % 1000) s ⟨⟨h0, by omega⟩, by omega, by omega⟩
  have hkp := zkp_b hk
  obtain ⟨τ, hτ, hrun⟩ := ih (c + 1) I1 (zkr π (I 25 1)) D (by omega) (by rw [f2]; omega) s1 (by omega) (by rw [f9]; exact h9) (fun q q0 q1 => by rw [f4 q (by omega)]; exact hsp q (by omega) (by rw [f2] at q1; exact q1))
  refine ⟨τ, hτ, ?_⟩
  refine z_n 3 (71, [(4, vi c), (3, vi 1), (1, vr 1), (0, vr 1000)], [vi 0, vr 1, vi c], (I, zPp π, D, 137)) rfl trivial ?_
  refine z_ci 60 [vr 1, vi 0] [vi c] rfl (m_count0) ?_
  refine z_br ((I 2 5) ≤ c) 119 77 [] rfl (fun h => absurd h (show ¬ ((I 2 5) ≤ c) from by omega)) (fun hx1 => ?_)
  refine z_n 1 (78, [(4, vi c), (3, vi 1), (1, vr 1), (0, vr 1000)], [vi 1], (I, zPp π, D, 137)) rfl trivial ?_
  refine z_br ((1 : Int) = 0) 119 81 [] rfl (fun h => absurd h (show ¬ ((1 : Int) = 0) from by decide)) (fun hx2 => ?_)
  refine z_n 7 (90, [(4, vi c), (3, vi 1), (1, vr 1), (0, vr 1000)], [vi (3 + c), vr 1000, vi 1, vi c, vr 1], (I, zPp π, D, 137)) (G := (zr (3 + c)) ∧ True) rfl ⟨by omega, trivial⟩ ?_
  refine z_ci 79 [vr 1000, vi (3 + c)] [vi 1, vi c, vr 1] rfl (hx) ?_
  refine z_n 3 (98, [(4, vi c), (3, vi 1), (1, vr 1), (0, vr 1000)], [vi (1 + (x % 1000)), vi c, vr 1], (I, zPp π, D, 137)) (G := (0 ≤ x ∧ 0 < 1000) ∧ (zr (1 + (x % 1000))) ∧ True) rfl ⟨⟨hx0.1, by omega⟩, by omega, trivial⟩ ?_
  refine z_ci 59 [vr 1, vi c, vi (1 + (x % 1000))] [] rfl (hs) ?_
  refine z_n 1 (104, [(4, vi c), (3, vi 1), (1, vr 1), (0, vr 1000)], [vi 400, vi (I 4 c)], (I1, zPp (zkr π (I 25 1)), D, 137)) rfl trivial ?_
  refine z_br (¬ (I 4 c) = 400) 111 107 [] rfl (fun h => absurd h (show ¬ (¬ (I 4 c) = 400) from fun h9 => h9 e4)) (fun hx3 => ?_)
  refine z_n 5 (67, [(4, vi (c + 1)), (3, vi 1), (1, vr 1), (0, vr 1000)], [], (I1, zPp (zkr π (I 25 1)), D, 137)) (G := (zr (c + 1)) ∧ True) rfl ⟨by omega, trivial⟩ ?_
  refine z_sub [(4, vi (c + 1)), (3, vi 1), (1, vr 1), (0, vr 1000)] [0, 1, 2, 3] rfl ?_
  exact hrun
set_option maxHeartbeats 4000000 in
set_option maxRecDepth 20000 in
theorem law_run {I0 : zI} (hI : ∀ r, 1 ≤ r → r < 137 → ∀ j, I0 r j = 0) : ∃ τ : zS, τ.2.2.2 = 137 ∧ zMet 82 [vr 1000] (I0, zPz, zDz, 1) (some (vi 1)) τ := by
  have f1 : ∀ j, I0 1 j = 0 ∧ zPz 1 j = 0 ∧ zDz 1 j = 0 := fun j => ⟨hI 1 (by decide) (by decide) j, rfl, rfl⟩
  have hnew := m_cnew (I := I0) hI
  have s0 := zSm_0 hI
  obtain ⟨IC, eC⟩ : ∃ IC, IC = (zBeg (zup (zup (zup (zup (zup (zup (zup (zup (zup (zup (zup (zup (zup (zup (zup (zup (zup (zup (zup I0 2 9 (-1)) 2 10 1500) 2 11 300) 27 9 (-1)) 27 10 1500) 27 11 300) 50 9 (-1)) 50 10 1500) 50 11 300) 73 9 (-1)) 73 10 1500) 73 11 300) 96 9 (-1)) 96 10 1500) 96 11 300) 2 5 12) 2 6 4) 2 7 4) 2 8 0)) := ⟨_, rfl⟩
  rw [← eC] at hnew s0
  obtain ⟨x0, h00, hx0⟩ := m_cell (I := IC) (π := zπ0) (D := zDz) (k := 0) (by omega)
  obtain ⟨x1, h01, hx1⟩ := m_cell (I := IC) (π := zπ0) (D := zDz) (k := 1) (by omega)
  obtain ⟨x2, h02, hx2⟩ := m_cell (I := IC) (π := zπ0) (D := zDz) (k := 2) (by omega)
  obtain ⟨I1, hbg, s1, k1, g5, g6, g4, g9⟩ := op_begin (D := zDz) (a := 2 + x0 % 23) (b := 3 + x1 % 6) (c := 1 + x2 % 4) s0 ⟨by omega, by omega, by omega⟩
  have w1 : zW1 (I1 2) := s1.1.1.1.1
  have hkp := zkp_b s0.2.1
  have ed : (2 + x0 % 23 + (3 + x1 % 6) - 1) / (3 + x1 % 6) = (I1 2 5 + I1 2 6 - 1) / I1 2 6 := by rw [g5, g6]
  obtain ⟨τ, hτ, hrun⟩ := m_l67 (I1 2 5).toNat 0 I1 (zkr zπ0 (IC 25 1)) zDz (by omega) (by have := w1.1; omega) s1 (by omega) g9 (fun q q0 q1 => g4 q q0 (by rw [← g5]; exact q1))
  refine ⟨τ, hτ, ?_⟩
  refine z_n 2 (4, [(0, vr 1000)], [vr 1, vr 1], (I0, zPz, zDz, 2)) (G := (zfresh (I0, zPz, zDz, 1)) ∧ True) rfl ⟨f1, trivial⟩ ?_
  refine z_cv 57 [vr 1] [vr 1] rfl (hnew) ?_
  refine z_n 5 (12, [(1, vr 1), (0, vr 1000)], [vi 0, vr 1000, vi 2, vr 1], (IC, zPp zπ0, zDz, 137)) rfl trivial ?_
  refine z_ci 79 [vr 1000, vi 0] [vi 2, vr 1] rfl (hx0) ?_
  refine z_n 6 (22, [(1, vr 1), (0, vr 1000)], [vi 1, vr 1000, vi 3, vi (2 + (x0 % 23)), vr 1], (IC, zPp zπ0, zDz, 137)) (G := (0 ≤ x0 ∧ 0 < 23) ∧ (zr (2 + (x0 % 23))) ∧ True) rfl ⟨⟨h00.1, by omega⟩, by omega, trivial⟩ ?_
  refine z_ci 79 [vr 1000, vi 1] [vi 3, vi (2 + (x0 % 23)), vr 1] rfl (hx1) ?_
  refine z_n 6 (32, [(1, vr 1), (0, vr 1000)], [vi 2, vr 1000, vi 1, vi (3 + (x1 % 6)), vi (2 + (x0 % 23)), vr 1], (IC, zPp zπ0, zDz, 137)) (G := (0 ≤ x1 ∧ 0 < 6) ∧ (zr (3 + (x1 % 6))) ∧ True) rfl ⟨⟨h01.1, by omega⟩, by omega, trivial⟩ ?_
  refine z_ci 79 [vr 1000, vi 2] [vi 1, vi (3 + (x1 % 6)), vi (2 + (x0 % 23)), vr 1] rfl (hx2) ?_
  refine z_n 3 (38, [(1, vr 1), (0, vr 1000)], [vi (1 + (x2 % 4)), vi (3 + (x1 % 6)), vi (2 + (x0 % 23)), vr 1], (IC, zPp zπ0, zDz, 137)) (G := (0 ≤ x2 ∧ 0 < 4) ∧ (zr (1 + (x2 % 4))) ∧ True) rfl ⟨⟨h02.1, by omega⟩, by omega, trivial⟩ ?_
  refine z_ci 58 [vr 1, vi (2 + (x0 % 23)), vi (3 + (x1 % 6)), vi (1 + (x2 % 4))] [] rfl (hbg) ?_
  refine z_n 4 (45, [(2, vi ((2 + x0 % 23 + (3 + x1 % 6) - 1) / (3 + x1 % 6))), (1, vr 1), (0, vr 1000)], [vi 2, vr 1, vi ((2 + x0 % 23 + (3 + x1 % 6) - 1) / (3 + x1 % 6))], (I1, zPp (zkr zπ0 (IC 25 1)), zDz, 137)) rfl trivial ?_
  refine z_ci 60 [vr 1, vi 2] [vi ((2 + x0 % 23 + (3 + x1 % 6) - 1) / (3 + x1 % 6))] rfl (m_count2 w1) ?_
  refine z_br (¬ ((2 + x0 % 23 + (3 + x1 % 6) - 1) / (3 + x1 % 6)) = ((I1 2 5 + I1 2 6 - 1) / I1 2 6)) 62 51 [] rfl (fun h => absurd h (show ¬ (¬ ((2 + x0 % 23 + (3 + x1 % 6) - 1) / (3 + x1 % 6)) = ((I1 2 5 + I1 2 6 - 1) / I1 2 6)) from fun h9 => h9 ed)) (fun hx1 => ?_)
  refine z_n 1 (52, [(2, vi ((2 + x0 % 23 + (3 + x1 % 6) - 1) / (3 + x1 % 6))), (1, vr 1), (0, vr 1000)], [vr 1], (I1, zPp (zkr zπ0 (IC 25 1)), zDz, 137)) rfl trivial ?_
  refine z_ci 80 [vr 1] [] rfl (m_holds (I := I1) s1.1) ?_
  refine z_br ((1 : Int) = 0) 62 58 [] rfl (fun h => absurd h (show ¬ ((1 : Int) = 0) from by decide)) (fun hx2 => ?_)
  refine z_n 5 (67, [(4, vi 0), (3, vi 1), (2, vi ((2 + x0 % 23 + (3 + x1 % 6) - 1) / (3 + x1 % 6))), (1, vr 1), (0, vr 1000)], [], (I1, zPp (zkr zπ0 (IC 25 1)), zDz, 137)) rfl trivial ?_
  refine z_sub [(4, vi 0), (3, vi 1), (1, vr 1), (0, vr 1000)] [0, 1, 3, 4] rfl ?_
  exact hrun
