set_option maxRecDepth 20000 in
theorem m_isDay1 {I : zI} {π : Int → Nat} {D : zD} {d : Int} (hO : 0 ≤ I 138 3 ∧ I 138 3 ≤ 6) (hq : 0 ≤ d ∧ d ≤ I 138 3) : zMet 128 [vr 137, vi d] (I, zPp π, D, 147) (some (vi 1)) (I, zPp π, D, 147) := by
  refine z_n 6 (8, [(0, vr 137), (1, vi d)], [vi (I 138 3), vi 0, vi d], (I, zPp π, D, 147)) (G := (0 ≤ 3 ∧ 3 < 585) ∧ True) rfl ⟨by omega, trivial⟩ ?_
  refine z_ci 93 [vi d, vi 0, vi (I 138 3)] [] rfl (m_in1 (by omega) (by omega)) ?_
  first | exact z_ret rfl rfl rfl | exact z_ret rfl (zv1 (by omega)) rfl | (exfalso; omega)
set_option maxRecDepth 20000 in
theorem m_isDay0 {I : zI} {π : Int → Nat} {D : zD} {d : Int} (hO : 0 ≤ I 138 3 ∧ I 138 3 ≤ 6) (hq : ¬ (0 ≤ d ∧ d ≤ I 138 3)) : zMet 128 [vr 137, vi d] (I, zPp π, D, 147) (some (vi 0)) (I, zPp π, D, 147) := by
  refine z_n 6 (8, [(0, vr 137), (1, vi d)], [vi (I 138 3), vi 0, vi d], (I, zPp π, D, 147)) (G := (0 ≤ 3 ∧ 3 < 585) ∧ True) rfl ⟨by omega, trivial⟩ ?_
  refine z_ci 93 [vi d, vi 0, vi (I 138 3)] [] rfl (m_in0 (by omega)) ?_
  first | exact z_ret rfl rfl rfl | exact z_ret rfl (zv1 (by omega)) rfl | (exfalso; omega)
set_option maxRecDepth 20000 in
theorem m_Rplacex {I : zI} {π : Int → Nat} {D : zD} {X : zI} {c d : Int} (e : zEq (I 138) X) (ci : zCI X) (hq : ¬ ((0 ≤ c ∧ c < X 0 5) ∧ (0 ≤ d ∧ d ≤ X 0 8))) : zMet 129 [vr 137, vi c, vi d] (I, zPp π, D, 147) (some (vi (-1001))) (I, zPp π, D, 147) := by
  obtain ⟨⟨m0, m1, m2, m3, m4, m5, m6⟩, mc, ⟨mb, mk⟩, ⟨ml, mg⟩, mt⟩ := id e
  obtain ⟨⟨w, v, hsp, ⟨⟨hl0, hl1⟩, hlg, hps⟩, hpt, hp0⟩, hm, hd⟩ := id ci
  have hzb := zns_b w
  have hm4 := zdis_le w v hd hm
  have hl2 := zlb_b w
  obtain ⟨⟨w1, w2⟩, ⟨w3, w4⟩, ⟨w5, w6⟩, ⟨w7, w8⟩, ⟨w9, w10⟩, w11, ⟨⟨w12, w12b⟩, w12c⟩, ⟨w13, w14⟩, ⟨w15, w16⟩⟩ := id w
  refine z_n 2 (2, [(0, vr 137), (1, vi c), (2, vi d)], [vi c, vr 137], (I, zPp π, D, 147)) rfl trivial ?_
  by_cases hx1 : 0 ≤ c ∧ c < I 138 0
  · refine z_ci 94 [vr 137, vi c] [] rfl (m_isCrew1 (by omega) hx1) ?_
    refine z_br ((1 : Int) = 0) 34 8 [] rfl (fun h => absurd h (show ¬ ((1 : Int) = 0) from by decide)) (fun hx2 => ?_)
    refine z_n 2 (10, [(0, vr 137), (1, vi c), (2, vi d)], [vi d, vr 137], (I, zPp π, D, 147)) rfl trivial ?_
    by_cases hx3 : 0 ≤ d ∧ d ≤ I 138 3
    · refine z_ci 128 [vr 137, vi d] [] rfl (m_isDay1 (by omega) hx3) ?_
      refine z_br ((1 : Int) = 0) 34 16 [] rfl (fun h => absurd h (show ¬ ((1 : Int) = 0) from by decide)) (fun hx4 => ?_)
      exfalso; omega
    · refine z_ci 128 [vr 137, vi d] [] rfl (m_isDay0 (by omega) hx3) ?_
      refine z_br ((0 : Int) = 0) 34 16 [] rfl (fun hx5 => ?_) (fun h => absurd (show (0 : Int) = 0 from by decide) h)
      refine z_n 1 (37, [(0, vr 137), (1, vi c), (2, vi d)], [vi (-1001)], (I, zPp π, D, 147)) rfl trivial ?_
      first | exact z_ret rfl (zv1 (by omega)) rfl | (exfalso; omega)
  · refine z_ci 94 [vr 137, vi c] [] rfl (m_isCrew0 (by omega) hx1) ?_
    refine z_br ((0 : Int) = 0) 34 8 [] rfl (fun hx6 => ?_) (fun h => absurd (show (0 : Int) = 0 from by decide) h)
    refine z_n 1 (37, [(0, vr 137), (1, vi c), (2, vi d)], [vi (-1001)], (I, zPp π, D, 147)) rfl trivial ?_
    first | exact z_ret rfl (zv1 (by omega)) rfl | (exfalso; omega)
set_option maxRecDepth 20000 in
theorem m_Rplace1 {I : zI} {π : Int → Nat} {D : zD} {X : zI} {c d : Int} (e : zEq (I 138) X) (ci : zCI X) (hq : (0 ≤ c ∧ c < X 0 5) ∧ (0 ≤ d ∧ d ≤ X 0 8)) : zMet 129 [vr 137, vi c, vi d] (I, zPp π, D, 147) (some (vi (X 22 (d * 24 + c)))) (I, zPp π, D, 147) := by
  obtain ⟨⟨m0, m1, m2, m3, m4, m5, m6⟩, mc, ⟨mb, mk⟩, ⟨ml, mg⟩, mt⟩ := id e
  obtain ⟨⟨w, v, hsp, ⟨⟨hl0, hl1⟩, hlg, hps⟩, hpt, hp0⟩, hm, hd⟩ := id ci
  have hzb := zns_b w
  have hm4 := zdis_le w v hd hm
  have hl2 := zlb_b w
  obtain ⟨⟨w1, w2⟩, ⟨w3, w4⟩, ⟨w5, w6⟩, ⟨w7, w8⟩, ⟨w9, w10⟩, w11, ⟨⟨w12, w12b⟩, w12c⟩, ⟨w13, w14⟩, ⟨w15, w16⟩⟩ := id w
  refine z_n 2 (2, [(0, vr 137), (1, vi c), (2, vi d)], [vi c, vr 137], (I, zPp π, D, 147)) rfl trivial ?_
  refine z_ci 94 [vr 137, vi c] [] rfl (m_isCrew1 (by omega) (by omega)) ?_
  refine z_br ((1 : Int) = 0) 34 8 [] rfl (fun h => absurd h (show ¬ ((1 : Int) = 0) from by decide)) (fun hx1 => ?_)
  refine z_n 2 (10, [(0, vr 137), (1, vi c), (2, vi d)], [vi d, vr 137], (I, zPp π, D, 147)) rfl trivial ?_
  refine z_ci 128 [vr 137, vi d] [] rfl (m_isDay1 (by omega) (by omega)) ?_
  refine z_br ((1 : Int) = 0) 34 16 [] rfl (fun h => absurd h (show ¬ ((1 : Int) = 0) from by decide)) (fun hx2 => ?_)
  refine z_n 11 (37, [(0, vr 137), (1, vi c), (2, vi d)], [vi (I 138 ((417 + (24 * d)) + c))], (I, zPp π, D, 147)) (G := (zr (24 * d)) ∧ (zr (417 + (24 * d))) ∧ (zr ((417 + (24 * d)) + c)) ∧ (0 ≤ ((417 + (24 * d)) + c) ∧ ((417 + (24 * d)) + c) < 585) ∧ True) rfl ⟨by omega, by omega, by omega, by omega, trivial⟩ ?_
  exact z_ret rfl (zv1 (mt d c hq.2.1 hq.2.2 hq.1.1 hq.1.2)) rfl
def zPs (I : zI) (g : Int → Int) : zI := fun r j => if r = 146 then g j else I r j
theorem zPs_i {I : zI} : zPs I (I 146) = I := by
  funext r j
  unfold zPs
  split
  · next h => rw [h]
  · rfl
theorem zPs_u {I : zI} {g : Int → Int} {k v : Int} : zup (zPs I g) 146 k v = zPs I (zu1 g k v) := by
  funext r j
  by_cases h : r = 146
  · subst h; simp [zup, zPs, zu1]
  · simp [zup, zPs, h]
theorem zPs_k {I : zI} {g : Int → Int} : zMk (zPs I g) I := ⟨fun r hr => funext fun j => if_neg (by omega), rfl, rfl, rfl, rfl, rfl⟩
theorem zstop {f : Int → Int} {d : Int} : ∀ n : Nat, ∃ j : Int, 0 ≤ j ∧ j ≤ n ∧ (∀ i, 0 ≤ i → i < j → f i ≤ d) ∧ (j = n ∨ (j < n ∧ d < f j))
  | 0 => ⟨0, by omega, by omega, fun i a b => by omega, Or.inl rfl⟩
  | n + 1 => by
    obtain ⟨j, j0, j1, j2, j3⟩ := zstop (f := f) (d := d) n
    rcases j3 with h | h
    · by_cases h2 : f n ≤ d
      · exact ⟨n + 1, by omega, by omega, fun i a b => by
          by_cases e : i = n
          · rw [e]; exact h2
          · exact j2 i a (by omega), Or.inl (by omega)⟩
      · exact ⟨j, j0, by omega, j2, Or.inr ⟨by omega, by rw [h]; omega⟩⟩
    · exact ⟨j, j0, by omega, j2, Or.inr ⟨by omega, h.2⟩⟩
set_option maxRecDepth 20000 in
theorem m_ag_2 {I : zI} {π : Int → Nat} {D : zD} {X : zI} {c d s : Int} (e : zEq (I 138) X) (ci : zCI X) (hc : 0 ≤ c ∧ c < X 0 5) (hs0 : 0 ≤ s ∧ s ≤ X 12 4) (hs1 : ∀ i, 0 ≤ i → i < s → X 14 i ≤ d) (hs2 : s = X 12 4 ∨ (s < X 12 4 ∧ d < X 14 s)) : ∀ (N : Nat) (k : Int) (g : Int → Int), 0 ≤ k → k + N = s → (∀ x, 0 ≤ x → x < 24 → g x = (zsw (X 16) (X 18) k.toNat) x) → ∃ J, zRuns 130 43 [(3, vi k), (0, vr 137), (1, vi c), (2, vi d)] [] ((zPs I g), zPp π, D, 147) (some (vi (zsw (X 16) (X 18) s.toNat c))) (J, zPp π, D, 147) ∧ zMk J I := by
  obtain ⟨⟨m0, m1, m2, m3, m4, m5, m6⟩, mc, ⟨mb, mk⟩, ⟨ml, mg⟩, mt⟩ := id e
  obtain ⟨⟨w, v, hsp, ⟨⟨hl0, hl1⟩, hlg, hps⟩, hpt, hp0⟩, hm, hd⟩ := id ci
  have hzb := zns_b w
  have hm4 := zdis_le w v hd hm
  have hl2 := zlb_b w
  obtain ⟨⟨w1, w2⟩, ⟨w3, w4⟩, ⟨w5, w6⟩, ⟨w7, w8⟩, ⟨w9, w10⟩, w11, ⟨⟨w12, w12b⟩, w12c⟩, ⟨w13, w14⟩, ⟨w15, w16⟩⟩ := id w
  intro N
  induction N with
  | zero =>
    intro k g h0 hN hg
    obtain rfl : k = s := by omega
    have mg9 := mg k
    refine ⟨zPs I g, ?_, zPs_k⟩
    refine z_n 5 (51, [(3, vi k), (0, vr 137), (1, vi c), (2, vi d)], [vi (I 138 80), vi k], ((zPs I g), zPp π, D, 147)) (G := (0 ≤ 80 ∧ 80 < 585) ∧ True) rfl ⟨by omega, trivial⟩ ?_
    refine z_br ((I 138 80) ≤ k) 137 54 [] rfl (fun hx1 => ?_) (fun hx1 => ?_)
    · refine z_n 4 (143, [(3, vi k), (0, vr 137), (1, vi c), (2, vi d)], [vi (g c)], ((zPs I g), zPp π, D, 147)) (G := (0 ≤ c ∧ c < 24) ∧ True) rfl ⟨by omega, trivial⟩ ?_
      exact z_ret rfl (zv1 (hg c hc.1 (by omega))) rfl
    · refine z_n 7 (64, [(3, vi k), (0, vr 137), (1, vi c), (2, vi d)], [vi d, vi (I 138 (81 + k))], ((zPs I g), zPp π, D, 147)) (G := (zr (81 + k)) ∧ (0 ≤ (81 + k) ∧ (81 + k) < 585) ∧ True) rfl ⟨by omega, by omega, trivial⟩ ?_
      refine z_br (d ≤ (I 138 (81 + k))) 137 67 [] rfl (fun hx2 => ?_) (fun hx2 => ?_)
      · refine z_n 4 (143, [(3, vi k), (0, vr 137), (1, vi c), (2, vi d)], [vi (g c)], ((zPs I g), zPp π, D, 147)) (G := (0 ≤ c ∧ c < 24) ∧ True) rfl ⟨by omega, trivial⟩ ?_
        exact z_ret rfl (zv1 (hg c hc.1 (by omega))) rfl
      · exfalso; omega
  | succ N ih =>
  intro k g h0 hN hg
  have mg9 := mg k h0 (by omega)
  have hl9 := hlg k h0 (by omega)
  have hk9 := hs1 k h0 (by omega)
  have ea := mg9.2.1
  have eb := mg9.2.2
  obtain ⟨J, hrun, hJ⟩ := ih (k + 1) (zu1 (zu1 g (I 138 (193 + k)) (g (I 138 (305 + k)))) (I 138 (305 + k)) (g (I 138 (193 + k)))) (by omega) (by omega) (fun x x0 x1 => by
    rw [zsw_s h0, ea, eb]
    unfold zu1
    dsimp only
    have ga := hg (X 16 k) (by omega) (by omega)
    have gb := hg (X 18 k) (by omega) (by omega)
    by_cases h2 : x = X 18 k
    · rw [if_pos h2, if_neg (by omega), if_pos h2, ga]
    · rw [if_neg h2]
      by_cases h1 : x = X 16 k
      · rw [if_pos h1, if_pos h1, gb]
      · rw [if_neg h1, if_neg h1, if_neg h2]; exact hg x x0 x1)
  refine ⟨J, ?_, hJ⟩
  refine z_n 5 (51, [(3, vi k), (0, vr 137), (1, vi c), (2, vi d)], [vi (I 138 80), vi k], ((zPs I g), zPp π, D, 147)) (G := (0 ≤ 80 ∧ 80 < 585) ∧ True) rfl ⟨by omega, trivial⟩ ?_
  refine z_br ((I 138 80) ≤ k) 137 54 [] rfl (fun h => absurd h (show ¬ ((I 138 80) ≤ k) from by omega)) (fun hx1 => ?_)
  refine z_n 7 (64, [(3, vi k), (0, vr 137), (1, vi c), (2, vi d)], [vi d, vi (I 138 (81 + k))], ((zPs I g), zPp π, D, 147)) (G := (zr (81 + k)) ∧ (0 ≤ (81 + k) ∧ (81 + k) < 585) ∧ True) rfl ⟨by omega, by omega, trivial⟩ ?_
  refine z_br (d ≤ (I 138 (81 + k))) 137 67 [] rfl (fun h => absurd h (show ¬ (d ≤ (I 138 (81 + k))) from by omega)) (fun hx2 => ?_)
  refine z_n 40 (43, [(3, vi (k + 1)), (4, vi (g (I 138 (193 + k)))), (0, vr 137), (1, vi c), (2, vi d)], [], ((zup (zup (zPs I g) 146 (I 138 (193 + k)) (g (I 138 (305 + k)))) 146 (I 138 (305 + k)) (g (I 138 (193 + k)))), zPp π, D, 147)) (G := (zr (193 + k)) ∧ (0 ≤ (193 + k) ∧ (193 + k) < 585) ∧ (0 ≤ (I 138 (193 + k)) ∧ (I 138 (193 + k)) < 24) ∧ (zr (193 + k)) ∧ (0 ≤ (193 + k) ∧ (193 + k) < 585) ∧ (zr (305 + k)) ∧ (0 ≤ (305 + k) ∧ (305 + k) < 585) ∧ (0 ≤ (I 138 (305 + k)) ∧ (I 138 (305 + k)) < 24) ∧ (0 ≤ (I 138 (193 + k)) ∧ (I 138 (193 + k)) < 24) ∧ (zr (305 + k)) ∧ (0 ≤ (305 + k) ∧ (305 + k) < 585) ∧ (0 ≤ (I 138 (305 + k)) ∧ (I 138 (305 + k)) < 24) ∧ (zr (k + 1)) ∧ True) rfl ⟨by omega, by omega, by omega, by omega, by omega, by omega, by omega, by omega, by omega, by omega, by omega, by omega, by omega, trivial⟩ ?_
  refine z_sub [(3, vi (k + 1)), (0, vr 137), (1, vi c), (2, vi d)] [0, 2, 3, 4] rfl ?_
  refine z_st (σ1 := ((zPs I (zu1 (zu1 g (I 138 (193 + k)) (g (I 138 (305 + k)))) (I 138 (305 + k)) (g (I 138 (193 + k))))), zPp π, D, 147)) (by rw [zPs_u, zPs_u]) ?_
  exact hrun
set_option maxRecDepth 20000 in
theorem m_ag_1 {I : zI} {π : Int → Nat} {D : zD} {X : zI} {c d s : Int} (e : zEq (I 138) X) (ci : zCI X) (hc : 0 ≤ c ∧ c < X 0 5) (hs0 : 0 ≤ s ∧ s ≤ X 12 4) (hs1 : ∀ i, 0 ≤ i → i < s → X 14 i ≤ d) (hs2 : s = X 12 4 ∨ (s < X 12 4 ∧ d < X 14 s)) : ∀ (N : Nat) (k : Int) (g : Int → Int), 0 ≤ k → k + N = 24 → (∀ x, 0 ≤ x → x < k → g x = x) → ∃ J, zRuns 130 22 [(3, vi k), (0, vr 137), (1, vi c), (2, vi d)] [] ((zPs I g), zPp π, D, 147) (some (vi (zsw (X 16) (X 18) s.toNat c))) (J, zPp π, D, 147) ∧ zMk J I := by
  intro N
  induction N with
  | zero =>
    intro k g h0 hN hg
    obtain ⟨J, hrun, hJ⟩ := m_ag_2 (π := π) (D := D) e ci hc hs0 hs1 hs2 s.toNat 0 g (by omega) (by omega) (fun x x0 x1 => hg x x0 (by omega))
    refine ⟨J, ?_, hJ⟩
    refine z_n 2 (25, [(3, vi k), (0, vr 137), (1, vi c), (2, vi d)], [vi 24, vi k], ((zPs I g), zPp π, D, 147)) rfl trivial ?_
    refine z_br (24 ≤ k) 41 28 [] rfl (fun hx1 => ?_) (fun h => absurd (show 24 ≤ k from by omega) h)
    refine z_n 2 (43, [(3, vi 0), (0, vr 137), (1, vi c), (2, vi d)], [], ((zPs I g), zPp π, D, 147)) rfl trivial ?_
    refine z_sub [(3, vi 0), (0, vr 137), (1, vi c), (2, vi d)] [0, 1, 2, 3] rfl ?_
    exact hrun
  | succ N ih =>
  intro k g h0 hN hg
  obtain ⟨J, hrun, hJ⟩ := ih (k + 1) (zu1 g k k) (by omega) (by omega) (fun x x0 x1 => by
    unfold zu1
    by_cases h2 : x = k
    · rw [if_pos h2, h2]
    · rw [if_neg h2]; exact hg x x0 (by omega))
  refine ⟨J, ?_, hJ⟩
  refine z_n 2 (25, [(3, vi k), (0, vr 137), (1, vi c), (2, vi d)], [vi 24, vi k], ((zPs I g), zPp π, D, 147)) rfl trivial ?_
  refine z_br (24 ≤ k) 41 28 [] rfl (fun h => absurd h (show ¬ (24 ≤ k) from by omega)) (fun hx1 => ?_)
  refine z_n 7 (22, [(3, vi (k + 1)), (0, vr 137), (1, vi c), (2, vi d)], [], ((zup (zPs I g) 146 k k), zPp π, D, 147)) (G := (0 ≤ k ∧ k < 24) ∧ (zr (k + 1)) ∧ True) rfl ⟨by omega, by omega, trivial⟩ ?_
  refine z_sub [(3, vi (k + 1)), (0, vr 137), (1, vi c), (2, vi d)] [0, 1, 2, 3] rfl ?_
  refine z_st (σ1 := ((zPs I (zu1 g k k)), zPp π, D, 147)) (by rw [zPs_u]) ?_
  exact hrun
set_option maxRecDepth 20000 in
theorem m_Ragainx {I : zI} {π : Int → Nat} {D : zD} {X : zI} {c d : Int} (e : zEq (I 138) X) (ci : zCI X) (hq : ¬ ((0 ≤ c ∧ c < X 0 5) ∧ (0 ≤ d ∧ d ≤ X 0 8))) : zMet 130 [vr 137, vi c, vi d] (I, zPp π, D, 147) (some (vi (-1001))) (I, zPp π, D, 147) := by
  obtain ⟨⟨m0, m1, m2, m3, m4, m5, m6⟩, mc, ⟨mb, mk⟩, ⟨ml, mg⟩, mt⟩ := id e
  obtain ⟨⟨w, v, hsp, ⟨⟨hl0, hl1⟩, hlg, hps⟩, hpt, hp0⟩, hm, hd⟩ := id ci
  have hzb := zns_b w
  have hm4 := zdis_le w v hd hm
  have hl2 := zlb_b w
  obtain ⟨⟨w1, w2⟩, ⟨w3, w4⟩, ⟨w5, w6⟩, ⟨w7, w8⟩, ⟨w9, w10⟩, w11, ⟨⟨w12, w12b⟩, w12c⟩, ⟨w13, w14⟩, ⟨w15, w16⟩⟩ := id w
  refine z_n 2 (2, [(0, vr 137), (1, vi c), (2, vi d)], [vi c, vr 137], (I, zPp π, D, 147)) rfl trivial ?_
  by_cases hx1 : 0 ≤ c ∧ c < I 138 0
  · refine z_ci 94 [vr 137, vi c] [] rfl (m_isCrew1 (by omega) hx1) ?_
    refine z_br ((1 : Int) = 0) 16 8 [] rfl (fun h => absurd h (show ¬ ((1 : Int) = 0) from by decide)) (fun hx2 => ?_)
    refine z_n 2 (10, [(0, vr 137), (1, vi c), (2, vi d)], [vi d, vr 137], (I, zPp π, D, 147)) rfl trivial ?_
    by_cases hx3 : 0 ≤ d ∧ d ≤ I 138 3
    · refine z_ci 128 [vr 137, vi d] [] rfl (m_isDay1 (by omega) hx3) ?_
      refine z_br (¬ (1 : Int) = 0) 20 16 [] rfl (fun hx4 => ?_) (fun h => absurd (show ¬ (1 : Int) = 0 from by decide) h)
      exfalso; omega
    · refine z_ci 128 [vr 137, vi d] [] rfl (m_isDay0 (by omega) hx3) ?_
      refine z_br (¬ (0 : Int) = 0) 20 16 [] rfl (fun h => absurd h (show ¬ (¬ (0 : Int) = 0) from by decide)) (fun hx5 => ?_)
      refine z_n 1 (19, [(0, vr 137), (1, vi c), (2, vi d)], [vi (-1001)], (I, zPp π, D, 147)) rfl trivial ?_
      first | exact z_ret rfl (zv1 (by omega)) rfl | (exfalso; omega)
  · refine z_ci 94 [vr 137, vi c] [] rfl (m_isCrew0 (by omega) hx1) ?_
    refine z_br ((0 : Int) = 0) 16 8 [] rfl (fun hx6 => ?_) (fun h => absurd (show (0 : Int) = 0 from by decide) h)
    refine z_n 1 (19, [(0, vr 137), (1, vi c), (2, vi d)], [vi (-1001)], (I, zPp π, D, 147)) rfl trivial ?_
    first | exact z_ret rfl (zv1 (by omega)) rfl | (exfalso; omega)
set_option maxRecDepth 20000 in
theorem m_Ragain1 {I : zI} {π : Int → Nat} {D : zD} {X : zI} {c d s : Int}  (e : zEq (I 138) X) (ci : zCI X) (hc : 0 ≤ c ∧ c < X 0 5) (hs0 : 0 ≤ s ∧ s ≤ X 12 4) (hs1 : ∀ i, 0 ≤ i → i < s → X 14 i ≤ d) (hs2 : s = X 12 4 ∨ (s < X 12 4 ∧ d < X 14 s)) (hd9 : 0 ≤ d ∧ d ≤ X 0 8) : ∃ J, zMet 130 [vr 137, vi c, vi d] (I, zPp π, D, 147) (some (vi (zsw (X 16) (X 18) s.toNat c))) (J, zPp π, D, 147) ∧ zMk J I := by
  obtain ⟨⟨m0, m1, m2, m3, m4, m5, m6⟩, mc, ⟨mb, mk⟩, ⟨ml, mg⟩, mt⟩ := id e
  obtain ⟨⟨w, v, hsp, ⟨⟨hl0, hl1⟩, hlg, hps⟩, hpt, hp0⟩, hm, hd⟩ := id ci
  have hzb := zns_b w
  have hm4 := zdis_le w v hd hm
  have hl2 := zlb_b w
  obtain ⟨⟨w1, w2⟩, ⟨w3, w4⟩, ⟨w5, w6⟩, ⟨w7, w8⟩, ⟨w9, w10⟩, w11, ⟨⟨w12, w12b⟩, w12c⟩, ⟨w13, w14⟩, ⟨w15, w16⟩⟩ := id w
  obtain ⟨J, hrun, hJ⟩ := m_ag_1 (π := π) (D := D) e ci hc hs0 hs1 hs2 24 0 (I 146) (by omega) (by omega) (fun x x0 x1 => by omega)
  refine ⟨J, ?_, hJ⟩
  refine z_n 2 (2, [(0, vr 137), (1, vi c), (2, vi d)], [vi c, vr 137], (I, zPp π, D, 147)) rfl trivial ?_
  refine z_ci 94 [vr 137, vi c] [] rfl (m_isCrew1 (by omega) (by omega)) ?_
  refine z_br ((1 : Int) = 0) 16 8 [] rfl (fun h => absurd h (show ¬ ((1 : Int) = 0) from by decide)) (fun hx1 => ?_)
  refine z_n 2 (10, [(0, vr 137), (1, vi c), (2, vi d)], [vi d, vr 137], (I, zPp π, D, 147)) rfl trivial ?_
  refine z_ci 128 [vr 137, vi d] [] rfl (m_isDay1 (by omega) (by omega)) ?_
  refine z_br (¬ (1 : Int) = 0) 20 16 [] rfl (fun hx2 => ?_) (fun h => absurd (show ¬ (1 : Int) = 0 from by decide) h)
  refine z_n 2 (22, [(3, vi 0), (0, vr 137), (1, vi c), (2, vi d)], [], (I, zPp π, D, 147)) rfl trivial ?_
  refine z_sub [(3, vi 0), (0, vr 137), (1, vi c), (2, vi d)] [0, 1, 2, 3] rfl ?_
  refine z_st (σ1 := ((zPs I (I 146)), zPp π, D, 147)) (by rw [zPs_i]) ?_
  exact hrun
set_option maxRecDepth 20000 in
theorem m_RbestRise0 {I : zI} {π : Int → Nat} {D : zD}  (hq : I 138 3 = 0) : zMet 131 [vr 137] (I, zPp π, D, 147) (some (vi (-1004))) (I, zPp π, D, 147) := by
  refine z_n 4 (6, [(0, vr 137)], [vi (I 138 3)], (I, zPp π, D, 147)) (G := (0 ≤ 3 ∧ 3 < 585) ∧ True) rfl ⟨by omega, trivial⟩ ?_
  refine z_br (¬ (I 138 3) = 0) 13 9 [] rfl (fun h => absurd h (show ¬ (¬ (I 138 3) = 0) from fun h9 => h9 hq)) (fun hx1 => ?_)
  refine z_n 1 (12, [(0, vr 137)], [vi (-1004)], (I, zPp π, D, 147)) rfl trivial ?_
  first | exact z_ret rfl (zv1 (by omega)) rfl | (exfalso; omega)
set_option maxRecDepth 20000 in
theorem m_br_l {I : zI} {π : Int → Nat} {D : zD} {N O B : Int} {P Q : Int → Int} (m0 : I 138 0 = N) (m3 : I 138 3 = O) (hN : 2 ≤ N ∧ N ≤ 24) (hO : 0 ≤ O ∧ O ≤ 6) (hP : ∀ c, 0 ≤ c → c < N → I 138 (417 + 24 * O + c) = P c) (hPb : ∀ c, 0 ≤ c → c < N → 0 ≤ P c ∧ P c < 24) (hQ : ∀ c, 0 ≤ c → c < N → I 138 (31 + c) = Q c) (hB : (0 ≤ B ∧ B < N) ∧ ∀ c, 0 ≤ c → c < N → ((c - P c < B - P B) ∨ (c - P c = B - P B ∧ Q B ≤ Q c))) (hi : ∀ c d, 0 ≤ c → c < N → 0 ≤ d → d < N → Q c = Q d → c = d) : ∀ (n : Nat) (k b : Int), 0 ≤ k → k + n = N → ((k = 0 ∧ b = -1) ∨ ((0 ≤ b ∧ b < k) ∧ ∀ c, 0 ≤ c → c < k → ((c - P c < b - P b) ∨ (c - P c = b - P b ∧ Q b ≤ Q c)))) → zRuns 131 17 [(2, vi k), (1, vi b), (0, vr 137)] [] (I, zPp π, D, 147) (some (vi B)) (I, zPp π, D, 147) := by
  intro n
  induction n with
  | zero =>
    intro k b h0 hn hv
    obtain rfl : k = N := by omega
    rcases hv with hv | ⟨hv1, hv2⟩
    · exfalso; omega
    have q1 := hv2 B hB.1.1 (by omega)
    have q2 := hB.2 b hv1.1 hv1.2
    have q3 : b = B := hi b B hv1.1 hv1.2 hB.1.1 (by omega) (by omega)
    subst q3
    refine z_n 5 (24, [(2, vi k), (1, vi b), (0, vr 137)], [vi (I 138 0), vi k], (I, zPp π, D, 147)) (G := (0 ≤ 0 ∧ 0 < 585) ∧ True) rfl ⟨by omega, trivial⟩ ?_
    refine z_br ((I 138 0) ≤ k) 133 27 [] rfl (fun hx1 => ?_) (fun h => absurd (show (I 138 0) ≤ k from by omega) h)
    refine z_n 1 (134, [(2, vi k), (1, vi b), (0, vr 137)], [vi b], (I, zPp π, D, 147)) rfl trivial ?_
    exact z_ret rfl rfl rfl
  | succ n ih =>
  intro k b h0 hn hv
  have hb9 : (k = 0 ∧ b = -1) ∨ (0 ≤ b ∧ b < k) := by rcases hv with hv | ⟨hv1, -⟩; exact Or.inl hv; exact Or.inr hv1
  have pk := hPb k h0 (by omega)
  have pb := hPb b
  refine z_n 5 (24, [(2, vi k), (1, vi b), (0, vr 137)], [vi (I 138 0), vi k], (I, zPp π, D, 147)) (G := (0 ≤ 0 ∧ 0 < 585) ∧ True) rfl ⟨by omega, trivial⟩ ?_
  refine z_br ((I 138 0) ≤ k) 133 27 [] rfl (fun h => absurd h (show ¬ ((I 138 0) ≤ k) from by omega)) (fun hx1 => ?_)
  refine z_n 9 (43, [(2, vi k), (1, vi b), (0, vr 137)], [vi (I 138 3), vi 24, vi 417, vr 138, vi k], (I, zPp π, D, 147)) (G := (0 ≤ 3 ∧ 3 < 585) ∧ True) rfl ⟨by omega, trivial⟩ ?_
  refine z_top (b := O) (m3) ?_
  refine z_n 5 (48, [(2, vi k), (1, vi b), (0, vr 137)], [vi (I 138 ((417 + (24 * O)) + k)), vi k], (I, zPp π, D, 147)) (G := (zr (24 * O)) ∧ (zr (417 + (24 * O))) ∧ (zr ((417 + (24 * O)) + k)) ∧ (0 ≤ ((417 + (24 * O)) + k) ∧ ((417 + (24 * O)) + k) < 585) ∧ True) rfl ⟨by omega, by omega, by omega, by omega, trivial⟩ ?_
  refine z_top (b := P k) (hP k h0 (by omega)) ?_
  refine z_n 4 (52, [(3, vi (k - (P k))), (2, vi k), (1, vi b), (0, vr 137)], [vi (-1), vi b], (I, zPp π, D, 147)) (G := (zr (k - (P k))) ∧ True) rfl ⟨by omega, trivial⟩ ?_
  refine z_br (¬ b = (-1)) 59 55 [] rfl (fun hx2 => ?_) (fun hx2 => ?_)
  · refine z_n 9 (75, [(3, vi (k - (P k))), (2, vi k), (1, vi b), (0, vr 137)], [vi (I 138 3), vi 24, vi 417, vr 138, vi b], (I, zPp π, D, 147)) (G := (0 ≤ 3 ∧ 3 < 585) ∧ True) rfl ⟨by omega, trivial⟩ ?_
    refine z_top (b := O) (m3) ?_
    refine z_n 5 (80, [(3, vi (k - (P k))), (2, vi k), (1, vi b), (0, vr 137)], [vi (I 138 ((417 + (24 * O)) + b)), vi b], (I, zPp π, D, 147)) (G := (zr (24 * O)) ∧ (zr (417 + (24 * O))) ∧ (zr ((417 + (24 * O)) + b)) ∧ (0 ≤ ((417 + (24 * O)) + b) ∧ ((417 + (24 * O)) + b) < 585) ∧ True) rfl ⟨by omega, by omega, by omega, by omega, trivial⟩ ?_
    refine z_top (b := P b) (hP b (by omega) (by omega)) ?_
    refine z_n 4 (85, [(4, vi (b - (P b))), (3, vi (k - (P k))), (2, vi k), (1, vi b), (0, vr 137)], [vi (-1), vi b], (I, zPp π, D, 147)) (G := (zr (b - (P b))) ∧ True) rfl ⟨by omega, trivial⟩ ?_
    refine z_br (b = (-1)) 121 88 [] rfl (fun hx3 => ?_) (fun hx3 => ?_)
    · refine z_n 5 (17, [(2, vi (k + 1)), (1, vi k), (4, vi (b - (P b))), (3, vi (k - (P k))), (0, vr 137)], [], (I, zPp π, D, 147)) (G := (zr (k + 1)) ∧ True) rfl ⟨by omega, trivial⟩ ?_
      refine z_sub [(2, vi (k + 1)), (1, vi k), (0, vr 137)] [0, 1, 4] rfl ?_
      refine ih (k + 1) k (by omega) (by omega) ?_
      right
      refine ⟨by omega, fun c c0 c1 => ?_⟩
      by_cases e9 : c = k
      · subst e9; omega
      · rcases hv with hv | ⟨hv1, hv2⟩
        · omega
        · have := hv2 c c0 (by omega); omega
    · refine z_n 2 (91, [(4, vi (b - (P b))), (3, vi (k - (P k))), (2, vi k), (1, vi b), (0, vr 137)], [vi (b - (P b)), vi (k - (P k))], (I, zPp π, D, 147)) rfl trivial ?_
      refine z_br ((b - (P b)) < (k - (P k))) 121 94 [] rfl (fun hx4 => ?_) (fun hx4 => ?_)
      · refine z_n 5 (17, [(2, vi (k + 1)), (1, vi k), (4, vi (b - (P b))), (3, vi (k - (P k))), (0, vr 137)], [], (I, zPp π, D, 147)) (G := (zr (k + 1)) ∧ True) rfl ⟨by omega, trivial⟩ ?_
        refine z_sub [(2, vi (k + 1)), (1, vi k), (0, vr 137)] [0, 1, 4] rfl ?_
        refine ih (k + 1) k (by omega) (by omega) ?_
        right
        refine ⟨by omega, fun c c0 c1 => ?_⟩
        by_cases e9 : c = k
        · subst e9; omega
        · rcases hv with hv | ⟨hv1, hv2⟩
          · omega
          · have := hv2 c c0 (by omega); omega
      · refine z_n 2 (97, [(4, vi (b - (P b))), (3, vi (k - (P k))), (2, vi k), (1, vi b), (0, vr 137)], [vi (b - (P b)), vi (k - (P k))], (I, zPp π, D, 147)) rfl trivial ?_
        refine z_br (¬ (k - (P k)) = (b - (P b))) 125 100 [] rfl (fun hx5 => ?_) (fun hx5 => ?_)
        · refine z_n 4 (17, [(2, vi (k + 1)), (1, vi b), (4, vi (b - (P b))), (3, vi (k - (P k))), (0, vr 137)], [], (I, zPp π, D, 147)) (G := (zr (k + 1)) ∧ True) rfl ⟨by omega, trivial⟩ ?_
          refine z_sub [(2, vi (k + 1)), (1, vi b), (0, vr 137)] [0, 1, 4] rfl ?_
          refine ih (k + 1) b (by omega) (by omega) ?_
          right
          refine ⟨by omega, fun c c0 c1 => ?_⟩
          by_cases e9 : c = k
          · subst e9; omega
          · rcases hv with hv | ⟨hv1, hv2⟩
            · omega
            · have := hv2 c c0 (by omega); omega
        · refine z_n 6 (109, [(4, vi (b - (P b))), (3, vi (k - (P k))), (2, vi k), (1, vi b), (0, vr 137)], [vi (I 138 (31 + k))], (I, zPp π, D, 147)) (G := (zr (31 + k)) ∧ (0 ≤ (31 + k) ∧ (31 + k) < 585) ∧ True) rfl ⟨by omega, by omega, trivial⟩ ?_
          refine z_top (b := Q k) (hQ k h0 (by omega)) ?_
          refine z_n 6 (118, [(4, vi (b - (P b))), (3, vi (k - (P k))), (2, vi k), (1, vi b), (0, vr 137)], [vi (I 138 (31 + b)), vi (Q k)], (I, zPp π, D, 147)) (G := (zr (31 + b)) ∧ (0 ≤ (31 + b) ∧ (31 + b) < 585) ∧ True) rfl ⟨by omega, by omega, trivial⟩ ?_
          refine z_top (b := Q b) (hQ b (by omega) (by omega)) ?_
          refine z_br ((Q b) ≤ (Q k)) 125 121 [] rfl (fun hx6 => ?_) (fun hx6 => ?_)
          · refine z_n 4 (17, [(2, vi (k + 1)), (1, vi b), (4, vi (b - (P b))), (3, vi (k - (P k))), (0, vr 137)], [], (I, zPp π, D, 147)) (G := (zr (k + 1)) ∧ True) rfl ⟨by omega, trivial⟩ ?_
            refine z_sub [(2, vi (k + 1)), (1, vi b), (0, vr 137)] [0, 1, 4] rfl ?_
            refine ih (k + 1) b (by omega) (by omega) ?_
            right
            refine ⟨by omega, fun c c0 c1 => ?_⟩
            by_cases e9 : c = k
            · subst e9; omega
            · rcases hv with hv | ⟨hv1, hv2⟩
              · omega
              · have := hv2 c c0 (by omega); omega
          · refine z_n 5 (17, [(2, vi (k + 1)), (1, vi k), (4, vi (b - (P b))), (3, vi (k - (P k))), (0, vr 137)], [], (I, zPp π, D, 147)) (G := (zr (k + 1)) ∧ True) rfl ⟨by omega, trivial⟩ ?_
            refine z_sub [(2, vi (k + 1)), (1, vi k), (0, vr 137)] [0, 1, 4] rfl ?_
            refine ih (k + 1) k (by omega) (by omega) ?_
            right
            refine ⟨by omega, fun c c0 c1 => ?_⟩
            by_cases e9 : c = k
            · subst e9; omega
            · rcases hv with hv | ⟨hv1, hv2⟩
              · omega
              · have := hv2 c c0 (by omega); omega
  · refine z_n 5 (85, [(4, vi 0), (3, vi (k - (P k))), (2, vi k), (1, vi b), (0, vr 137)], [vi (-1), vi b], (I, zPp π, D, 147)) rfl trivial ?_
    refine z_br (b = (-1)) 121 88 [] rfl (fun hx7 => ?_) (fun hx7 => ?_)
    · refine z_n 5 (17, [(2, vi (k + 1)), (1, vi k), (4, vi 0), (3, vi (k - (P k))), (0, vr 137)], [], (I, zPp π, D, 147)) (G := (zr (k + 1)) ∧ True) rfl ⟨by omega, trivial⟩ ?_
      refine z_sub [(2, vi (k + 1)), (1, vi k), (0, vr 137)] [0, 1, 4] rfl ?_
      refine ih (k + 1) k (by omega) (by omega) ?_
      right
      refine ⟨by omega, fun c c0 c1 => ?_⟩
      by_cases e9 : c = k
      · subst e9; omega
      · rcases hv with hv | ⟨hv1, hv2⟩
        · omega
        · have := hv2 c c0 (by omega); omega
    · refine z_n 2 (91, [(4, vi 0), (3, vi (k - (P k))), (2, vi k), (1, vi b), (0, vr 137)], [vi 0, vi (k - (P k))], (I, zPp π, D, 147)) rfl trivial ?_
      refine z_br (0 < (k - (P k))) 121 94 [] rfl (fun hx8 => ?_) (fun hx8 => ?_)
      · refine z_n 5 (17, [(2, vi (k + 1)), (1, vi k), (4, vi 0), (3, vi (k - (P k))), (0, vr 137)], [], (I, zPp π, D, 147)) (G := (zr (k + 1)) ∧ True) rfl ⟨by omega, trivial⟩ ?_
        refine z_sub [(2, vi (k + 1)), (1, vi k), (0, vr 137)] [0, 1, 4] rfl ?_
        refine ih (k + 1) k (by omega) (by omega) ?_
        right
        refine ⟨by omega, fun c c0 c1 => ?_⟩
        by_cases e9 : c = k
        · subst e9; omega
        · rcases hv with hv | ⟨hv1, hv2⟩
          · omega
          · have := hv2 c c0 (by omega); omega
      · refine z_n 2 (97, [(4, vi 0), (3, vi (k - (P k))), (2, vi k), (1, vi b), (0, vr 137)], [vi 0, vi (k - (P k))], (I, zPp π, D, 147)) rfl trivial ?_
        refine z_br (¬ (k - (P k)) = 0) 125 100 [] rfl (fun hx9 => ?_) (fun hx9 => ?_)
        · refine z_n 4 (17, [(2, vi (k + 1)), (1, vi b), (4, vi 0), (3, vi (k - (P k))), (0, vr 137)], [], (I, zPp π, D, 147)) (G := (zr (k + 1)) ∧ True) rfl ⟨by omega, trivial⟩ ?_
          refine z_sub [(2, vi (k + 1)), (1, vi b), (0, vr 137)] [0, 1, 4] rfl ?_
          refine ih (k + 1) b (by omega) (by omega) ?_
          right
          refine ⟨by omega, fun c c0 c1 => ?_⟩
          by_cases e9 : c = k
          · subst e9; omega
          · rcases hv with hv | ⟨hv1, hv2⟩
            · omega
            · have := hv2 c c0 (by omega); omega
        · refine z_n 6 (109, [(4, vi 0), (3, vi (k - (P k))), (2, vi k), (1, vi b), (0, vr 137)], [vi (I 138 (31 + k))], (I, zPp π, D, 147)) (G := (zr (31 + k)) ∧ (0 ≤ (31 + k) ∧ (31 + k) < 585) ∧ True) rfl ⟨by omega, by omega, trivial⟩ ?_
          refine z_top (b := Q k) (hQ k h0 (by omega)) ?_
          refine z_n 6 (118, [(4, vi 0), (3, vi (k - (P k))), (2, vi k), (1, vi b), (0, vr 137)], [vi (I 138 (31 + b)), vi (Q k)], (I, zPp π, D, 147)) (G := (zr (31 + b)) ∧ (0 ≤ (31 + b) ∧ (31 + b) < 585) ∧ True) rfl ⟨by omega, by omega, trivial⟩ ?_
          refine z_top (b := Q b) (hQ b (by omega) (by omega)) ?_
          refine z_br ((Q b) ≤ (Q k)) 125 121 [] rfl (fun hx10 => ?_) (fun hx10 => ?_)
          · refine z_n 4 (17, [(2, vi (k + 1)), (1, vi b), (4, vi 0), (3, vi (k - (P k))), (0, vr 137)], [], (I, zPp π, D, 147)) (G := (zr (k + 1)) ∧ True) rfl ⟨by omega, trivial⟩ ?_
            refine z_sub [(2, vi (k + 1)), (1, vi b), (0, vr 137)] [0, 1, 4] rfl ?_
            refine ih (k + 1) b (by omega) (by omega) ?_
            right
            refine ⟨by omega, fun c c0 c1 => ?_⟩
            by_cases e9 : c = k
            · subst e9; omega
            · rcases hv with hv | ⟨hv1, hv2⟩
              · omega
              · have := hv2 c c0 (by omega); omega
          · refine z_n 5 (17, [(2, vi (k + 1)), (1, vi k), (4, vi 0), (3, vi (k - (P k))), (0, vr 137)], [], (I, zPp π, D, 147)) (G := (zr (k + 1)) ∧ True) rfl ⟨by omega, trivial⟩ ?_
            refine z_sub [(2, vi (k + 1)), (1, vi k), (0, vr 137)] [0, 1, 4] rfl ?_
            refine ih (k + 1) k (by omega) (by omega) ?_
            right
            refine ⟨by omega, fun c c0 c1 => ?_⟩
            by_cases e9 : c = k
            · subst e9; omega
            · rcases hv with hv | ⟨hv1, hv2⟩
              · omega
              · have := hv2 c c0 (by omega); omega
set_option maxRecDepth 20000 in
theorem m_RbestRise1 {I : zI} {π : Int → Nat} {D : zD} {N O B : Int} {P Q : Int → Int} (m0 : I 138 0 = N) (m3 : I 138 3 = O) (hN : 2 ≤ N ∧ N ≤ 24) (hO : 0 ≤ O ∧ O ≤ 6) (hP : ∀ c, 0 ≤ c → c < N → I 138 (417 + 24 * O + c) = P c) (hPb : ∀ c, 0 ≤ c → c < N → 0 ≤ P c ∧ P c < 24) (hQ : ∀ c, 0 ≤ c → c < N → I 138 (31 + c) = Q c) (hB : (0 ≤ B ∧ B < N) ∧ ∀ c, 0 ≤ c → c < N → ((c - P c < B - P B) ∨ (c - P c = B - P B ∧ Q B ≤ Q c))) (hi : ∀ c d, 0 ≤ c → c < N → 0 ≤ d → d < N → Q c = Q d → c = d) (hq : 0 < O) : zMet 131 [vr 137] (I, zPp π, D, 147) (some (vi B)) (I, zPp π, D, 147) := by
  refine z_n 4 (6, [(0, vr 137)], [vi (I 138 3)], (I, zPp π, D, 147)) (G := (0 ≤ 3 ∧ 3 < 585) ∧ True) rfl ⟨by omega, trivial⟩ ?_
  refine z_top (b := O) (m3) ?_
  refine z_br (¬ O = 0) 13 9 [] rfl (fun hx1 => ?_) (fun h => absurd (show ¬ O = 0 from by omega) h)
  refine z_n 4 (17, [(2, vi 0), (1, vi (-1)), (0, vr 137)], [], (I, zPp π, D, 147)) rfl trivial ?_
  refine z_sub [(2, vi 0), (1, vi (-1)), (0, vr 137)] [0, 1, 2] rfl ?_
  exact m_br_l m0 m3 hN hO hP hPb hQ hB hi N.toNat 0 (-1) (by omega) (by omega) (Or.inl ⟨rfl, rfl⟩)
set_option maxRecDepth 20000 in
theorem m_Rtypex {I : zI} {π : Int → Nat} {D : zD} {c : Int} (hq : ¬ (32 ≤ c ∧ c ≤ 126)) : zMet 132 [vr 137, vi c] (I, zPp π, D, 147) (some (vi (-1001))) (I, zPp π, D, 147) := by
  refine z_n 3 (5, [(0, vr 137), (1, vi c)], [vi 126, vi 32, vi c], (I, zPp π, D, 147)) rfl trivial ?_
  refine z_ci 93 [vi c, vi 32, vi 126] [] rfl (m_in0 (by omega)) ?_
  refine z_br (¬ (0 : Int) = 0) 15 11 [] rfl (fun h => absurd h (show ¬ (¬ (0 : Int) = 0) from by decide)) (fun hx1 => ?_)
  refine z_n 1 (14, [(0, vr 137), (1, vi c)], [vi (-1001)], (I, zPp π, D, 147)) rfl trivial ?_
  first | exact z_ret rfl (zv1 (by omega)) rfl | (exfalso; omega)
set_option maxRecDepth 20000 in
theorem m_Rtypef {I : zI} {π : Int → Nat} {D : zD} {c : Int} (hq : 32 ≤ c ∧ c ≤ 126) (hl : I 137 4 = 80) : zMet 132 [vr 137, vi c] (I, zPp π, D, 147) (some (vi (-1003))) (I, zPp π, D, 147) := by
  refine z_n 3 (5, [(0, vr 137), (1, vi c)], [vi 126, vi 32, vi c], (I, zPp π, D, 147)) rfl trivial ?_
  refine z_ci 93 [vi c, vi 32, vi 126] [] rfl (m_in1 (by omega) (by omega)) ?_
  refine z_br (¬ (1 : Int) = 0) 15 11 [] rfl (fun hx1 => ?_) (fun h => absurd (show ¬ (1 : Int) = 0 from by decide) h)
  refine z_n 3 (21, [(0, vr 137), (1, vi c)], [vi 80, vi (I 137 4)], (I, zPp π, D, 147)) rfl trivial ?_
  refine z_br (¬ (I 137 4) = 80) 28 24 [] rfl (fun h => absurd h (show ¬ (¬ (I 137 4) = 80) from fun h9 => h9 hl)) (fun hx2 => ?_)
  refine z_n 1 (27, [(0, vr 137), (1, vi c)], [vi (-1003)], (I, zPp π, D, 147)) rfl trivial ?_
  first | exact z_ret rfl (zv1 (by omega)) rfl | (exfalso; omega)
set_option maxRecDepth 20000 in
theorem m_Rtype1 {I : zI} {π : Int → Nat} {D : zD} {c : Int} (hq : 32 ≤ c ∧ c ≤ 126) (hl : 0 ≤ I 137 4 ∧ I 137 4 < 80) : zMet 132 [vr 137, vi c] (I, zPp π, D, 147) (some (vi (I 137 4 + 1))) ((zup (zup I 140 (I 137 4) c) 137 4 (I 137 4 + 1)), zPp π, D, 147) := by
  refine z_n 3 (5, [(0, vr 137), (1, vi c)], [vi 126, vi 32, vi c], (I, zPp π, D, 147)) rfl trivial ?_
  refine z_ci 93 [vi c, vi 32, vi 126] [] rfl (m_in1 (by omega) (by omega)) ?_
  refine z_br (¬ (1 : Int) = 0) 15 11 [] rfl (fun hx1 => ?_) (fun h => absurd (show ¬ (1 : Int) = 0 from by decide) h)
  refine z_n 3 (21, [(0, vr 137), (1, vi c)], [vi 80, vi (I 137 4)], (I, zPp π, D, 147)) rfl trivial ?_
  refine z_br (¬ (I 137 4) = 80) 28 24 [] rfl (fun hx2 => ?_) (fun h => absurd (show ¬ (I 137 4) = 80 from by omega) h)
  refine z_n 15 (53, [(0, vr 137), (1, vi c)], [vi ((I 137 4) + 1)], ((zup (zup I 140 (I 137 4) c) 137 4 ((I 137 4) + 1)), zPp π, D, 147)) (G := (0 ≤ c ∧ c ≤ 65535) ∧ ((0 ≤ (I 137 4) ∧ (I 137 4) < 80) ∧ (0 ≤ c ∧ c ≤ 65535)) ∧ (zr ((I 137 4) + 1)) ∧ True) rfl ⟨by omega, by omega, by omega, trivial⟩ ?_
  exact z_ret rfl rfl rfl
set_option maxRecDepth 20000 in
theorem m_RclearText {I : zI} {π : Int → Nat} {D : zD}   : zMet 133 [vr 137] (I, zPp π, D, 147) (some (vi (I 137 4))) ((zup I 137 4 0), zPp π, D, 147) := by
  refine z_n 7 (11, [(1, vi (I 137 4)), (0, vr 137)], [vi (I 137 4)], ((zup I 137 4 0), zPp π, D, 147)) rfl trivial ?_
  exact z_ret rfl rfl rfl
/-- the first k numbers of the s-th record taken back -/
def zUn (I : zI) (s k : Int) : zI := fun r j => if r = 138 ∧ 0 ≤ j ∧ j < k then I 139 (585 * s + j) else I r j
theorem zUn_0 {I : zI} {s : Int} : zUn I s 0 = I := by
  funext r j
  exact if_neg (by omega)
theorem zUn_s {I : zI} {s k : Int} (h : 0 ≤ k) : zup (zUn I s k) 138 k (I 139 (585 * s + k)) = zUn I s (k + 1) := by
  funext r j
  unfold zup zUn
  (repeat' split) <;> first | rfl | (exfalso; omega) | (rw [show j = k by omega])
set_option maxRecDepth 20000 in
theorem m_un_l {I : zI} {π : Int → Nat} {D : zD} {s : Int} (hs : I 137 2 = s) (hs2 : 0 ≤ s ∧ s ≤ 3) : ∀ (N : Nat) (k : Int), 0 ≤ k → k + N = 585 → zRuns 121 23 [(1, vi k), (0, vr 137)] [] ((zUn I s k), zPp π, D, 147) (some (vi s)) ((zUn I s 585), zPp π, D, 147) := by
  intro N
  induction N with
  | zero =>
    intro k h0 hN
    refine z_n 2 (27, [(1, vi k), (0, vr 137)], [vi 585, vi k], ((zUn I s k), zPp π, D, 147)) rfl trivial ?_
    refine z_br (585 ≤ k) 57 30 [] rfl (fun hx1 => ?_) (fun h => absurd (show 585 ≤ k from by omega) h)
    refine z_n 2 (61, [(1, vi k), (0, vr 137)], [vi (I 137 2)], ((zUn I s k), zPp π, D, 147)) rfl trivial ?_
    refine z_top (b := s) (hs) ?_
    exact z_ret rfl rfl (by rw [show k = 585 by omega])
  | succ N ih =>
  intro k h0 hN
  refine z_n 2 (27, [(1, vi k), (0, vr 137)], [vi 585, vi k], ((zUn I s k), zPp π, D, 147)) rfl trivial ?_
  refine z_br (585 ≤ k) 57 30 [] rfl (fun h => absurd h (show ¬ (585 ≤ k) from by omega)) (fun hx1 => ?_)
  refine z_n 8 (46, [(1, vi k), (0, vr 137)], [vi (I 137 2), vi 585, vr 139, vi k, vr 138], ((zUn I s k), zPp π, D, 147)) rfl trivial ?_
  refine z_top (b := s) (hs) ?_
  refine z_n 7 (23, [(1, vi (k + 1)), (0, vr 137)], [], ((zup (zUn I s k) 138 k (I 139 ((585 * s) + k))), zPp π, D, 147)) (G := (zr (585 * s)) ∧ (zr ((585 * s) + k)) ∧ (0 ≤ ((585 * s) + k) ∧ ((585 * s) + k) < 2340) ∧ (0 ≤ k ∧ k < 585) ∧ (zr (k + 1)) ∧ True) rfl ⟨by omega, by omega, by omega, by omega, by omega, trivial⟩ ?_
  refine z_sub [(1, vi (k + 1)), (0, vr 137)] [0, 1] rfl ?_
  refine z_st (σ1 := ((zUn I s (k + 1)), zPp π, D, 147)) (by rw [← zUn_s h0]) ?_
  exact ih (k + 1) (by omega) (by omega)
set_option maxRecDepth 20000 in
theorem m_Rundo0 {I : zI} {π : Int → Nat} {D : zD}  (hq : I 137 2 = 0) : zMet 121 [vr 137] (I, zPp π, D, 147) (some (vi (-1002))) (I, zPp π, D, 147) := by
  refine z_n 2 (4, [(0, vr 137)], [vi (I 137 2)], (I, zPp π, D, 147)) rfl trivial ?_
  refine z_br (¬ (I 137 2) = 0) 11 7 [] rfl (fun h => absurd h (show ¬ (¬ (I 137 2) = 0) from fun h9 => h9 hq)) (fun hx1 => ?_)
  refine z_n 1 (10, [(0, vr 137)], [vi (-1002)], (I, zPp π, D, 147)) rfl trivial ?_
  first | exact z_ret rfl (zv1 (by omega)) rfl | (exfalso; omega)
set_option maxRecDepth 20000 in
theorem m_Rundo1 {I : zI} {π : Int → Nat} {D : zD}  (hq : 0 < I 137 2 ∧ I 137 2 ≤ 4) : zMet 121 [vr 137] (I, zPp π, D, 147) (some (vi (I 137 2 - 1))) ((zUn (zup I 137 2 (I 137 2 - 1)) (I 137 2 - 1) 585), zPp π, D, 147) := by
  refine z_n 2 (4, [(0, vr 137)], [vi (I 137 2)], (I, zPp π, D, 147)) rfl trivial ?_
  refine z_br (¬ (I 137 2) = 0) 11 7 [] rfl (fun hx1 => ?_) (fun h => absurd (show ¬ (I 137 2) = 0 from by omega) h)
  refine z_n 8 (23, [(1, vi 0), (0, vr 137)], [], ((zup I 137 2 ((I 137 2) - 1)), zPp π, D, 147)) (G := (zr ((I 137 2) - 1)) ∧ True) rfl ⟨by omega, trivial⟩ ?_
  refine z_sub [(1, vi 0), (0, vr 137)] [0, 1] rfl ?_
  refine z_st (σ1 := (zUn (zup I 137 2 (I 137 2 - 1)) (I 137 2 - 1) 0, zPp π, D, 147)) (by rw [zUn_0]) ?_
  exact m_un_l (I := (zup I 137 2 (I 137 2 - 1))) (s := I 137 2 - 1) rfl (by omega) 585 0 (by omega) (by omega)
set_option maxRecDepth 20000 in
theorem m_Rneed1 {I : zI} {π : Int → Nat} {D : zD} {X : zI} {k i : Int} (e : zEq (I 138) X) (ci : zCI X) (hk : 0 ≤ k ∧ k < X 7 2) (hi : 0 ≤ i ∧ i < X 7 2) (hq : zNeed (X 4) (X 9) (X 11) k i) : zMet 118 [vr 137, vi k, vi i] (I, zPp π, D, 147) (some (vi 1)) (I, zPp π, D, 147) := by
  obtain ⟨⟨m0, m1, m2, m3, m4, m5, m6⟩, mc, ⟨mb, mk⟩, ⟨ml, mg⟩, mt⟩ := id e
  obtain ⟨⟨w, v, hsp, ⟨⟨hl0, hl1⟩, hlg, hps⟩, hpt, hp0⟩, hm, hd⟩ := id ci
  have hzb := zns_b w
  have hm4 := zdis_le w v hd hm
  have hl2 := zlb_b w
  obtain ⟨⟨w1, w2⟩, ⟨w3, w4⟩, ⟨w5, w6⟩, ⟨w7, w8⟩, ⟨w9, w10⟩, w11, ⟨⟨w12, w12b⟩, w12c⟩, ⟨w13, w14⟩, ⟨w15, w16⟩⟩ := id w
  have mk1 := mk k hk.1 hk.2
  have mi1 := mk i hi.1 hi.2
  have dk := hd k hk.1 hk.2
  have di := hd i hi.1 hi.2
  have a1 := v.1 _ dk.1.1.1 dk.1.1.2
  have a2 := v.1 _ dk.2.1.1.1 dk.2.1.1.2
  have a3 := v.1 _ di.1.1.1 di.1.1.2
  have a4 := v.1 _ di.2.1.1.1 di.2.1.1.2
  have b1 := (mc _ dk.1.1.1 dk.1.1.2).2
  have b2 := (mc _ dk.2.1.1.1 dk.2.1.1.2).2
  have b3 := (mc _ di.1.1.1 di.1.1.2).2
  have b4 := (mc _ di.2.1.1.1 di.2.1.1.2).2
  have c1 := dk.1.1
  have c2 := dk.2.1.1
  have c3 := di.1.1
  have c4 := di.2.1.1
  unfold zNeed at hq
  refine z_n 9 (15, [(0, vr 137), (1, vi k), (2, vi i)], [vi (I 138 (56 + k)), vi 31, vr 138], (I, zPp π, D, 147)) (G := (zr (56 + k)) ∧ (0 ≤ (56 + k) ∧ (56 + k) < 585) ∧ True) rfl ⟨by omega, by omega, trivial⟩ ?_
  refine z_top (b := X 9 k) (mk1.1) ?_
  refine z_n 2 (17, [(0, vr 137), (1, vi k), (2, vi i)], [vi (I 138 (31 + (X 9 k)))], (I, zPp π, D, 147)) (G := (zr (31 + (X 9 k))) ∧ (0 ≤ (31 + (X 9 k)) ∧ (31 + (X 9 k)) < 585) ∧ True) rfl ⟨by omega, by omega, trivial⟩ ?_
  refine z_top (b := X 4 (X 9 k)) (b1) ?_
  refine z_n 10 (33, [(3, vi (X 4 (X 9 k))), (0, vr 137), (1, vi k), (2, vi i)], [vi (I 138 (68 + k)), vi 31, vr 138], (I, zPp π, D, 147)) (G := (zr (68 + k)) ∧ (0 ≤ (68 + k) ∧ (68 + k) < 585) ∧ True) rfl ⟨by omega, by omega, trivial⟩ ?_
  refine z_top (b := X 11 k) (mk1.2) ?_
  refine z_n 2 (35, [(3, vi (X 4 (X 9 k))), (0, vr 137), (1, vi k), (2, vi i)], [vi (I 138 (31 + (X 11 k)))], (I, zPp π, D, 147)) (G := (zr (31 + (X 11 k))) ∧ (0 ≤ (31 + (X 11 k)) ∧ (31 + (X 11 k)) < 585) ∧ True) rfl ⟨by omega, by omega, trivial⟩ ?_
  refine z_top (b := X 4 (X 11 k)) (b2) ?_
  refine z_n 10 (52, [(4, vi (X 4 (X 11 k))), (3, vi (X 4 (X 9 k))), (0, vr 137), (1, vi k), (2, vi i)], [vi (I 138 (56 + i)), vi 31, vr 138], (I, zPp π, D, 147)) (G := (zr (56 + i)) ∧ (0 ≤ (56 + i) ∧ (56 + i) < 585) ∧ True) rfl ⟨by omega, by omega, trivial⟩ ?_
  refine z_top (b := X 9 i) (mi1.1) ?_
  refine z_n 2 (54, [(4, vi (X 4 (X 11 k))), (3, vi (X 4 (X 9 k))), (0, vr 137), (1, vi k), (2, vi i)], [vi (I 138 (31 + (X 9 i)))], (I, zPp π, D, 147)) (G := (zr (31 + (X 9 i))) ∧ (0 ≤ (31 + (X 9 i)) ∧ (31 + (X 9 i)) < 585) ∧ True) rfl ⟨by omega, by omega, trivial⟩ ?_
  refine z_top (b := X 4 (X 9 i)) (b3) ?_
  refine z_n 6 (61, [(4, vi (X 4 (X 11 k))), (3, vi (X 4 (X 9 k))), (0, vr 137), (1, vi k), (2, vi i)], [vi ((X 4 (X 9 k)) - 1), vi ((X 4 (X 11 k)) + 1), vi (X 4 (X 9 i))], (I, zPp π, D, 147)) (G := (zr ((X 4 (X 11 k)) + 1)) ∧ (zr ((X 4 (X 9 k)) - 1)) ∧ True) rfl ⟨by omega, by omega, trivial⟩ ?_
  by_cases hx1 : X 4 (X 11 k) + 1 ≤ X 4 (X 9 i) ∧ X 4 (X 9 i) ≤ X 4 (X 9 k) - 1
  · refine z_ci 93 [vi (X 4 (X 9 i)), vi ((X 4 (X 11 k)) + 1), vi ((X 4 (X 9 k)) - 1)] [] rfl (m_in1 (by omega) (by omega)) ?_
    refine z_br (¬ (1 : Int) = 0) 97 67 [] rfl (fun hx2 => ?_) (fun h => absurd (show ¬ (1 : Int) = 0 from by decide) h)
    refine z_n 2 (102, [(4, vi (X 4 (X 11 k))), (3, vi (X 4 (X 9 k))), (0, vr 137), (1, vi k), (2, vi i)], [vi 1], (I, zPp π, D, 147)) rfl trivial ?_
    first | exact z_ret rfl (zv1 (by omega)) rfl | (exfalso; omega)
  · refine z_ci 93 [vi (X 4 (X 9 i)), vi ((X 4 (X 11 k)) + 1), vi ((X 4 (X 9 k)) - 1)] [] rfl (m_in0 (by omega)) ?_
    refine z_br (¬ (0 : Int) = 0) 97 67 [] rfl (fun h => absurd h (show ¬ (¬ (0 : Int) = 0) from by decide)) (fun hx3 => ?_)
    refine z_n 9 (82, [(4, vi (X 4 (X 11 k))), (3, vi (X 4 (X 9 k))), (0, vr 137), (1, vi k), (2, vi i)], [vi (I 138 (68 + i)), vi 31, vr 138], (I, zPp π, D, 147)) (G := (zr (68 + i)) ∧ (0 ≤ (68 + i) ∧ (68 + i) < 585) ∧ True) rfl ⟨by omega, by omega, trivial⟩ ?_
    refine z_top (b := X 11 i) (mi1.2) ?_
    refine z_n 2 (84, [(4, vi (X 4 (X 11 k))), (3, vi (X 4 (X 9 k))), (0, vr 137), (1, vi k), (2, vi i)], [vi (I 138 (31 + (X 11 i)))], (I, zPp π, D, 147)) (G := (zr (31 + (X 11 i))) ∧ (0 ≤ (31 + (X 11 i)) ∧ (31 + (X 11 i)) < 585) ∧ True) rfl ⟨by omega, by omega, trivial⟩ ?_
    refine z_top (b := X 4 (X 11 i)) (b4) ?_
    refine z_n 6 (91, [(4, vi (X 4 (X 11 k))), (3, vi (X 4 (X 9 k))), (0, vr 137), (1, vi k), (2, vi i)], [vi ((X 4 (X 9 k)) - 1), vi ((X 4 (X 11 k)) + 1), vi (X 4 (X 11 i))], (I, zPp π, D, 147)) (G := (zr ((X 4 (X 11 k)) + 1)) ∧ (zr ((X 4 (X 9 k)) - 1)) ∧ True) rfl ⟨by omega, by omega, trivial⟩ ?_
    by_cases hx4 : X 4 (X 11 k) + 1 ≤ X 4 (X 11 i) ∧ X 4 (X 11 i) ≤ X 4 (X 9 k) - 1
    · refine z_ci 93 [vi (X 4 (X 11 i)), vi ((X 4 (X 11 k)) + 1), vi ((X 4 (X 9 k)) - 1)] [] rfl (m_in1 (by omega) (by omega)) ?_
      refine z_br ((1 : Int) = 0) 101 97 [] rfl (fun h => absurd h (show ¬ ((1 : Int) = 0) from by decide)) (fun hx5 => ?_)
      refine z_n 2 (102, [(4, vi (X 4 (X 11 k))), (3, vi (X 4 (X 9 k))), (0, vr 137), (1, vi k), (2, vi i)], [vi 1], (I, zPp π, D, 147)) rfl trivial ?_
      first | exact z_ret rfl (zv1 (by omega)) rfl | (exfalso; omega)
    · refine z_ci 93 [vi (X 4 (X 11 i)), vi ((X 4 (X 11 k)) + 1), vi ((X 4 (X 9 k)) - 1)] [] rfl (m_in0 (by omega)) ?_
      refine z_br ((0 : Int) = 0) 101 97 [] rfl (fun hx6 => ?_) (fun h => absurd (show (0 : Int) = 0 from by decide) h)
      refine z_n 1 (102, [(4, vi (X 4 (X 11 k))), (3, vi (X 4 (X 9 k))), (0, vr 137), (1, vi k), (2, vi i)], [vi 0], (I, zPp π, D, 147)) rfl trivial ?_
      first | exact z_ret rfl (zv1 (by omega)) rfl | (exfalso; omega)
set_option maxRecDepth 20000 in
theorem m_Rneed0 {I : zI} {π : Int → Nat} {D : zD} {X : zI} {k i : Int} (e : zEq (I 138) X) (ci : zCI X) (hk : 0 ≤ k ∧ k < X 7 2) (hi : 0 ≤ i ∧ i < X 7 2) (hq : ¬ zNeed (X 4) (X 9) (X 11) k i) : zMet 118 [vr 137, vi k, vi i] (I, zPp π, D, 147) (some (vi 0)) (I, zPp π, D, 147) := by
  obtain ⟨⟨m0, m1, m2, m3, m4, m5, m6⟩, mc, ⟨mb, mk⟩, ⟨ml, mg⟩, mt⟩ := id e
  obtain ⟨⟨w, v, hsp, ⟨⟨hl0, hl1⟩, hlg, hps⟩, hpt, hp0⟩, hm, hd⟩ := id ci
  have hzb := zns_b w
  have hm4 := zdis_le w v hd hm
  have hl2 := zlb_b w
  obtain ⟨⟨w1, w2⟩, ⟨w3, w4⟩, ⟨w5, w6⟩, ⟨w7, w8⟩, ⟨w9, w10⟩, w11, ⟨⟨w12, w12b⟩, w12c⟩, ⟨w13, w14⟩, ⟨w15, w16⟩⟩ := id w
  have mk1 := mk k hk.1 hk.2
  have mi1 := mk i hi.1 hi.2
  have dk := hd k hk.1 hk.2
  have di := hd i hi.1 hi.2
  have a1 := v.1 _ dk.1.1.1 dk.1.1.2
  have a2 := v.1 _ dk.2.1.1.1 dk.2.1.1.2
  have a3 := v.1 _ di.1.1.1 di.1.1.2
  have a4 := v.1 _ di.2.1.1.1 di.2.1.1.2
  have b1 := (mc _ dk.1.1.1 dk.1.1.2).2
  have b2 := (mc _ dk.2.1.1.1 dk.2.1.1.2).2
  have b3 := (mc _ di.1.1.1 di.1.1.2).2
  have b4 := (mc _ di.2.1.1.1 di.2.1.1.2).2
  have c1 := dk.1.1
  have c2 := dk.2.1.1
  have c3 := di.1.1
  have c4 := di.2.1.1
  unfold zNeed at hq
  refine z_n 9 (15, [(0, vr 137), (1, vi k), (2, vi i)], [vi (I 138 (56 + k)), vi 31, vr 138], (I, zPp π, D, 147)) (G := (zr (56 + k)) ∧ (0 ≤ (56 + k) ∧ (56 + k) < 585) ∧ True) rfl ⟨by omega, by omega, trivial⟩ ?_
  refine z_top (b := X 9 k) (mk1.1) ?_
  refine z_n 2 (17, [(0, vr 137), (1, vi k), (2, vi i)], [vi (I 138 (31 + (X 9 k)))], (I, zPp π, D, 147)) (G := (zr (31 + (X 9 k))) ∧ (0 ≤ (31 + (X 9 k)) ∧ (31 + (X 9 k)) < 585) ∧ True) rfl ⟨by omega, by omega, trivial⟩ ?_
  refine z_top (b := X 4 (X 9 k)) (b1) ?_
  refine z_n 10 (33, [(3, vi (X 4 (X 9 k))), (0, vr 137), (1, vi k), (2, vi i)], [vi (I 138 (68 + k)), vi 31, vr 138], (I, zPp π, D, 147)) (G := (zr (68 + k)) ∧ (0 ≤ (68 + k) ∧ (68 + k) < 585) ∧ True) rfl ⟨by omega, by omega, trivial⟩ ?_
  refine z_top (b := X 11 k) (mk1.2) ?_
  refine z_n 2 (35, [(3, vi (X 4 (X 9 k))), (0, vr 137), (1, vi k), (2, vi i)], [vi (I 138 (31 + (X 11 k)))], (I, zPp π, D, 147)) (G := (zr (31 + (X 11 k))) ∧ (0 ≤ (31 + (X 11 k)) ∧ (31 + (X 11 k)) < 585) ∧ True) rfl ⟨by omega, by omega, trivial⟩ ?_
  refine z_top (b := X 4 (X 11 k)) (b2) ?_
  refine z_n 10 (52, [(4, vi (X 4 (X 11 k))), (3, vi (X 4 (X 9 k))), (0, vr 137), (1, vi k), (2, vi i)], [vi (I 138 (56 + i)), vi 31, vr 138], (I, zPp π, D, 147)) (G := (zr (56 + i)) ∧ (0 ≤ (56 + i) ∧ (56 + i) < 585) ∧ True) rfl ⟨by omega, by omega, trivial⟩ ?_
  refine z_top (b := X 9 i) (mi1.1) ?_
  refine z_n 2 (54, [(4, vi (X 4 (X 11 k))), (3, vi (X 4 (X 9 k))), (0, vr 137), (1, vi k), (2, vi i)], [vi (I 138 (31 + (X 9 i)))], (I, zPp π, D, 147)) (G := (zr (31 + (X 9 i))) ∧ (0 ≤ (31 + (X 9 i)) ∧ (31 + (X 9 i)) < 585) ∧ True) rfl ⟨by omega, by omega, trivial⟩ ?_
  refine z_top (b := X 4 (X 9 i)) (b3) ?_
  refine z_n 6 (61, [(4, vi (X 4 (X 11 k))), (3, vi (X 4 (X 9 k))), (0, vr 137), (1, vi k), (2, vi i)], [vi ((X 4 (X 9 k)) - 1), vi ((X 4 (X 11 k)) + 1), vi (X 4 (X 9 i))], (I, zPp π, D, 147)) (G := (zr ((X 4 (X 11 k)) + 1)) ∧ (zr ((X 4 (X 9 k)) - 1)) ∧ True) rfl ⟨by omega, by omega, trivial⟩ ?_
  by_cases hx1 : X 4 (X 11 k) + 1 ≤ X 4 (X 9 i) ∧ X 4 (X 9 i) ≤ X 4 (X 9 k) - 1
  · refine z_ci 93 [vi (X 4 (X 9 i)), vi ((X 4 (X 11 k)) + 1), vi ((X 4 (X 9 k)) - 1)] [] rfl (m_in1 (by omega) (by omega)) ?_
    refine z_br (¬ (1 : Int) = 0) 97 67 [] rfl (fun hx2 => ?_) (fun h => absurd (show ¬ (1 : Int) = 0 from by decide) h)
    refine z_n 2 (102, [(4, vi (X 4 (X 11 k))), (3, vi (X 4 (X 9 k))), (0, vr 137), (1, vi k), (2, vi i)], [vi 1], (I, zPp π, D, 147)) rfl trivial ?_
    first | exact z_ret rfl (zv1 (by omega)) rfl | (exfalso; omega)
  · refine z_ci 93 [vi (X 4 (X 9 i)), vi ((X 4 (X 11 k)) + 1), vi ((X 4 (X 9 k)) - 1)] [] rfl (m_in0 (by omega)) ?_
    refine z_br (¬ (0 : Int) = 0) 97 67 [] rfl (fun h => absurd h (show ¬ (¬ (0 : Int) = 0) from by decide)) (fun hx3 => ?_)
    refine z_n 9 (82, [(4, vi (X 4 (X 11 k))), (3, vi (X 4 (X 9 k))), (0, vr 137), (1, vi k), (2, vi i)], [vi (I 138 (68 + i)), vi 31, vr 138], (I, zPp π, D, 147)) (G := (zr (68 + i)) ∧ (0 ≤ (68 + i) ∧ (68 + i) < 585) ∧ True) rfl ⟨by omega, by omega, trivial⟩ ?_
    refine z_top (b := X 11 i) (mi1.2) ?_
    refine z_n 2 (84, [(4, vi (X 4 (X 11 k))), (3, vi (X 4 (X 9 k))), (0, vr 137), (1, vi k), (2, vi i)], [vi (I 138 (31 + (X 11 i)))], (I, zPp π, D, 147)) (G := (zr (31 + (X 11 i))) ∧ (0 ≤ (31 + (X 11 i)) ∧ (31 + (X 11 i)) < 585) ∧ True) rfl ⟨by omega, by omega, trivial⟩ ?_
    refine z_top (b := X 4 (X 11 i)) (b4) ?_
    refine z_n 6 (91, [(4, vi (X 4 (X 11 k))), (3, vi (X 4 (X 9 k))), (0, vr 137), (1, vi k), (2, vi i)], [vi ((X 4 (X 9 k)) - 1), vi ((X 4 (X 11 k)) + 1), vi (X 4 (X 11 i))], (I, zPp π, D, 147)) (G := (zr ((X 4 (X 11 k)) + 1)) ∧ (zr ((X 4 (X 9 k)) - 1)) ∧ True) rfl ⟨by omega, by omega, trivial⟩ ?_
    by_cases hx4 : X 4 (X 11 k) + 1 ≤ X 4 (X 11 i) ∧ X 4 (X 11 i) ≤ X 4 (X 9 k) - 1
    · refine z_ci 93 [vi (X 4 (X 11 i)), vi ((X 4 (X 11 k)) + 1), vi ((X 4 (X 9 k)) - 1)] [] rfl (m_in1 (by omega) (by omega)) ?_
      refine z_br ((1 : Int) = 0) 101 97 [] rfl (fun h => absurd h (show ¬ ((1 : Int) = 0) from by decide)) (fun hx5 => ?_)
      refine z_n 2 (102, [(4, vi (X 4 (X 11 k))), (3, vi (X 4 (X 9 k))), (0, vr 137), (1, vi k), (2, vi i)], [vi 1], (I, zPp π, D, 147)) rfl trivial ?_
      first | exact z_ret rfl (zv1 (by omega)) rfl | (exfalso; omega)
    · refine z_ci 93 [vi (X 4 (X 11 i)), vi ((X 4 (X 11 k)) + 1), vi ((X 4 (X 9 k)) - 1)] [] rfl (m_in0 (by omega)) ?_
      refine z_br ((0 : Int) = 0) 101 97 [] rfl (fun hx6 => ?_) (fun h => absurd (show (0 : Int) = 0 from by decide) h)
      refine z_n 1 (102, [(4, vi (X 4 (X 11 k))), (3, vi (X 4 (X 9 k))), (0, vr 137), (1, vi k), (2, vi i)], [vi 0], (I, zPp π, D, 147)) rfl trivial ?_
      first | exact z_ret rfl (zv1 (by omega)) rfl | (exfalso; omega)
