set_option maxRecDepth 20000 in
theorem m_fin_B1 {I : zI} {π : Int → Nat} {D : zD} {N S T O k m : Int} (m0 : I 138 0 = N) (m1 : I 138 1 = S) (m2 : I 138 2 = T) (m3 : I 138 3 = O) (m4 : I 138 4 = 0) (hk : m ≤ k) (hN : 2 ≤ N ∧ N ≤ 24) (hS : 3 ≤ S ∧ S ≤ 8) (hO : 0 ≤ O ∧ O ≤ 5) (hT : T ≤ 6) (h2 : O + 1 < T) : zRuns 105 10 [(2, vi k), (0, vr 137), (1, vi m)] [] (I, zPp π, D, 147) (some (vi m)) ((zup (zCr (zup (zup (zup I 138 55 0) 138 4 (-1)) 138 3 (O + 1)) (O + 1) 24) 138 4 ((N + S - 1) / S - 1)), zPp π, D, 147) := by
  have hdd := zdiv_b (a := N + S - 1) (b := S) (by omega) (by omega)
  have hdv : zMet 95 [vr 137] ((zCr (zup (zup (zup I 138 55 0) 138 4 (-1)) 138 3 (O + 1)) (O + 1) 24), zPp π, D, 147) (some (vi ((N + S - 1) / S))) ((zCr (zup (zup (zup I 138 55 0) 138 4 (-1)) 138 3 (O + 1)) (O + 1) 24), zPp π, D, 147) := by
    have q0 : zCr (zup (zup (zup I 138 55 0) 138 4 (-1)) 138 3 (O + 1)) (O + 1) 24 138 0 = N := (zCr_lo (by omega) (by omega)).trans m0
    have q1 : zCr (zup (zup (zup I 138 55 0) 138 4 (-1)) 138 3 (O + 1)) (O + 1) 24 138 1 = S := (zCr_lo (by omega) (by omega)).trans m1
    have h := m_mdiv (I := zCr (zup (zup (zup I 138 55 0) 138 4 (-1)) 138 3 (O + 1)) (O + 1) 24) (π := π) (D := D) (by omega) (by omega)
    rw [q0, q1] at h
    exact h
  refine z_n 2 (12, [(2, vi k), (0, vr 137), (1, vi m)], [vi m, vi k], (I, zPp π, D, 147)) rfl trivial ?_
  refine z_br (m ≤ k) 151 15 [] rfl (fun hx1 => ?_) (fun h => absurd (show m ≤ k from by omega) h)
  refine z_n 10 (166, [(2, vi k), (0, vr 137), (1, vi m)], [vi (I 138 4), vi 4, vr 138], ((zup I 138 55 0), zPp π, D, 147)) (G := (0 ≤ 55 ∧ 55 < 585) ∧ (0 ≤ 4 ∧ 4 < 585) ∧ True) rfl ⟨by omega, by omega, trivial⟩ ?_
  refine z_top (b := 0) (m4) ?_
  refine z_n 8 (176, [(2, vi k), (0, vr 137), (1, vi m)], [vi (-1), vi (-1)], ((zup (zup I 138 55 0) 138 4 (-1)), zPp π, D, 147)) (G := (zr (-1)) ∧ (0 ≤ 4 ∧ 4 < 585) ∧ (0 ≤ 4 ∧ 4 < 585) ∧ True) rfl ⟨by omega, by omega, by omega, trivial⟩ ?_
  refine z_br (¬ (-1 : Int) = (-1)) 224 179 [] rfl (fun h => absurd h (show ¬ (¬ (-1 : Int) = (-1)) from by decide)) (fun hx2 => ?_)
  refine z_n 5 (186, [(2, vi k), (0, vr 137), (1, vi m)], [vi (I 138 3), vi 3, vr 138], ((zup (zup I 138 55 0) 138 4 (-1)), zPp π, D, 147)) (G := (0 ≤ 3 ∧ 3 < 585) ∧ True) rfl ⟨by omega, trivial⟩ ?_
  refine z_top (b := O) (m3) ?_
  refine z_n 4 (190, [(2, vi k), (0, vr 137), (1, vi m)], [vr 137], ((zup (zup (zup I 138 55 0) 138 4 (-1)) 138 3 (O + 1)), zPp π, D, 147)) (G := (zr (O + 1)) ∧ (0 ≤ 3 ∧ 3 < 585) ∧ True) rfl ⟨by omega, by omega, trivial⟩ ?_
  refine z_cv 97 [vr 137] [] rfl (m_charts (I := (zup (zup (zup I 138 55 0) 138 4 (-1)) 138 3 (O + 1))) (O := O + 1) rfl (by omega)) ?_
  refine z_n 7 (204, [(2, vi k), (0, vr 137), (1, vi m)], [vi ((zCr (zup (zup (zup I 138 55 0) 138 4 (-1)) 138 3 (O + 1)) (O + 1) 24) 138 3), vi 4, vr 138], ((zCr (zup (zup (zup I 138 55 0) 138 4 (-1)) 138 3 (O + 1)) (O + 1) 24), zPp π, D, 147)) (G := (0 ≤ 3 ∧ 3 < 585) ∧ True) rfl ⟨by omega, trivial⟩ ?_
  refine z_top (b := O + 1) ((zCr_lo (by omega) (by omega)).trans rfl) ?_
  refine z_n 4 (210, [(2, vi k), (0, vr 137), (1, vi m)], [vi ((zCr (zup (zup (zup I 138 55 0) 138 4 (-1)) 138 3 (O + 1)) (O + 1) 24) 138 2), vi (O + 1), vi 4, vr 138], ((zCr (zup (zup (zup I 138 55 0) 138 4 (-1)) 138 3 (O + 1)) (O + 1) 24), zPp π, D, 147)) (G := (0 ≤ 2 ∧ 2 < 585) ∧ True) rfl ⟨by omega, trivial⟩ ?_
  refine z_top (b := T) ((zCr_lo (by omega) (by omega)).trans m2) ?_
  refine z_br (T ≤ (O + 1)) 222 213 [vi 4, vr 138] rfl (fun h => absurd h (show ¬ (T ≤ (O + 1)) from by omega)) (fun hx3 => ?_)
  refine z_n 1 (214, [(2, vi k), (0, vr 137), (1, vi m)], [vr 137, vi 4, vr 138], ((zCr (zup (zup (zup I 138 55 0) 138 4 (-1)) 138 3 (O + 1)) (O + 1) 24), zPp π, D, 147)) rfl trivial ?_
  refine z_ci 95 [vr 137] [vi 4, vr 138] rfl (hdv) ?_
  refine z_n 5 (225, [(2, vi k), (0, vr 137), (1, vi m)], [vi m], ((zup (zCr (zup (zup (zup I 138 55 0) 138 4 (-1)) 138 3 (O + 1)) (O + 1) 24) 138 4 (((N + S - 1) / S) - 1)), zPp π, D, 147)) (G := (zr (((N + S - 1) / S) - 1)) ∧ (0 ≤ 4 ∧ 4 < 585) ∧ True) rfl ⟨by omega, by omega, trivial⟩ ?_
  first | exact z_ret rfl (zv1 (by omega)) rfl | (exfalso; omega)
set_option maxRecDepth 20000 in
theorem m_fin_B2 {I : zI} {π : Int → Nat} {D : zD} {N S T O k m : Int} (m0 : I 138 0 = N) (m1 : I 138 1 = S) (m2 : I 138 2 = T) (m3 : I 138 3 = O) (m4 : I 138 4 = 0) (hk : m ≤ k) (hN : 2 ≤ N ∧ N ≤ 24) (hS : 3 ≤ S ∧ S ≤ 8) (hO : 0 ≤ O ∧ O ≤ 5) (hT : T ≤ 6) (h2 : ¬ O + 1 < T) : zRuns 105 10 [(2, vi k), (0, vr 137), (1, vi m)] [] (I, zPp π, D, 147) (some (vi m)) ((zup (zCr (zup (zup (zup I 138 55 0) 138 4 (-1)) 138 3 (O + 1)) (O + 1) 24) 138 4 (-1)), zPp π, D, 147) := by
  have hdd := zdiv_b (a := N + S - 1) (b := S) (by omega) (by omega)
  have hdv : zMet 95 [vr 137] ((zCr (zup (zup (zup I 138 55 0) 138 4 (-1)) 138 3 (O + 1)) (O + 1) 24), zPp π, D, 147) (some (vi ((N + S - 1) / S))) ((zCr (zup (zup (zup I 138 55 0) 138 4 (-1)) 138 3 (O + 1)) (O + 1) 24), zPp π, D, 147) := by
    have q0 : zCr (zup (zup (zup I 138 55 0) 138 4 (-1)) 138 3 (O + 1)) (O + 1) 24 138 0 = N := (zCr_lo (by omega) (by omega)).trans m0
    have q1 : zCr (zup (zup (zup I 138 55 0) 138 4 (-1)) 138 3 (O + 1)) (O + 1) 24 138 1 = S := (zCr_lo (by omega) (by omega)).trans m1
    have h := m_mdiv (I := zCr (zup (zup (zup I 138 55 0) 138 4 (-1)) 138 3 (O + 1)) (O + 1) 24) (π := π) (D := D) (by omega) (by omega)
    rw [q0, q1] at h
    exact h
  refine z_n 2 (12, [(2, vi k), (0, vr 137), (1, vi m)], [vi m, vi k], (I, zPp π, D, 147)) rfl trivial ?_
  refine z_br (m ≤ k) 151 15 [] rfl (fun hx1 => ?_) (fun h => absurd (show m ≤ k from by omega) h)
  refine z_n 10 (166, [(2, vi k), (0, vr 137), (1, vi m)], [vi (I 138 4), vi 4, vr 138], ((zup I 138 55 0), zPp π, D, 147)) (G := (0 ≤ 55 ∧ 55 < 585) ∧ (0 ≤ 4 ∧ 4 < 585) ∧ True) rfl ⟨by omega, by omega, trivial⟩ ?_
  refine z_top (b := 0) (m4) ?_
  refine z_n 8 (176, [(2, vi k), (0, vr 137), (1, vi m)], [vi (-1), vi (-1)], ((zup (zup I 138 55 0) 138 4 (-1)), zPp π, D, 147)) (G := (zr (-1)) ∧ (0 ≤ 4 ∧ 4 < 585) ∧ (0 ≤ 4 ∧ 4 < 585) ∧ True) rfl ⟨by omega, by omega, by omega, trivial⟩ ?_
  refine z_br (¬ (-1 : Int) = (-1)) 224 179 [] rfl (fun h => absurd h (show ¬ (¬ (-1 : Int) = (-1)) from by decide)) (fun hx2 => ?_)
  refine z_n 5 (186, [(2, vi k), (0, vr 137), (1, vi m)], [vi (I 138 3), vi 3, vr 138], ((zup (zup I 138 55 0) 138 4 (-1)), zPp π, D, 147)) (G := (0 ≤ 3 ∧ 3 < 585) ∧ True) rfl ⟨by omega, trivial⟩ ?_
  refine z_top (b := O) (m3) ?_
  refine z_n 4 (190, [(2, vi k), (0, vr 137), (1, vi m)], [vr 137], ((zup (zup (zup I 138 55 0) 138 4 (-1)) 138 3 (O + 1)), zPp π, D, 147)) (G := (zr (O + 1)) ∧ (0 ≤ 3 ∧ 3 < 585) ∧ True) rfl ⟨by omega, by omega, trivial⟩ ?_
  refine z_cv 97 [vr 137] [] rfl (m_charts (I := (zup (zup (zup I 138 55 0) 138 4 (-1)) 138 3 (O + 1))) (O := O + 1) rfl (by omega)) ?_
  refine z_n 7 (204, [(2, vi k), (0, vr 137), (1, vi m)], [vi ((zCr (zup (zup (zup I 138 55 0) 138 4 (-1)) 138 3 (O + 1)) (O + 1) 24) 138 3), vi 4, vr 138], ((zCr (zup (zup (zup I 138 55 0) 138 4 (-1)) 138 3 (O + 1)) (O + 1) 24), zPp π, D, 147)) (G := (0 ≤ 3 ∧ 3 < 585) ∧ True) rfl ⟨by omega, trivial⟩ ?_
  refine z_top (b := O + 1) ((zCr_lo (by omega) (by omega)).trans rfl) ?_
  refine z_n 4 (210, [(2, vi k), (0, vr 137), (1, vi m)], [vi ((zCr (zup (zup (zup I 138 55 0) 138 4 (-1)) 138 3 (O + 1)) (O + 1) 24) 138 2), vi (O + 1), vi 4, vr 138], ((zCr (zup (zup (zup I 138 55 0) 138 4 (-1)) 138 3 (O + 1)) (O + 1) 24), zPp π, D, 147)) (G := (0 ≤ 2 ∧ 2 < 585) ∧ True) rfl ⟨by omega, trivial⟩ ?_
  refine z_top (b := T) ((zCr_lo (by omega) (by omega)).trans m2) ?_
  refine z_br (T ≤ (O + 1)) 222 213 [vi 4, vr 138] rfl (fun hx3 => ?_) (fun h => absurd (show T ≤ (O + 1) from by omega) h)
  refine z_n 3 (225, [(2, vi k), (0, vr 137), (1, vi m)], [vi m], ((zup (zCr (zup (zup (zup I 138 55 0) 138 4 (-1)) 138 3 (O + 1)) (O + 1) 24) 138 4 (-1)), zPp π, D, 147)) (G := (0 ≤ 4 ∧ 4 < 585) ∧ True) rfl ⟨by omega, trivial⟩ ?_
  first | exact z_ret rfl (zv1 (by omega)) rfl | (exfalso; omega)
theorem zup_u {I : zI} {r : Nat} {k v : Int} : zup I r k v r = zu1 (I r) k v := by
  funext j
  simp [zup, zu1]
/-- a race's bumps exchanged, the first so many -/
def zERX (X : zI) : Nat → zI
  | 0 => X
  | n + 1 => zStp (zERX X n) (X 9 n) (X 11 n)
theorem zERX_X {K : zI} : ∀ n : Nat, zX (zER K n) 2 = zERX (zX K 2) n
  | 0 => rfl
  | n + 1 => by
    show zX (zStep (zER K n) (K 11 n) (K 13 n)) 2 = zStp (zERX (zX K 2) n) (K 11 n) (K 13 n)
    rw [zStp_X, zERX_X n]
theorem zStp_o {X : zI} {u d : Int} {r : Nat} (h : r ≠ 4 ∧ r ≠ 6 ∧ r ≠ 12 ∧ r ≠ 14 ∧ r ≠ 16 ∧ r ≠ 18 ∧ r ≠ 20) : zStp X u d r = X r := by
  obtain ⟨h1, h2, h3, h4, h5, h6, h7⟩ := h
  unfold zStp
  rw [zup_ne h1, zup_ne h2, zup_ne h1, zup_ne h2, zup_ne h3, zup_ne h7, zup_ne h6, zup_ne h5, zup_ne h4]
theorem zERX_o {X : zI} {r : Nat} (h : r ≠ 4 ∧ r ≠ 6 ∧ r ≠ 12 ∧ r ≠ 14 ∧ r ≠ 16 ∧ r ≠ 18 ∧ r ≠ 20) : ∀ n : Nat, zERX X n r = X r
  | 0 => rfl
  | n + 1 => by
    show zStp (zERX X n) _ _ r = _
    rw [zStp_o h, zERX_o h n]
theorem zERX_l {X : zI} : ∀ n : Nat, zERX X n 12 4 = X 12 4 + n
  | 0 => by show X 12 4 = X 12 4 + ((0 : Nat) : Int); omega
  | n + 1 => by
    have h := zERX_l (X := X) n
    show zStp (zERX X n) _ _ 12 4 = _
    have : zStp (zERX X n) (X 9 n) (X 11 n) 12 4 = zERX X n 12 4 + 1 := rfl
    rw [this, h]
    omega
theorem m_fin_l {X : zI} {π : Int → Nat} {D : zD} (ci : zCI X) (hr : ¬ X 0 9 = -1) : ∀ (N : Nat) (k : Int) (I : zI), 0 ≤ k → k + N = X 7 2 → zEq (I 138) (zERX X k.toNat) → ∃ J, zRuns 105 10 [(2, vi k), (0, vr 137), (1, vi (X 7 2))] [] (I, zPp π, D, 147) (some (vi (X 7 2))) (J, zPp π, D, 147) ∧ (∀ r, r ≠ 138 → J r = I r) ∧ zEq (J 138) (zFnX (zERX X (X 7 2).toNat)) := by
  obtain ⟨⟨w, v, hsp, ⟨⟨hl0, hl1⟩, hlg, hps⟩, hpt, hp0⟩, hm, hd⟩ := id ci
  have hzb := zns_b w
  have hm4 := zdis_le w v hd hm
  have hl2 := zlb_b w
  obtain ⟨⟨w1, w2⟩, ⟨w3, w4⟩, ⟨w5, w6⟩, ⟨w7, w8⟩, ⟨w9, w10⟩, w11, ⟨⟨w12, w12b⟩, w12c⟩, ⟨w13, w14⟩, ⟨w15, w16⟩⟩ := id w
  intro N
  induction N with
  | zero =>
    intro k I h0 hN e
    obtain rfl : k = X 7 2 := by omega
    have eF : zERX X (X 7 2).toNat 0 = X 0 := zERX_o (by decide) _
    have eL := zERX_l (X := X) (X 7 2).toNat
    obtain ⟨⟨m0, m1, m2, m3, m4, m5, m6⟩, -, -, -, -⟩ := id e
    rw [eF] at m0 m1 m2 m3 m4
    by_cases hR : 0 < X 0 9
    · have e2 := zEq_fA e (by rw [eF]; exact hR) (by rw [eF]; omega) (by omega)
      rw [eF] at e2
      refine ⟨_, m_fin_A m4 (by omega) (by omega), fun r h => ?_, ?_⟩
      · rw [zup_ne h, zup_ne h]
      · rw [zup_u, zup_u]; exact e2
    · have h9 : X 0 9 = 0 := by omega
      have e2 : ∀ x, x = (if X 0 8 + 1 < X 0 7 then (X 0 5 + X 0 6 - 1) / X 0 6 - 1 else -1) → _ := fun x hx => zEq_fB (x := x) e (by rw [eF]; exact hR) (by rw [eF]; omega) (by omega) (by rw [eF]; omega) (by rw [eF]; exact hx)
      rw [eF] at e2
      have key : ∀ x, (zup (zCr (zup (zup (zup I 138 55 0) 138 4 (-1)) 138 3 (X 0 8 + 1)) (X 0 8 + 1) 24) 138 4 x) 138 = (fun j => if j = 4 then x else if 417 + 24 * (X 0 8 + 1) ≤ j ∧ j < 417 + 24 * (X 0 8 + 1) + 24 then I 138 (31 + (j - (417 + 24 * (X 0 8 + 1)))) else zu1 (zu1 (zu1 (I 138) 55 0) 4 (-1)) 3 (X 0 8 + 1) j) := by
        intro x
        funext j
        rw [zup_at]
        unfold zCr
        by_cases hj : j = 4
        · rw [if_pos hj, if_pos hj]
        · rw [if_neg hj, if_neg hj]
          by_cases hj2 : 417 + 24 * (X 0 8 + 1) ≤ j ∧ j < 417 + 24 * (X 0 8 + 1) + 24
          · rw [if_pos ⟨rfl, hj2⟩, if_pos hj2, zup_at, if_neg (by omega), zup_at, if_neg (by omega), zup_at, if_neg (by omega)]
          · rw [if_neg (fun h => hj2 h.2), if_neg hj2, zup_u, zup_u, zup_u]
      have ko : ∀ x r, r ≠ 138 → (zup (zCr (zup (zup (zup I 138 55 0) 138 4 (-1)) 138 3 (X 0 8 + 1)) (X 0 8 + 1) 24) 138 4 x) r = I r := by
        intro x r h
        rw [zup_ne h]
        funext j
        unfold zCr
        rw [if_neg (fun h2 => h h2.1), zup_ne h, zup_ne h, zup_ne h]
      by_cases h2 : X 0 8 + 1 < X 0 7
      · refine ⟨_, m_fin_B1 m0 m1 m2 m3 (m4.trans h9) (by omega) (by omega) (by omega) (by omega) (by omega) h2, ko _, ?_⟩
        rw [key]
        exact e2 _ (by rw [if_pos h2])
      · refine ⟨_, m_fin_B2 m0 m1 m2 m3 (m4.trans h9) (by omega) (by omega) (by omega) (by omega) (by omega) h2, ko _, ?_⟩
        rw [key]
        exact e2 _ (by rw [if_neg h2])
  | succ N ih =>
    intro k I h0 hN e
    have dk := hd k h0 (by omega)
    have du := dk.1.1
    have dd := dk.2.1.1
    have dne : ¬ X 9 k = X 11 k := fun h => by have := dk.2.2.1; rw [h] at this; omega
    have eF : zERX X k.toNat 0 = X 0 := zERX_o (by decide) _
    have e7 : zERX X k.toNat 7 = X 7 := zERX_o (by decide) _
    have e9 : zERX X k.toNat 9 = X 9 := zERX_o (by decide) _
    have e11 : zERX X k.toNat 11 = X 11 := zERX_o (by decide) _
    have eL := zERX_l (X := X) k.toNat
    have e2 := zEq_st e (a := X 9 k) (b := X 11 k) (by rw [eF]; exact du) (by rw [eF]; exact dd) dne (by rw [eF]; omega) (by omega) (by rw [e7]; omega)
    obtain ⟨⟨m0, m1, m2, m3, m4, m5, m6⟩, mc, ⟨mb, mk⟩, ⟨ml, mg⟩, mt⟩ := id e
    rw [e7, e9, e11] at mk
    rw [eF] at m3 mc e2
    have hstep : zStp (zERX X k.toNat) (X 9 k) (X 11 k) = zERX X (k + 1).toNat := by
      obtain ⟨j, rfl⟩ : ∃ j : Nat, k = j := ⟨k.toNat, by omega⟩
      rfl
    rw [hstep] at e2
    obtain ⟨J, hJ, hJr, hJe⟩ := ih (k + 1) (zup (zup (zup (zup (zup (zup I 138 (31 + X 9 k) (zERX X k.toNat 4 (X 11 k))) 138 (31 + X 11 k) (zERX X k.toNat 4 (X 9 k))) 138 (81 + zERX X k.toNat 12 4) (X 0 8)) 138 (193 + zERX X k.toNat 12 4) (X 9 k)) 138 (305 + zERX X k.toNat 12 4) (X 11 k)) 138 80 (zERX X k.toNat 12 4 + 1)) (by omega) (by omega) (by rw [zup_u, zup_u, zup_u, zup_u, zup_u, zup_u]; exact e2)
    refine ⟨J, m_fin_b (mk k h0 (by omega)).1 (mk k h0 (by omega)).2 (mc _ du.1 du.2).2 (mc _ dd.1 dd.2).2 ml m3 (by omega) (by omega) (by omega) (by omega) (by omega) hJ, fun r h => ?_, hJe⟩
    rw [hJr r h, zup_ne h, zup_ne h, zup_ne h, zup_ne h, zup_ne h, zup_ne h]
set_option maxRecDepth 20000 in
theorem m_Rfinishes {I : zI} {π : Int → Nat} {D : zD} {X : zI}  (e : zEq (I 138) X) (ci : zCI X) (hr : ¬ X 0 9 = -1) : ∃ J, zMet 105 [vr 137] (I, zPp π, D, 147) (some (vi (X 7 2))) (J, zPp π, D, 147) ∧ (∀ r, r ≠ 138 → J r = I r) ∧ zEq (J 138) (zFnX (zERX X (X 7 2).toNat)) := by
  obtain ⟨J, hrun, hJr, hJe⟩ := m_fin_l (π := π) (D := D) ci hr (X 7 2).toNat 0 I (by omega) (by have := ci.2.1; omega) e
  have mb := e.2.2.1.1
  refine ⟨J, ?_, hJr, hJe⟩
  refine z_n 4 (7, [(0, vr 137)], [vi (I 138 55)], (I, zPp π, D, 147)) (G := (0 ≤ 55 ∧ 55 < 585) ∧ True) rfl ⟨by omega, trivial⟩ ?_
  refine z_top (b := X 7 2) (mb) ?_
  refine z_n 3 (10, [(2, vi 0), (1, vi (X 7 2)), (0, vr 137)], [], (I, zPp π, D, 147)) rfl trivial ?_
  refine z_sub [(2, vi 0), (0, vr 137), (1, vi (X 7 2))] [0, 2, 1] rfl ?_
  exact hrun
set_option maxRecDepth 20000 in
theorem m_Rfinish0 {I : zI} {π : Int → Nat} {D : zD}  (hq : I 138 4 = -1) : zMet 120 [vr 137] (I, zPp π, D, 147) (some (vi (-1002))) (I, zPp π, D, 147) := by
  refine z_n 5 (7, [(0, vr 137)], [vi (-1), vi (I 138 4)], (I, zPp π, D, 147)) (G := (0 ≤ 4 ∧ 4 < 585) ∧ True) rfl ⟨by omega, trivial⟩ ?_
  refine z_br (¬ (I 138 4) = (-1)) 14 10 [] rfl (fun h => absurd h (show ¬ (¬ (I 138 4) = (-1)) from fun h9 => h9 hq)) (fun hx1 => ?_)
  refine z_n 1 (13, [(0, vr 137)], [vi (-1002)], (I, zPp π, D, 147)) rfl trivial ?_
  first | exact z_ret rfl (zv1 (by omega)) rfl | (exfalso; omega)
set_option maxRecDepth 20000 in
theorem m_Rfinish1 {I : zI} {π : Int → Nat} {D : zD} {X : zI}  (e : zEq (I 138) X) (ci : zCI X) (hs : 0 ≤ I 137 2 ∧ I 137 2 ≤ 4) (hr : ¬ X 0 9 = -1) : ∃ J K, zMet 120 [vr 137] (I, zPp π, D, 147) (some (vi (X 7 2))) (K, zPp π, D, 147) ∧ zRcd J I ∧ (∀ r, r ≠ 138 → K r = J r) ∧ zEq (K 138) (zFnX (zERX X (X 7 2).toNat)) := by
  obtain ⟨⟨m0, m1, m2, m3, m4, m5, m6⟩, mc, ⟨mb, mk⟩, ⟨ml, mg⟩, mt⟩ := id e
  obtain ⟨⟨w, v, hsp, ⟨⟨hl0, hl1⟩, hlg, hps⟩, hpt, hp0⟩, hm, hd⟩ := id ci
  have hzb := zns_b w
  have hm4 := zdis_le w v hd hm
  have hl2 := zlb_b w
  obtain ⟨⟨w1, w2⟩, ⟨w3, w4⟩, ⟨w5, w6⟩, ⟨w7, w8⟩, ⟨w9, w10⟩, w11, ⟨⟨w12, w12b⟩, w12c⟩, ⟨w13, w14⟩, ⟨w15, w16⟩⟩ := id w
  obtain ⟨J, hJ, hR⟩ := m_rec (I := I) (π := π) (D := D) hs
  have e2 : zEq (J 138) X := by rw [hR.1 138 (by decide) (by decide)]; exact e
  obtain ⟨⟨j0, j1, j2, j3, j4, j5, j6⟩, jc, ⟨jb, jk⟩, ⟨jl, jg⟩, jt⟩ := id e2
  obtain ⟨K, hK, hKr, hKe⟩ := m_Rfinishes (π := π) (D := D) e2 ci hr
  refine ⟨J, K, ?_, hR, hKr, hKe⟩
  refine z_n 5 (7, [(0, vr 137)], [vi (-1), vi (I 138 4)], (I, zPp π, D, 147)) (G := (0 ≤ 4 ∧ 4 < 585) ∧ True) rfl ⟨by omega, trivial⟩ ?_
  refine z_br (¬ (I 138 4) = (-1)) 14 10 [] rfl (fun hx1 => ?_) (fun h => absurd (show ¬ (I 138 4) = (-1) from by omega) h)
  refine z_n 1 (15, [(0, vr 137)], [vr 137], (I, zPp π, D, 147)) rfl trivial ?_
  refine z_cv 96 [vr 137] [] rfl (hJ) ?_
  refine z_n 1 (19, [(0, vr 137)], [vr 137], (J, zPp π, D, 147)) rfl trivial ?_
  refine z_ci 105 [vr 137] [] rfl (hK) ?_
  first | exact z_ret rfl (zv1 (by omega)) rfl | (exfalso; omega)
/-- as zCJ, but how many bumps there can be -/
def zCK (X : zI) : Prop := zW1 (X 0) ∧ zW2 (X 0) (X 4) (X 6) ∧ (∀ c, 0 ≤ c → c < X 0 5 → 1 ≤ X 2 c ∧ X 2 c ≤ 1000) ∧ (0 ≤ X 12 4 ∧ (∀ k, 0 ≤ k → k < X 12 4 → (0 ≤ X 16 k ∧ X 16 k < X 0 5) ∧ (0 ≤ X 18 k ∧ X 18 k < X 0 5) ∧ ¬ X 16 k = X 18 k ∧ X 20 k = zsw (X 16) (X 18) k.toNat (X 16 k) - zsw (X 16) (X 18) k.toNat (X 18 k)) ∧ ∀ c, 0 ≤ c → c < X 0 5 → X 4 c = zsw (X 16) (X 18) (X 12 4).toNat c) ∧ zPA X
theorem zCJ_CK {X : zI} (h : zCJ X) : zCK X := by
  obtain ⟨w, v, hsp, ⟨⟨hl0, hl1⟩, hlg, hps⟩, hpa⟩ := h
  exact ⟨w, v, hsp, ⟨hl0, hlg, hps⟩, hpa⟩
theorem zCK_CJ {X : zI} (h : zCK X) (h2 : X 12 4 ≤ zlb (X 0)) : zCJ X := by
  obtain ⟨w, v, hsp, ⟨hl0, hlg, hps⟩, hpa⟩ := h
  exact ⟨w, v, hsp, ⟨⟨hl0, h2⟩, hlg, hps⟩, hpa⟩
theorem zStp_4 {X : zI} {a b c : Int} : zStp X a b 4 c = if c = b then X 4 a else if c = a then X 4 b else X 4 c := by
  unfold zStp
  rw [zup_at, zup_ne (by decide), zup_at, zup_ne (by decide), zup_ne (by decide), zup_ne (by decide), zup_ne (by decide), zup_ne (by decide), zup_ne (by decide)]
theorem zStp_6 {X : zI} {a b c : Int} : zStp X a b 6 c = if c = X 4 a then b else if c = X 4 b then a else X 6 c := by
  unfold zStp
  rw [zup_ne (by decide), zup_at, zup_ne (by decide), zup_at, zup_ne (by decide), zup_ne (by decide), zup_ne (by decide), zup_ne (by decide), zup_ne (by decide)]
theorem zStp_16 {X : zI} {a b k : Int} : zStp X a b 16 k = if k = X 12 4 then a else X 16 k := by
  unfold zStp
  rw [zup_ne (by decide), zup_ne (by decide), zup_ne (by decide), zup_ne (by decide), zup_ne (by decide), zup_ne (by decide), zup_ne (by decide), zup_at, zup_ne (by decide)]
theorem zStp_18 {X : zI} {a b k : Int} : zStp X a b 18 k = if k = X 12 4 then b else X 18 k := by
  unfold zStp
  rw [zup_ne (by decide), zup_ne (by decide), zup_ne (by decide), zup_ne (by decide), zup_ne (by decide), zup_ne (by decide), zup_at, zup_ne (by decide), zup_ne (by decide)]
theorem zStp_20 {X : zI} {a b k : Int} : zStp X a b 20 k = if k = X 12 4 then X 4 a - X 4 b else X 20 k := by
  unfold zStp
  rw [zup_ne (by decide), zup_ne (by decide), zup_ne (by decide), zup_ne (by decide), zup_ne (by decide), zup_at, zup_ne (by decide), zup_ne (by decide), zup_ne (by decide)]
theorem zW2_x {F Pl Q : Int → Int} {a b : Int} (hN : F 5 ≤ 24) (v : zW2 F Pl Q) (ha : 0 ≤ a ∧ a < F 5) (hb : 0 ≤ b ∧ b < F 5) (hab : ¬ a = b) : zW2 F (fun c => if c = b then Pl a else if c = a then Pl b else Pl c) (fun c => if c = Pl a then b else if c = Pl b then a else Q c) := by
  have va := v.1 a ha.1 ha.2
  have vb := v.1 b hb.1 hb.2
  refine ⟨fun c c0 c1 => ?_, fun q q0 q1 => ?_, fun c c0 c1 => ?_⟩
  · have vc := v.1 c c0 c1
    dsimp only
    by_cases h1 : c = b
    · rw [if_pos h1, if_pos rfl]; omega
    · rw [if_neg h1]
      by_cases h2 : c = a
      · rw [if_pos h2, if_neg (fun h => hab (by rw [← va.2.2, ← vb.2.2, h])), if_pos rfl]; omega
      · rw [if_neg h2, if_neg (fun h => h2 (by rw [← vc.2.2, h, va.2.2])), if_neg (fun h => h1 (by rw [← vc.2.2, h, vb.2.2]))]; omega
  · have vq := v.2.1 q q0 q1
    dsimp only
    by_cases h1 : q = Pl a
    · rw [if_pos h1, if_pos rfl]; omega
    · rw [if_neg h1]
      by_cases h2 : q = Pl b
      · rw [if_pos h2, if_neg hab, if_pos rfl]; omega
      · rw [if_neg h2, if_neg (fun h => h2 (by rw [← vq.2.2, h])), if_neg (fun h => h1 (by rw [← vq.2.2, h]))]; omega
  · have vc := v.2.2 c c0 c1
    have va3 := v.2.2 a ha.1 (by omega)
    have vb3 := v.2.2 b hb.1 (by omega)
    dsimp only
    split
    · exact va3
    · split
      · exact vb3
      · exact vc
theorem zCK_st {X : zI} {a b : Int} (h : zCK X) (ha : 0 ≤ a ∧ a < X 0 5) (hb : 0 ≤ b ∧ b < X 0 5) (hab : ¬ a = b) : zCK (zStp X a b) := by
  obtain ⟨w, v, hsp, ⟨hl0, hlg, hps⟩, hpt, hp0⟩ := h
  have e0 : zStp X a b 0 = X 0 := zStp_o (by decide)
  have e2 : zStp X a b 2 = X 2 := zStp_o (by decide)
  have e22 : zStp X a b 22 = X 22 := zStp_o (by decide)
  have e12 : zStp X a b 12 4 = X 12 4 + 1 := rfl
  have cg : ∀ n : Nat, (n : Int) ≤ X 12 4 → zsw (zStp X a b 16) (zStp X a b 18) n = zsw (X 16) (X 18) n := by
    intro n hn
    refine zsw_cg n (fun k k0 k1 => ?_)
    rw [zStp_16, zStp_18, if_neg (by omega), if_neg (by omega)]
    exact ⟨rfl, rfl⟩
  unfold zCK zPA
  rw [e0, e2, e22, e12]
  refine ⟨w, ?_, hsp, ⟨by omega, fun k k0 k1 => ?_, fun c c0 c1 => ?_⟩, hpt, hp0⟩
  · have h4 : zStp X a b 4 = fun c => if c = b then X 4 a else if c = a then X 4 b else X 4 c := funext fun c => zStp_4
    have h6 : zStp X a b 6 = fun c => if c = X 4 a then b else if c = X 4 b then a else X 6 c := funext fun c => zStp_6
    rw [h4, h6]
    exact zW2_x (by have := w.1; omega) v ha hb hab
  · rw [cg k.toNat (by omega), zStp_16, zStp_18, zStp_20]
    by_cases hk : k = X 12 4
    · rw [if_pos hk, if_pos hk, if_pos hk]
      refine ⟨ha, hb, hab, ?_⟩
      rw [hk, ← hps a ha.1 ha.2, ← hps b hb.1 hb.2]
    · rw [if_neg hk, if_neg hk, if_neg hk]
      exact hlg k k0 (by omega)
  · rw [zsw_s hl0, zStp_4, zStp_16, zStp_18, if_pos rfl, if_pos rfl, cg _ (by omega)]
    dsimp only
    by_cases h1 : c = b
    · subst h1
      rw [if_pos rfl, if_neg (fun h => hab h.symm), if_pos rfl]
      exact hps a ha.1 ha.2
    · rw [if_neg h1]
      by_cases h2 : c = a
      · rw [if_pos h2, if_pos h2]
        exact hps b hb.1 hb.2
      · rw [if_neg h2, if_neg h2, if_neg h1]
        exact hps c c0 c1
theorem zCK_ER {X : zI} (ci : zCI X) : ∀ n : Nat, (n : Int) ≤ X 7 2 → zCK (zERX X n)
  | 0, _ => zCJ_CK ci.1
  | n + 1, hn => by
    have ih := zCK_ER ci n (by omega)
    have dk := ci.2.2 n (by omega) (by omega)
    have e0 : zERX X n 0 = X 0 := zERX_o (by decide) _
    refine zCK_st ih (by rw [e0]; exact dk.1.1) (by rw [e0]; exact dk.2.1.1) (fun h => ?_)
    have := dk.2.2.1
    rw [h] at this
    omega
theorem zCI_fin {X : zI} (ci : zCI X) (hr : ¬ X 0 9 = -1) : zCI (zFnX (zERX X (X 7 2).toNat)) := by
  have hm := ci.2.1
  have hd := ci.2.2
  have w := ci.1.1
  have v := ci.1.2.1
  have hlb := ci.1.2.2.2.1.1
  have ck := zCK_ER ci (X 7 2).toNat (by omega)
  have e0 : zERX X (X 7 2).toNat 0 = X 0 := zERX_o (by decide) _
  have eL := zERX_l (X := X) (X 7 2).toNat
  have hm4 := zdis_le w v hd hm
  generalize zERX X (X 7 2).toNat = Y at ck e0 eL
  obtain ⟨_, v', hsp, ⟨hl0, hlg, hps⟩, hpt, hp0⟩ := ck
  unfold zlb at hlb
  obtain ⟨⟨w1, w2⟩, ⟨w3, w4⟩, ⟨w5, w6⟩, ⟨w7, w8⟩, ⟨w9, w10⟩, w11, ⟨⟨w12, w12b⟩, w12c⟩, ⟨w13, w14⟩, ⟨w15, w16⟩⟩ := id w
  rw [if_neg hr] at hlb
  have hz : zns (X 0) ≤ X 0 6 + 1 := by unfold zns; omega
  unfold zFnX
  rw [e0]
  by_cases hR : 0 < X 0 9
  · rw [if_pos hR]
    refine ⟨zCK_CJ ⟨?_, v', hsp, ⟨hl0, hlg, hps⟩, ?_⟩ ?_, ?_, fun k k0 k1 => ?_⟩
    · unfold zW1
      show (2 ≤ Y 0 5 ∧ Y 0 5 ≤ 24) ∧ (3 ≤ Y 0 6 ∧ Y 0 6 ≤ 8) ∧ (1 ≤ Y 0 7 ∧ Y 0 7 ≤ 6) ∧ (0 ≤ Y 0 8 ∧ Y 0 8 ≤ Y 0 7) ∧ (-1 ≤ X 0 9 - 1 ∧ X 0 9 - 1 ≤ 7) ∧ (X 0 9 - 1 = -1 ↔ Y 0 8 = Y 0 7) ∧ ((-8 ≤ (X 0 9 - 1) * Y 0 6 ∧ (X 0 9 - 1) * Y 0 6 < Y 0 5) ∧ (X 0 9 - 1 = -1 ∨ 0 ≤ (X 0 9 - 1) * Y 0 6)) ∧ (100 ≤ Y 0 10 ∧ Y 0 10 ≤ 5000) ∧ (1 ≤ Y 0 11 ∧ Y 0 11 ≤ 1000)
      rw [e0]
      have h1 : 0 ≤ (X 0 9 - 1) * X 0 6 := Int.mul_nonneg (by omega) (by omega)
      have h2 : (X 0 9 - 1) * X 0 6 = X 0 9 * X 0 6 - X 0 6 := by rw [Int.sub_mul]; omega
      omega
    · exact ⟨hpt, hp0⟩
    · show Y 12 4 ≤ 16 * Y 0 8 + (if X 0 9 - 1 = -1 then 0 else (Y 0 6 + 1) / 2 * ((Y 0 5 + Y 0 6 - 1) / Y 0 6 - 1 - (X 0 9 - 1)))
      rw [e0, if_neg (by omega)]
      rcases (show X 0 6 = 3 ∨ X 0 6 = 4 ∨ X 0 6 = 5 ∨ X 0 6 = 6 ∨ X 0 6 = 7 ∨ X 0 6 = 8 by omega) with e | e | e | e | e | e <;> rw [e] at hlb hz ⊢ <;> omega
    · show (0 : Int) ≤ 0
      omega
    · have k1' : k < 0 := k1
      omega
  · have h9 : X 0 9 = 0 := by omega
    rw [if_neg hR]
    have hx : ∃ x, x = (if X 0 8 + 1 < X 0 7 then (X 0 5 + X 0 6 - 1) / X 0 6 - 1 else -1) := ⟨_, rfl⟩
    obtain ⟨x, hx⟩ := hx
    rw [← hx]
    rw [h9] at hlb
    refine ⟨zCK_CJ ⟨?_, v', hsp, ⟨hl0, hlg, hps⟩, ?_, ?_⟩ ?_, ?_, fun k k0 k1 => ?_⟩
    · unfold zW1
      show (2 ≤ Y 0 5 ∧ Y 0 5 ≤ 24) ∧ (3 ≤ Y 0 6 ∧ Y 0 6 ≤ 8) ∧ (1 ≤ Y 0 7 ∧ Y 0 7 ≤ 6) ∧ (0 ≤ X 0 8 + 1 ∧ X 0 8 + 1 ≤ Y 0 7) ∧ (-1 ≤ x ∧ x ≤ 7) ∧ (x = -1 ↔ X 0 8 + 1 = Y 0 7) ∧ ((-8 ≤ x * Y 0 6 ∧ x * Y 0 6 < Y 0 5) ∧ (x = -1 ∨ 0 ≤ x * Y 0 6)) ∧ (100 ≤ Y 0 10 ∧ Y 0 10 ≤ 5000) ∧ (1 ≤ Y 0 11 ∧ Y 0 11 ≤ 1000)
      rw [e0]
      rcases (show X 0 6 = 3 ∨ X 0 6 = 4 ∨ X 0 6 = 5 ∨ X 0 6 = 6 ∨ X 0 6 = 7 ∨ X 0 6 = 8 by omega) with e | e | e | e | e | e <;> rw [e] at hx ⊢ <;> (split at hx <;> omega)
    · intro t c t0 t1 c0 c1
      have t1' : t ≤ X 0 8 + 1 := t1
      have c1' : c < Y 0 5 := c1
      rw [e0] at c1'
      show 0 ≤ (if 22 = 22 ∧ (X 0 8 + 1) * 24 ≤ t * 24 + c ∧ t * 24 + c < (X 0 8 + 1) * 24 + X 0 5 then Y 4 (t * 24 + c - (X 0 8 + 1) * 24) else Y 22 (t * 24 + c)) ∧ (if 22 = 22 ∧ (X 0 8 + 1) * 24 ≤ t * 24 + c ∧ t * 24 + c < (X 0 8 + 1) * 24 + X 0 5 then Y 4 (t * 24 + c - (X 0 8 + 1) * 24) else Y 22 (t * 24 + c)) < Y 0 5
      rw [e0]
      by_cases ht : t = X 0 8 + 1
      · rw [if_pos (by omega), show t * 24 + c - (X 0 8 + 1) * 24 = c by omega]
        have := v'.1 c c0 (by rw [e0]; exact c1')
        rw [e0] at this
        omega
      · rw [if_neg (by omega)]
        have := hpt t c t0 (by rw [e0]; omega) c0 (by rw [e0]; exact c1')
        rw [e0] at this
        exact this
    · intro c c0 c1
      have c1' : c < Y 0 5 := c1
      rw [e0] at c1'
      show (if 22 = 22 ∧ (X 0 8 + 1) * 24 ≤ 0 * 24 + c ∧ 0 * 24 + c < (X 0 8 + 1) * 24 + X 0 5 then Y 4 (0 * 24 + c - (X 0 8 + 1) * 24) else Y 22 (0 * 24 + c)) = c
      rw [if_neg (by omega)]
      exact hp0 c c0 (by rw [e0]; exact c1')
    · show Y 12 4 ≤ 16 * (X 0 8 + 1) + (if x = -1 then 0 else (Y 0 6 + 1) / 2 * ((Y 0 5 + Y 0 6 - 1) / Y 0 6 - 1 - x))
      rw [e0]
      rcases (show X 0 6 = 3 ∨ X 0 6 = 4 ∨ X 0 6 = 5 ∨ X 0 6 = 6 ∨ X 0 6 = 7 ∨ X 0 6 = 8 by omega) with e | e | e | e | e | e <;> rw [e] at hx hlb hz ⊢ <;> (split at hx <;> split <;> omega)
    · show (0 : Int) ≤ 0
      omega
    · have k1' : k < 0 := k1
      omega
