theorem zlb_b {F : Int → Int} (w : zW1 F) : zlb F ≤ 96 ∧ (¬ F 9 = -1 → zlb F + (F 6 + 1) / 2 ≤ 96 ∧ F 8 ≤ 5 ∧ F 9 * F 6 + 1 ≤ F 5) := by
  obtain ⟨⟨w1, w2⟩, ⟨w3, w4⟩, ⟨w5, w6⟩, ⟨w7, w8⟩, ⟨w9, w10⟩, w11, ⟨⟨w12, w12b⟩, w12c⟩, ⟨w13, w14⟩, ⟨w15, w16⟩⟩ := w
  unfold zlb
  rcases (show F 6 = 3 ∨ F 6 = 4 ∨ F 6 = 5 ∨ F 6 = 6 ∨ F 6 = 7 ∨ F 6 = 8 by omega) with e | e | e | e | e | e <;> rw [e] at w12 w12b w12c ⊢ <;> omega
theorem zLt_Mk {I : zI} {Q u d : Int → Int} {E n t : Int} : zMk (zLt I Q E n u d t) I := by
  have g : ∀ r, r ≠ 137 → r ≠ 141 → r ≠ 142 → zLt I Q E n u d t r = I r := by
    intro r h1 h2 h3
    funext j
    unfold zLt zLs
    rw [if_neg (fun h => h3 h.1), if_neg (fun h => h2 h.1), if_neg (fun h => h3 h.1), if_neg (fun h => h1 h.1)]
  have g2 : ∀ j, j ≠ 10 → zLt I Q E n u d t 137 j = I 137 j := by
    intro j h
    unfold zLt zLs
    rw [if_neg (by omega), if_neg (by omega), if_neg (by omega), if_neg (by omega)]
  exact ⟨fun r hr => g r (by omega) (by omega) (by omega), g 138 (by decide) (by decide) (by decide), g 139 (by decide) (by decide) (by decide), g 140 (by decide) (by decide) (by decide), g2 2 (by decide), g2 4 (by decide)⟩
theorem m_ln {I X : zI} {π : Int → Nat} {D : zD} (e : zEq (I 138) X) (ci : zCI X) : ∃ J, zMet 100 [vr 137] (I, zPp π, D, 147) none (J, zPp π, D, 147) ∧ zLn J (X 0) (X 6) (zOut (X 7 2) (X 9) (X 11)) ∧ zMk J I ∧ zEq (J 138) X := by
  obtain ⟨⟨m0, m1, m2, m3, m4, m5, m6⟩, mc, ⟨mb, mk⟩, ⟨ml, mg⟩, mt⟩ := id e
  obtain ⟨⟨w, v, hsp, hlg, hpa⟩, hm, hd⟩ := id ci
  by_cases h9 : X 0 9 = -1
  · refine ⟨zup I 137 10 0, m_lines0 (m4.trans h9), ⟨?_, ?_, ?_⟩, ?_, ?_⟩
    · show (0 : Int) = zns (X 0)
      unfold zns
      rw [if_pos h9]
    · intro k k0 k1
      unfold zns at k1
      rw [if_pos h9] at k1
      omega
    · intro k k0 k1
      unfold zns at k1
      rw [if_pos h9] at k1
      omega
    · exact ⟨fun r hr => zup_ne (by omega), zup_ne (by decide), zup_ne (by decide), zup_ne (by decide), rfl, rfl⟩
    · rw [zup_ne (by decide)]; exact e
  · refine ⟨_, m_lines w v m0 m1 m4 (fun c a b => (mc c a b).2) mb hm (fun k a b => (mk k a b).1) (fun k a b => (mk k a b).2) hd h9, zLt_ln, zLt_Mk, ?_⟩
    rw [zLt_Mk.2.1]; exact e
/-- what a record leaves -/
def zRcd (J I : zI) : Prop := (∀ r, r ≠ 137 → r ≠ 139 → J r = I r) ∧ (∀ j, j ≠ 2 → J 137 j = I 137 j) ∧ J 137 2 = zkp (I 137 2) ∧ ∀ k j, 0 ≤ k → k < zkp (I 137 2) → 0 ≤ j → j < 585 → J 139 (585 * k + j) = if k = zkp (I 137 2) - 1 then I 138 j else if I 137 2 = 4 then I 139 (585 * (k + 1) + j) else I 139 (585 * k + j)
theorem m_rec {I : zI} {π : Int → Nat} {D : zD} (hs : 0 ≤ I 137 2 ∧ I 137 2 ≤ 4) : ∃ J, zMet 96 [vr 137] (I, zPp π, D, 147) none (J, zPp π, D, 147) ∧ zRcd J I := by
  by_cases h4 : I 137 2 = 4
  · refine ⟨_, m_rec4 h4, fun r h1 h2 => ?_, fun j hj => ?_, ?_, fun k j k0 k1 j0 j1 => ?_⟩
    · funext j
      unfold zup zRc zMv
      simp only [if_neg (show ¬ (r = 137 ∧ j = 2) from fun h => h1 h.1), if_neg (show ¬ (r = 139 ∧ 585 * 3 ≤ j ∧ j < 585 * 3 + 585) from fun h => h2 h.1), if_neg (show ¬ (r = 139 ∧ 0 ≤ j ∧ j < 1755) from fun h => h2 h.1)]
    · simp [zup, zRc, zMv, hj]
    · unfold zup zkp
      rw [if_pos ⟨rfl, rfl⟩, if_neg (by omega)]
    · have e4 : zkp (I 137 2) = 4 := by unfold zkp; rw [if_neg (by omega)]
      rw [e4] at k1 ⊢
      unfold zup zRc zMv
      dsimp only
      rw [if_neg (by omega)]
      by_cases hk : k = 4 - 1
      · rw [if_pos hk, if_pos (by omega)]
        rw [if_neg (by omega), if_neg (by omega)]
        rw [show 585 * k + j - 585 * 3 = j by omega]
      · rw [if_neg hk, if_neg (by omega), if_pos h4]
        rw [if_neg (by omega), if_pos (by omega), show 585 * k + j + 585 = 585 * (k + 1) + j by omega]
  · refine ⟨_, m_rec3 ⟨hs.1, by omega⟩, fun r h1 h2 => ?_, fun j hj => ?_, ?_, fun k j k0 k1 j0 j1 => ?_⟩
    · funext j
      unfold zup zRc
      rw [if_neg (show ¬ (r = 137 ∧ j = 2) from fun h => h1 h.1), if_neg (fun h => h2 h.1)]
    · unfold zup zRc
      (repeat' split) <;> first | rfl | (exfalso; omega)
    · unfold zup zkp
      rw [if_pos ⟨rfl, rfl⟩, if_pos (by omega)]
    · have e4 : zkp (I 137 2) = I 137 2 + 1 := by unfold zkp; rw [if_pos (by omega)]
      rw [e4] at k1 ⊢
      unfold zup zRc
      rw [if_neg (by omega), if_neg h4]
      by_cases hk : k = I 137 2 + 1 - 1
      · rw [if_pos hk, if_pos (by omega), show 585 * k + j - 585 * I 137 2 = j by rw [hk]; omega]
      · rw [if_neg hk, if_neg (by omega)]
set_option maxRecDepth 20000 in
theorem m_days1_l {I : zI} {π : Int → Nat} {D : zD} {O c : Int} {G : Int → Int} (m3 : I 138 3 = O) (hO : 0 ≤ O ∧ O ≤ 6) (hc : 0 ≤ c ∧ c < 24) (hG : ∀ t, 0 ≤ t → t ≤ O → I 138 (417 + 24 * t + c) = G t) (hb : ∀ t, 0 ≤ t → t ≤ O → 0 ≤ G t ∧ G t ≤ 24) : ∀ (N : Nat) (k : Int), 0 ≤ k → k + N = O → zRuns 110 5 [(4, vi k), (3, vi (zris G k.toNat)), (0, vr 137), (1, vi c), (2, vi 1)] [] (I, zPp π, D, 147) (some (vi (zris G O.toNat))) (I, zPp π, D, 147) := by
  intro N
  induction N with
  | zero =>
    intro k h0 hN
    refine z_n 5 (13, [(4, vi k), (3, vi (zris G k.toNat)), (0, vr 137), (1, vi c), (2, vi 1)], [vi (I 138 3), vi k], (I, zPp π, D, 147)) (G := (0 ≤ 3 ∧ 3 < 585) ∧ True) rfl ⟨by omega, trivial⟩ ?_
    refine z_br ((I 138 3) ≤ k) 75 16 [] rfl (fun hx1 => ?_) (fun h => absurd (show (I 138 3) ≤ k from by omega) h)
    refine z_n 1 (76, [(4, vi k), (3, vi (zris G k.toNat)), (0, vr 137), (1, vi c), (2, vi 1)], [vi (zris G k.toNat)], (I, zPp π, D, 147)) rfl trivial ?_
    exact z_ret rfl (zv1 (by rw [show k = O by omega])) rfl
  | succ N ih =>
  intro k h0 hN
  have ga := hG k h0 (by omega)
  have gb := hG (k + 1) (by omega) (by omega)
  rw [show 417 + 24 * (k + 1) + c = 417 + 24 * k + 24 + c by omega] at gb
  have ba := hb k h0 (by omega)
  have bb := hb (k + 1) (by omega) (by omega)
  have hk := zris_b (g := G) k.toNat
  refine z_n 5 (13, [(4, vi k), (3, vi (zris G k.toNat)), (0, vr 137), (1, vi c), (2, vi 1)], [vi (I 138 3), vi k], (I, zPp π, D, 147)) (G := (0 ≤ 3 ∧ 3 < 585) ∧ True) rfl ⟨by omega, trivial⟩ ?_
  refine z_br ((I 138 3) ≤ k) 75 16 [] rfl (fun h => absurd h (show ¬ ((I 138 3) ≤ k) from by omega)) (fun hx1 => ?_)
  refine z_n 28 (59, [(5, vi ((I 138 ((417 + (24 * k)) + c)) - (I 138 (((417 + (24 * k)) + 24) + c)))), (4, vi k), (3, vi (zris G k.toNat)), (0, vr 137), (1, vi c), (2, vi 1)], [vi (1 * ((I 138 ((417 + (24 * k)) + c)) - (I 138 (((417 + (24 * k)) + 24) + c)))), vi (zris G k.toNat)], (I, zPp π, D, 147)) (G := (zr (24 * k)) ∧ (zr (417 + (24 * k))) ∧ (zr ((417 + (24 * k)) + c)) ∧ (0 ≤ ((417 + (24 * k)) + c) ∧ ((417 + (24 * k)) + c) < 585) ∧ (zr (24 * k)) ∧ (zr (417 + (24 * k))) ∧ (zr ((417 + (24 * k)) + 24)) ∧ (zr (((417 + (24 * k)) + 24) + c)) ∧ (0 ≤ (((417 + (24 * k)) + 24) + c) ∧ (((417 + (24 * k)) + 24) + c) < 585) ∧ (zr ((I 138 ((417 + (24 * k)) + c)) - (I 138 (((417 + (24 * k)) + 24) + c)))) ∧ (zr (1 * ((I 138 ((417 + (24 * k)) + c)) - (I 138 (((417 + (24 * k)) + 24) + c))))) ∧ True) rfl ⟨by omega, by omega, by omega, by omega, by omega, by omega, by omega, by omega, by omega, by omega, by omega, trivial⟩ ?_
  refine z_br ((1 * ((I 138 ((417 + (24 * k)) + c)) - (I 138 (((417 + (24 * k)) + 24) + c)))) ≤ 0) 66 62 [vi (zris G k.toNat)] rfl (fun hx2 => ?_) (fun hx2 => ?_)
  · refine z_n 5 (5, [(4, vi (k + 1)), (3, vi ((zris G k.toNat) + 0)), (5, vi ((I 138 ((417 + (24 * k)) + c)) - (I 138 (((417 + (24 * k)) + 24) + c)))), (0, vr 137), (1, vi c), (2, vi 1)], [], (I, zPp π, D, 147)) (G := (zr ((zris G k.toNat) + 0)) ∧ (zr (k + 1)) ∧ True) rfl ⟨by omega, by omega, trivial⟩ ?_
    refine z_sub [(4, vi (k + 1)), (3, vi ((zris G k.toNat) + 0)), (0, vr 137), (1, vi c), (2, vi 1)] [0, 1, 3, 4, 5] rfl ?_
    refine z_lk (L1 := [(4, vi (k + 1)), (3, vi (zris G (k + 1).toNat)), (0, vr 137), (1, vi c), (2, vi 1)]) (by rw [zris_s h0]; split <;> first | rfl | (exfalso; omega)) ?_
    exact ih (k + 1) (by omega) (by omega)
  · refine z_n 6 (5, [(4, vi (k + 1)), (3, vi ((zris G k.toNat) + 1)), (5, vi ((I 138 ((417 + (24 * k)) + c)) - (I 138 (((417 + (24 * k)) + 24) + c)))), (0, vr 137), (1, vi c), (2, vi 1)], [], (I, zPp π, D, 147)) (G := (zr ((zris G k.toNat) + 1)) ∧ (zr (k + 1)) ∧ True) rfl ⟨by omega, by omega, trivial⟩ ?_
    refine z_sub [(4, vi (k + 1)), (3, vi ((zris G k.toNat) + 1)), (0, vr 137), (1, vi c), (2, vi 1)] [0, 1, 3, 4, 5] rfl ?_
    refine z_lk (L1 := [(4, vi (k + 1)), (3, vi (zris G (k + 1).toNat)), (0, vr 137), (1, vi c), (2, vi 1)]) (by rw [zris_s h0]; split <;> first | rfl | (exfalso; omega)) ?_
    exact ih (k + 1) (by omega) (by omega)
set_option maxRecDepth 20000 in
theorem m_days1 {I : zI} {π : Int → Nat} {D : zD} {O c : Int} {G : Int → Int} (m3 : I 138 3 = O) (hO : 0 ≤ O ∧ O ≤ 6) (hc : 0 ≤ c ∧ c < 24) (hG : ∀ t, 0 ≤ t → t ≤ O → I 138 (417 + 24 * t + c) = G t) (hb : ∀ t, 0 ≤ t → t ≤ O → 0 ≤ G t ∧ G t ≤ 24) : zMet 110 [vr 137, vi c, vi 1] (I, zPp π, D, 147) (some (vi (zris G O.toNat))) (I, zPp π, D, 147) := by
  refine z_n 4 (5, [(4, vi 0), (3, vi 0), (0, vr 137), (1, vi c), (2, vi 1)], [], (I, zPp π, D, 147)) rfl trivial ?_
  refine z_sub [(4, vi 0), (3, vi 0), (0, vr 137), (1, vi c), (2, vi 1)] [0, 1, 2, 3, 4] rfl ?_
  refine z_lk (L1 := [(4, vi 0), (3, vi (zris G (0 : Int).toNat)), (0, vr 137), (1, vi c), (2, vi 1)]) (by rfl) ?_
  exact m_days1_l m3 hO hc hG hb O.toNat 0 (by omega) (by omega)
set_option maxRecDepth 20000 in
theorem m_days0_l {I : zI} {π : Int → Nat} {D : zD} {O c : Int} {G : Int → Int} (m3 : I 138 3 = O) (hO : 0 ≤ O ∧ O ≤ 6) (hc : 0 ≤ c ∧ c < 24) (hG : ∀ t, 0 ≤ t → t ≤ O → I 138 (417 + 24 * t + c) = G t) (hb : ∀ t, 0 ≤ t → t ≤ O → 0 ≤ G t ∧ G t ≤ 24) : ∀ (N : Nat) (k : Int), 0 ≤ k → k + N = O → zRuns 110 5 [(4, vi k), (3, vi (zfal G k.toNat)), (0, vr 137), (1, vi c), (2, vi (-1))] [] (I, zPp π, D, 147) (some (vi (zfal G O.toNat))) (I, zPp π, D, 147) := by
  intro N
  induction N with
  | zero =>
    intro k h0 hN
    refine z_n 5 (13, [(4, vi k), (3, vi (zfal G k.toNat)), (0, vr 137), (1, vi c), (2, vi (-1))], [vi (I 138 3), vi k], (I, zPp π, D, 147)) (G := (0 ≤ 3 ∧ 3 < 585) ∧ True) rfl ⟨by omega, trivial⟩ ?_
    refine z_br ((I 138 3) ≤ k) 75 16 [] rfl (fun hx1 => ?_) (fun h => absurd (show (I 138 3) ≤ k from by omega) h)
    refine z_n 1 (76, [(4, vi k), (3, vi (zfal G k.toNat)), (0, vr 137), (1, vi c), (2, vi (-1))], [vi (zfal G k.toNat)], (I, zPp π, D, 147)) rfl trivial ?_
    exact z_ret rfl (zv1 (by rw [show k = O by omega])) rfl
  | succ N ih =>
  intro k h0 hN
  have ga := hG k h0 (by omega)
  have gb := hG (k + 1) (by omega) (by omega)
  rw [show 417 + 24 * (k + 1) + c = 417 + 24 * k + 24 + c by omega] at gb
  have ba := hb k h0 (by omega)
  have bb := hb (k + 1) (by omega) (by omega)
  have hk := zfal_b (g := G) k.toNat
  refine z_n 5 (13, [(4, vi k), (3, vi (zfal G k.toNat)), (0, vr 137), (1, vi c), (2, vi (-1))], [vi (I 138 3), vi k], (I, zPp π, D, 147)) (G := (0 ≤ 3 ∧ 3 < 585) ∧ True) rfl ⟨by omega, trivial⟩ ?_
  refine z_br ((I 138 3) ≤ k) 75 16 [] rfl (fun h => absurd h (show ¬ ((I 138 3) ≤ k) from by omega)) (fun hx1 => ?_)
  refine z_n 28 (59, [(5, vi ((I 138 ((417 + (24 * k)) + c)) - (I 138 (((417 + (24 * k)) + 24) + c)))), (4, vi k), (3, vi (zfal G k.toNat)), (0, vr 137), (1, vi c), (2, vi (-1))], [vi ((-1) * ((I 138 ((417 + (24 * k)) + c)) - (I 138 (((417 + (24 * k)) + 24) + c)))), vi (zfal G k.toNat)], (I, zPp π, D, 147)) (G := (zr (24 * k)) ∧ (zr (417 + (24 * k))) ∧ (zr ((417 + (24 * k)) + c)) ∧ (0 ≤ ((417 + (24 * k)) + c) ∧ ((417 + (24 * k)) + c) < 585) ∧ (zr (24 * k)) ∧ (zr (417 + (24 * k))) ∧ (zr ((417 + (24 * k)) + 24)) ∧ (zr (((417 + (24 * k)) + 24) + c)) ∧ (0 ≤ (((417 + (24 * k)) + 24) + c) ∧ (((417 + (24 * k)) + 24) + c) < 585) ∧ (zr ((I 138 ((417 + (24 * k)) + c)) - (I 138 (((417 + (24 * k)) + 24) + c)))) ∧ (zr ((-1) * ((I 138 ((417 + (24 * k)) + c)) - (I 138 (((417 + (24 * k)) + 24) + c))))) ∧ True) rfl ⟨by omega, by omega, by omega, by omega, by omega, by omega, by omega, by omega, by omega, by omega, by omega, trivial⟩ ?_
  refine z_br (((-1) * ((I 138 ((417 + (24 * k)) + c)) - (I 138 (((417 + (24 * k)) + 24) + c)))) ≤ 0) 66 62 [vi (zfal G k.toNat)] rfl (fun hx2 => ?_) (fun hx2 => ?_)
  · refine z_n 5 (5, [(4, vi (k + 1)), (3, vi ((zfal G k.toNat) + 0)), (5, vi ((I 138 ((417 + (24 * k)) + c)) - (I 138 (((417 + (24 * k)) + 24) + c)))), (0, vr 137), (1, vi c), (2, vi (-1))], [], (I, zPp π, D, 147)) (G := (zr ((zfal G k.toNat) + 0)) ∧ (zr (k + 1)) ∧ True) rfl ⟨by omega, by omega, trivial⟩ ?_
    refine z_sub [(4, vi (k + 1)), (3, vi ((zfal G k.toNat) + 0)), (0, vr 137), (1, vi c), (2, vi (-1))] [0, 1, 3, 4, 5] rfl ?_
    refine z_lk (L1 := [(4, vi (k + 1)), (3, vi (zfal G (k + 1).toNat)), (0, vr 137), (1, vi c), (2, vi (-1))]) (by rw [zfal_s h0]; split <;> first | rfl | (exfalso; omega)) ?_
    exact ih (k + 1) (by omega) (by omega)
  · refine z_n 6 (5, [(4, vi (k + 1)), (3, vi ((zfal G k.toNat) + 1)), (5, vi ((I 138 ((417 + (24 * k)) + c)) - (I 138 (((417 + (24 * k)) + 24) + c)))), (0, vr 137), (1, vi c), (2, vi (-1))], [], (I, zPp π, D, 147)) (G := (zr ((zfal G k.toNat) + 1)) ∧ (zr (k + 1)) ∧ True) rfl ⟨by omega, by omega, trivial⟩ ?_
    refine z_sub [(4, vi (k + 1)), (3, vi ((zfal G k.toNat) + 1)), (0, vr 137), (1, vi c), (2, vi (-1))] [0, 1, 3, 4, 5] rfl ?_
    refine z_lk (L1 := [(4, vi (k + 1)), (3, vi (zfal G (k + 1).toNat)), (0, vr 137), (1, vi c), (2, vi (-1))]) (by rw [zfal_s h0]; split <;> first | rfl | (exfalso; omega)) ?_
    exact ih (k + 1) (by omega) (by omega)
set_option maxRecDepth 20000 in
theorem m_days0 {I : zI} {π : Int → Nat} {D : zD} {O c : Int} {G : Int → Int} (m3 : I 138 3 = O) (hO : 0 ≤ O ∧ O ≤ 6) (hc : 0 ≤ c ∧ c < 24) (hG : ∀ t, 0 ≤ t → t ≤ O → I 138 (417 + 24 * t + c) = G t) (hb : ∀ t, 0 ≤ t → t ≤ O → 0 ≤ G t ∧ G t ≤ 24) : zMet 110 [vr 137, vi c, vi (-1)] (I, zPp π, D, 147) (some (vi (zfal G O.toNat))) (I, zPp π, D, 147) := by
  refine z_n 4 (5, [(4, vi 0), (3, vi 0), (0, vr 137), (1, vi c), (2, vi (-1))], [], (I, zPp π, D, 147)) rfl trivial ?_
  refine z_sub [(4, vi 0), (3, vi 0), (0, vr 137), (1, vi c), (2, vi (-1))] [0, 1, 2, 3, 4] rfl ?_
  refine z_lk (L1 := [(4, vi 0), (3, vi (zfal G (0 : Int).toNat)), (0, vr 137), (1, vi c), (2, vi (-1))]) (by rfl) ?_
  exact m_days0_l m3 hO hc hG hb O.toNat 0 (by omega) (by omega)
set_option maxRecDepth 20000 in
theorem m_bof_l {I : zI} {π : Int → Nat} {D : zD} {l c a : Int} {f : Int → Int} (ml : I 138 80 = l) (hl : 0 ≤ l ∧ l ≤ 96) (ha : 0 ≤ a ∧ a ≤ 400) (hG : ∀ t, 0 ≤ t → t < l → I 138 (a + t) = f t) : ∀ (N : Nat) (k : Int), 0 ≤ k → k + N = l → zRuns 111 5 [(4, vi k), (3, vi (zcnt f c k.toNat)), (0, vr 137), (1, vi c), (2, vi a)] [] (I, zPp π, D, 147) (some (vi (zcnt f c l.toNat))) (I, zPp π, D, 147) := by
  intro N
  induction N with
  | zero =>
    intro k h0 hN
    refine z_n 5 (14, [(4, vi k), (3, vi (zcnt f c k.toNat)), (0, vr 137), (1, vi c), (2, vi a)], [vi (I 138 80), vi k], (I, zPp π, D, 147)) (G := (0 ≤ 80 ∧ 80 < 585) ∧ True) rfl ⟨by omega, trivial⟩ ?_
    refine z_br ((I 138 80) ≤ k) 44 17 [] rfl (fun hx1 => ?_) (fun h => absurd (show (I 138 80) ≤ k from by omega) h)
    refine z_n 1 (45, [(4, vi k), (3, vi (zcnt f c k.toNat)), (0, vr 137), (1, vi c), (2, vi a)], [vi (zcnt f c k.toNat)], (I, zPp π, D, 147)) rfl trivial ?_
    exact z_ret rfl (zv1 (by rw [show k = l by omega])) rfl
  | succ N ih =>
  intro k h0 hN
  have ga := hG k h0 (by omega)
  have hk := zcnt_b (f := f) (c := c) k.toNat
  refine z_n 5 (14, [(4, vi k), (3, vi (zcnt f c k.toNat)), (0, vr 137), (1, vi c), (2, vi a)], [vi (I 138 80), vi k], (I, zPp π, D, 147)) (G := (0 ≤ 80 ∧ 80 < 585) ∧ True) rfl ⟨by omega, trivial⟩ ?_
  refine z_br ((I 138 80) ≤ k) 44 17 [] rfl (fun h => absurd h (show ¬ ((I 138 80) ≤ k) from by omega)) (fun hx1 => ?_)
  refine z_n 8 (28, [(4, vi k), (3, vi (zcnt f c k.toNat)), (0, vr 137), (1, vi c), (2, vi a)], [vi c, vi (I 138 (a + k)), vi (zcnt f c k.toNat)], (I, zPp π, D, 147)) (G := (zr (a + k)) ∧ (0 ≤ (a + k) ∧ (a + k) < 585) ∧ True) rfl ⟨by omega, by omega, trivial⟩ ?_
  refine z_br (¬ (I 138 (a + k)) = c) 35 31 [vi (zcnt f c k.toNat)] rfl (fun hx2 => ?_) (fun hx2 => ?_)
  · refine z_n 5 (5, [(4, vi (k + 1)), (3, vi ((zcnt f c k.toNat) + 0)), (0, vr 137), (1, vi c), (2, vi a)], [], (I, zPp π, D, 147)) (G := (zr ((zcnt f c k.toNat) + 0)) ∧ (zr (k + 1)) ∧ True) rfl ⟨by omega, by omega, trivial⟩ ?_
    refine z_sub [(4, vi (k + 1)), (3, vi ((zcnt f c k.toNat) + 0)), (0, vr 137), (1, vi c), (2, vi a)] [0, 1, 2, 3, 4] rfl ?_
    refine z_lk (L1 := [(4, vi (k + 1)), (3, vi (zcnt f c (k + 1).toNat)), (0, vr 137), (1, vi c), (2, vi a)]) (by rw [zcnt_s h0]; split <;> first | rfl | (exfalso; omega)) ?_
    exact ih (k + 1) (by omega) (by omega)
  · refine z_n 6 (5, [(4, vi (k + 1)), (3, vi ((zcnt f c k.toNat) + 1)), (0, vr 137), (1, vi c), (2, vi a)], [], (I, zPp π, D, 147)) (G := (zr ((zcnt f c k.toNat) + 1)) ∧ (zr (k + 1)) ∧ True) rfl ⟨by omega, by omega, trivial⟩ ?_
    refine z_sub [(4, vi (k + 1)), (3, vi ((zcnt f c k.toNat) + 1)), (0, vr 137), (1, vi c), (2, vi a)] [0, 1, 2, 3, 4] rfl ?_
    refine z_lk (L1 := [(4, vi (k + 1)), (3, vi (zcnt f c (k + 1).toNat)), (0, vr 137), (1, vi c), (2, vi a)]) (by rw [zcnt_s h0]; split <;> first | rfl | (exfalso; omega)) ?_
    exact ih (k + 1) (by omega) (by omega)
set_option maxRecDepth 20000 in
theorem m_bof {I : zI} {π : Int → Nat} {D : zD} {l c a : Int} {f : Int → Int} (ml : I 138 80 = l) (hl : 0 ≤ l ∧ l ≤ 96) (ha : 0 ≤ a ∧ a ≤ 400) (hG : ∀ t, 0 ≤ t → t < l → I 138 (a + t) = f t) : zMet 111 [vr 137, vi c, vi a] (I, zPp π, D, 147) (some (vi (zcnt f c l.toNat))) (I, zPp π, D, 147) := by
  refine z_n 4 (5, [(4, vi 0), (3, vi 0), (0, vr 137), (1, vi c), (2, vi a)], [], (I, zPp π, D, 147)) rfl trivial ?_
  refine z_sub [(4, vi 0), (3, vi 0), (0, vr 137), (1, vi c), (2, vi a)] [0, 1, 2, 3, 4] rfl ?_
  refine z_lk (L1 := [(4, vi 0), (3, vi (zcnt f c (0 : Int).toNat)), (0, vr 137), (1, vi c), (2, vi a)]) (by rfl) ?_
  exact m_bof_l ml hl ha hG l.toNat 0 (by omega) (by omega)
set_option maxRecDepth 20000 in
theorem m_Rcount0 {I : zI} {π : Int → Nat} {D : zD} {X : zI}  (e : zEq (I 138) X) (ci : zCI X)  : ∃ J, zMet 109 [vr 137, vi 0] (I, zPp π, D, 147) (some (vi (X 0 5))) (J, zPp π, D, 147) ∧ zMk J I := by
  obtain ⟨⟨m0, m1, m2, m3, m4, m5, m6⟩, mc, ⟨mb, mk⟩, ⟨ml, mg⟩, mt⟩ := id e
  obtain ⟨⟨w, v, hsp, ⟨⟨hl0, hl1⟩, hlg, hps⟩, hpt, hp0⟩, hm, hd⟩ := id ci
  have hzb := zns_b w
  have hm4 := zdis_le w v hd hm
  have hl2 := zlb_b w
  obtain ⟨⟨w1, w2⟩, ⟨w3, w4⟩, ⟨w5, w6⟩, ⟨w7, w8⟩, ⟨w9, w10⟩, w11, ⟨⟨w12, w12b⟩, w12c⟩, ⟨w13, w14⟩, ⟨w15, w16⟩⟩ := id w
  obtain ⟨J, hJ, hln, hmk, e2⟩ := m_ln (π := π) (D := D) e ci
  obtain ⟨⟨j0, j1, j2, j3, j4, j5, j6⟩, jc, ⟨jb, jk⟩, ⟨jl, jg⟩, jt⟩ := id e2
  have hmk2 := hmk.2.2.2.2.1
  have hmk4 := hmk.2.2.2.2.2
  have hl10 := hln.1
  refine ⟨J, ?_, hmk⟩
  refine z_n 1 (1, [(0, vr 137), (1, vi 0)], [vr 137], (I, zPp π, D, 147)) rfl trivial ?_
  refine z_cv 100 [vr 137] [] rfl (hJ) ?_
  refine z_n 5 (11, [(0, vr 137), (1, vi 0)], [vi (-1), vi (J 138 4)], (J, zPp π, D, 147)) (G := (0 ≤ 4 ∧ 4 < 585) ∧ True) rfl ⟨by omega, trivial⟩ ?_
  refine z_br ((J 138 4) = (-1)) 18 14 [] rfl (fun hx1 => ?_) (fun hx1 => ?_)
  · refine z_n 8 (94, [(2, vi 0), (0, vr 137), (1, vi 0)], [vi (J 138 0)], (J, zPp π, D, 147)) (G := (0 ≤ 0 ∧ 0 < 585) ∧ True) rfl ⟨by omega, trivial⟩ ?_
    first | exact z_ret rfl (zv1 (by omega)) rfl | (exfalso; omega)
  · refine z_n 9 (94, [(2, vi 1), (0, vr 137), (1, vi 0)], [vi (J 138 0)], (J, zPp π, D, 147)) (G := (0 ≤ 0 ∧ 0 < 585) ∧ True) rfl ⟨by omega, trivial⟩ ?_
    first | exact z_ret rfl (zv1 (by omega)) rfl | (exfalso; omega)
set_option maxRecDepth 20000 in
theorem m_Rcount1 {I : zI} {π : Int → Nat} {D : zD} {X : zI}  (e : zEq (I 138) X) (ci : zCI X)  : ∃ J, zMet 109 [vr 137, vi 1] (I, zPp π, D, 147) (some (vi (X 0 6))) (J, zPp π, D, 147) ∧ zMk J I := by
  obtain ⟨⟨m0, m1, m2, m3, m4, m5, m6⟩, mc, ⟨mb, mk⟩, ⟨ml, mg⟩, mt⟩ := id e
  obtain ⟨⟨w, v, hsp, ⟨⟨hl0, hl1⟩, hlg, hps⟩, hpt, hp0⟩, hm, hd⟩ := id ci
  have hzb := zns_b w
  have hm4 := zdis_le w v hd hm
  have hl2 := zlb_b w
  obtain ⟨⟨w1, w2⟩, ⟨w3, w4⟩, ⟨w5, w6⟩, ⟨w7, w8⟩, ⟨w9, w10⟩, w11, ⟨⟨w12, w12b⟩, w12c⟩, ⟨w13, w14⟩, ⟨w15, w16⟩⟩ := id w
  obtain ⟨J, hJ, hln, hmk, e2⟩ := m_ln (π := π) (D := D) e ci
  obtain ⟨⟨j0, j1, j2, j3, j4, j5, j6⟩, jc, ⟨jb, jk⟩, ⟨jl, jg⟩, jt⟩ := id e2
  have hmk2 := hmk.2.2.2.2.1
  have hmk4 := hmk.2.2.2.2.2
  have hl10 := hln.1
  refine ⟨J, ?_, hmk⟩
  refine z_n 1 (1, [(0, vr 137), (1, vi 1)], [vr 137], (I, zPp π, D, 147)) rfl trivial ?_
  refine z_cv 100 [vr 137] [] rfl (hJ) ?_
  refine z_n 5 (11, [(0, vr 137), (1, vi 1)], [vi (-1), vi (J 138 4)], (J, zPp π, D, 147)) (G := (0 ≤ 4 ∧ 4 < 585) ∧ True) rfl ⟨by omega, trivial⟩ ?_
  refine z_br ((J 138 4) = (-1)) 18 14 [] rfl (fun hx1 => ?_) (fun hx1 => ?_)
  · refine z_n 8 (94, [(2, vi 0), (0, vr 137), (1, vi 1)], [vi (J 138 1)], (J, zPp π, D, 147)) (G := (0 ≤ 1 ∧ 1 < 585) ∧ True) rfl ⟨by omega, trivial⟩ ?_
    first | exact z_ret rfl (zv1 (by omega)) rfl | (exfalso; omega)
  · refine z_n 9 (94, [(2, vi 1), (0, vr 137), (1, vi 1)], [vi (J 138 1)], (J, zPp π, D, 147)) (G := (0 ≤ 1 ∧ 1 < 585) ∧ True) rfl ⟨by omega, trivial⟩ ?_
    first | exact z_ret rfl (zv1 (by omega)) rfl | (exfalso; omega)
set_option maxRecDepth 20000 in
theorem m_Rcount2 {I : zI} {π : Int → Nat} {D : zD} {X : zI}  (e : zEq (I 138) X) (ci : zCI X)  : ∃ J, zMet 109 [vr 137, vi 2] (I, zPp π, D, 147) (some (vi ((X 0 5 + X 0 6 - 1) / X 0 6))) (J, zPp π, D, 147) ∧ zMk J I := by
  obtain ⟨⟨m0, m1, m2, m3, m4, m5, m6⟩, mc, ⟨mb, mk⟩, ⟨ml, mg⟩, mt⟩ := id e
  obtain ⟨⟨w, v, hsp, ⟨⟨hl0, hl1⟩, hlg, hps⟩, hpt, hp0⟩, hm, hd⟩ := id ci
  have hzb := zns_b w
  have hm4 := zdis_le w v hd hm
  have hl2 := zlb_b w
  obtain ⟨⟨w1, w2⟩, ⟨w3, w4⟩, ⟨w5, w6⟩, ⟨w7, w8⟩, ⟨w9, w10⟩, w11, ⟨⟨w12, w12b⟩, w12c⟩, ⟨w13, w14⟩, ⟨w15, w16⟩⟩ := id w
  obtain ⟨J, hJ, hln, hmk, e2⟩ := m_ln (π := π) (D := D) e ci
  obtain ⟨⟨j0, j1, j2, j3, j4, j5, j6⟩, jc, ⟨jb, jk⟩, ⟨jl, jg⟩, jt⟩ := id e2
  have hmk2 := hmk.2.2.2.2.1
  have hmk4 := hmk.2.2.2.2.2
  have hl10 := hln.1
  have hdv : zMet 95 [vr 137] (J, zPp π, D, 147) (some (vi ((X 0 5 + X 0 6 - 1) / X 0 6))) (J, zPp π, D, 147) := by have h := m_mdiv (I := J) (π := π) (D := D) (by omega) (by omega); rw [j0, j1] at h; exact h
  refine ⟨J, ?_, hmk⟩
  refine z_n 1 (1, [(0, vr 137), (1, vi 2)], [vr 137], (I, zPp π, D, 147)) rfl trivial ?_
  refine z_cv 100 [vr 137] [] rfl (hJ) ?_
  refine z_n 5 (11, [(0, vr 137), (1, vi 2)], [vi (-1), vi (J 138 4)], (J, zPp π, D, 147)) (G := (0 ≤ 4 ∧ 4 < 585) ∧ True) rfl ⟨by omega, trivial⟩ ?_
  refine z_br ((J 138 4) = (-1)) 18 14 [] rfl (fun hx1 => ?_) (fun hx1 => ?_)
  · refine z_n 5 (96, [(2, vi 0), (0, vr 137), (1, vi 2)], [vr 137], (J, zPp π, D, 147)) rfl trivial ?_
    refine z_ci 95 [vr 137] [] rfl (hdv) ?_
    first | exact z_ret rfl (zv1 (by omega)) rfl | (exfalso; omega)
  · refine z_n 6 (96, [(2, vi 1), (0, vr 137), (1, vi 2)], [vr 137], (J, zPp π, D, 147)) rfl trivial ?_
    refine z_ci 95 [vr 137] [] rfl (hdv) ?_
    first | exact z_ret rfl (zv1 (by omega)) rfl | (exfalso; omega)
set_option maxRecDepth 20000 in
theorem m_Rcount3 {I : zI} {π : Int → Nat} {D : zD} {X : zI}  (e : zEq (I 138) X) (ci : zCI X)  : ∃ J, zMet 109 [vr 137, vi 3] (I, zPp π, D, 147) (some (vi (X 0 7))) (J, zPp π, D, 147) ∧ zMk J I := by
  obtain ⟨⟨m0, m1, m2, m3, m4, m5, m6⟩, mc, ⟨mb, mk⟩, ⟨ml, mg⟩, mt⟩ := id e
  obtain ⟨⟨w, v, hsp, ⟨⟨hl0, hl1⟩, hlg, hps⟩, hpt, hp0⟩, hm, hd⟩ := id ci
  have hzb := zns_b w
  have hm4 := zdis_le w v hd hm
  have hl2 := zlb_b w
  obtain ⟨⟨w1, w2⟩, ⟨w3, w4⟩, ⟨w5, w6⟩, ⟨w7, w8⟩, ⟨w9, w10⟩, w11, ⟨⟨w12, w12b⟩, w12c⟩, ⟨w13, w14⟩, ⟨w15, w16⟩⟩ := id w
  obtain ⟨J, hJ, hln, hmk, e2⟩ := m_ln (π := π) (D := D) e ci
  obtain ⟨⟨j0, j1, j2, j3, j4, j5, j6⟩, jc, ⟨jb, jk⟩, ⟨jl, jg⟩, jt⟩ := id e2
  have hmk2 := hmk.2.2.2.2.1
  have hmk4 := hmk.2.2.2.2.2
  have hl10 := hln.1
  refine ⟨J, ?_, hmk⟩
  refine z_n 1 (1, [(0, vr 137), (1, vi 3)], [vr 137], (I, zPp π, D, 147)) rfl trivial ?_
  refine z_cv 100 [vr 137] [] rfl (hJ) ?_
  refine z_n 5 (11, [(0, vr 137), (1, vi 3)], [vi (-1), vi (J 138 4)], (J, zPp π, D, 147)) (G := (0 ≤ 4 ∧ 4 < 585) ∧ True) rfl ⟨by omega, trivial⟩ ?_
  refine z_br ((J 138 4) = (-1)) 18 14 [] rfl (fun hx1 => ?_) (fun hx1 => ?_)
  · refine z_n 10 (108, [(2, vi 0), (0, vr 137), (1, vi 3)], [vi (J 138 2)], (J, zPp π, D, 147)) (G := (zr 2) ∧ (0 ≤ 2 ∧ 2 < 585) ∧ True) rfl ⟨by omega, by omega, trivial⟩ ?_
    first | exact z_ret rfl (zv1 (by omega)) rfl | (exfalso; omega)
  · refine z_n 11 (108, [(2, vi 1), (0, vr 137), (1, vi 3)], [vi (J 138 2)], (J, zPp π, D, 147)) (G := (zr 2) ∧ (0 ≤ 2 ∧ 2 < 585) ∧ True) rfl ⟨by omega, by omega, trivial⟩ ?_
    first | exact z_ret rfl (zv1 (by omega)) rfl | (exfalso; omega)
set_option maxRecDepth 20000 in
theorem m_Rcount4 {I : zI} {π : Int → Nat} {D : zD} {X : zI}  (e : zEq (I 138) X) (ci : zCI X)  : ∃ J, zMet 109 [vr 137, vi 4] (I, zPp π, D, 147) (some (vi (X 0 8))) (J, zPp π, D, 147) ∧ zMk J I := by
  obtain ⟨⟨m0, m1, m2, m3, m4, m5, m6⟩, mc, ⟨mb, mk⟩, ⟨ml, mg⟩, mt⟩ := id e
  obtain ⟨⟨w, v, hsp, ⟨⟨hl0, hl1⟩, hlg, hps⟩, hpt, hp0⟩, hm, hd⟩ := id ci
  have hzb := zns_b w
  have hm4 := zdis_le w v hd hm
  have hl2 := zlb_b w
  obtain ⟨⟨w1, w2⟩, ⟨w3, w4⟩, ⟨w5, w6⟩, ⟨w7, w8⟩, ⟨w9, w10⟩, w11, ⟨⟨w12, w12b⟩, w12c⟩, ⟨w13, w14⟩, ⟨w15, w16⟩⟩ := id w
  obtain ⟨J, hJ, hln, hmk, e2⟩ := m_ln (π := π) (D := D) e ci
  obtain ⟨⟨j0, j1, j2, j3, j4, j5, j6⟩, jc, ⟨jb, jk⟩, ⟨jl, jg⟩, jt⟩ := id e2
  have hmk2 := hmk.2.2.2.2.1
  have hmk4 := hmk.2.2.2.2.2
  have hl10 := hln.1
  refine ⟨J, ?_, hmk⟩
  refine z_n 1 (1, [(0, vr 137), (1, vi 4)], [vr 137], (I, zPp π, D, 147)) rfl trivial ?_
  refine z_cv 100 [vr 137] [] rfl (hJ) ?_
  refine z_n 5 (11, [(0, vr 137), (1, vi 4)], [vi (-1), vi (J 138 4)], (J, zPp π, D, 147)) (G := (0 ≤ 4 ∧ 4 < 585) ∧ True) rfl ⟨by omega, trivial⟩ ?_
  refine z_br ((J 138 4) = (-1)) 18 14 [] rfl (fun hx1 => ?_) (fun hx1 => ?_)
  · refine z_n 10 (108, [(2, vi 0), (0, vr 137), (1, vi 4)], [vi (J 138 3)], (J, zPp π, D, 147)) (G := (zr 3) ∧ (0 ≤ 3 ∧ 3 < 585) ∧ True) rfl ⟨by omega, by omega, trivial⟩ ?_
    first | exact z_ret rfl (zv1 (by omega)) rfl | (exfalso; omega)
  · refine z_n 11 (108, [(2, vi 1), (0, vr 137), (1, vi 4)], [vi (J 138 3)], (J, zPp π, D, 147)) (G := (zr 3) ∧ (0 ≤ 3 ∧ 3 < 585) ∧ True) rfl ⟨by omega, by omega, trivial⟩ ?_
    first | exact z_ret rfl (zv1 (by omega)) rfl | (exfalso; omega)
set_option maxRecDepth 20000 in
theorem m_Rcount5 {I : zI} {π : Int → Nat} {D : zD} {X : zI}  (e : zEq (I 138) X) (ci : zCI X)  : ∃ J, zMet 109 [vr 137, vi 5] (I, zPp π, D, 147) (some (vi (if X 0 9 = -1 then -1004 else X 0 9))) (J, zPp π, D, 147) ∧ zMk J I := by
  obtain ⟨⟨m0, m1, m2, m3, m4, m5, m6⟩, mc, ⟨mb, mk⟩, ⟨ml, mg⟩, mt⟩ := id e
  obtain ⟨⟨w, v, hsp, ⟨⟨hl0, hl1⟩, hlg, hps⟩, hpt, hp0⟩, hm, hd⟩ := id ci
  have hzb := zns_b w
  have hm4 := zdis_le w v hd hm
  have hl2 := zlb_b w
  obtain ⟨⟨w1, w2⟩, ⟨w3, w4⟩, ⟨w5, w6⟩, ⟨w7, w8⟩, ⟨w9, w10⟩, w11, ⟨⟨w12, w12b⟩, w12c⟩, ⟨w13, w14⟩, ⟨w15, w16⟩⟩ := id w
  obtain ⟨J, hJ, hln, hmk, e2⟩ := m_ln (π := π) (D := D) e ci
  obtain ⟨⟨j0, j1, j2, j3, j4, j5, j6⟩, jc, ⟨jb, jk⟩, ⟨jl, jg⟩, jt⟩ := id e2
  have hmk2 := hmk.2.2.2.2.1
  have hmk4 := hmk.2.2.2.2.2
  have hl10 := hln.1
  refine ⟨J, ?_, hmk⟩
  refine z_n 1 (1, [(0, vr 137), (1, vi 5)], [vr 137], (I, zPp π, D, 147)) rfl trivial ?_
  refine z_cv 100 [vr 137] [] rfl (hJ) ?_
  refine z_n 5 (11, [(0, vr 137), (1, vi 5)], [vi (-1), vi (J 138 4)], (J, zPp π, D, 147)) (G := (0 ≤ 4 ∧ 4 < 585) ∧ True) rfl ⟨by omega, trivial⟩ ?_
  refine z_br ((J 138 4) = (-1)) 18 14 [] rfl (fun hx1 => ?_) (fun hx1 => ?_)
  · refine z_n 5 (110, [(2, vi 0), (0, vr 137), (1, vi 5)], [vi 0], (J, zPp π, D, 147)) rfl trivial ?_
    refine z_br ((0 : Int) = 0) 122 113 [] rfl (fun hx2 => ?_) (fun h => absurd (show (0 : Int) = 0 from by decide) h)
    refine z_n 1 (125, [(2, vi 0), (0, vr 137), (1, vi 5)], [vi (-1004)], (J, zPp π, D, 147)) rfl trivial ?_
    first | exact z_ret rfl (zv1 (by omega)) rfl | (exfalso; omega)
  · refine z_n 6 (110, [(2, vi 1), (0, vr 137), (1, vi 5)], [vi 1], (J, zPp π, D, 147)) rfl trivial ?_
    refine z_br ((1 : Int) = 0) 122 113 [] rfl (fun h => absurd h (show ¬ ((1 : Int) = 0) from by decide)) (fun hx3 => ?_)
    refine z_n 5 (125, [(2, vi 1), (0, vr 137), (1, vi 5)], [vi (J 138 4)], (J, zPp π, D, 147)) (G := (0 ≤ 4 ∧ 4 < 585) ∧ True) rfl ⟨by omega, trivial⟩ ?_
    first | exact z_ret rfl (zv1 (by omega)) rfl | (exfalso; omega)
set_option maxRecDepth 20000 in
theorem m_Rcount6 {I : zI} {π : Int → Nat} {D : zD} {X : zI}  (e : zEq (I 138) X) (ci : zCI X)  : ∃ J, zMet 109 [vr 137, vi 6] (I, zPp π, D, 147) (some (vi (if X 0 9 = -1 then -1004 else X 7 2))) (J, zPp π, D, 147) ∧ zMk J I := by
  obtain ⟨⟨m0, m1, m2, m3, m4, m5, m6⟩, mc, ⟨mb, mk⟩, ⟨ml, mg⟩, mt⟩ := id e
  obtain ⟨⟨w, v, hsp, ⟨⟨hl0, hl1⟩, hlg, hps⟩, hpt, hp0⟩, hm, hd⟩ := id ci
  have hzb := zns_b w
  have hm4 := zdis_le w v hd hm
  have hl2 := zlb_b w
  obtain ⟨⟨w1, w2⟩, ⟨w3, w4⟩, ⟨w5, w6⟩, ⟨w7, w8⟩, ⟨w9, w10⟩, w11, ⟨⟨w12, w12b⟩, w12c⟩, ⟨w13, w14⟩, ⟨w15, w16⟩⟩ := id w
  obtain ⟨J, hJ, hln, hmk, e2⟩ := m_ln (π := π) (D := D) e ci
  obtain ⟨⟨j0, j1, j2, j3, j4, j5, j6⟩, jc, ⟨jb, jk⟩, ⟨jl, jg⟩, jt⟩ := id e2
  have hmk2 := hmk.2.2.2.2.1
  have hmk4 := hmk.2.2.2.2.2
  have hl10 := hln.1
  refine ⟨J, ?_, hmk⟩
  refine z_n 1 (1, [(0, vr 137), (1, vi 6)], [vr 137], (I, zPp π, D, 147)) rfl trivial ?_
  refine z_cv 100 [vr 137] [] rfl (hJ) ?_
  refine z_n 5 (11, [(0, vr 137), (1, vi 6)], [vi (-1), vi (J 138 4)], (J, zPp π, D, 147)) (G := (0 ≤ 4 ∧ 4 < 585) ∧ True) rfl ⟨by omega, trivial⟩ ?_
  refine z_br ((J 138 4) = (-1)) 18 14 [] rfl (fun hx1 => ?_) (fun hx1 => ?_)
  · refine z_n 5 (127, [(2, vi 0), (0, vr 137), (1, vi 6)], [vi 0], (J, zPp π, D, 147)) rfl trivial ?_
    refine z_br ((0 : Int) = 0) 140 130 [] rfl (fun hx2 => ?_) (fun h => absurd (show (0 : Int) = 0 from by decide) h)
    refine z_n 1 (143, [(2, vi 0), (0, vr 137), (1, vi 6)], [vi (-1004)], (J, zPp π, D, 147)) rfl trivial ?_
    first | exact z_ret rfl (zv1 (by omega)) rfl | (exfalso; omega)
  · refine z_n 6 (127, [(2, vi 1), (0, vr 137), (1, vi 6)], [vi 1], (J, zPp π, D, 147)) rfl trivial ?_
    refine z_br ((1 : Int) = 0) 140 130 [] rfl (fun h => absurd h (show ¬ ((1 : Int) = 0) from by decide)) (fun hx3 => ?_)
    refine z_n 5 (143, [(2, vi 1), (0, vr 137), (1, vi 6)], [vi (J 138 55)], (J, zPp π, D, 147)) (G := (0 ≤ 55 ∧ 55 < 585) ∧ True) rfl ⟨by omega, trivial⟩ ?_
    first | exact z_ret rfl (zv1 (by omega)) rfl | (exfalso; omega)
set_option maxRecDepth 20000 in
theorem m_Rcount7 {I : zI} {π : Int → Nat} {D : zD} {X : zI}  (e : zEq (I 138) X) (ci : zCI X)  : ∃ J, zMet 109 [vr 137, vi 7] (I, zPp π, D, 147) (some (vi (if X 0 9 = -1 then -1004 else zns (X 0)))) (J, zPp π, D, 147) ∧ zMk J I := by
  obtain ⟨⟨m0, m1, m2, m3, m4, m5, m6⟩, mc, ⟨mb, mk⟩, ⟨ml, mg⟩, mt⟩ := id e
  obtain ⟨⟨w, v, hsp, ⟨⟨hl0, hl1⟩, hlg, hps⟩, hpt, hp0⟩, hm, hd⟩ := id ci
  have hzb := zns_b w
  have hm4 := zdis_le w v hd hm
  have hl2 := zlb_b w
  obtain ⟨⟨w1, w2⟩, ⟨w3, w4⟩, ⟨w5, w6⟩, ⟨w7, w8⟩, ⟨w9, w10⟩, w11, ⟨⟨w12, w12b⟩, w12c⟩, ⟨w13, w14⟩, ⟨w15, w16⟩⟩ := id w
  obtain ⟨J, hJ, hln, hmk, e2⟩ := m_ln (π := π) (D := D) e ci
  obtain ⟨⟨j0, j1, j2, j3, j4, j5, j6⟩, jc, ⟨jb, jk⟩, ⟨jl, jg⟩, jt⟩ := id e2
  have hmk2 := hmk.2.2.2.2.1
  have hmk4 := hmk.2.2.2.2.2
  have hl10 := hln.1
  refine ⟨J, ?_, hmk⟩
  refine z_n 1 (1, [(0, vr 137), (1, vi 7)], [vr 137], (I, zPp π, D, 147)) rfl trivial ?_
  refine z_cv 100 [vr 137] [] rfl (hJ) ?_
  refine z_n 5 (11, [(0, vr 137), (1, vi 7)], [vi (-1), vi (J 138 4)], (J, zPp π, D, 147)) (G := (0 ≤ 4 ∧ 4 < 585) ∧ True) rfl ⟨by omega, trivial⟩ ?_
  refine z_br ((J 138 4) = (-1)) 18 14 [] rfl (fun hx1 => ?_) (fun hx1 => ?_)
  · refine z_n 5 (145, [(2, vi 0), (0, vr 137), (1, vi 7)], [vi 0], (J, zPp π, D, 147)) rfl trivial ?_
    refine z_br ((0 : Int) = 0) 155 148 [] rfl (fun hx2 => ?_) (fun h => absurd (show (0 : Int) = 0 from by decide) h)
    refine z_n 1 (158, [(2, vi 0), (0, vr 137), (1, vi 7)], [vi (-1004)], (J, zPp π, D, 147)) rfl trivial ?_
    first | exact z_ret rfl (zv1 (by omega)) rfl | (exfalso; omega)
  · refine z_n 6 (145, [(2, vi 1), (0, vr 137), (1, vi 7)], [vi 1], (J, zPp π, D, 147)) rfl trivial ?_
    refine z_br ((1 : Int) = 0) 155 148 [] rfl (fun h => absurd h (show ¬ ((1 : Int) = 0) from by decide)) (fun hx3 => ?_)
    refine z_n 3 (158, [(2, vi 1), (0, vr 137), (1, vi 7)], [vi (J 137 10)], (J, zPp π, D, 147)) rfl trivial ?_
    first | exact z_ret rfl (zv1 (by omega)) rfl | (exfalso; omega)
set_option maxRecDepth 20000 in
theorem m_Rcount8 {I : zI} {π : Int → Nat} {D : zD} {X : zI}  (e : zEq (I 138) X) (ci : zCI X)  : ∃ J, zMet 109 [vr 137, vi 8] (I, zPp π, D, 147) (some (vi (X 0 10))) (J, zPp π, D, 147) ∧ zMk J I := by
  obtain ⟨⟨m0, m1, m2, m3, m4, m5, m6⟩, mc, ⟨mb, mk⟩, ⟨ml, mg⟩, mt⟩ := id e
  obtain ⟨⟨w, v, hsp, ⟨⟨hl0, hl1⟩, hlg, hps⟩, hpt, hp0⟩, hm, hd⟩ := id ci
  have hzb := zns_b w
  have hm4 := zdis_le w v hd hm
  have hl2 := zlb_b w
  obtain ⟨⟨w1, w2⟩, ⟨w3, w4⟩, ⟨w5, w6⟩, ⟨w7, w8⟩, ⟨w9, w10⟩, w11, ⟨⟨w12, w12b⟩, w12c⟩, ⟨w13, w14⟩, ⟨w15, w16⟩⟩ := id w
  obtain ⟨J, hJ, hln, hmk, e2⟩ := m_ln (π := π) (D := D) e ci
  obtain ⟨⟨j0, j1, j2, j3, j4, j5, j6⟩, jc, ⟨jb, jk⟩, ⟨jl, jg⟩, jt⟩ := id e2
  have hmk2 := hmk.2.2.2.2.1
  have hmk4 := hmk.2.2.2.2.2
  have hl10 := hln.1
  refine ⟨J, ?_, hmk⟩
  refine z_n 1 (1, [(0, vr 137), (1, vi 8)], [vr 137], (I, zPp π, D, 147)) rfl trivial ?_
  refine z_cv 100 [vr 137] [] rfl (hJ) ?_
  refine z_n 5 (11, [(0, vr 137), (1, vi 8)], [vi (-1), vi (J 138 4)], (J, zPp π, D, 147)) (G := (0 ≤ 4 ∧ 4 < 585) ∧ True) rfl ⟨by omega, trivial⟩ ?_
  refine z_br ((J 138 4) = (-1)) 18 14 [] rfl (fun hx1 => ?_) (fun hx1 => ?_)
  · refine z_n 10 (167, [(2, vi 0), (0, vr 137), (1, vi 8)], [vi (J 138 5)], (J, zPp π, D, 147)) (G := (zr 5) ∧ (0 ≤ 5 ∧ 5 < 585) ∧ True) rfl ⟨by omega, by omega, trivial⟩ ?_
    first | exact z_ret rfl (zv1 (by omega)) rfl | (exfalso; omega)
  · refine z_n 11 (167, [(2, vi 1), (0, vr 137), (1, vi 8)], [vi (J 138 5)], (J, zPp π, D, 147)) (G := (zr 5) ∧ (0 ≤ 5 ∧ 5 < 585) ∧ True) rfl ⟨by omega, by omega, trivial⟩ ?_
    first | exact z_ret rfl (zv1 (by omega)) rfl | (exfalso; omega)
set_option maxRecDepth 20000 in
theorem m_Rcount9 {I : zI} {π : Int → Nat} {D : zD} {X : zI}  (e : zEq (I 138) X) (ci : zCI X)  : ∃ J, zMet 109 [vr 137, vi 9] (I, zPp π, D, 147) (some (vi (X 0 11))) (J, zPp π, D, 147) ∧ zMk J I := by
  obtain ⟨⟨m0, m1, m2, m3, m4, m5, m6⟩, mc, ⟨mb, mk⟩, ⟨ml, mg⟩, mt⟩ := id e
  obtain ⟨⟨w, v, hsp, ⟨⟨hl0, hl1⟩, hlg, hps⟩, hpt, hp0⟩, hm, hd⟩ := id ci
  have hzb := zns_b w
  have hm4 := zdis_le w v hd hm
  have hl2 := zlb_b w
  obtain ⟨⟨w1, w2⟩, ⟨w3, w4⟩, ⟨w5, w6⟩, ⟨w7, w8⟩, ⟨w9, w10⟩, w11, ⟨⟨w12, w12b⟩, w12c⟩, ⟨w13, w14⟩, ⟨w15, w16⟩⟩ := id w
  obtain ⟨J, hJ, hln, hmk, e2⟩ := m_ln (π := π) (D := D) e ci
  obtain ⟨⟨j0, j1, j2, j3, j4, j5, j6⟩, jc, ⟨jb, jk⟩, ⟨jl, jg⟩, jt⟩ := id e2
  have hmk2 := hmk.2.2.2.2.1
  have hmk4 := hmk.2.2.2.2.2
  have hl10 := hln.1
  refine ⟨J, ?_, hmk⟩
  refine z_n 1 (1, [(0, vr 137), (1, vi 9)], [vr 137], (I, zPp π, D, 147)) rfl trivial ?_
  refine z_cv 100 [vr 137] [] rfl (hJ) ?_
  refine z_n 5 (11, [(0, vr 137), (1, vi 9)], [vi (-1), vi (J 138 4)], (J, zPp π, D, 147)) (G := (0 ≤ 4 ∧ 4 < 585) ∧ True) rfl ⟨by omega, trivial⟩ ?_
  refine z_br ((J 138 4) = (-1)) 18 14 [] rfl (fun hx1 => ?_) (fun hx1 => ?_)
  · refine z_n 10 (167, [(2, vi 0), (0, vr 137), (1, vi 9)], [vi (J 138 6)], (J, zPp π, D, 147)) (G := (zr 6) ∧ (0 ≤ 6 ∧ 6 < 585) ∧ True) rfl ⟨by omega, by omega, trivial⟩ ?_
    first | exact z_ret rfl (zv1 (by omega)) rfl | (exfalso; omega)
  · refine z_n 11 (167, [(2, vi 1), (0, vr 137), (1, vi 9)], [vi (J 138 6)], (J, zPp π, D, 147)) (G := (zr 6) ∧ (0 ≤ 6 ∧ 6 < 585) ∧ True) rfl ⟨by omega, by omega, trivial⟩ ?_
    first | exact z_ret rfl (zv1 (by omega)) rfl | (exfalso; omega)
set_option maxRecDepth 20000 in
theorem m_Rcount10 {I : zI} {π : Int → Nat} {D : zD} {X : zI}  (e : zEq (I 138) X) (ci : zCI X)  : ∃ J, zMet 109 [vr 137, vi 10] (I, zPp π, D, 147) (some (vi (I 137 2))) (J, zPp π, D, 147) ∧ zMk J I := by
  obtain ⟨⟨m0, m1, m2, m3, m4, m5, m6⟩, mc, ⟨mb, mk⟩, ⟨ml, mg⟩, mt⟩ := id e
  obtain ⟨⟨w, v, hsp, ⟨⟨hl0, hl1⟩, hlg, hps⟩, hpt, hp0⟩, hm, hd⟩ := id ci
  have hzb := zns_b w
  have hm4 := zdis_le w v hd hm
  have hl2 := zlb_b w
  obtain ⟨⟨w1, w2⟩, ⟨w3, w4⟩, ⟨w5, w6⟩, ⟨w7, w8⟩, ⟨w9, w10⟩, w11, ⟨⟨w12, w12b⟩, w12c⟩, ⟨w13, w14⟩, ⟨w15, w16⟩⟩ := id w
  obtain ⟨J, hJ, hln, hmk, e2⟩ := m_ln (π := π) (D := D) e ci
  obtain ⟨⟨j0, j1, j2, j3, j4, j5, j6⟩, jc, ⟨jb, jk⟩, ⟨jl, jg⟩, jt⟩ := id e2
  have hmk2 := hmk.2.2.2.2.1
  have hmk4 := hmk.2.2.2.2.2
  have hl10 := hln.1
  refine ⟨J, ?_, hmk⟩
  refine z_n 1 (1, [(0, vr 137), (1, vi 10)], [vr 137], (I, zPp π, D, 147)) rfl trivial ?_
  refine z_cv 100 [vr 137] [] rfl (hJ) ?_
  refine z_n 5 (11, [(0, vr 137), (1, vi 10)], [vi (-1), vi (J 138 4)], (J, zPp π, D, 147)) (G := (0 ≤ 4 ∧ 4 < 585) ∧ True) rfl ⟨by omega, trivial⟩ ?_
  refine z_br ((J 138 4) = (-1)) 18 14 [] rfl (fun hx1 => ?_) (fun hx1 => ?_)
  · refine z_n 6 (172, [(2, vi 0), (0, vr 137), (1, vi 10)], [vi (J 137 2)], (J, zPp π, D, 147)) rfl trivial ?_
    first | exact z_ret rfl (zv1 (by omega)) rfl | (exfalso; omega)
  · refine z_n 7 (172, [(2, vi 1), (0, vr 137), (1, vi 10)], [vi (J 137 2)], (J, zPp π, D, 147)) rfl trivial ?_
    first | exact z_ret rfl (zv1 (by omega)) rfl | (exfalso; omega)
set_option maxRecDepth 20000 in
theorem m_Rcount11 {I : zI} {π : Int → Nat} {D : zD} {X : zI}  (e : zEq (I 138) X) (ci : zCI X)  : ∃ J, zMet 109 [vr 137, vi 11] (I, zPp π, D, 147) (some (vi (I 137 4))) (J, zPp π, D, 147) ∧ zMk J I := by
  obtain ⟨⟨m0, m1, m2, m3, m4, m5, m6⟩, mc, ⟨mb, mk⟩, ⟨ml, mg⟩, mt⟩ := id e
  obtain ⟨⟨w, v, hsp, ⟨⟨hl0, hl1⟩, hlg, hps⟩, hpt, hp0⟩, hm, hd⟩ := id ci
  have hzb := zns_b w
  have hm4 := zdis_le w v hd hm
  have hl2 := zlb_b w
  obtain ⟨⟨w1, w2⟩, ⟨w3, w4⟩, ⟨w5, w6⟩, ⟨w7, w8⟩, ⟨w9, w10⟩, w11, ⟨⟨w12, w12b⟩, w12c⟩, ⟨w13, w14⟩, ⟨w15, w16⟩⟩ := id w
  obtain ⟨J, hJ, hln, hmk, e2⟩ := m_ln (π := π) (D := D) e ci
  obtain ⟨⟨j0, j1, j2, j3, j4, j5, j6⟩, jc, ⟨jb, jk⟩, ⟨jl, jg⟩, jt⟩ := id e2
  have hmk2 := hmk.2.2.2.2.1
  have hmk4 := hmk.2.2.2.2.2
  have hl10 := hln.1
  refine ⟨J, ?_, hmk⟩
  refine z_n 1 (1, [(0, vr 137), (1, vi 11)], [vr 137], (I, zPp π, D, 147)) rfl trivial ?_
  refine z_cv 100 [vr 137] [] rfl (hJ) ?_
  refine z_n 5 (11, [(0, vr 137), (1, vi 11)], [vi (-1), vi (J 138 4)], (J, zPp π, D, 147)) (G := (0 ≤ 4 ∧ 4 < 585) ∧ True) rfl ⟨by omega, trivial⟩ ?_
  refine z_br ((J 138 4) = (-1)) 18 14 [] rfl (fun hx1 => ?_) (fun hx1 => ?_)
  · refine z_n 6 (177, [(2, vi 0), (0, vr 137), (1, vi 11)], [vi (J 137 4)], (J, zPp π, D, 147)) rfl trivial ?_
    first | exact z_ret rfl (zv1 (by omega)) rfl | (exfalso; omega)
  · refine z_n 7 (177, [(2, vi 1), (0, vr 137), (1, vi 11)], [vi (J 137 4)], (J, zPp π, D, 147)) rfl trivial ?_
    first | exact z_ret rfl (zv1 (by omega)) rfl | (exfalso; omega)
set_option maxRecDepth 20000 in
theorem m_Rcount12 {I : zI} {π : Int → Nat} {D : zD} {X : zI}  (e : zEq (I 138) X) (ci : zCI X)  : ∃ J, zMet 109 [vr 137, vi 12] (I, zPp π, D, 147) (some (vi (X 6 0))) (J, zPp π, D, 147) ∧ zMk J I := by
  obtain ⟨⟨m0, m1, m2, m3, m4, m5, m6⟩, mc, ⟨mb, mk⟩, ⟨ml, mg⟩, mt⟩ := id e
  obtain ⟨⟨w, v, hsp, ⟨⟨hl0, hl1⟩, hlg, hps⟩, hpt, hp0⟩, hm, hd⟩ := id ci
  have hzb := zns_b w
  have hm4 := zdis_le w v hd hm
  have hl2 := zlb_b w
  obtain ⟨⟨w1, w2⟩, ⟨w3, w4⟩, ⟨w5, w6⟩, ⟨w7, w8⟩, ⟨w9, w10⟩, w11, ⟨⟨w12, w12b⟩, w12c⟩, ⟨w13, w14⟩, ⟨w15, w16⟩⟩ := id w
  obtain ⟨J, hJ, hln, hmk, e2⟩ := m_ln (π := π) (D := D) e ci
  obtain ⟨⟨j0, j1, j2, j3, j4, j5, j6⟩, jc, ⟨jb, jk⟩, ⟨jl, jg⟩, jt⟩ := id e2
  have hmk2 := hmk.2.2.2.2.1
  have hmk4 := hmk.2.2.2.2.2
  have hl10 := hln.1
  refine ⟨J, ?_, hmk⟩
  refine z_n 1 (1, [(0, vr 137), (1, vi 12)], [vr 137], (I, zPp π, D, 147)) rfl trivial ?_
  refine z_cv 100 [vr 137] [] rfl (hJ) ?_
  refine z_n 5 (11, [(0, vr 137), (1, vi 12)], [vi (-1), vi (J 138 4)], (J, zPp π, D, 147)) (G := (0 ≤ 4 ∧ 4 < 585) ∧ True) rfl ⟨by omega, trivial⟩ ?_
  refine z_br ((J 138 4) = (-1)) 18 14 [] rfl (fun hx1 => ?_) (fun hx1 => ?_)
  · refine z_n 6 (180, [(2, vi 0), (0, vr 137), (1, vi 12)], [vi 0, vr 137], (J, zPp π, D, 147)) rfl trivial ?_
    refine z_ci 99 [vr 137, vi 0] [] rfl (m_cwAt (I := J) w v j0 j1 j4 (fun c a b => (jc c a b).2) (by omega)) ?_
    first | exact z_ret rfl (zv1 (by omega)) rfl | (exfalso; omega)
  · refine z_n 7 (180, [(2, vi 1), (0, vr 137), (1, vi 12)], [vi 0, vr 137], (J, zPp π, D, 147)) rfl trivial ?_
    refine z_ci 99 [vr 137, vi 0] [] rfl (m_cwAt (I := J) w v j0 j1 j4 (fun c a b => (jc c a b).2) (by omega)) ?_
    first | exact z_ret rfl (zv1 (by omega)) rfl | (exfalso; omega)
set_option maxRecDepth 20000 in
theorem m_Rcountx {I : zI} {π : Int → Nat} {D : zD} {X : zI} {a : Int}  (e : zEq (I 138) X) (ci : zCI X) (hq : a < 0 ∨ 12 < a) : ∃ J, zMet 109 [vr 137, vi a] (I, zPp π, D, 147) (some (vi (-1001))) (J, zPp π, D, 147) ∧ zMk J I := by
  obtain ⟨⟨m0, m1, m2, m3, m4, m5, m6⟩, mc, ⟨mb, mk⟩, ⟨ml, mg⟩, mt⟩ := id e
  obtain ⟨⟨w, v, hsp, ⟨⟨hl0, hl1⟩, hlg, hps⟩, hpt, hp0⟩, hm, hd⟩ := id ci
  have hzb := zns_b w
  have hm4 := zdis_le w v hd hm
  have hl2 := zlb_b w
  obtain ⟨⟨w1, w2⟩, ⟨w3, w4⟩, ⟨w5, w6⟩, ⟨w7, w8⟩, ⟨w9, w10⟩, w11, ⟨⟨w12, w12b⟩, w12c⟩, ⟨w13, w14⟩, ⟨w15, w16⟩⟩ := id w
  obtain ⟨J, hJ, hln, hmk, e2⟩ := m_ln (π := π) (D := D) e ci
  obtain ⟨⟨j0, j1, j2, j3, j4, j5, j6⟩, jc, ⟨jb, jk⟩, ⟨jl, jg⟩, jt⟩ := id e2
  have hmk2 := hmk.2.2.2.2.1
  have hmk4 := hmk.2.2.2.2.2
  have hl10 := hln.1
  refine ⟨J, ?_, hmk⟩
  refine z_n 1 (1, [(0, vr 137), (1, vi a)], [vr 137], (I, zPp π, D, 147)) rfl trivial ?_
  refine z_cv 100 [vr 137] [] rfl (hJ) ?_
  refine z_n 5 (11, [(0, vr 137), (1, vi a)], [vi (-1), vi (J 138 4)], (J, zPp π, D, 147)) (G := (0 ≤ 4 ∧ 4 < 585) ∧ True) rfl ⟨by omega, trivial⟩ ?_
  refine z_br ((J 138 4) = (-1)) 18 14 [] rfl (fun hx1 => ?_) (fun hx1 => ?_)
  · refine z_n 3 (21, [(2, vi 0), (0, vr 137), (1, vi a)], [vi a], (J, zPp π, D, 147)) rfl trivial ?_
    refine z_tsd rfl (by omega) (show 21 + Int.toNat 163 = 184 from rfl) ?_
    refine z_n 1 (187, [(2, vi 0), (0, vr 137), (1, vi a)], [vi (-1001)], (J, zPp π, D, 147)) rfl trivial ?_
    first | exact z_ret rfl (zv1 (by omega)) rfl | (exfalso; omega)
  · refine z_n 4 (21, [(2, vi 1), (0, vr 137), (1, vi a)], [vi a], (J, zPp π, D, 147)) rfl trivial ?_
    refine z_tsd rfl (by omega) (show 21 + Int.toNat 163 = 184 from rfl) ?_
    refine z_n 1 (187, [(2, vi 1), (0, vr 137), (1, vi a)], [vi (-1001)], (J, zPp π, D, 147)) rfl trivial ?_
    first | exact z_ret rfl (zv1 (by omega)) rfl | (exfalso; omega)
set_option maxRecDepth 20000 in
theorem m_Rat1 {I : zI} {π : Int → Nat} {D : zD} {X : zI} {q : Int} (e : zEq (I 138) X) (ci : zCI X) (hq : 0 ≤ q ∧ q < X 0 5) : zMet 113 [vr 137, vi q] (I, zPp π, D, 147) (some (vi (X 6 q))) (I, zPp π, D, 147) := by
  obtain ⟨⟨m0, m1, m2, m3, m4, m5, m6⟩, mc, ⟨mb, mk⟩, ⟨ml, mg⟩, mt⟩ := id e
  obtain ⟨⟨w, v, hsp, ⟨⟨hl0, hl1⟩, hlg, hps⟩, hpt, hp0⟩, hm, hd⟩ := id ci
  have hzb := zns_b w
  have hm4 := zdis_le w v hd hm
  have hl2 := zlb_b w
  obtain ⟨⟨w1, w2⟩, ⟨w3, w4⟩, ⟨w5, w6⟩, ⟨w7, w8⟩, ⟨w9, w10⟩, w11, ⟨⟨w12, w12b⟩, w12c⟩, ⟨w13, w14⟩, ⟨w15, w16⟩⟩ := id w
  refine z_n 8 (10, [(0, vr 137), (1, vi q)], [vi ((I 138 0) - 1), vi 0, vi q], (I, zPp π, D, 147)) (G := (0 ≤ 0 ∧ 0 < 585) ∧ (zr ((I 138 0) - 1)) ∧ True) rfl ⟨by omega, by omega, trivial⟩ ?_
  refine z_ci 93 [vi q, vi 0, vi ((I 138 0) - 1)] [] rfl (m_in1 (by omega) (by omega)) ?_
  refine z_br ((1 : Int) = 0) 24 16 [] rfl (fun h => absurd h (show ¬ ((1 : Int) = 0) from by decide)) (fun hx1 => ?_)
  refine z_n 2 (18, [(0, vr 137), (1, vi q)], [vi q, vr 137], (I, zPp π, D, 147)) rfl trivial ?_
  refine z_ci 99 [vr 137, vi q] [] rfl (m_cwAt w v m0 m1 m4 (fun c a b => (mc c a b).2) (by omega)) ?_
  refine z_n 1 (27, [(0, vr 137), (1, vi q)], [vi (X 6 q)], (I, zPp π, D, 147)) rfl trivial ?_
  first | exact z_ret rfl (zv1 (by omega)) rfl | (exfalso; omega)
set_option maxRecDepth 20000 in
theorem m_Rat0 {I : zI} {π : Int → Nat} {D : zD} {X : zI} {q : Int} (e : zEq (I 138) X) (ci : zCI X) (hq : ¬ (0 ≤ q ∧ q < X 0 5)) : zMet 113 [vr 137, vi q] (I, zPp π, D, 147) (some (vi (-1001))) (I, zPp π, D, 147) := by
  obtain ⟨⟨m0, m1, m2, m3, m4, m5, m6⟩, mc, ⟨mb, mk⟩, ⟨ml, mg⟩, mt⟩ := id e
  obtain ⟨⟨w, v, hsp, ⟨⟨hl0, hl1⟩, hlg, hps⟩, hpt, hp0⟩, hm, hd⟩ := id ci
  have hzb := zns_b w
  have hm4 := zdis_le w v hd hm
  have hl2 := zlb_b w
  obtain ⟨⟨w1, w2⟩, ⟨w3, w4⟩, ⟨w5, w6⟩, ⟨w7, w8⟩, ⟨w9, w10⟩, w11, ⟨⟨w12, w12b⟩, w12c⟩, ⟨w13, w14⟩, ⟨w15, w16⟩⟩ := id w
  refine z_n 8 (10, [(0, vr 137), (1, vi q)], [vi ((I 138 0) - 1), vi 0, vi q], (I, zPp π, D, 147)) (G := (0 ≤ 0 ∧ 0 < 585) ∧ (zr ((I 138 0) - 1)) ∧ True) rfl ⟨by omega, by omega, trivial⟩ ?_
  refine z_ci 93 [vi q, vi 0, vi ((I 138 0) - 1)] [] rfl (m_in0 (by omega)) ?_
  refine z_br ((0 : Int) = 0) 24 16 [] rfl (fun hx1 => ?_) (fun h => absurd (show (0 : Int) = 0 from by decide) h)
  refine z_n 1 (27, [(0, vr 137), (1, vi q)], [vi (-1001)], (I, zPp π, D, 147)) rfl trivial ?_
  first | exact z_ret rfl (zv1 (by omega)) rfl | (exfalso; omega)
set_option maxRecDepth 20000 in
theorem m_Rstarterx {I : zI} {π : Int → Nat} {D : zD} {q : Int} (hq : q < 0) : zMet 114 [vr 137, vi q] (I, zPp π, D, 147) (some (vi (-1001))) (I, zPp π, D, 147) := by
  refine z_n 1 (1, [(0, vr 137), (1, vi q)], [vi q], (I, zPp π, D, 147)) rfl trivial ?_
  refine z_br (0 ≤ q) 8 4 [] rfl (fun h => absurd h (show ¬ (0 ≤ q) from by omega)) (fun hx1 => ?_)
  refine z_n 1 (7, [(0, vr 137), (1, vi q)], [vi (-1001)], (I, zPp π, D, 147)) rfl trivial ?_
  first | exact z_ret rfl (zv1 (by omega)) rfl | (exfalso; omega)
set_option maxRecDepth 20000 in
theorem m_Rstarter0 {I : zI} {π : Int → Nat} {D : zD} {X : zI} {q : Int}  (e : zEq (I 138) X) (ci : zCI X) (hq : 0 ≤ q) (h2 : zns (X 0) ≤ q) : ∃ J, zMet 114 [vr 137, vi q] (I, zPp π, D, 147) (some (vi (-1004))) (J, zPp π, D, 147) ∧ zMk J I := by
  obtain ⟨⟨m0, m1, m2, m3, m4, m5, m6⟩, mc, ⟨mb, mk⟩, ⟨ml, mg⟩, mt⟩ := id e
  obtain ⟨⟨w, v, hsp, ⟨⟨hl0, hl1⟩, hlg, hps⟩, hpt, hp0⟩, hm, hd⟩ := id ci
  have hzb := zns_b w
  have hm4 := zdis_le w v hd hm
  have hl2 := zlb_b w
  obtain ⟨⟨w1, w2⟩, ⟨w3, w4⟩, ⟨w5, w6⟩, ⟨w7, w8⟩, ⟨w9, w10⟩, w11, ⟨⟨w12, w12b⟩, w12c⟩, ⟨w13, w14⟩, ⟨w15, w16⟩⟩ := id w
  obtain ⟨J, hJ, hln, hmk, e2⟩ := m_ln (π := π) (D := D) e ci
  obtain ⟨⟨j0, j1, j2, j3, j4, j5, j6⟩, jc, ⟨jb, jk⟩, ⟨jl, jg⟩, jt⟩ := id e2
  have hmk2 := hmk.2.2.2.2.1
  have hmk4 := hmk.2.2.2.2.2
  have hl10 := hln.1
  refine ⟨J, ?_, hmk⟩
  refine z_n 1 (1, [(0, vr 137), (1, vi q)], [vi q], (I, zPp π, D, 147)) rfl trivial ?_
  refine z_br (0 ≤ q) 8 4 [] rfl (fun hx1 => ?_) (fun h => absurd (show 0 ≤ q from by omega) h)
  refine z_n 1 (9, [(0, vr 137), (1, vi q)], [vr 137], (I, zPp π, D, 147)) rfl trivial ?_
  refine z_cv 100 [vr 137] [] rfl (hJ) ?_
  refine z_n 3 (17, [(0, vr 137), (1, vi q)], [vi (J 137 10), vi q], (J, zPp π, D, 147)) rfl trivial ?_
  refine z_br ((J 137 10) ≤ q) 29 20 [] rfl (fun hx2 => ?_) (fun h => absurd (show (J 137 10) ≤ q from by omega) h)
  refine z_n 1 (32, [(0, vr 137), (1, vi q)], [vi (-1004)], (J, zPp π, D, 147)) rfl trivial ?_
  first | exact z_ret rfl (zv1 (by omega)) rfl | (exfalso; omega)
set_option maxRecDepth 20000 in
theorem m_Rstarter1 {I : zI} {π : Int → Nat} {D : zD} {X : zI} {q : Int}  (e : zEq (I 138) X) (ci : zCI X) (hq : 0 ≤ q) (h2 : q < zns (X 0)) : ∃ J, zMet 114 [vr 137, vi q] (I, zPp π, D, 147) (some (vi (X 6 (X 0 9 * X 0 6 + q)))) (J, zPp π, D, 147) ∧ zMk J I := by
  obtain ⟨⟨m0, m1, m2, m3, m4, m5, m6⟩, mc, ⟨mb, mk⟩, ⟨ml, mg⟩, mt⟩ := id e
  obtain ⟨⟨w, v, hsp, ⟨⟨hl0, hl1⟩, hlg, hps⟩, hpt, hp0⟩, hm, hd⟩ := id ci
  have hzb := zns_b w
  have hm4 := zdis_le w v hd hm
  have hl2 := zlb_b w
  obtain ⟨⟨w1, w2⟩, ⟨w3, w4⟩, ⟨w5, w6⟩, ⟨w7, w8⟩, ⟨w9, w10⟩, w11, ⟨⟨w12, w12b⟩, w12c⟩, ⟨w13, w14⟩, ⟨w15, w16⟩⟩ := id w
  obtain ⟨J, hJ, hln, hmk, e2⟩ := m_ln (π := π) (D := D) e ci
  obtain ⟨⟨j0, j1, j2, j3, j4, j5, j6⟩, jc, ⟨jb, jk⟩, ⟨jl, jg⟩, jt⟩ := id e2
  have hmk2 := hmk.2.2.2.2.1
  have hmk4 := hmk.2.2.2.2.2
  have hl10 := hln.1
  refine ⟨J, ?_, hmk⟩
  refine z_n 1 (1, [(0, vr 137), (1, vi q)], [vi q], (I, zPp π, D, 147)) rfl trivial ?_
  refine z_br (0 ≤ q) 8 4 [] rfl (fun hx1 => ?_) (fun h => absurd (show 0 ≤ q from by omega) h)
  refine z_n 1 (9, [(0, vr 137), (1, vi q)], [vr 137], (I, zPp π, D, 147)) rfl trivial ?_
  refine z_cv 100 [vr 137] [] rfl (hJ) ?_
  refine z_n 3 (17, [(0, vr 137), (1, vi q)], [vi (J 137 10), vi q], (J, zPp π, D, 147)) rfl trivial ?_
  refine z_br ((J 137 10) ≤ q) 29 20 [] rfl (fun h => absurd h (show ¬ ((J 137 10) ≤ q) from by omega)) (fun hx2 => ?_)
  refine z_n 5 (32, [(0, vr 137), (1, vi q)], [vi (J 141 q)], (J, zPp π, D, 147)) (G := (0 ≤ q ∧ q < 9) ∧ True) rfl ⟨by omega, trivial⟩ ?_
  exact z_ret rfl (zv1 (hln.2.1 q hq h2)) rfl
set_option maxRecDepth 20000 in
theorem m_Rcrew0 {I : zI} {π : Int → Nat} {D : zD} {X : zI} {c a : Int} (e : zEq (I 138) X) (ci : zCI X) (hq : ¬ ((0 ≤ c ∧ c < X 0 5) ∧ (0 ≤ a ∧ a ≤ 9))) : zMet 112 [vr 137, vi c, vi a] (I, zPp π, D, 147) (some (vi (-1001))) (I, zPp π, D, 147) := by
  obtain ⟨⟨m0, m1, m2, m3, m4, m5, m6⟩, mc, ⟨mb, mk⟩, ⟨ml, mg⟩, mt⟩ := id e
  obtain ⟨⟨w, v, hsp, ⟨⟨hl0, hl1⟩, hlg, hps⟩, hpt, hp0⟩, hm, hd⟩ := id ci
  have hzb := zns_b w
  have hm4 := zdis_le w v hd hm
  have hl2 := zlb_b w
  obtain ⟨⟨w1, w2⟩, ⟨w3, w4⟩, ⟨w5, w6⟩, ⟨w7, w8⟩, ⟨w9, w10⟩, w11, ⟨⟨w12, w12b⟩, w12c⟩, ⟨w13, w14⟩, ⟨w15, w16⟩⟩ := id w
  refine z_n 2 (2, [(0, vr 137), (1, vi c), (2, vi a)], [vi c, vr 137], (I, zPp π, D, 147)) rfl trivial ?_
  by_cases hx1 : 0 ≤ c ∧ c < I 138 0
  · refine z_ci 94 [vr 137, vi c] [] rfl (m_isCrew1 (by omega) hx1) ?_
    refine z_br ((1 : Int) = 0) 18 8 [] rfl (fun h => absurd h (show ¬ ((1 : Int) = 0) from by decide)) (fun hx2 => ?_)
    refine z_n 3 (12, [(0, vr 137), (1, vi c), (2, vi a)], [vi 9, vi 0, vi a], (I, zPp π, D, 147)) rfl trivial ?_
    refine z_ci 93 [vi a, vi 0, vi 9] [] rfl (m_in0 (by omega)) ?_
    refine z_br (¬ (0 : Int) = 0) 22 18 [] rfl (fun h => absurd h (show ¬ (¬ (0 : Int) = 0) from by decide)) (fun hx3 => ?_)
    refine z_n 1 (21, [(0, vr 137), (1, vi c), (2, vi a)], [vi (-1001)], (I, zPp π, D, 147)) rfl trivial ?_
    first | exact z_ret rfl (zv1 (by omega)) rfl | (exfalso; omega)
  · refine z_ci 94 [vr 137, vi c] [] rfl (m_isCrew0 (by omega) hx1) ?_
    refine z_br ((0 : Int) = 0) 18 8 [] rfl (fun hx4 => ?_) (fun h => absurd (show (0 : Int) = 0 from by decide) h)
    refine z_n 1 (21, [(0, vr 137), (1, vi c), (2, vi a)], [vi (-1001)], (I, zPp π, D, 147)) rfl trivial ?_
    first | exact z_ret rfl (zv1 (by omega)) rfl | (exfalso; omega)
set_option maxRecDepth 20000 in
theorem m_Rcrew_0 {I : zI} {π : Int → Nat} {D : zD} {X : zI} {c : Int}  (e : zEq (I 138) X) (ci : zCI X) (hq : 0 ≤ c ∧ c < X 0 5) : ∃ J, zMet 112 [vr 137, vi c, vi 0] (I, zPp π, D, 147) (some (vi (X 2 c))) (J, zPp π, D, 147) ∧ zMk J I := by
  obtain ⟨⟨m0, m1, m2, m3, m4, m5, m6⟩, mc, ⟨mb, mk⟩, ⟨ml, mg⟩, mt⟩ := id e
  obtain ⟨⟨w, v, hsp, ⟨⟨hl0, hl1⟩, hlg, hps⟩, hpt, hp0⟩, hm, hd⟩ := id ci
  have hzb := zns_b w
  have hm4 := zdis_le w v hd hm
  have hl2 := zlb_b w
  obtain ⟨⟨w1, w2⟩, ⟨w3, w4⟩, ⟨w5, w6⟩, ⟨w7, w8⟩, ⟨w9, w10⟩, w11, ⟨⟨w12, w12b⟩, w12c⟩, ⟨w13, w14⟩, ⟨w15, w16⟩⟩ := id w
  obtain ⟨J, hJ, hln, hmk, e2⟩ := m_ln (π := π) (D := D) e ci
  obtain ⟨⟨j0, j1, j2, j3, j4, j5, j6⟩, jc, ⟨jb, jk⟩, ⟨jl, jg⟩, jt⟩ := id e2
  have hmk2 := hmk.2.2.2.2.1
  have hmk4 := hmk.2.2.2.2.2
  have hl10 := hln.1
  have hG : ∀ t, 0 ≤ t → t ≤ X 0 8 → J 138 (417 + 24 * t + c) = (fun t => X 22 (t * 24 + c)) t := fun t a b => jt t c a b hq.1 hq.2
  have hGb : ∀ t, 0 ≤ t → t ≤ X 0 8 → 0 ≤ (fun t => X 22 (t * 24 + c)) t ∧ (fun t => X 22 (t * 24 + c)) t ≤ 24 := fun t a b => by have h := hpt t c a b hq.1 hq.2; show 0 ≤ X 22 (t * 24 + c) ∧ X 22 (t * 24 + c) ≤ 24; omega
  obtain ⟨nb, hno⟩ : ∃ nb : Int, zMet 101 [vr 137, vi c] (J, zPp π, D, 147) (some (vi nb)) (J, zPp π, D, 147) := by
    by_cases hz : zIs (X 0) (X 4) c
    · exact ⟨_, m_no1 w v hln hz⟩
    · exact ⟨_, m_no0 w v hln hz⟩
  have jc2 := (jc c hq.1 hq.2).1
  have jc3 := (jc c hq.1 hq.2).2
  have vc := v.1 c hq.1 hq.2
  refine ⟨J, ?_, hmk⟩
  refine z_n 2 (2, [(0, vr 137), (1, vi c), (2, vi 0)], [vi c, vr 137], (I, zPp π, D, 147)) rfl trivial ?_
  refine z_ci 94 [vr 137, vi c] [] rfl (m_isCrew1 (by omega) (by omega)) ?_
  refine z_br ((1 : Int) = 0) 18 8 [] rfl (fun h => absurd h (show ¬ ((1 : Int) = 0) from by decide)) (fun hx1 => ?_)
  refine z_n 3 (12, [(0, vr 137), (1, vi c), (2, vi 0)], [vi 9, vi 0, vi 0], (I, zPp π, D, 147)) rfl trivial ?_
  refine z_ci 93 [vi 0, vi 0, vi 9] [] rfl (m_in1 (by decide) (by decide)) ?_
  refine z_br (¬ (1 : Int) = 0) 22 18 [] rfl (fun hx2 => ?_) (fun h => absurd (show ¬ (1 : Int) = 0 from by decide) h)
  refine z_n 1 (23, [(0, vr 137), (1, vi c), (2, vi 0)], [vr 137], (I, zPp π, D, 147)) rfl trivial ?_
  refine z_cv 100 [vr 137] [] rfl (hJ) ?_
  refine z_n 2 (28, [(0, vr 137), (1, vi c), (2, vi 0)], [vi c, vr 137], (J, zPp π, D, 147)) rfl trivial ?_
  refine z_ci 101 [vr 137, vi c] [] rfl (hno) ?_
  refine z_n 9 (89, [(3, vi nb), (0, vr 137), (1, vi c), (2, vi 0)], [vi (J 138 (7 + c))], (J, zPp π, D, 147)) (G := (zr (7 + c)) ∧ (0 ≤ (7 + c) ∧ (7 + c) < 585) ∧ True) rfl ⟨by omega, by omega, trivial⟩ ?_
  first | exact z_ret rfl (zv1 (by omega)) rfl | (exfalso; omega)
set_option maxRecDepth 20000 in
theorem m_Rcrew_1 {I : zI} {π : Int → Nat} {D : zD} {X : zI} {c : Int}  (e : zEq (I 138) X) (ci : zCI X) (hq : 0 ≤ c ∧ c < X 0 5) : ∃ J, zMet 112 [vr 137, vi c, vi 1] (I, zPp π, D, 147) (some (vi (X 4 c))) (J, zPp π, D, 147) ∧ zMk J I := by
  obtain ⟨⟨m0, m1, m2, m3, m4, m5, m6⟩, mc, ⟨mb, mk⟩, ⟨ml, mg⟩, mt⟩ := id e
  obtain ⟨⟨w, v, hsp, ⟨⟨hl0, hl1⟩, hlg, hps⟩, hpt, hp0⟩, hm, hd⟩ := id ci
  have hzb := zns_b w
  have hm4 := zdis_le w v hd hm
  have hl2 := zlb_b w
  obtain ⟨⟨w1, w2⟩, ⟨w3, w4⟩, ⟨w5, w6⟩, ⟨w7, w8⟩, ⟨w9, w10⟩, w11, ⟨⟨w12, w12b⟩, w12c⟩, ⟨w13, w14⟩, ⟨w15, w16⟩⟩ := id w
  obtain ⟨J, hJ, hln, hmk, e2⟩ := m_ln (π := π) (D := D) e ci
  obtain ⟨⟨j0, j1, j2, j3, j4, j5, j6⟩, jc, ⟨jb, jk⟩, ⟨jl, jg⟩, jt⟩ := id e2
  have hmk2 := hmk.2.2.2.2.1
  have hmk4 := hmk.2.2.2.2.2
  have hl10 := hln.1
  have hG : ∀ t, 0 ≤ t → t ≤ X 0 8 → J 138 (417 + 24 * t + c) = (fun t => X 22 (t * 24 + c)) t := fun t a b => jt t c a b hq.1 hq.2
  have hGb : ∀ t, 0 ≤ t → t ≤ X 0 8 → 0 ≤ (fun t => X 22 (t * 24 + c)) t ∧ (fun t => X 22 (t * 24 + c)) t ≤ 24 := fun t a b => by have h := hpt t c a b hq.1 hq.2; show 0 ≤ X 22 (t * 24 + c) ∧ X 22 (t * 24 + c) ≤ 24; omega
  obtain ⟨nb, hno⟩ : ∃ nb : Int, zMet 101 [vr 137, vi c] (J, zPp π, D, 147) (some (vi nb)) (J, zPp π, D, 147) := by
    by_cases hz : zIs (X 0) (X 4) c
    · exact ⟨_, m_no1 w v hln hz⟩
    · exact ⟨_, m_no0 w v hln hz⟩
  have jc2 := (jc c hq.1 hq.2).1
  have jc3 := (jc c hq.1 hq.2).2
  have vc := v.1 c hq.1 hq.2
  refine ⟨J, ?_, hmk⟩
  refine z_n 2 (2, [(0, vr 137), (1, vi c), (2, vi 1)], [vi c, vr 137], (I, zPp π, D, 147)) rfl trivial ?_
  refine z_ci 94 [vr 137, vi c] [] rfl (m_isCrew1 (by omega) (by omega)) ?_
  refine z_br ((1 : Int) = 0) 18 8 [] rfl (fun h => absurd h (show ¬ ((1 : Int) = 0) from by decide)) (fun hx1 => ?_)
  refine z_n 3 (12, [(0, vr 137), (1, vi c), (2, vi 1)], [vi 9, vi 0, vi 1], (I, zPp π, D, 147)) rfl trivial ?_
  refine z_ci 93 [vi 1, vi 0, vi 9] [] rfl (m_in1 (by decide) (by decide)) ?_
  refine z_br (¬ (1 : Int) = 0) 22 18 [] rfl (fun hx2 => ?_) (fun h => absurd (show ¬ (1 : Int) = 0 from by decide) h)
  refine z_n 1 (23, [(0, vr 137), (1, vi c), (2, vi 1)], [vr 137], (I, zPp π, D, 147)) rfl trivial ?_
  refine z_cv 100 [vr 137] [] rfl (hJ) ?_
  refine z_n 2 (28, [(0, vr 137), (1, vi c), (2, vi 1)], [vi c, vr 137], (J, zPp π, D, 147)) rfl trivial ?_
  refine z_ci 101 [vr 137, vi c] [] rfl (hno) ?_
  refine z_n 9 (99, [(3, vi nb), (0, vr 137), (1, vi c), (2, vi 1)], [vi (J 138 (31 + c))], (J, zPp π, D, 147)) (G := (zr (31 + c)) ∧ (0 ≤ (31 + c) ∧ (31 + c) < 585) ∧ True) rfl ⟨by omega, by omega, trivial⟩ ?_
  first | exact z_ret rfl (zv1 (by omega)) rfl | (exfalso; omega)
set_option maxRecDepth 20000 in
theorem m_Rcrew_2 {I : zI} {π : Int → Nat} {D : zD} {X : zI} {c : Int}  (e : zEq (I 138) X) (ci : zCI X) (hq : 0 ≤ c ∧ c < X 0 5) : ∃ J, zMet 112 [vr 137, vi c, vi 2] (I, zPp π, D, 147) (some (vi (X 4 c / X 0 6))) (J, zPp π, D, 147) ∧ zMk J I := by
  obtain ⟨⟨m0, m1, m2, m3, m4, m5, m6⟩, mc, ⟨mb, mk⟩, ⟨ml, mg⟩, mt⟩ := id e
  obtain ⟨⟨w, v, hsp, ⟨⟨hl0, hl1⟩, hlg, hps⟩, hpt, hp0⟩, hm, hd⟩ := id ci
  have hzb := zns_b w
  have hm4 := zdis_le w v hd hm
  have hl2 := zlb_b w
  obtain ⟨⟨w1, w2⟩, ⟨w3, w4⟩, ⟨w5, w6⟩, ⟨w7, w8⟩, ⟨w9, w10⟩, w11, ⟨⟨w12, w12b⟩, w12c⟩, ⟨w13, w14⟩, ⟨w15, w16⟩⟩ := id w
  obtain ⟨J, hJ, hln, hmk, e2⟩ := m_ln (π := π) (D := D) e ci
  obtain ⟨⟨j0, j1, j2, j3, j4, j5, j6⟩, jc, ⟨jb, jk⟩, ⟨jl, jg⟩, jt⟩ := id e2
  have hmk2 := hmk.2.2.2.2.1
  have hmk4 := hmk.2.2.2.2.2
  have hl10 := hln.1
  have hG : ∀ t, 0 ≤ t → t ≤ X 0 8 → J 138 (417 + 24 * t + c) = (fun t => X 22 (t * 24 + c)) t := fun t a b => jt t c a b hq.1 hq.2
  have hGb : ∀ t, 0 ≤ t → t ≤ X 0 8 → 0 ≤ (fun t => X 22 (t * 24 + c)) t ∧ (fun t => X 22 (t * 24 + c)) t ≤ 24 := fun t a b => by have h := hpt t c a b hq.1 hq.2; show 0 ≤ X 22 (t * 24 + c) ∧ X 22 (t * 24 + c) ≤ 24; omega
  obtain ⟨nb, hno⟩ : ∃ nb : Int, zMet 101 [vr 137, vi c] (J, zPp π, D, 147) (some (vi nb)) (J, zPp π, D, 147) := by
    by_cases hz : zIs (X 0) (X 4) c
    · exact ⟨_, m_no1 w v hln hz⟩
    · exact ⟨_, m_no0 w v hln hz⟩
  have jc2 := (jc c hq.1 hq.2).1
  have jc3 := (jc c hq.1 hq.2).2
  have vc := v.1 c hq.1 hq.2
  refine ⟨J, ?_, hmk⟩
  refine z_n 2 (2, [(0, vr 137), (1, vi c), (2, vi 2)], [vi c, vr 137], (I, zPp π, D, 147)) rfl trivial ?_
  refine z_ci 94 [vr 137, vi c] [] rfl (m_isCrew1 (by omega) (by omega)) ?_
  refine z_br ((1 : Int) = 0) 18 8 [] rfl (fun h => absurd h (show ¬ ((1 : Int) = 0) from by decide)) (fun hx1 => ?_)
  refine z_n 3 (12, [(0, vr 137), (1, vi c), (2, vi 2)], [vi 9, vi 0, vi 2], (I, zPp π, D, 147)) rfl trivial ?_
  refine z_ci 93 [vi 2, vi 0, vi 9] [] rfl (m_in1 (by decide) (by decide)) ?_
  refine z_br (¬ (1 : Int) = 0) 22 18 [] rfl (fun hx2 => ?_) (fun h => absurd (show ¬ (1 : Int) = 0 from by decide) h)
  refine z_n 1 (23, [(0, vr 137), (1, vi c), (2, vi 2)], [vr 137], (I, zPp π, D, 147)) rfl trivial ?_
  refine z_cv 100 [vr 137] [] rfl (hJ) ?_
  refine z_n 2 (28, [(0, vr 137), (1, vi c), (2, vi 2)], [vi c, vr 137], (J, zPp π, D, 147)) rfl trivial ?_
  refine z_ci 101 [vr 137, vi c] [] rfl (hno) ?_
  refine z_n 14 (116, [(3, vi nb), (0, vr 137), (1, vi c), (2, vi 2)], [vi ((J 138 (31 + c)) / (J 138 1))], (J, zPp π, D, 147)) (G := (zr (31 + c)) ∧ (0 ≤ (31 + c) ∧ (31 + c) < 585) ∧ (0 ≤ 1 ∧ 1 < 585) ∧ (0 ≤ (J 138 (31 + c)) ∧ 0 < (J 138 1)) ∧ True) rfl ⟨by omega, by omega, by omega, by omega, trivial⟩ ?_
  exact z_ret rfl (zv1 (by rw [jc3, j1])) rfl
set_option maxRecDepth 20000 in
theorem m_Rcrew_5 {I : zI} {π : Int → Nat} {D : zD} {X : zI} {c : Int}  (e : zEq (I 138) X) (ci : zCI X) (hq : 0 ≤ c ∧ c < X 0 5) : ∃ J, zMet 112 [vr 137, vi c, vi 5] (I, zPp π, D, 147) (some (vi (zris (fun t => X 22 (t * 24 + c)) (X 0 8).toNat))) (J, zPp π, D, 147) ∧ zMk J I := by
  obtain ⟨⟨m0, m1, m2, m3, m4, m5, m6⟩, mc, ⟨mb, mk⟩, ⟨ml, mg⟩, mt⟩ := id e
  obtain ⟨⟨w, v, hsp, ⟨⟨hl0, hl1⟩, hlg, hps⟩, hpt, hp0⟩, hm, hd⟩ := id ci
  have hzb := zns_b w
  have hm4 := zdis_le w v hd hm
  have hl2 := zlb_b w
  obtain ⟨⟨w1, w2⟩, ⟨w3, w4⟩, ⟨w5, w6⟩, ⟨w7, w8⟩, ⟨w9, w10⟩, w11, ⟨⟨w12, w12b⟩, w12c⟩, ⟨w13, w14⟩, ⟨w15, w16⟩⟩ := id w
  obtain ⟨J, hJ, hln, hmk, e2⟩ := m_ln (π := π) (D := D) e ci
  obtain ⟨⟨j0, j1, j2, j3, j4, j5, j6⟩, jc, ⟨jb, jk⟩, ⟨jl, jg⟩, jt⟩ := id e2
  have hmk2 := hmk.2.2.2.2.1
  have hmk4 := hmk.2.2.2.2.2
  have hl10 := hln.1
  have hG : ∀ t, 0 ≤ t → t ≤ X 0 8 → J 138 (417 + 24 * t + c) = (fun t => X 22 (t * 24 + c)) t := fun t a b => jt t c a b hq.1 hq.2
  have hGb : ∀ t, 0 ≤ t → t ≤ X 0 8 → 0 ≤ (fun t => X 22 (t * 24 + c)) t ∧ (fun t => X 22 (t * 24 + c)) t ≤ 24 := fun t a b => by have h := hpt t c a b hq.1 hq.2; show 0 ≤ X 22 (t * 24 + c) ∧ X 22 (t * 24 + c) ≤ 24; omega
  obtain ⟨nb, hno⟩ : ∃ nb : Int, zMet 101 [vr 137, vi c] (J, zPp π, D, 147) (some (vi nb)) (J, zPp π, D, 147) := by
    by_cases hz : zIs (X 0) (X 4) c
    · exact ⟨_, m_no1 w v hln hz⟩
    · exact ⟨_, m_no0 w v hln hz⟩
  have jc2 := (jc c hq.1 hq.2).1
  have jc3 := (jc c hq.1 hq.2).2
  have vc := v.1 c hq.1 hq.2
  refine ⟨J, ?_, hmk⟩
  refine z_n 2 (2, [(0, vr 137), (1, vi c), (2, vi 5)], [vi c, vr 137], (I, zPp π, D, 147)) rfl trivial ?_
  refine z_ci 94 [vr 137, vi c] [] rfl (m_isCrew1 (by omega) (by omega)) ?_
  refine z_br ((1 : Int) = 0) 18 8 [] rfl (fun h => absurd h (show ¬ ((1 : Int) = 0) from by decide)) (fun hx1 => ?_)
  refine z_n 3 (12, [(0, vr 137), (1, vi c), (2, vi 5)], [vi 9, vi 0, vi 5], (I, zPp π, D, 147)) rfl trivial ?_
  refine z_ci 93 [vi 5, vi 0, vi 9] [] rfl (m_in1 (by decide) (by decide)) ?_
  refine z_br (¬ (1 : Int) = 0) 22 18 [] rfl (fun hx2 => ?_) (fun h => absurd (show ¬ (1 : Int) = 0 from by decide) h)
  refine z_n 1 (23, [(0, vr 137), (1, vi c), (2, vi 5)], [vr 137], (I, zPp π, D, 147)) rfl trivial ?_
  refine z_cv 100 [vr 137] [] rfl (hJ) ?_
  refine z_n 2 (28, [(0, vr 137), (1, vi c), (2, vi 5)], [vi c, vr 137], (J, zPp π, D, 147)) rfl trivial ?_
  refine z_ci 101 [vr 137, vi c] [] rfl (hno) ?_
  refine z_n 6 (159, [(3, vi nb), (0, vr 137), (1, vi c), (2, vi 5)], [vi 1, vi c, vr 137], (J, zPp π, D, 147)) rfl trivial ?_
  refine z_ci 110 [vr 137, vi c, vi 1] [] rfl (m_days1 (I := J) j3 (by omega) (by omega) hG hGb) ?_
  first | exact z_ret rfl (zv1 (by omega)) rfl | (exfalso; omega)
set_option maxRecDepth 20000 in
theorem m_Rcrew_6 {I : zI} {π : Int → Nat} {D : zD} {X : zI} {c : Int}  (e : zEq (I 138) X) (ci : zCI X) (hq : 0 ≤ c ∧ c < X 0 5) : ∃ J, zMet 112 [vr 137, vi c, vi 6] (I, zPp π, D, 147) (some (vi (zfal (fun t => X 22 (t * 24 + c)) (X 0 8).toNat))) (J, zPp π, D, 147) ∧ zMk J I := by
  obtain ⟨⟨m0, m1, m2, m3, m4, m5, m6⟩, mc, ⟨mb, mk⟩, ⟨ml, mg⟩, mt⟩ := id e
  obtain ⟨⟨w, v, hsp, ⟨⟨hl0, hl1⟩, hlg, hps⟩, hpt, hp0⟩, hm, hd⟩ := id ci
  have hzb := zns_b w
  have hm4 := zdis_le w v hd hm
  have hl2 := zlb_b w
  obtain ⟨⟨w1, w2⟩, ⟨w3, w4⟩, ⟨w5, w6⟩, ⟨w7, w8⟩, ⟨w9, w10⟩, w11, ⟨⟨w12, w12b⟩, w12c⟩, ⟨w13, w14⟩, ⟨w15, w16⟩⟩ := id w
  obtain ⟨J, hJ, hln, hmk, e2⟩ := m_ln (π := π) (D := D) e ci
  obtain ⟨⟨j0, j1, j2, j3, j4, j5, j6⟩, jc, ⟨jb, jk⟩, ⟨jl, jg⟩, jt⟩ := id e2
  have hmk2 := hmk.2.2.2.2.1
  have hmk4 := hmk.2.2.2.2.2
  have hl10 := hln.1
  have hG : ∀ t, 0 ≤ t → t ≤ X 0 8 → J 138 (417 + 24 * t + c) = (fun t => X 22 (t * 24 + c)) t := fun t a b => jt t c a b hq.1 hq.2
  have hGb : ∀ t, 0 ≤ t → t ≤ X 0 8 → 0 ≤ (fun t => X 22 (t * 24 + c)) t ∧ (fun t => X 22 (t * 24 + c)) t ≤ 24 := fun t a b => by have h := hpt t c a b hq.1 hq.2; show 0 ≤ X 22 (t * 24 + c) ∧ X 22 (t * 24 + c) ≤ 24; omega
  obtain ⟨nb, hno⟩ : ∃ nb : Int, zMet 101 [vr 137, vi c] (J, zPp π, D, 147) (some (vi nb)) (J, zPp π, D, 147) := by
    by_cases hz : zIs (X 0) (X 4) c
    · exact ⟨_, m_no1 w v hln hz⟩
    · exact ⟨_, m_no0 w v hln hz⟩
  have jc2 := (jc c hq.1 hq.2).1
  have jc3 := (jc c hq.1 hq.2).2
  have vc := v.1 c hq.1 hq.2
  refine ⟨J, ?_, hmk⟩
  refine z_n 2 (2, [(0, vr 137), (1, vi c), (2, vi 6)], [vi c, vr 137], (I, zPp π, D, 147)) rfl trivial ?_
  refine z_ci 94 [vr 137, vi c] [] rfl (m_isCrew1 (by omega) (by omega)) ?_
  refine z_br ((1 : Int) = 0) 18 8 [] rfl (fun h => absurd h (show ¬ ((1 : Int) = 0) from by decide)) (fun hx1 => ?_)
  refine z_n 3 (12, [(0, vr 137), (1, vi c), (2, vi 6)], [vi 9, vi 0, vi 6], (I, zPp π, D, 147)) rfl trivial ?_
  refine z_ci 93 [vi 6, vi 0, vi 9] [] rfl (m_in1 (by decide) (by decide)) ?_
  refine z_br (¬ (1 : Int) = 0) 22 18 [] rfl (fun hx2 => ?_) (fun h => absurd (show ¬ (1 : Int) = 0 from by decide) h)
  refine z_n 1 (23, [(0, vr 137), (1, vi c), (2, vi 6)], [vr 137], (I, zPp π, D, 147)) rfl trivial ?_
  refine z_cv 100 [vr 137] [] rfl (hJ) ?_
  refine z_n 2 (28, [(0, vr 137), (1, vi c), (2, vi 6)], [vi c, vr 137], (J, zPp π, D, 147)) rfl trivial ?_
  refine z_ci 101 [vr 137, vi c] [] rfl (hno) ?_
  refine z_n 6 (166, [(3, vi nb), (0, vr 137), (1, vi c), (2, vi 6)], [vi (-1), vi c, vr 137], (J, zPp π, D, 147)) rfl trivial ?_
  refine z_ci 110 [vr 137, vi c, vi (-1)] [] rfl (m_days0 (I := J) j3 (by omega) (by omega) hG hGb) ?_
  first | exact z_ret rfl (zv1 (by omega)) rfl | (exfalso; omega)
set_option maxRecDepth 20000 in
theorem m_Rcrew_7 {I : zI} {π : Int → Nat} {D : zD} {X : zI} {c : Int}  (e : zEq (I 138) X) (ci : zCI X) (hq : 0 ≤ c ∧ c < X 0 5) : ∃ J, zMet 112 [vr 137, vi c, vi 7] (I, zPp π, D, 147) (some (vi (if X 0 8 = 0 then 0 else if zris (fun t => X 22 (t * 24 + c)) (X 0 8).toNat = X 0 8 then 1 else if zfal (fun t => X 22 (t * 24 + c)) (X 0 8).toNat = X 0 8 then 2 else 0))) (J, zPp π, D, 147) ∧ zMk J I := by
  obtain ⟨⟨m0, m1, m2, m3, m4, m5, m6⟩, mc, ⟨mb, mk⟩, ⟨ml, mg⟩, mt⟩ := id e
  obtain ⟨⟨w, v, hsp, ⟨⟨hl0, hl1⟩, hlg, hps⟩, hpt, hp0⟩, hm, hd⟩ := id ci
  have hzb := zns_b w
  have hm4 := zdis_le w v hd hm
  have hl2 := zlb_b w
  obtain ⟨⟨w1, w2⟩, ⟨w3, w4⟩, ⟨w5, w6⟩, ⟨w7, w8⟩, ⟨w9, w10⟩, w11, ⟨⟨w12, w12b⟩, w12c⟩, ⟨w13, w14⟩, ⟨w15, w16⟩⟩ := id w
  obtain ⟨J, hJ, hln, hmk, e2⟩ := m_ln (π := π) (D := D) e ci
  obtain ⟨⟨j0, j1, j2, j3, j4, j5, j6⟩, jc, ⟨jb, jk⟩, ⟨jl, jg⟩, jt⟩ := id e2
  have hmk2 := hmk.2.2.2.2.1
  have hmk4 := hmk.2.2.2.2.2
  have hl10 := hln.1
  have hG : ∀ t, 0 ≤ t → t ≤ X 0 8 → J 138 (417 + 24 * t + c) = (fun t => X 22 (t * 24 + c)) t := fun t a b => jt t c a b hq.1 hq.2
  have hGb : ∀ t, 0 ≤ t → t ≤ X 0 8 → 0 ≤ (fun t => X 22 (t * 24 + c)) t ∧ (fun t => X 22 (t * 24 + c)) t ≤ 24 := fun t a b => by have h := hpt t c a b hq.1 hq.2; show 0 ≤ X 22 (t * 24 + c) ∧ X 22 (t * 24 + c) ≤ 24; omega
  obtain ⟨nb, hno⟩ : ∃ nb : Int, zMet 101 [vr 137, vi c] (J, zPp π, D, 147) (some (vi nb)) (J, zPp π, D, 147) := by
    by_cases hz : zIs (X 0) (X 4) c
    · exact ⟨_, m_no1 w v hln hz⟩
    · exact ⟨_, m_no0 w v hln hz⟩
  have jc2 := (jc c hq.1 hq.2).1
  have jc3 := (jc c hq.1 hq.2).2
  have vc := v.1 c hq.1 hq.2
  refine ⟨J, ?_, hmk⟩
  refine z_n 2 (2, [(0, vr 137), (1, vi c), (2, vi 7)], [vi c, vr 137], (I, zPp π, D, 147)) rfl trivial ?_
  refine z_ci 94 [vr 137, vi c] [] rfl (m_isCrew1 (by omega) (by omega)) ?_
  refine z_br ((1 : Int) = 0) 18 8 [] rfl (fun h => absurd h (show ¬ ((1 : Int) = 0) from by decide)) (fun hx1 => ?_)
  refine z_n 3 (12, [(0, vr 137), (1, vi c), (2, vi 7)], [vi 9, vi 0, vi 7], (I, zPp π, D, 147)) rfl trivial ?_
  refine z_ci 93 [vi 7, vi 0, vi 9] [] rfl (m_in1 (by decide) (by decide)) ?_
  refine z_br (¬ (1 : Int) = 0) 22 18 [] rfl (fun hx2 => ?_) (fun h => absurd (show ¬ (1 : Int) = 0 from by decide) h)
  refine z_n 1 (23, [(0, vr 137), (1, vi c), (2, vi 7)], [vr 137], (I, zPp π, D, 147)) rfl trivial ?_
  refine z_cv 100 [vr 137] [] rfl (hJ) ?_
  refine z_n 2 (28, [(0, vr 137), (1, vi c), (2, vi 7)], [vi c, vr 137], (J, zPp π, D, 147)) rfl trivial ?_
  refine z_ci 101 [vr 137, vi c] [] rfl (hno) ?_
  refine z_n 7 (176, [(3, vi nb), (0, vr 137), (1, vi c), (2, vi 7)], [vi (J 138 3)], (J, zPp π, D, 147)) (G := (0 ≤ 3 ∧ 3 < 585) ∧ True) rfl ⟨by omega, trivial⟩ ?_
  refine z_br (¬ (J 138 3) = 0) 183 179 [] rfl (fun hx3 => ?_) (fun hx3 => ?_)
  · refine z_n 3 (186, [(3, vi nb), (0, vr 137), (1, vi c), (2, vi 7)], [vi 1, vi c, vr 137], (J, zPp π, D, 147)) rfl trivial ?_
    refine z_ci 110 [vr 137, vi c, vi 1] [] rfl (m_days1 (I := J) j3 (by omega) (by omega) hG hGb) ?_
    refine z_n 4 (195, [(3, vi nb), (0, vr 137), (1, vi c), (2, vi 7)], [vi (J 138 3), vi (zris (fun t => X 22 (t * 24 + c)) (X 0 8).toNat)], (J, zPp π, D, 147)) (G := (0 ≤ 3 ∧ 3 < 585) ∧ True) rfl ⟨by omega, trivial⟩ ?_
    refine z_br (¬ (zris (fun t => X 22 (t * 24 + c)) (X 0 8).toNat) = (J 138 3)) 202 198 [] rfl (fun hx4 => ?_) (fun hx4 => ?_)
    · refine z_n 3 (205, [(3, vi nb), (0, vr 137), (1, vi c), (2, vi 7)], [vi (-1), vi c, vr 137], (J, zPp π, D, 147)) rfl trivial ?_
      refine z_ci 110 [vr 137, vi c, vi (-1)] [] rfl (m_days0 (I := J) j3 (by omega) (by omega) hG hGb) ?_
      refine z_n 4 (214, [(3, vi nb), (0, vr 137), (1, vi c), (2, vi 7)], [vi (J 138 3), vi (zfal (fun t => X 22 (t * 24 + c)) (X 0 8).toNat)], (J, zPp π, D, 147)) (G := (0 ≤ 3 ∧ 3 < 585) ∧ True) rfl ⟨by omega, trivial⟩ ?_
      refine z_br (¬ (zfal (fun t => X 22 (t * 24 + c)) (X 0 8).toNat) = (J 138 3)) 221 217 [] rfl (fun hx5 => ?_) (fun hx5 => ?_)
      · refine z_n 1 (222, [(3, vi nb), (0, vr 137), (1, vi c), (2, vi 7)], [vi 0], (J, zPp π, D, 147)) rfl trivial ?_
        first | exact z_ret rfl (zv1 (by omega)) rfl | (exfalso; omega)
      · refine z_n 2 (222, [(3, vi nb), (0, vr 137), (1, vi c), (2, vi 7)], [vi 2], (J, zPp π, D, 147)) rfl trivial ?_
        first | exact z_ret rfl (zv1 (by omega)) rfl | (exfalso; omega)
    · refine z_n 2 (222, [(3, vi nb), (0, vr 137), (1, vi c), (2, vi 7)], [vi 1], (J, zPp π, D, 147)) rfl trivial ?_
      first | exact z_ret rfl (zv1 (by omega)) rfl | (exfalso; omega)
  · refine z_n 2 (222, [(3, vi nb), (0, vr 137), (1, vi c), (2, vi 7)], [vi 0], (J, zPp π, D, 147)) rfl trivial ?_
    first | exact z_ret rfl (zv1 (by omega)) rfl | (exfalso; omega)
set_option maxRecDepth 20000 in
theorem m_Rcrew_8 {I : zI} {π : Int → Nat} {D : zD} {X : zI} {c : Int}  (e : zEq (I 138) X) (ci : zCI X) (hq : 0 ≤ c ∧ c < X 0 5) : ∃ J, zMet 112 [vr 137, vi c, vi 8] (I, zPp π, D, 147) (some (vi (zcnt (X 16) c (X 12 4).toNat))) (J, zPp π, D, 147) ∧ zMk J I := by
  obtain ⟨⟨m0, m1, m2, m3, m4, m5, m6⟩, mc, ⟨mb, mk⟩, ⟨ml, mg⟩, mt⟩ := id e
  obtain ⟨⟨w, v, hsp, ⟨⟨hl0, hl1⟩, hlg, hps⟩, hpt, hp0⟩, hm, hd⟩ := id ci
  have hzb := zns_b w
  have hm4 := zdis_le w v hd hm
  have hl2 := zlb_b w
  obtain ⟨⟨w1, w2⟩, ⟨w3, w4⟩, ⟨w5, w6⟩, ⟨w7, w8⟩, ⟨w9, w10⟩, w11, ⟨⟨w12, w12b⟩, w12c⟩, ⟨w13, w14⟩, ⟨w15, w16⟩⟩ := id w
  obtain ⟨J, hJ, hln, hmk, e2⟩ := m_ln (π := π) (D := D) e ci
  obtain ⟨⟨j0, j1, j2, j3, j4, j5, j6⟩, jc, ⟨jb, jk⟩, ⟨jl, jg⟩, jt⟩ := id e2
  have hmk2 := hmk.2.2.2.2.1
  have hmk4 := hmk.2.2.2.2.2
  have hl10 := hln.1
  have hG : ∀ t, 0 ≤ t → t ≤ X 0 8 → J 138 (417 + 24 * t + c) = (fun t => X 22 (t * 24 + c)) t := fun t a b => jt t c a b hq.1 hq.2
  have hGb : ∀ t, 0 ≤ t → t ≤ X 0 8 → 0 ≤ (fun t => X 22 (t * 24 + c)) t ∧ (fun t => X 22 (t * 24 + c)) t ≤ 24 := fun t a b => by have h := hpt t c a b hq.1 hq.2; show 0 ≤ X 22 (t * 24 + c) ∧ X 22 (t * 24 + c) ≤ 24; omega
  obtain ⟨nb, hno⟩ : ∃ nb : Int, zMet 101 [vr 137, vi c] (J, zPp π, D, 147) (some (vi nb)) (J, zPp π, D, 147) := by
    by_cases hz : zIs (X 0) (X 4) c
    · exact ⟨_, m_no1 w v hln hz⟩
    · exact ⟨_, m_no0 w v hln hz⟩
  have jc2 := (jc c hq.1 hq.2).1
  have jc3 := (jc c hq.1 hq.2).2
  have vc := v.1 c hq.1 hq.2
  refine ⟨J, ?_, hmk⟩
  refine z_n 2 (2, [(0, vr 137), (1, vi c), (2, vi 8)], [vi c, vr 137], (I, zPp π, D, 147)) rfl trivial ?_
  refine z_ci 94 [vr 137, vi c] [] rfl (m_isCrew1 (by omega) (by omega)) ?_
  refine z_br ((1 : Int) = 0) 18 8 [] rfl (fun h => absurd h (show ¬ ((1 : Int) = 0) from by decide)) (fun hx1 => ?_)
  refine z_n 3 (12, [(0, vr 137), (1, vi c), (2, vi 8)], [vi 9, vi 0, vi 8], (I, zPp π, D, 147)) rfl trivial ?_
  refine z_ci 93 [vi 8, vi 0, vi 9] [] rfl (m_in1 (by decide) (by decide)) ?_
  refine z_br (¬ (1 : Int) = 0) 22 18 [] rfl (fun hx2 => ?_) (fun h => absurd (show ¬ (1 : Int) = 0 from by decide) h)
  refine z_n 1 (23, [(0, vr 137), (1, vi c), (2, vi 8)], [vr 137], (I, zPp π, D, 147)) rfl trivial ?_
  refine z_cv 100 [vr 137] [] rfl (hJ) ?_
  refine z_n 2 (28, [(0, vr 137), (1, vi c), (2, vi 8)], [vi c, vr 137], (J, zPp π, D, 147)) rfl trivial ?_
  refine z_ci 101 [vr 137, vi c] [] rfl (hno) ?_
  refine z_n 7 (228, [(3, vi nb), (0, vr 137), (1, vi c), (2, vi 8)], [vi 8, vi 8, vi c, vr 137], (J, zPp π, D, 147)) rfl trivial ?_
  refine z_br (¬ (8 : Int) = 8) 237 231 [vi c, vr 137] rfl (fun h => absurd h (show ¬ (¬ (8 : Int) = 8) from by decide)) (fun hx3 => ?_)
  refine z_n 2 (240, [(3, vi nb), (0, vr 137), (1, vi c), (2, vi 8)], [vi 193, vi c, vr 137], (J, zPp π, D, 147)) rfl trivial ?_
  refine z_ci 111 [vr 137, vi c, vi 193] [] rfl (m_bof (I := J) (f := X 16) jl (by omega) (by omega) (fun t a b => (jg t a b).2.1)) ?_
  first | exact z_ret rfl (zv1 (by omega)) rfl | (exfalso; omega)
set_option maxRecDepth 20000 in
theorem m_Rcrew_9 {I : zI} {π : Int → Nat} {D : zD} {X : zI} {c : Int}  (e : zEq (I 138) X) (ci : zCI X) (hq : 0 ≤ c ∧ c < X 0 5) : ∃ J, zMet 112 [vr 137, vi c, vi 9] (I, zPp π, D, 147) (some (vi (zcnt (X 18) c (X 12 4).toNat))) (J, zPp π, D, 147) ∧ zMk J I := by
  obtain ⟨⟨m0, m1, m2, m3, m4, m5, m6⟩, mc, ⟨mb, mk⟩, ⟨ml, mg⟩, mt⟩ := id e
  obtain ⟨⟨w, v, hsp, ⟨⟨hl0, hl1⟩, hlg, hps⟩, hpt, hp0⟩, hm, hd⟩ := id ci
  have hzb := zns_b w
  have hm4 := zdis_le w v hd hm
  have hl2 := zlb_b w
  obtain ⟨⟨w1, w2⟩, ⟨w3, w4⟩, ⟨w5, w6⟩, ⟨w7, w8⟩, ⟨w9, w10⟩, w11, ⟨⟨w12, w12b⟩, w12c⟩, ⟨w13, w14⟩, ⟨w15, w16⟩⟩ := id w
  obtain ⟨J, hJ, hln, hmk, e2⟩ := m_ln (π := π) (D := D) e ci
  obtain ⟨⟨j0, j1, j2, j3, j4, j5, j6⟩, jc, ⟨jb, jk⟩, ⟨jl, jg⟩, jt⟩ := id e2
  have hmk2 := hmk.2.2.2.2.1
  have hmk4 := hmk.2.2.2.2.2
  have hl10 := hln.1
  have hG : ∀ t, 0 ≤ t → t ≤ X 0 8 → J 138 (417 + 24 * t + c) = (fun t => X 22 (t * 24 + c)) t := fun t a b => jt t c a b hq.1 hq.2
  have hGb : ∀ t, 0 ≤ t → t ≤ X 0 8 → 0 ≤ (fun t => X 22 (t * 24 + c)) t ∧ (fun t => X 22 (t * 24 + c)) t ≤ 24 := fun t a b => by have h := hpt t c a b hq.1 hq.2; show 0 ≤ X 22 (t * 24 + c) ∧ X 22 (t * 24 + c) ≤ 24; omega
  obtain ⟨nb, hno⟩ : ∃ nb : Int, zMet 101 [vr 137, vi c] (J, zPp π, D, 147) (some (vi nb)) (J, zPp π, D, 147) := by
    by_cases hz : zIs (X 0) (X 4) c
    · exact ⟨_, m_no1 w v hln hz⟩
    · exact ⟨_, m_no0 w v hln hz⟩
  have jc2 := (jc c hq.1 hq.2).1
  have jc3 := (jc c hq.1 hq.2).2
  have vc := v.1 c hq.1 hq.2
  refine ⟨J, ?_, hmk⟩
  refine z_n 2 (2, [(0, vr 137), (1, vi c), (2, vi 9)], [vi c, vr 137], (I, zPp π, D, 147)) rfl trivial ?_
  refine z_ci 94 [vr 137, vi c] [] rfl (m_isCrew1 (by omega) (by omega)) ?_
  refine z_br ((1 : Int) = 0) 18 8 [] rfl (fun h => absurd h (show ¬ ((1 : Int) = 0) from by decide)) (fun hx1 => ?_)
  refine z_n 3 (12, [(0, vr 137), (1, vi c), (2, vi 9)], [vi 9, vi 0, vi 9], (I, zPp π, D, 147)) rfl trivial ?_
  refine z_ci 93 [vi 9, vi 0, vi 9] [] rfl (m_in1 (by decide) (by decide)) ?_
  refine z_br (¬ (1 : Int) = 0) 22 18 [] rfl (fun hx2 => ?_) (fun h => absurd (show ¬ (1 : Int) = 0 from by decide) h)
  refine z_n 1 (23, [(0, vr 137), (1, vi c), (2, vi 9)], [vr 137], (I, zPp π, D, 147)) rfl trivial ?_
  refine z_cv 100 [vr 137] [] rfl (hJ) ?_
  refine z_n 2 (28, [(0, vr 137), (1, vi c), (2, vi 9)], [vi c, vr 137], (J, zPp π, D, 147)) rfl trivial ?_
  refine z_ci 101 [vr 137, vi c] [] rfl (hno) ?_
  refine z_n 7 (228, [(3, vi nb), (0, vr 137), (1, vi c), (2, vi 9)], [vi 8, vi 9, vi c, vr 137], (J, zPp π, D, 147)) rfl trivial ?_
  refine z_br (¬ (9 : Int) = 8) 237 231 [vi c, vr 137] rfl (fun hx3 => ?_) (fun h => absurd (show ¬ (9 : Int) = 8 from by decide) h)
  refine z_n 1 (240, [(3, vi nb), (0, vr 137), (1, vi c), (2, vi 9)], [vi 305, vi c, vr 137], (J, zPp π, D, 147)) rfl trivial ?_
  refine z_ci 111 [vr 137, vi c, vi 305] [] rfl (m_bof (I := J) (f := X 18) jl (by omega) (by omega) (fun t a b => (jg t a b).2.2)) ?_
  first | exact z_ret rfl (zv1 (by omega)) rfl | (exfalso; omega)
set_option maxRecDepth 20000 in
theorem m_Rcrew_3n {I : zI} {π : Int → Nat} {D : zD} {X : zI} {c : Int}  (e : zEq (I 138) X) (ci : zCI X) (hq : 0 ≤ c ∧ c < X 0 5) (hs : ¬ zIs (X 0) (X 4) c) : ∃ J, zMet 112 [vr 137, vi c, vi 3] (I, zPp π, D, 147) (some (vi (-1004))) (J, zPp π, D, 147) ∧ zMk J I := by
  obtain ⟨⟨m0, m1, m2, m3, m4, m5, m6⟩, mc, ⟨mb, mk⟩, ⟨ml, mg⟩, mt⟩ := id e
  obtain ⟨⟨w, v, hsp, ⟨⟨hl0, hl1⟩, hlg, hps⟩, hpt, hp0⟩, hm, hd⟩ := id ci
  have hzb := zns_b w
  have hm4 := zdis_le w v hd hm
  have hl2 := zlb_b w
  obtain ⟨⟨w1, w2⟩, ⟨w3, w4⟩, ⟨w5, w6⟩, ⟨w7, w8⟩, ⟨w9, w10⟩, w11, ⟨⟨w12, w12b⟩, w12c⟩, ⟨w13, w14⟩, ⟨w15, w16⟩⟩ := id w
  obtain ⟨J, hJ, hln, hmk, e2⟩ := m_ln (π := π) (D := D) e ci
  obtain ⟨⟨j0, j1, j2, j3, j4, j5, j6⟩, jc, ⟨jb, jk⟩, ⟨jl, jg⟩, jt⟩ := id e2
  have hmk2 := hmk.2.2.2.2.1
  have hmk4 := hmk.2.2.2.2.2
  have hl10 := hln.1
  refine ⟨J, ?_, hmk⟩
  refine z_n 2 (2, [(0, vr 137), (1, vi c), (2, vi 3)], [vi c, vr 137], (I, zPp π, D, 147)) rfl trivial ?_
  refine z_ci 94 [vr 137, vi c] [] rfl (m_isCrew1 (by omega) (by omega)) ?_
  refine z_br ((1 : Int) = 0) 18 8 [] rfl (fun h => absurd h (show ¬ ((1 : Int) = 0) from by decide)) (fun hx1 => ?_)
  refine z_n 3 (12, [(0, vr 137), (1, vi c), (2, vi 3)], [vi 9, vi 0, vi 3], (I, zPp π, D, 147)) rfl trivial ?_
  refine z_ci 93 [vi 3, vi 0, vi 9] [] rfl (m_in1 (by decide) (by decide)) ?_
  refine z_br (¬ (1 : Int) = 0) 22 18 [] rfl (fun hx2 => ?_) (fun h => absurd (show ¬ (1 : Int) = 0 from by decide) h)
  refine z_n 1 (23, [(0, vr 137), (1, vi c), (2, vi 3)], [vr 137], (I, zPp π, D, 147)) rfl trivial ?_
  refine z_cv 100 [vr 137] [] rfl (hJ) ?_
  refine z_n 2 (28, [(0, vr 137), (1, vi c), (2, vi 3)], [vi c, vr 137], (J, zPp π, D, 147)) rfl trivial ?_
  refine z_ci 101 [vr 137, vi c] [] rfl (m_no0 w v hln hs) ?_
  refine z_n 5 (119, [(3, vi (-1)), (0, vr 137), (1, vi c), (2, vi 3)], [vi (-1), vi (-1)], (J, zPp π, D, 147)) rfl trivial ?_
  refine z_br (¬ (-1 : Int) = (-1)) 128 122 [] rfl (fun h => absurd h (show ¬ (¬ (-1 : Int) = (-1)) from by decide)) (fun hx3 => ?_)
  refine z_n 2 (129, [(3, vi (-1)), (0, vr 137), (1, vi c), (2, vi 3)], [vi (-1004)], (J, zPp π, D, 147)) rfl trivial ?_
  first | exact z_ret rfl (zv1 (by omega)) rfl | (exfalso; omega)
set_option maxRecDepth 20000 in
theorem m_Rcrew_4n {I : zI} {π : Int → Nat} {D : zD} {X : zI} {c : Int}  (e : zEq (I 138) X) (ci : zCI X) (hq : 0 ≤ c ∧ c < X 0 5) (hs : ¬ zIs (X 0) (X 4) c) : ∃ J, zMet 112 [vr 137, vi c, vi 4] (I, zPp π, D, 147) (some (vi (-1004))) (J, zPp π, D, 147) ∧ zMk J I := by
  obtain ⟨⟨m0, m1, m2, m3, m4, m5, m6⟩, mc, ⟨mb, mk⟩, ⟨ml, mg⟩, mt⟩ := id e
  obtain ⟨⟨w, v, hsp, ⟨⟨hl0, hl1⟩, hlg, hps⟩, hpt, hp0⟩, hm, hd⟩ := id ci
  have hzb := zns_b w
  have hm4 := zdis_le w v hd hm
  have hl2 := zlb_b w
  obtain ⟨⟨w1, w2⟩, ⟨w3, w4⟩, ⟨w5, w6⟩, ⟨w7, w8⟩, ⟨w9, w10⟩, w11, ⟨⟨w12, w12b⟩, w12c⟩, ⟨w13, w14⟩, ⟨w15, w16⟩⟩ := id w
  obtain ⟨J, hJ, hln, hmk, e2⟩ := m_ln (π := π) (D := D) e ci
  obtain ⟨⟨j0, j1, j2, j3, j4, j5, j6⟩, jc, ⟨jb, jk⟩, ⟨jl, jg⟩, jt⟩ := id e2
  have hmk2 := hmk.2.2.2.2.1
  have hmk4 := hmk.2.2.2.2.2
  have hl10 := hln.1
  refine ⟨J, ?_, hmk⟩
  refine z_n 2 (2, [(0, vr 137), (1, vi c), (2, vi 4)], [vi c, vr 137], (I, zPp π, D, 147)) rfl trivial ?_
  refine z_ci 94 [vr 137, vi c] [] rfl (m_isCrew1 (by omega) (by omega)) ?_
  refine z_br ((1 : Int) = 0) 18 8 [] rfl (fun h => absurd h (show ¬ ((1 : Int) = 0) from by decide)) (fun hx1 => ?_)
  refine z_n 3 (12, [(0, vr 137), (1, vi c), (2, vi 4)], [vi 9, vi 0, vi 4], (I, zPp π, D, 147)) rfl trivial ?_
  refine z_ci 93 [vi 4, vi 0, vi 9] [] rfl (m_in1 (by decide) (by decide)) ?_
  refine z_br (¬ (1 : Int) = 0) 22 18 [] rfl (fun hx2 => ?_) (fun h => absurd (show ¬ (1 : Int) = 0 from by decide) h)
  refine z_n 1 (23, [(0, vr 137), (1, vi c), (2, vi 4)], [vr 137], (I, zPp π, D, 147)) rfl trivial ?_
  refine z_cv 100 [vr 137] [] rfl (hJ) ?_
  refine z_n 2 (28, [(0, vr 137), (1, vi c), (2, vi 4)], [vi c, vr 137], (J, zPp π, D, 147)) rfl trivial ?_
  refine z_ci 101 [vr 137, vi c] [] rfl (m_no0 w v hln hs) ?_
  refine z_n 5 (132, [(3, vi (-1)), (0, vr 137), (1, vi c), (2, vi 4)], [vi (-1), vi (-1)], (J, zPp π, D, 147)) rfl trivial ?_
  refine z_br (¬ (-1 : Int) = (-1)) 141 135 [] rfl (fun h => absurd h (show ¬ (¬ (-1 : Int) = (-1)) from by decide)) (fun hx3 => ?_)
  refine z_n 2 (155, [(3, vi (-1)), (0, vr 137), (1, vi c), (2, vi 4)], [vi (-1004)], (J, zPp π, D, 147)) rfl trivial ?_
  first | exact z_ret rfl (zv1 (by omega)) rfl | (exfalso; omega)
set_option maxRecDepth 20000 in
theorem m_Rcrew_3s {I : zI} {π : Int → Nat} {D : zD} {X : zI} {c : Int}  (e : zEq (I 138) X) (ci : zCI X) (hq : 0 ≤ c ∧ c < X 0 5) (hs : zIs (X 0) (X 4) c) : ∃ J, zMet 112 [vr 137, vi c, vi 3] (I, zPp π, D, 147) (some (vi (X 4 c - X 0 9 * X 0 6))) (J, zPp π, D, 147) ∧ zMk J I := by
  obtain ⟨⟨m0, m1, m2, m3, m4, m5, m6⟩, mc, ⟨mb, mk⟩, ⟨ml, mg⟩, mt⟩ := id e
  obtain ⟨⟨w, v, hsp, ⟨⟨hl0, hl1⟩, hlg, hps⟩, hpt, hp0⟩, hm, hd⟩ := id ci
  have hzb := zns_b w
  have hm4 := zdis_le w v hd hm
  have hl2 := zlb_b w
  obtain ⟨⟨w1, w2⟩, ⟨w3, w4⟩, ⟨w5, w6⟩, ⟨w7, w8⟩, ⟨w9, w10⟩, w11, ⟨⟨w12, w12b⟩, w12c⟩, ⟨w13, w14⟩, ⟨w15, w16⟩⟩ := id w
  obtain ⟨J, hJ, hln, hmk, e2⟩ := m_ln (π := π) (D := D) e ci
  obtain ⟨⟨j0, j1, j2, j3, j4, j5, j6⟩, jc, ⟨jb, jk⟩, ⟨jl, jg⟩, jt⟩ := id e2
  have hmk2 := hmk.2.2.2.2.1
  have hmk4 := hmk.2.2.2.2.2
  have hl10 := hln.1
  have hs2 := hs.2
  have vc := v.1 c hq.1 hq.2
  have lo := hln.2.2 (X 4 c - X 0 9 * X 0 6) (by omega) (by omega)
  rw [show X 0 9 * X 0 6 + (X 4 c - X 0 9 * X 0 6) = X 4 c by omega, vc.2.2] at lo
  refine ⟨J, ?_, hmk⟩
  refine z_n 2 (2, [(0, vr 137), (1, vi c), (2, vi 3)], [vi c, vr 137], (I, zPp π, D, 147)) rfl trivial ?_
  refine z_ci 94 [vr 137, vi c] [] rfl (m_isCrew1 (by omega) (by omega)) ?_
  refine z_br ((1 : Int) = 0) 18 8 [] rfl (fun h => absurd h (show ¬ ((1 : Int) = 0) from by decide)) (fun hx1 => ?_)
  refine z_n 3 (12, [(0, vr 137), (1, vi c), (2, vi 3)], [vi 9, vi 0, vi 3], (I, zPp π, D, 147)) rfl trivial ?_
  refine z_ci 93 [vi 3, vi 0, vi 9] [] rfl (m_in1 (by decide) (by decide)) ?_
  refine z_br (¬ (1 : Int) = 0) 22 18 [] rfl (fun hx2 => ?_) (fun h => absurd (show ¬ (1 : Int) = 0 from by decide) h)
  refine z_n 1 (23, [(0, vr 137), (1, vi c), (2, vi 3)], [vr 137], (I, zPp π, D, 147)) rfl trivial ?_
  refine z_cv 100 [vr 137] [] rfl (hJ) ?_
  refine z_n 2 (28, [(0, vr 137), (1, vi c), (2, vi 3)], [vi c, vr 137], (J, zPp π, D, 147)) rfl trivial ?_
  refine z_ci 101 [vr 137, vi c] [] rfl (m_no1 w v hln hs) ?_
  refine z_n 5 (119, [(3, vi (X 4 c - X 0 9 * X 0 6)), (0, vr 137), (1, vi c), (2, vi 3)], [vi (-1), vi (X 4 c - X 0 9 * X 0 6)], (J, zPp π, D, 147)) rfl trivial ?_
  refine z_br (¬ (X 4 c - X 0 9 * X 0 6) = (-1)) 128 122 [] rfl (fun hx3 => ?_) (fun hx3 => ?_)
  · refine z_n 1 (129, [(3, vi (X 4 c - X 0 9 * X 0 6)), (0, vr 137), (1, vi c), (2, vi 3)], [vi (X 4 c - X 0 9 * X 0 6)], (J, zPp π, D, 147)) rfl trivial ?_
    first | exact z_ret rfl (zv1 (by omega)) rfl | (exfalso; omega)
  · refine z_n 2 (129, [(3, vi (X 4 c - X 0 9 * X 0 6)), (0, vr 137), (1, vi c), (2, vi 3)], [vi (-1004)], (J, zPp π, D, 147)) rfl trivial ?_
    first | exact z_ret rfl (zv1 (by omega)) rfl | (exfalso; omega)
set_option maxRecDepth 20000 in
theorem m_Rcrew_4o {I : zI} {π : Int → Nat} {D : zD} {X : zI} {c : Int}  (e : zEq (I 138) X) (ci : zCI X) (hq : 0 ≤ c ∧ c < X 0 5) (hs : zIs (X 0) (X 4) c) (ho : zOut (X 7 2) (X 9) (X 11) c) : ∃ J, zMet 112 [vr 137, vi c, vi 4] (I, zPp π, D, 147) (some (vi 1)) (J, zPp π, D, 147) ∧ zMk J I := by
  obtain ⟨⟨m0, m1, m2, m3, m4, m5, m6⟩, mc, ⟨mb, mk⟩, ⟨ml, mg⟩, mt⟩ := id e
  obtain ⟨⟨w, v, hsp, ⟨⟨hl0, hl1⟩, hlg, hps⟩, hpt, hp0⟩, hm, hd⟩ := id ci
  have hzb := zns_b w
  have hm4 := zdis_le w v hd hm
  have hl2 := zlb_b w
  obtain ⟨⟨w1, w2⟩, ⟨w3, w4⟩, ⟨w5, w6⟩, ⟨w7, w8⟩, ⟨w9, w10⟩, w11, ⟨⟨w12, w12b⟩, w12c⟩, ⟨w13, w14⟩, ⟨w15, w16⟩⟩ := id w
  obtain ⟨J, hJ, hln, hmk, e2⟩ := m_ln (π := π) (D := D) e ci
  obtain ⟨⟨j0, j1, j2, j3, j4, j5, j6⟩, jc, ⟨jb, jk⟩, ⟨jl, jg⟩, jt⟩ := id e2
  have hmk2 := hmk.2.2.2.2.1
  have hmk4 := hmk.2.2.2.2.2
  have hl10 := hln.1
  have hs2 := hs.2
  have vc := v.1 c hq.1 hq.2
  have lo := hln.2.2 (X 4 c - X 0 9 * X 0 6) (by omega) (by omega)
  rw [show X 0 9 * X 0 6 + (X 4 c - X 0 9 * X 0 6) = X 4 c by omega, vc.2.2] at lo
  have lo2 : J 142 (X 4 c - X 0 9 * X 0 6) = 1 := by rcases lo with h9 | h9; exact h9.2; exact absurd ho h9.1
  refine ⟨J, ?_, hmk⟩
  refine z_n 2 (2, [(0, vr 137), (1, vi c), (2, vi 4)], [vi c, vr 137], (I, zPp π, D, 147)) rfl trivial ?_
  refine z_ci 94 [vr 137, vi c] [] rfl (m_isCrew1 (by omega) (by omega)) ?_
  refine z_br ((1 : Int) = 0) 18 8 [] rfl (fun h => absurd h (show ¬ ((1 : Int) = 0) from by decide)) (fun hx1 => ?_)
  refine z_n 3 (12, [(0, vr 137), (1, vi c), (2, vi 4)], [vi 9, vi 0, vi 4], (I, zPp π, D, 147)) rfl trivial ?_
  refine z_ci 93 [vi 4, vi 0, vi 9] [] rfl (m_in1 (by decide) (by decide)) ?_
  refine z_br (¬ (1 : Int) = 0) 22 18 [] rfl (fun hx2 => ?_) (fun h => absurd (show ¬ (1 : Int) = 0 from by decide) h)
  refine z_n 1 (23, [(0, vr 137), (1, vi c), (2, vi 4)], [vr 137], (I, zPp π, D, 147)) rfl trivial ?_
  refine z_cv 100 [vr 137] [] rfl (hJ) ?_
  refine z_n 2 (28, [(0, vr 137), (1, vi c), (2, vi 4)], [vi c, vr 137], (J, zPp π, D, 147)) rfl trivial ?_
  refine z_ci 101 [vr 137, vi c] [] rfl (m_no1 w v hln hs) ?_
  refine z_n 5 (132, [(3, vi (X 4 c - X 0 9 * X 0 6)), (0, vr 137), (1, vi c), (2, vi 4)], [vi (-1), vi (X 4 c - X 0 9 * X 0 6)], (J, zPp π, D, 147)) rfl trivial ?_
  refine z_br (¬ (X 4 c - X 0 9 * X 0 6) = (-1)) 141 135 [] rfl (fun hx3 => ?_) (fun hx3 => ?_)
  · refine z_n 4 (147, [(3, vi (X 4 c - X 0 9 * X 0 6)), (0, vr 137), (1, vi c), (2, vi 4)], [vi (J 142 (X 4 c - X 0 9 * X 0 6))], (J, zPp π, D, 147)) (G := (0 ≤ (X 4 c - X 0 9 * X 0 6) ∧ (X 4 c - X 0 9 * X 0 6) < 9) ∧ True) rfl ⟨by omega, trivial⟩ ?_
    refine z_br ((J 142 (X 4 c - X 0 9 * X 0 6)) = 0) 154 150 [] rfl (fun hx4 => ?_) (fun hx4 => ?_)
    · refine z_n 1 (155, [(3, vi (X 4 c - X 0 9 * X 0 6)), (0, vr 137), (1, vi c), (2, vi 4)], [vi 0], (J, zPp π, D, 147)) rfl trivial ?_
      first | exact z_ret rfl (zv1 (by omega)) rfl | (exfalso; omega)
    · refine z_n 2 (155, [(3, vi (X 4 c - X 0 9 * X 0 6)), (0, vr 137), (1, vi c), (2, vi 4)], [vi 1], (J, zPp π, D, 147)) rfl trivial ?_
      first | exact z_ret rfl (zv1 (by omega)) rfl | (exfalso; omega)
  · refine z_n 2 (155, [(3, vi (X 4 c - X 0 9 * X 0 6)), (0, vr 137), (1, vi c), (2, vi 4)], [vi (-1004)], (J, zPp π, D, 147)) rfl trivial ?_
    first | exact z_ret rfl (zv1 (by omega)) rfl | (exfalso; omega)
set_option maxRecDepth 20000 in
theorem m_Rcrew_4i {I : zI} {π : Int → Nat} {D : zD} {X : zI} {c : Int}  (e : zEq (I 138) X) (ci : zCI X) (hq : 0 ≤ c ∧ c < X 0 5) (hs : zIs (X 0) (X 4) c) (ho : ¬ zOut (X 7 2) (X 9) (X 11) c) : ∃ J, zMet 112 [vr 137, vi c, vi 4] (I, zPp π, D, 147) (some (vi 0)) (J, zPp π, D, 147) ∧ zMk J I := by
  obtain ⟨⟨m0, m1, m2, m3, m4, m5, m6⟩, mc, ⟨mb, mk⟩, ⟨ml, mg⟩, mt⟩ := id e
  obtain ⟨⟨w, v, hsp, ⟨⟨hl0, hl1⟩, hlg, hps⟩, hpt, hp0⟩, hm, hd⟩ := id ci
  have hzb := zns_b w
  have hm4 := zdis_le w v hd hm
  have hl2 := zlb_b w
  obtain ⟨⟨w1, w2⟩, ⟨w3, w4⟩, ⟨w5, w6⟩, ⟨w7, w8⟩, ⟨w9, w10⟩, w11, ⟨⟨w12, w12b⟩, w12c⟩, ⟨w13, w14⟩, ⟨w15, w16⟩⟩ := id w
  obtain ⟨J, hJ, hln, hmk, e2⟩ := m_ln (π := π) (D := D) e ci
  obtain ⟨⟨j0, j1, j2, j3, j4, j5, j6⟩, jc, ⟨jb, jk⟩, ⟨jl, jg⟩, jt⟩ := id e2
  have hmk2 := hmk.2.2.2.2.1
  have hmk4 := hmk.2.2.2.2.2
  have hl10 := hln.1
  have hs2 := hs.2
  have vc := v.1 c hq.1 hq.2
  have lo := hln.2.2 (X 4 c - X 0 9 * X 0 6) (by omega) (by omega)
  rw [show X 0 9 * X 0 6 + (X 4 c - X 0 9 * X 0 6) = X 4 c by omega, vc.2.2] at lo
  have lo2 : J 142 (X 4 c - X 0 9 * X 0 6) = 0 := by rcases lo with h9 | h9; exact absurd h9.1 ho; exact h9.2
  refine ⟨J, ?_, hmk⟩
  refine z_n 2 (2, [(0, vr 137), (1, vi c), (2, vi 4)], [vi c, vr 137], (I, zPp π, D, 147)) rfl trivial ?_
  refine z_ci 94 [vr 137, vi c] [] rfl (m_isCrew1 (by omega) (by omega)) ?_
  refine z_br ((1 : Int) = 0) 18 8 [] rfl (fun h => absurd h (show ¬ ((1 : Int) = 0) from by decide)) (fun hx1 => ?_)
  refine z_n 3 (12, [(0, vr 137), (1, vi c), (2, vi 4)], [vi 9, vi 0, vi 4], (I, zPp π, D, 147)) rfl trivial ?_
  refine z_ci 93 [vi 4, vi 0, vi 9] [] rfl (m_in1 (by decide) (by decide)) ?_
  refine z_br (¬ (1 : Int) = 0) 22 18 [] rfl (fun hx2 => ?_) (fun h => absurd (show ¬ (1 : Int) = 0 from by decide) h)
  refine z_n 1 (23, [(0, vr 137), (1, vi c), (2, vi 4)], [vr 137], (I, zPp π, D, 147)) rfl trivial ?_
  refine z_cv 100 [vr 137] [] rfl (hJ) ?_
  refine z_n 2 (28, [(0, vr 137), (1, vi c), (2, vi 4)], [vi c, vr 137], (J, zPp π, D, 147)) rfl trivial ?_
  refine z_ci 101 [vr 137, vi c] [] rfl (m_no1 w v hln hs) ?_
  refine z_n 5 (132, [(3, vi (X 4 c - X 0 9 * X 0 6)), (0, vr 137), (1, vi c), (2, vi 4)], [vi (-1), vi (X 4 c - X 0 9 * X 0 6)], (J, zPp π, D, 147)) rfl trivial ?_
  refine z_br (¬ (X 4 c - X 0 9 * X 0 6) = (-1)) 141 135 [] rfl (fun hx3 => ?_) (fun hx3 => ?_)
  · refine z_n 4 (147, [(3, vi (X 4 c - X 0 9 * X 0 6)), (0, vr 137), (1, vi c), (2, vi 4)], [vi (J 142 (X 4 c - X 0 9 * X 0 6))], (J, zPp π, D, 147)) (G := (0 ≤ (X 4 c - X 0 9 * X 0 6) ∧ (X 4 c - X 0 9 * X 0 6) < 9) ∧ True) rfl ⟨by omega, trivial⟩ ?_
    refine z_br ((J 142 (X 4 c - X 0 9 * X 0 6)) = 0) 154 150 [] rfl (fun hx4 => ?_) (fun hx4 => ?_)
    · refine z_n 1 (155, [(3, vi (X 4 c - X 0 9 * X 0 6)), (0, vr 137), (1, vi c), (2, vi 4)], [vi 0], (J, zPp π, D, 147)) rfl trivial ?_
      first | exact z_ret rfl (zv1 (by omega)) rfl | (exfalso; omega)
    · refine z_n 2 (155, [(3, vi (X 4 c - X 0 9 * X 0 6)), (0, vr 137), (1, vi c), (2, vi 4)], [vi 1], (J, zPp π, D, 147)) rfl trivial ?_
      first | exact z_ret rfl (zv1 (by omega)) rfl | (exfalso; omega)
  · refine z_n 2 (155, [(3, vi (X 4 c - X 0 9 * X 0 6)), (0, vr 137), (1, vi c), (2, vi 4)], [vi (-1004)], (J, zPp π, D, 147)) rfl trivial ?_
    first | exact z_ret rfl (zv1 (by omega)) rfl | (exfalso; omega)
set_option maxRecDepth 20000 in
theorem m_Rwhyx {I : zI} {π : Int → Nat} {D : zD} {X : zI} {a b : Int} (e : zEq (I 138) X) (ci : zCI X) (hq : ¬ ((0 ≤ a ∧ a < X 0 5) ∧ (0 ≤ b ∧ b < X 0 5))) : zMet 116 [vr 137, vi a, vi b] (I, zPp π, D, 147) (some (vi (-1001))) (I, zPp π, D, 147) := by
  obtain ⟨⟨m0, m1, m2, m3, m4, m5, m6⟩, mc, ⟨mb, mk⟩, ⟨ml, mg⟩, mt⟩ := id e
  obtain ⟨⟨w, v, hsp, ⟨⟨hl0, hl1⟩, hlg, hps⟩, hpt, hp0⟩, hm, hd⟩ := id ci
  have hzb := zns_b w
  have hm4 := zdis_le w v hd hm
  have hl2 := zlb_b w
  obtain ⟨⟨w1, w2⟩, ⟨w3, w4⟩, ⟨w5, w6⟩, ⟨w7, w8⟩, ⟨w9, w10⟩, w11, ⟨⟨w12, w12b⟩, w12c⟩, ⟨w13, w14⟩, ⟨w15, w16⟩⟩ := id w
  refine z_n 2 (2, [(0, vr 137), (1, vi a), (2, vi b)], [vi a, vr 137], (I, zPp π, D, 147)) rfl trivial ?_
  by_cases hx1 : 0 ≤ a ∧ a < I 138 0
  · refine z_ci 94 [vr 137, vi a] [] rfl (m_isCrew1 (by omega) hx1) ?_
    refine z_br ((1 : Int) = 0) 16 8 [] rfl (fun h => absurd h (show ¬ ((1 : Int) = 0) from by decide)) (fun hx2 => ?_)
    refine z_n 2 (10, [(0, vr 137), (1, vi a), (2, vi b)], [vi b, vr 137], (I, zPp π, D, 147)) rfl trivial ?_
    by_cases hx3 : 0 ≤ b ∧ b < I 138 0
    · refine z_ci 94 [vr 137, vi b] [] rfl (m_isCrew1 (by omega) hx3) ?_
      refine z_br (¬ (1 : Int) = 0) 20 16 [] rfl (fun hx4 => ?_) (fun h => absurd (show ¬ (1 : Int) = 0 from by decide) h)
      exfalso; omega
    · refine z_ci 94 [vr 137, vi b] [] rfl (m_isCrew0 (by omega) hx3) ?_
      refine z_br (¬ (0 : Int) = 0) 20 16 [] rfl (fun h => absurd h (show ¬ (¬ (0 : Int) = 0) from by decide)) (fun hx5 => ?_)
      refine z_n 1 (19, [(0, vr 137), (1, vi a), (2, vi b)], [vi (-1001)], (I, zPp π, D, 147)) rfl trivial ?_
      first | exact z_ret rfl (zv1 (by omega)) rfl | (exfalso; omega)
  · refine z_ci 94 [vr 137, vi a] [] rfl (m_isCrew0 (by omega) hx1) ?_
    refine z_br ((0 : Int) = 0) 16 8 [] rfl (fun hx6 => ?_) (fun h => absurd (show (0 : Int) = 0 from by decide) h)
    refine z_n 1 (19, [(0, vr 137), (1, vi a), (2, vi b)], [vi (-1001)], (I, zPp π, D, 147)) rfl trivial ?_
    first | exact z_ret rfl (zv1 (by omega)) rfl | (exfalso; omega)
set_option maxRecDepth 20000 in
theorem m_Rwhy {I : zI} {π : Int → Nat} {D : zD} {X : zI} {a b res : Int}  (e : zEq (I 138) X) (ci : zCI X) (hq : (0 ≤ a ∧ a < X 0 5) ∧ (0 ≤ b ∧ b < X 0 5)) (hz : zReas (X 0) (X 4) (X 6) (X 7 2) (X 9) (X 11) a b res) : ∃ J, zMet 116 [vr 137, vi a, vi b] (I, zPp π, D, 147) (some (vi res)) (J, zPp π, D, 147) ∧ zMk J I := by
  obtain ⟨⟨m0, m1, m2, m3, m4, m5, m6⟩, mc, ⟨mb, mk⟩, ⟨ml, mg⟩, mt⟩ := id e
  obtain ⟨⟨w, v, hsp, ⟨⟨hl0, hl1⟩, hlg, hps⟩, hpt, hp0⟩, hm, hd⟩ := id ci
  have hzb := zns_b w
  have hm4 := zdis_le w v hd hm
  have hl2 := zlb_b w
  obtain ⟨⟨w1, w2⟩, ⟨w3, w4⟩, ⟨w5, w6⟩, ⟨w7, w8⟩, ⟨w9, w10⟩, w11, ⟨⟨w12, w12b⟩, w12c⟩, ⟨w13, w14⟩, ⟨w15, w16⟩⟩ := id w
  obtain ⟨J, hJ, hln, hmk, e2⟩ := m_ln (π := π) (D := D) e ci
  obtain ⟨⟨j0, j1, j2, j3, j4, j5, j6⟩, jc, ⟨jb, jk⟩, ⟨jl, jg⟩, jt⟩ := id e2
  have hmk2 := hmk.2.2.2.2.1
  have hmk4 := hmk.2.2.2.2.2
  have hl10 := hln.1
  refine ⟨J, ?_, hmk⟩
  refine z_n 2 (2, [(0, vr 137), (1, vi a), (2, vi b)], [vi a, vr 137], (I, zPp π, D, 147)) rfl trivial ?_
  refine z_ci 94 [vr 137, vi a] [] rfl (m_isCrew1 (by omega) (by omega)) ?_
  refine z_br ((1 : Int) = 0) 16 8 [] rfl (fun h => absurd h (show ¬ ((1 : Int) = 0) from by decide)) (fun hx1 => ?_)
  refine z_n 2 (10, [(0, vr 137), (1, vi a), (2, vi b)], [vi b, vr 137], (I, zPp π, D, 147)) rfl trivial ?_
  refine z_ci 94 [vr 137, vi b] [] rfl (m_isCrew1 (by omega) (by omega)) ?_
  refine z_br (¬ (1 : Int) = 0) 20 16 [] rfl (fun hx2 => ?_) (fun h => absurd (show ¬ (1 : Int) = 0 from by decide) h)
  refine z_n 1 (21, [(0, vr 137), (1, vi a), (2, vi b)], [vr 137], (I, zPp π, D, 147)) rfl trivial ?_
  refine z_cv 100 [vr 137] [] rfl (hJ) ?_
  refine z_n 3 (27, [(0, vr 137), (1, vi a), (2, vi b)], [vi b, vi a, vr 137], (J, zPp π, D, 147)) rfl trivial ?_
  refine z_ci 103 [vr 137, vi a, vi b] [] rfl (m_refusal w v hln hz) ?_
  first | exact z_ret rfl (zv1 (by omega)) rfl | (exfalso; omega)
set_option maxRecDepth 20000 in
theorem m_Rbumpx {I : zI} {π : Int → Nat} {D : zD} {X : zI} {a b : Int} (e : zEq (I 138) X) (ci : zCI X) (hq : ¬ ((0 ≤ a ∧ a < X 0 5) ∧ (0 ≤ b ∧ b < X 0 5))) : zMet 115 [vr 137, vi a, vi b] (I, zPp π, D, 147) (some (vi (-1001))) (I, zPp π, D, 147) := by
  obtain ⟨⟨m0, m1, m2, m3, m4, m5, m6⟩, mc, ⟨mb, mk⟩, ⟨ml, mg⟩, mt⟩ := id e
  obtain ⟨⟨w, v, hsp, ⟨⟨hl0, hl1⟩, hlg, hps⟩, hpt, hp0⟩, hm, hd⟩ := id ci
  have hzb := zns_b w
  have hm4 := zdis_le w v hd hm
  have hl2 := zlb_b w
  obtain ⟨⟨w1, w2⟩, ⟨w3, w4⟩, ⟨w5, w6⟩, ⟨w7, w8⟩, ⟨w9, w10⟩, w11, ⟨⟨w12, w12b⟩, w12c⟩, ⟨w13, w14⟩, ⟨w15, w16⟩⟩ := id w
  refine z_n 2 (2, [(0, vr 137), (1, vi a), (2, vi b)], [vi a, vr 137], (I, zPp π, D, 147)) rfl trivial ?_
  by_cases hx1 : 0 ≤ a ∧ a < I 138 0
  · refine z_ci 94 [vr 137, vi a] [] rfl (m_isCrew1 (by omega) hx1) ?_
    refine z_br ((1 : Int) = 0) 16 8 [] rfl (fun h => absurd h (show ¬ ((1 : Int) = 0) from by decide)) (fun hx2 => ?_)
    refine z_n 2 (10, [(0, vr 137), (1, vi a), (2, vi b)], [vi b, vr 137], (I, zPp π, D, 147)) rfl trivial ?_
    by_cases hx3 : 0 ≤ b ∧ b < I 138 0
    · refine z_ci 94 [vr 137, vi b] [] rfl (m_isCrew1 (by omega) hx3) ?_
      refine z_br (¬ (1 : Int) = 0) 20 16 [] rfl (fun hx4 => ?_) (fun h => absurd (show ¬ (1 : Int) = 0 from by decide) h)
      exfalso; omega
    · refine z_ci 94 [vr 137, vi b] [] rfl (m_isCrew0 (by omega) hx3) ?_
      refine z_br (¬ (0 : Int) = 0) 20 16 [] rfl (fun h => absurd h (show ¬ (¬ (0 : Int) = 0) from by decide)) (fun hx5 => ?_)
      refine z_n 1 (19, [(0, vr 137), (1, vi a), (2, vi b)], [vi (-1001)], (I, zPp π, D, 147)) rfl trivial ?_
      first | exact z_ret rfl (zv1 (by omega)) rfl | (exfalso; omega)
  · refine z_ci 94 [vr 137, vi a] [] rfl (m_isCrew0 (by omega) hx1) ?_
    refine z_br ((0 : Int) = 0) 16 8 [] rfl (fun hx6 => ?_) (fun h => absurd (show (0 : Int) = 0 from by decide) h)
    refine z_n 1 (19, [(0, vr 137), (1, vi a), (2, vi b)], [vi (-1001)], (I, zPp π, D, 147)) rfl trivial ?_
    first | exact z_ret rfl (zv1 (by omega)) rfl | (exfalso; omega)
set_option maxRecDepth 20000 in
theorem m_Rbumpn {I : zI} {π : Int → Nat} {D : zD} {X : zI} {a b res : Int}  (e : zEq (I 138) X) (ci : zCI X) (hq : (0 ≤ a ∧ a < X 0 5) ∧ (0 ≤ b ∧ b < X 0 5)) (hz : zReas (X 0) (X 4) (X 6) (X 7 2) (X 9) (X 11) a b res) (hr : 0 < res) : ∃ J, zMet 115 [vr 137, vi a, vi b] (I, zPp π, D, 147) (some (vi (-1002))) (J, zPp π, D, 147) ∧ zMk J I := by
  obtain ⟨⟨m0, m1, m2, m3, m4, m5, m6⟩, mc, ⟨mb, mk⟩, ⟨ml, mg⟩, mt⟩ := id e
  obtain ⟨⟨w, v, hsp, ⟨⟨hl0, hl1⟩, hlg, hps⟩, hpt, hp0⟩, hm, hd⟩ := id ci
  have hzb := zns_b w
  have hm4 := zdis_le w v hd hm
  have hl2 := zlb_b w
  obtain ⟨⟨w1, w2⟩, ⟨w3, w4⟩, ⟨w5, w6⟩, ⟨w7, w8⟩, ⟨w9, w10⟩, w11, ⟨⟨w12, w12b⟩, w12c⟩, ⟨w13, w14⟩, ⟨w15, w16⟩⟩ := id w
  obtain ⟨J, hJ, hln, hmk, e2⟩ := m_ln (π := π) (D := D) e ci
  obtain ⟨⟨j0, j1, j2, j3, j4, j5, j6⟩, jc, ⟨jb, jk⟩, ⟨jl, jg⟩, jt⟩ := id e2
  have hmk2 := hmk.2.2.2.2.1
  have hmk4 := hmk.2.2.2.2.2
  have hl10 := hln.1
  refine ⟨J, ?_, hmk⟩
  refine z_n 2 (2, [(0, vr 137), (1, vi a), (2, vi b)], [vi a, vr 137], (I, zPp π, D, 147)) rfl trivial ?_
  refine z_ci 94 [vr 137, vi a] [] rfl (m_isCrew1 (by omega) (by omega)) ?_
  refine z_br ((1 : Int) = 0) 16 8 [] rfl (fun h => absurd h (show ¬ ((1 : Int) = 0) from by decide)) (fun hx1 => ?_)
  refine z_n 2 (10, [(0, vr 137), (1, vi a), (2, vi b)], [vi b, vr 137], (I, zPp π, D, 147)) rfl trivial ?_
  refine z_ci 94 [vr 137, vi b] [] rfl (m_isCrew1 (by omega) (by omega)) ?_
  refine z_br (¬ (1 : Int) = 0) 20 16 [] rfl (fun hx2 => ?_) (fun h => absurd (show ¬ (1 : Int) = 0 from by decide) h)
  refine z_n 1 (21, [(0, vr 137), (1, vi a), (2, vi b)], [vr 137], (I, zPp π, D, 147)) rfl trivial ?_
  refine z_cv 100 [vr 137] [] rfl (hJ) ?_
  refine z_n 3 (27, [(0, vr 137), (1, vi a), (2, vi b)], [vi b, vi a, vr 137], (J, zPp π, D, 147)) rfl trivial ?_
  refine z_ci 103 [vr 137, vi a, vi b] [] rfl (m_refusal w v hln hz) ?_
  refine z_br (res ≤ 0) 37 33 [] rfl (fun h => absurd h (show ¬ (res ≤ 0) from by omega)) (fun hx3 => ?_)
  refine z_n 1 (36, [(0, vr 137), (1, vi a), (2, vi b)], [vi (-1002)], (J, zPp π, D, 147)) rfl trivial ?_
  first | exact z_ret rfl (zv1 (by omega)) rfl | (exfalso; omega)
set_option maxRecDepth 20000 in
theorem m_Rbumpedx {I : zI} {π : Int → Nat} {D : zD} {X : zI} {k a : Int} (e : zEq (I 138) X) (ci : zCI X) (hq : ¬ ((0 ≤ k ∧ k < X 7 2) ∧ (0 ≤ a ∧ a ≤ 2))) : zMet 117 [vr 137, vi k, vi a] (I, zPp π, D, 147) (some (vi (-1001))) (I, zPp π, D, 147) := by
  obtain ⟨⟨m0, m1, m2, m3, m4, m5, m6⟩, mc, ⟨mb, mk⟩, ⟨ml, mg⟩, mt⟩ := id e
  obtain ⟨⟨w, v, hsp, ⟨⟨hl0, hl1⟩, hlg, hps⟩, hpt, hp0⟩, hm, hd⟩ := id ci
  have hzb := zns_b w
  have hm4 := zdis_le w v hd hm
  have hl2 := zlb_b w
  obtain ⟨⟨w1, w2⟩, ⟨w3, w4⟩, ⟨w5, w6⟩, ⟨w7, w8⟩, ⟨w9, w10⟩, w11, ⟨⟨w12, w12b⟩, w12c⟩, ⟨w13, w14⟩, ⟨w15, w16⟩⟩ := id w
  refine z_n 8 (11, [(0, vr 137), (1, vi k), (2, vi a)], [vi ((I 138 55) - 1), vi 0, vi k], (I, zPp π, D, 147)) (G := (0 ≤ 55 ∧ 55 < 585) ∧ (zr ((I 138 55) - 1)) ∧ True) rfl ⟨by omega, by omega, trivial⟩ ?_
  by_cases hx1 : 0 ≤ k ∧ k < X 7 2
  · refine z_ci 93 [vi k, vi 0, vi ((I 138 55) - 1)] [] rfl (m_in1 (by omega) (by omega)) ?_
    refine z_br ((1 : Int) = 0) 26 17 [] rfl (fun h => absurd h (show ¬ ((1 : Int) = 0) from by decide)) (fun hx2 => ?_)
    refine z_n 3 (20, [(0, vr 137), (1, vi k), (2, vi a)], [vi 2, vi 0, vi a], (I, zPp π, D, 147)) rfl trivial ?_
    refine z_ci 93 [vi a, vi 0, vi 2] [] rfl (m_in0 (by omega)) ?_
    refine z_br (¬ (0 : Int) = 0) 30 26 [] rfl (fun h => absurd h (show ¬ (¬ (0 : Int) = 0) from by decide)) (fun hx3 => ?_)
    refine z_n 1 (29, [(0, vr 137), (1, vi k), (2, vi a)], [vi (-1001)], (I, zPp π, D, 147)) rfl trivial ?_
    first | exact z_ret rfl (zv1 (by omega)) rfl | (exfalso; omega)
  · refine z_ci 93 [vi k, vi 0, vi ((I 138 55) - 1)] [] rfl (m_in0 (by omega)) ?_
    refine z_br ((0 : Int) = 0) 26 17 [] rfl (fun hx4 => ?_) (fun h => absurd (show (0 : Int) = 0 from by decide) h)
    refine z_n 1 (29, [(0, vr 137), (1, vi k), (2, vi a)], [vi (-1001)], (I, zPp π, D, 147)) rfl trivial ?_
    first | exact z_ret rfl (zv1 (by omega)) rfl | (exfalso; omega)
set_option maxRecDepth 20000 in
theorem m_Rbumped0 {I : zI} {π : Int → Nat} {D : zD} {X : zI} {k : Int} (e : zEq (I 138) X) (ci : zCI X) (hq : 0 ≤ k ∧ k < X 7 2) : zMet 117 [vr 137, vi k, vi 0] (I, zPp π, D, 147) (some (vi (X 9 k))) (I, zPp π, D, 147) := by
  obtain ⟨⟨m0, m1, m2, m3, m4, m5, m6⟩, mc, ⟨mb, mk⟩, ⟨ml, mg⟩, mt⟩ := id e
  obtain ⟨⟨w, v, hsp, ⟨⟨hl0, hl1⟩, hlg, hps⟩, hpt, hp0⟩, hm, hd⟩ := id ci
  have hzb := zns_b w
  have hm4 := zdis_le w v hd hm
  have hl2 := zlb_b w
  obtain ⟨⟨w1, w2⟩, ⟨w3, w4⟩, ⟨w5, w6⟩, ⟨w7, w8⟩, ⟨w9, w10⟩, w11, ⟨⟨w12, w12b⟩, w12c⟩, ⟨w13, w14⟩, ⟨w15, w16⟩⟩ := id w
  have mk1 := (mk k hq.1 hq.2).1
  have mk2 := (mk k hq.1 hq.2).2
  have dk := hd k hq.1 hq.2
  have du := dk.1.1
  have dd := dk.2.1.1
  have mc1 := (mc _ du.1 du.2).2
  have mc2 := (mc _ dd.1 dd.2).2
  rw [← mk1] at mc1 du
  rw [← mk2] at mc2 dd
  have vu := v.1 _ du.1 du.2
  have vd := v.1 _ dd.1 dd.2
  refine z_n 8 (11, [(0, vr 137), (1, vi k), (2, vi 0)], [vi ((I 138 55) - 1), vi 0, vi k], (I, zPp π, D, 147)) (G := (0 ≤ 55 ∧ 55 < 585) ∧ (zr ((I 138 55) - 1)) ∧ True) rfl ⟨by omega, by omega, trivial⟩ ?_
  refine z_ci 93 [vi k, vi 0, vi ((I 138 55) - 1)] [] rfl (m_in1 (by omega) (by omega)) ?_
  refine z_br ((1 : Int) = 0) 26 17 [] rfl (fun h => absurd h (show ¬ ((1 : Int) = 0) from by decide)) (fun hx1 => ?_)
  refine z_n 3 (20, [(0, vr 137), (1, vi k), (2, vi 0)], [vi 2, vi 0, vi 0], (I, zPp π, D, 147)) rfl trivial ?_
  refine z_ci 93 [vi 0, vi 0, vi 2] [] rfl (m_in1 (by decide) (by decide)) ?_
  refine z_br (¬ (1 : Int) = 0) 30 26 [] rfl (fun hx2 => ?_) (fun h => absurd (show ¬ (1 : Int) = 0 from by decide) h)
  refine z_n 15 (52, [(4, vi (I 138 (68 + k))), (3, vi (I 138 (56 + k))), (0, vr 137), (1, vi k), (2, vi 0)], [vi 0], (I, zPp π, D, 147)) (G := (zr (56 + k)) ∧ (0 ≤ (56 + k) ∧ (56 + k) < 585) ∧ (zr (68 + k)) ∧ (0 ≤ (68 + k) ∧ (68 + k) < 585) ∧ True) rfl ⟨by omega, by omega, by omega, by omega, trivial⟩ ?_
  refine z_br (¬ (0 : Int) = 0) 59 55 [] rfl (fun h => absurd h (show ¬ (¬ (0 : Int) = 0) from by decide)) (fun hx3 => ?_)
  refine z_n 2 (91, [(4, vi (I 138 (68 + k))), (3, vi (I 138 (56 + k))), (0, vr 137), (1, vi k), (2, vi 0)], [vi (I 138 (56 + k))], (I, zPp π, D, 147)) rfl trivial ?_
  exact z_ret rfl (zv1 (by omega)) rfl
set_option maxRecDepth 20000 in
theorem m_Rbumped1 {I : zI} {π : Int → Nat} {D : zD} {X : zI} {k : Int} (e : zEq (I 138) X) (ci : zCI X) (hq : 0 ≤ k ∧ k < X 7 2) : zMet 117 [vr 137, vi k, vi 1] (I, zPp π, D, 147) (some (vi (X 11 k))) (I, zPp π, D, 147) := by
  obtain ⟨⟨m0, m1, m2, m3, m4, m5, m6⟩, mc, ⟨mb, mk⟩, ⟨ml, mg⟩, mt⟩ := id e
  obtain ⟨⟨w, v, hsp, ⟨⟨hl0, hl1⟩, hlg, hps⟩, hpt, hp0⟩, hm, hd⟩ := id ci
  have hzb := zns_b w
  have hm4 := zdis_le w v hd hm
  have hl2 := zlb_b w
  obtain ⟨⟨w1, w2⟩, ⟨w3, w4⟩, ⟨w5, w6⟩, ⟨w7, w8⟩, ⟨w9, w10⟩, w11, ⟨⟨w12, w12b⟩, w12c⟩, ⟨w13, w14⟩, ⟨w15, w16⟩⟩ := id w
  have mk1 := (mk k hq.1 hq.2).1
  have mk2 := (mk k hq.1 hq.2).2
  have dk := hd k hq.1 hq.2
  have du := dk.1.1
  have dd := dk.2.1.1
  have mc1 := (mc _ du.1 du.2).2
  have mc2 := (mc _ dd.1 dd.2).2
  rw [← mk1] at mc1 du
  rw [← mk2] at mc2 dd
  have vu := v.1 _ du.1 du.2
  have vd := v.1 _ dd.1 dd.2
  refine z_n 8 (11, [(0, vr 137), (1, vi k), (2, vi 1)], [vi ((I 138 55) - 1), vi 0, vi k], (I, zPp π, D, 147)) (G := (0 ≤ 55 ∧ 55 < 585) ∧ (zr ((I 138 55) - 1)) ∧ True) rfl ⟨by omega, by omega, trivial⟩ ?_
  refine z_ci 93 [vi k, vi 0, vi ((I 138 55) - 1)] [] rfl (m_in1 (by omega) (by omega)) ?_
  refine z_br ((1 : Int) = 0) 26 17 [] rfl (fun h => absurd h (show ¬ ((1 : Int) = 0) from by decide)) (fun hx1 => ?_)
  refine z_n 3 (20, [(0, vr 137), (1, vi k), (2, vi 1)], [vi 2, vi 0, vi 1], (I, zPp π, D, 147)) rfl trivial ?_
  refine z_ci 93 [vi 1, vi 0, vi 2] [] rfl (m_in1 (by decide) (by decide)) ?_
  refine z_br (¬ (1 : Int) = 0) 30 26 [] rfl (fun hx2 => ?_) (fun h => absurd (show ¬ (1 : Int) = 0 from by decide) h)
  refine z_n 15 (52, [(4, vi (I 138 (68 + k))), (3, vi (I 138 (56 + k))), (0, vr 137), (1, vi k), (2, vi 1)], [vi 1], (I, zPp π, D, 147)) (G := (zr (56 + k)) ∧ (0 ≤ (56 + k) ∧ (56 + k) < 585) ∧ (zr (68 + k)) ∧ (0 ≤ (68 + k) ∧ (68 + k) < 585) ∧ True) rfl ⟨by omega, by omega, by omega, by omega, trivial⟩ ?_
  refine z_br (¬ (1 : Int) = 0) 59 55 [] rfl (fun hx3 => ?_) (fun h => absurd (show ¬ (1 : Int) = 0 from by decide) h)
  refine z_n 2 (61, [(4, vi (I 138 (68 + k))), (3, vi (I 138 (56 + k))), (0, vr 137), (1, vi k), (2, vi 1)], [vi 1, vi 1], (I, zPp π, D, 147)) rfl trivial ?_
  refine z_br (¬ (1 : Int) = 1) 69 64 [] rfl (fun h => absurd h (show ¬ (¬ (1 : Int) = 1) from by decide)) (fun hx4 => ?_)
  refine z_n 2 (91, [(4, vi (I 138 (68 + k))), (3, vi (I 138 (56 + k))), (0, vr 137), (1, vi k), (2, vi 1)], [vi (I 138 (68 + k))], (I, zPp π, D, 147)) rfl trivial ?_
  exact z_ret rfl (zv1 (by omega)) rfl
set_option maxRecDepth 20000 in
theorem m_Rbumped2 {I : zI} {π : Int → Nat} {D : zD} {X : zI} {k : Int} (e : zEq (I 138) X) (ci : zCI X) (hq : 0 ≤ k ∧ k < X 7 2) : zMet 117 [vr 137, vi k, vi 2] (I, zPp π, D, 147) (some (vi (X 4 (X 9 k) - X 4 (X 11 k) - 1))) (I, zPp π, D, 147) := by
  obtain ⟨⟨m0, m1, m2, m3, m4, m5, m6⟩, mc, ⟨mb, mk⟩, ⟨ml, mg⟩, mt⟩ := id e
  obtain ⟨⟨w, v, hsp, ⟨⟨hl0, hl1⟩, hlg, hps⟩, hpt, hp0⟩, hm, hd⟩ := id ci
  have hzb := zns_b w
  have hm4 := zdis_le w v hd hm
  have hl2 := zlb_b w
  obtain ⟨⟨w1, w2⟩, ⟨w3, w4⟩, ⟨w5, w6⟩, ⟨w7, w8⟩, ⟨w9, w10⟩, w11, ⟨⟨w12, w12b⟩, w12c⟩, ⟨w13, w14⟩, ⟨w15, w16⟩⟩ := id w
  have mk1 := (mk k hq.1 hq.2).1
  have mk2 := (mk k hq.1 hq.2).2
  have dk := hd k hq.1 hq.2
  have du := dk.1.1
  have dd := dk.2.1.1
  have mc1 := (mc _ du.1 du.2).2
  have mc2 := (mc _ dd.1 dd.2).2
  rw [← mk1] at mc1 du
  rw [← mk2] at mc2 dd
  have vu := v.1 _ du.1 du.2
  have vd := v.1 _ dd.1 dd.2
  refine z_n 8 (11, [(0, vr 137), (1, vi k), (2, vi 2)], [vi ((I 138 55) - 1), vi 0, vi k], (I, zPp π, D, 147)) (G := (0 ≤ 55 ∧ 55 < 585) ∧ (zr ((I 138 55) - 1)) ∧ True) rfl ⟨by omega, by omega, trivial⟩ ?_
  refine z_ci 93 [vi k, vi 0, vi ((I 138 55) - 1)] [] rfl (m_in1 (by omega) (by omega)) ?_
  refine z_br ((1 : Int) = 0) 26 17 [] rfl (fun h => absurd h (show ¬ ((1 : Int) = 0) from by decide)) (fun hx1 => ?_)
  refine z_n 3 (20, [(0, vr 137), (1, vi k), (2, vi 2)], [vi 2, vi 0, vi 2], (I, zPp π, D, 147)) rfl trivial ?_
  refine z_ci 93 [vi 2, vi 0, vi 2] [] rfl (m_in1 (by decide) (by decide)) ?_
  refine z_br (¬ (1 : Int) = 0) 30 26 [] rfl (fun hx2 => ?_) (fun h => absurd (show ¬ (1 : Int) = 0 from by decide) h)
  refine z_n 15 (52, [(4, vi (I 138 (68 + k))), (3, vi (I 138 (56 + k))), (0, vr 137), (1, vi k), (2, vi 2)], [vi 2], (I, zPp π, D, 147)) (G := (zr (56 + k)) ∧ (0 ≤ (56 + k) ∧ (56 + k) < 585) ∧ (zr (68 + k)) ∧ (0 ≤ (68 + k) ∧ (68 + k) < 585) ∧ True) rfl ⟨by omega, by omega, by omega, by omega, trivial⟩ ?_
  refine z_br (¬ (2 : Int) = 0) 59 55 [] rfl (fun hx3 => ?_) (fun h => absurd (show ¬ (2 : Int) = 0 from by decide) h)
  refine z_n 2 (61, [(4, vi (I 138 (68 + k))), (3, vi (I 138 (56 + k))), (0, vr 137), (1, vi k), (2, vi 2)], [vi 1, vi 2], (I, zPp π, D, 147)) rfl trivial ?_
  refine z_br (¬ (2 : Int) = 1) 69 64 [] rfl (fun hx4 => ?_) (fun h => absurd (show ¬ (2 : Int) = 1 from by decide) h)
  refine z_n 15 (91, [(4, vi (I 138 (68 + k))), (3, vi (I 138 (56 + k))), (0, vr 137), (1, vi k), (2, vi 2)], [vi (((I 138 (31 + (I 138 (56 + k)))) - (I 138 (31 + (I 138 (68 + k))))) - 1)], (I, zPp π, D, 147)) (G := (zr (31 + (I 138 (56 + k)))) ∧ (0 ≤ (31 + (I 138 (56 + k))) ∧ (31 + (I 138 (56 + k))) < 585) ∧ (zr (31 + (I 138 (68 + k)))) ∧ (0 ≤ (31 + (I 138 (68 + k))) ∧ (31 + (I 138 (68 + k))) < 585) ∧ (zr ((I 138 (31 + (I 138 (56 + k)))) - (I 138 (31 + (I 138 (68 + k)))))) ∧ (zr (((I 138 (31 + (I 138 (56 + k)))) - (I 138 (31 + (I 138 (68 + k))))) - 1)) ∧ True) rfl ⟨by omega, by omega, by omega, by omega, by omega, by omega, trivial⟩ ?_
  exact z_ret rfl (zv1 (by rw [← mk1, ← mk2]; omega)) rfl
