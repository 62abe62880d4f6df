/-- the class has kept the state and changed the present chart alone -/
def zCf (I1 I : zI) (π : Int → Nat) : Prop := (∀ r, 25 ≤ r → r < 119 → I1 r = zKe I π r) ∧ I1 136 = I 136 ∧ I1 129 0 = I 129 0 ∧ ∀ r, 137 ≤ r → I1 r = I r
def zFr (I2 K : zI) : Prop := (∀ r, r < 137 → I2 r = K r) ∧ I2 139 = K 139 ∧ I2 140 = K 140 ∧ I2 137 2 = K 137 2 ∧ I2 137 4 = K 137 4
theorem zCf_o {I1 I : zI} {π : Int → Nat} (hπ : zPi π) (hk : 0 ≤ I 25 1 ∧ I 25 1 ≤ 4) (h : ∀ r, 25 ≤ r → I1 r = zKe I π r) : zCf I1 I π :=
  ⟨fun r r0 _ => h r r0, by rw [h 136 (by decide), zKe_gt hπ hk (by decide)], by rw [h 129 (by decide), zKe_gt hπ hk (by decide)], fun r hr => by rw [h r (by omega), zKe_gt hπ hk (by omega)]⟩
theorem zGo_w {yc ym : Nat} {As : List zV} {I0 I I1 J K I2 : zI} {π : Int → Nat} {D D1 E : zD} {res : Int} (s : zSim I π) (h1 : zMet yc (vr 1 :: As) (I0, zPp π, D, 147) (some (vi res)) (I1, zPp (zkr π (I 25 1)), D1, 147)) (hc : zCf I1 I π) (h2 : zMet ym (vr 137 :: As) (I1, zPp (zkr π (I 25 1)), D1, 147) (some (vi res)) (I2, zPp (zkr π (I 25 1)), E, 147)) (hJ : zMk J I1) (hR : zRcd K J) (hF : zFr I2 K) (e : zEq (I2 138) (zX I1 2)) (ci : zCI (zX I1 2)) : zGo yc ym As I0 π D := by
  have h137 : ∀ r, r < 137 → I2 r = I1 r := fun r hr => (hF.1 r hr).trans ((hR.1 r (by omega) (by omega)).trans (hJ.1 r hr))
  have j2 : J 137 2 = I 137 2 := by rw [hJ.2.2.2.2.1, hc.2.2.2 137 (by decide)]
  have j8 : J 138 = I 138 := by rw [hJ.2.1, hc.2.2.2 138 (by decide)]
  have j9 : J 139 = I 139 := by rw [hJ.2.2.1, hc.2.2.2 139 (by decide)]
  have g := zX_cg (J := I2) (I := I1) (b := 2) (fun r _ hr => h137 r (by omega))
  refine ⟨res, I1, zkr π (I 25 1), D1, I2, E, h1, h2, zSim_k s (fun r r0 r1 => ?_) ?_ ?_ ?_ ?_ ?_ ?_ (zSa_e g e) (zSa_I g ci)⟩
  · rw [h137 r (by omega)]; exact hc.1 r r0 r1
  · rw [h137 136 (by decide)]; exact hc.2.1
  · rw [h137 129 (by decide)]; exact hc.2.2.1
  · rw [hF.2.2.1, hR.1 140 (by decide) (by decide), hJ.2.2.2.1, hc.2.2.2 140 (by decide)]
  · rw [hF.2.2.2.2, hR.2.1 4 (by decide), hJ.2.2.2.2.2, hc.2.2.2 137 (by decide)]
  · rw [hF.2.2.2.1, hR.2.2.1, j2]
  · intro k j k0 k1 j0 j1
    have := hR.2.2.2 k j k0 (by rw [j2]; exact k1) j0 j1
    rw [hF.2.1, this, j2, j8, j9]
theorem zFr_u {K : zI} {k v : Int} : zFr (zup K 138 k v) K := ⟨fun r hr => zup_ne (by omega), zup_ne (by decide), zup_ne (by decide), rfl, rfl⟩
theorem zFr_t {A B C : zI} (h : zFr A B) (g : zFr B C) : zFr A C := ⟨fun r hr => (h.1 r hr).trans (g.1 r hr), h.2.1.trans g.2.1, h.2.2.1.trans g.2.2.1, h.2.2.2.1.trans g.2.2.2.1, h.2.2.2.2.trans g.2.2.2.2⟩
theorem zFr_8 {A B : zI} (h : ∀ r, r ≠ 138 → A r = B r) : zFr A B := ⟨fun r hr => h r (by omega), h 139 (by decide), h 140 (by decide), by rw [h 137 (by decide)], by rw [h 137 (by decide)]⟩
theorem zKe_X {I : zI} {π : Int → Nat} (hπ : zPi π) (hk : 0 ≤ I 25 1 ∧ I 25 1 ≤ 4) {k : Nat} (h : k < 23) : zX (zKe I π) 2 k = zX I 2 k := zKe_lt hπ hk (by omega)
theorem zKe_S {I : zI} {π : Int → Nat} (hπ : zPi π) (hk : 0 ≤ I 25 1 ∧ I 25 1 ≤ 4) : zSa (zX I 2) (zX (zKe I π) 2) := zX_cg (fun r r0 r1 => zKe_lt hπ hk (by omega))
theorem zEq_g {m : Int → Int} {X : zI} {x : Int} (e : zEq m X) (hl : X 12 4 ≤ 112) (hm : X 7 2 ≤ 4) : zEq (zu1 m 5 x) (zup X 0 10 x) := by
  obtain ⟨⟨m0, m1, m2, m3, m4, m5, m6⟩, mc, ⟨mb, mk⟩, ⟨ml, mg⟩, mt⟩ := e
  have z : ∀ j, j ≠ 5 → zu1 m 5 x j = m j := fun j h => if_neg h
  refine ⟨⟨(z 0 (by omega)).trans m0, (z 1 (by omega)).trans m1, (z 2 (by omega)).trans m2, (z 3 (by omega)).trans m3, (z 4 (by omega)).trans m4, if_pos rfl, (z 6 (by omega)).trans m6⟩, fun c c0 c1 => ?_, ⟨(z 55 (by omega)).trans mb, fun k k0 k1 => ?_⟩, ⟨(z 80 (by omega)).trans ml, fun k k0 k1 => ?_⟩, fun t c t0 t1 c0 c1 => ?_⟩
  · rw [z _ (by omega), z _ (by omega)]; exact mc c c0 c1
  · rw [z _ (by omega), z _ (by omega)]; exact mk k k0 k1
  · rw [z _ (by omega), z _ (by omega), z _ (by omega)]; exact mg k k0 k1
  · rw [z _ (by omega)]; exact mt t c t0 t1 c0 c1
theorem zEq_h {m : Int → Int} {X : zI} {x : Int} (e : zEq m X) (hl : X 12 4 ≤ 112) (hm : X 7 2 ≤ 4) : zEq (zu1 m 6 x) (zup X 0 11 x) := by
  obtain ⟨⟨m0, m1, m2, m3, m4, m5, m6⟩, mc, ⟨mb, mk⟩, ⟨ml, mg⟩, mt⟩ := e
  have z : ∀ j, j ≠ 6 → zu1 m 6 x j = m j := fun j h => if_neg h
  refine ⟨⟨(z 0 (by omega)).trans m0, (z 1 (by omega)).trans m1, (z 2 (by omega)).trans m2, (z 3 (by omega)).trans m3, (z 4 (by omega)).trans m4, (z 5 (by omega)).trans m5, if_pos rfl⟩, fun c c0 c1 => ?_, ⟨(z 55 (by omega)).trans mb, fun k k0 k1 => ?_⟩, ⟨(z 80 (by omega)).trans ml, fun k k0 k1 => ?_⟩, fun t c t0 t1 c0 c1 => ?_⟩
  · rw [z _ (by omega), z _ (by omega)]; exact mc c c0 c1
  · rw [z _ (by omega), z _ (by omega)]; exact mk k k0 k1
  · rw [z _ (by omega), z _ (by omega), z _ (by omega)]; exact mg k k0 k1
  · rw [z _ (by omega)]; exact mt t c t0 t1 c0 c1
theorem zCI_g {X : zI} {x : Int} (ci : zCI X) (hx : 100 ≤ x ∧ x ≤ 5000) : zCI (zup X 0 10 x) := by
  obtain ⟨⟨⟨w1, w2, w3, w4, w5, w6, w7, w8, w9⟩, v, hsp, hlg, hpa⟩, hm, hd⟩ := ci
  exact ⟨⟨⟨w1, w2, w3, w4, w5, w6, w7, hx, w9⟩, v, hsp, hlg, hpa⟩, hm, hd⟩
theorem zCI_h {X : zI} {x : Int} (ci : zCI X) (hx : 1 ≤ x ∧ x ≤ 1000) : zCI (zup X 0 11 x) := by
  obtain ⟨⟨⟨w1, w2, w3, w4, w5, w6, w7, w8, w9⟩, v, hsp, hlg, hpa⟩, hm, hd⟩ := ci
  exact ⟨⟨⟨w1, w2, w3, w4, w5, w6, w7, w8, hx⟩, v, hsp, hlg, hpa⟩, hm, hd⟩
/-- the end of a race in the class, seen from the chart -/
theorem zER_XA {K : zI} (h : 0 < K 2 9) : zX (zup (zup (zERw K (K 9 2).toNat) 9 2 0) 2 9 (K 2 9 - 1)) 2 = zFnX (zERX (zX K 2) (K 9 2).toNat) := by
  have e0 : zERX (zX K 2) (K 9 2).toNat 0 = K 2 := zERX_o (by decide) _
  unfold zFnX
  rw [e0, if_pos h, zX_up (b := 2) (k := 0), zX_up (b := 2) (k := 7), zERw_eq, zERX_X]
theorem zER_XB {K : zI} {x : Int} (h : ¬ 0 < K 2 9) (hx : x = if K 2 8 + 1 < K 2 7 then (K 2 5 + K 2 6 - 1) / K 2 6 - 1 else -1) : zX (zup (zNote (zup (zup (zERw K (K 9 2).toNat) 9 2 0) 2 8 (K 2 8 + 1)) (K 2 5)) 2 9 x) 2 = zFnX (zERX (zX K 2) (K 9 2).toNat) := by
  have e0 : zERX (zX K 2) (K 9 2).toNat 0 = K 2 := zERX_o (by decide) _
  unfold zFnX
  rw [e0, if_neg h, ← hx, zX_up (b := 2) (k := 0)]
  congr 1
  rw [← zERX_X, zERw_eq]
  generalize zER K (K 9 2).toNat = E
  funext r j
  show (if 2 + r = 24 ∧ (K 2 8 + 1) * 24 ≤ j ∧ j < (K 2 8 + 1) * 24 + K 2 5 then (zup (zup E 9 2 0) 2 8 (K 2 8 + 1)) 6 (j - (K 2 8 + 1) * 24) else (zup (zup E 9 2 0) 2 8 (K 2 8 + 1)) (2 + r) j) = _
  unfold zup zX
  by_cases h1 : r = 22 ∧ (K 2 8 + 1) * 24 ≤ j ∧ j < (K 2 8 + 1) * 24 + K 2 5
  · obtain ⟨h1, h2⟩ := h1
    subst h1
    simp [h2]
  · rw [if_neg (fun h9 => h1 ⟨by omega, h9.2⟩)]
    by_cases h2 : r = 0 ∧ j = 8
    · obtain ⟨h2, h3⟩ := h2
      subst h2; subst h3
      simp
    · by_cases h3 : r = 7 ∧ j = 2
      · obtain ⟨h3, h4⟩ := h3
        subst h3; subst h4
        simp
      · have a1 : ¬ (2 + r = 2 ∧ j = 8) := fun h9 => h2 ⟨by omega, h9.2⟩
        have a2 : ¬ (2 + r = 9 ∧ j = 2) := fun h9 => h3 ⟨by omega, h9.2⟩
        simp only [if_neg a1, if_neg a2, if_neg h2, if_neg h3, if_neg h1]
theorem zER_r {K : zI} {r : Nat} (h : 25 ≤ r) (n : Nat) : zERw K n r = K r := by
  rw [zERw_eq]; exact zER_out (by omega) n
theorem zNote_r {K : zI} {n : Int} {r : Nat} (h : 25 ≤ r) : zNote K n r = K r := zNote_ne (by omega)
/-- what endRace needs -/
theorem zEnd_hyp {K : zI} (ci : zCI (zX K 2)) (hr : ¬ K 2 9 = -1) : (0 ≤ K 9 2 ∧ K 9 2 ≤ 4) ∧ (2 ≤ K 2 5 ∧ K 2 5 ≤ 24) ∧ (3 ≤ K 2 6 ∧ K 2 6 ≤ 8) ∧ (0 ≤ K 2 8 ∧ K 2 8 ≤ 5) ∧ (0 ≤ K 2 9 ∧ K 2 9 ≤ 7) ∧ (∀ c, 0 ≤ c → c < 24 → 0 ≤ K 6 c ∧ K 6 c < 24) ∧ (∀ k, 0 ≤ k → k < K 9 2 → (0 ≤ K 11 k ∧ K 11 k < 24) ∧ (0 ≤ K 13 k ∧ K 13 k < 24)) ∧ (0 ≤ K 14 4 ∧ K 14 4 + K 9 2 ≤ 96) := by
  have w : zW1 (K 2) := ci.1.1
  have v : zW2 (K 2) (K 6) (K 8) := ci.1.2.1
  have hm : 0 ≤ K 9 2 := ci.2.1
  have hd : zDis (K 2) (K 6) (K 9 2) (K 11) (K 13) := ci.2.2
  have hdl := zdis_le w v hd hm
  have hlb := (zlb_b w).2 hr
  have hl0 : 0 ≤ K 14 4 ∧ K 14 4 ≤ zlb (K 2) := ci.1.2.2.2.1.1
  have hz : zns (K 2) ≤ K 2 6 + 1 := by unfold zns; have := w.2.1; omega
  have w5 := w.2.2.2.2.1
  have w1 := w.1
  have w2 := w.2.1
  have w4 := w.2.2.2.1
  refine ⟨⟨hm, hdl.2⟩, w1, w2, by omega, by omega, v.2.2, fun k k0 k1 => ?_, by omega⟩
  have dk := hd k k0 k1
  have a := dk.1.1
  have b := dk.2.1.1
  omega
theorem m_cend {K : zI} {π : Int → Nat} {D : zD} (ci : zCI (zX K 2)) (hr : ¬ K 2 9 = -1) : ∃ K2, zMet 21 [vr 2] (K, zPp π, D, 147) (some (vi (K 9 2))) (K2, zPp π, D, 147) ∧ (∀ r, 25 ≤ r → K2 r = K r) ∧ zX K2 2 = zFnX (zERX (zX K 2) (K 9 2).toNat) := by
  obtain ⟨h1, h2, h3, h4, h5, h6, h7, h8⟩ := zEnd_hyp ci hr
  by_cases hR : 0 < K 2 9
  · refine ⟨_, m_endRaceA h1 h2 h3 h4 h5 h6 h7 h8 hR, fun r hr => ?_, zER_XA hR⟩
    rw [zup_ne (by omega), zup_ne (by omega), zER_r hr]
  · by_cases hT : K 2 8 + 1 < K 2 7
    · refine ⟨_, m_endRaceB h1 h2 h3 h4 h5 h6 h7 h8 (by omega) hT, fun r hr => ?_, zER_XB hR (by rw [if_pos hT])⟩
      rw [zup_ne (by omega), zNote_r hr, zup_ne (by omega), zup_ne (by omega), zER_r hr]
    · refine ⟨_, m_endRaceC h1 h2 h3 h4 h5 h6 h7 h8 (by omega) (by omega), fun r hr => ?_, zER_XB hR (by rw [if_neg hT])⟩
      rw [zup_ne (by omega), zNote_r hr, zup_ne (by omega), zup_ne (by omega), zER_r hr]
theorem m_cfin {I : zI} {π : Int → Nat} {D : zD} (ci : zCI (zX I 2)) (hr : ¬ I 2 9 = -1) (hπ : zPi π) (hk : 0 ≤ I 25 1 ∧ I 25 1 ≤ 4) : ∃ K2, zMet 78 [vr 1] (I, zPp π, D, 147) (some (vi (I 9 2))) (K2, zPp (zkr π (I 25 1)), D, 147) ∧ (∀ r, 25 ≤ r → K2 r = zKe I π r) ∧ zX K2 2 = zFnX (zERX (zX (zKe I π) 2) (I 9 2).toNat) := by
  obtain ⟨h1, h2, h3, h4, h5, h6, h7, h8⟩ := zEnd_hyp ci hr
  have e9 : zKe I π 9 = I 9 := zKe_lt hπ hk (by decide)
  have e2 : zKe I π 2 = I 2 := zKe_lt hπ hk (by decide)
  by_cases hR : 0 < I 2 9
  · refine ⟨_, m_finishA h1 h2 h3 h4 h5 h6 h7 h8 hR hπ hk rfl, fun r hr => ?_, ?_⟩
    · rw [zup_ne (by omega), zup_ne (by omega), zER_r hr]
    · rw [zER_XA (by rw [e2]; exact hR), e9]
  · by_cases hT : I 2 8 + 1 < I 2 7
    · refine ⟨_, m_finishB h1 h2 h3 h4 h5 h6 h7 h8 (by omega) hT hπ hk rfl, fun r hr => ?_, ?_⟩
      · rw [zup_ne (by omega), zNote_r hr, zup_ne (by omega), zup_ne (by omega), zER_r hr]
      · rw [zER_XB (by rw [e2]; exact hR) (by rw [e2, if_pos hT]), e9]
    · refine ⟨_, m_finishC h1 h2 h3 h4 h5 h6 h7 h8 (by omega) (by omega) hπ hk rfl, fun r hr => ?_, ?_⟩
      · rw [zup_ne (by omega), zNote_r hr, zup_ne (by omega), zup_ne (by omega), zER_r hr]
      · rw [zER_XB (by rw [e2]; exact hR) (by rw [e2, if_neg hT]), e9]
