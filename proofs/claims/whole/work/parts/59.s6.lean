theorem zcpR_ne {I : zI} {a b r : Nat} (h : r ≠ a) : zcpR I a b r = I r := by
  funext j
  exact if_neg h
theorem zcpR_at {I : zI} {a b : Nat} : zcpR I a b a = I b := by
  funext j
  exact if_pos rfl
theorem zEn_X {J : zI} : zX (zup (zcpR (zcpR J 11 132) 13 134) 9 2 (J 130 2)) 2 = zRcX (zX J 2) (J 130 2) (J 132) (J 134) := by
  rw [zX_up (b := 2) (k := 7)]
  funext r j
  unfold zup zRcX
  by_cases h1 : r = 7 ∧ j = 2
  · rw [if_pos h1, if_pos h1]
  · rw [if_neg h1, if_neg h1]
    show (if 2 + r = 13 then (zcpR J 11 132) 134 j else if 2 + r = 11 then J 132 j else J (2 + r) j) = _
    by_cases h2 : r = 9
    · subst h2; rfl
    · rw [if_neg h2]
      by_cases h3 : r = 11
      · subst h3; rfl
      · rw [if_neg h3, if_neg (by omega), if_neg (by omega)]; rfl
theorem op_enter {I : zI} {π : Int → Nat} {D : zD} (s : zSim I π)  : zGo 91 138 [] I π D := by
  have e := s.1.1
  have ci := s.1.2
  have w : zW1 (I 2) := ci.1.1
  have v : zW2 (I 2) (I 6) (I 8) := ci.1.2.1
  have hsp1 : ∀ c, 0 ≤ c → c < I 2 5 → 1 ≤ I 4 c ∧ I 4 c ≤ 1000 := ci.1.2.2.1
  have hsp : ∀ c, 0 ≤ c → c < I 2 5 → 0 ≤ I 4 c ∧ I 4 c ≤ 1000 := fun c c0 c1 => by have := hsp1 c c0 c1; omega
  have hd : zDis (I 2) (I 6) (I 9 2) (I 11) (I 13) := ci.2.2
  have hm : 0 ≤ I 9 2 := ci.2.1
  have hdl := zdis_le w v hd hm
  have hM : 0 ≤ I 9 2 ∧ I 9 2 ≤ 4 := ⟨hm, hdl.2⟩
  have hlb := zlb_b w
  have hl0 : 0 ≤ I 14 4 ∧ I 14 4 ≤ zlb (I 2) := ci.1.2.2.2.1.1
  have hl : 0 ≤ I 14 4 ∧ I 14 4 ≤ 96 := by omega
  have hN := w.1
  have hO := w.2.2.2.1
  have hT := w.2.2.1
  have hk := s.2.1.1
  have hk2 := s.2.1.2
  have hπ := s.2.2.1
  have htx := s.2.2.2.2.2
  have hkm : 0 ≤ I 137 2 ∧ I 137 2 ≤ 4 := by omega
  have eJ := zSa_e (zKe_S hπ hk) e
  have ciJ := zSa_I (zKe_S hπ hk) ci
  have j4 : zKe I π 4 = I 4 := zKe_lt hπ hk (by decide)
  have j2 : zKe I π 2 = I 2 := zKe_lt hπ hk (by decide)
  have j9 : zKe I π 9 = I 9 := zKe_lt hπ hk (by decide)
  have j137 : zKe I π 137 = I 137 := zKe_gt hπ hk (by decide)
  have j138 : zKe I π 138 = I 138 := zKe_gt hπ hk (by decide)
  obtain ⟨q, a2, b2, e2, J, hck, eJ9, hn, hy⟩ := m_enter (π := π) (D := D) w v htx.1 htx.2.2.1 hm hd hπ hk
  have kp := zTS_Kp (I := I) (m := q.2.2.1) (u := q.2.2.2.1) (d := q.2.2.2.2.1) (re := q.1) (c := q.2.2.2.2.2) (a := a2) (b := b2) (e := e2) (f := q.2.1)
  have hG := zsg_G (I := I) (J := I) htx.1 htx.2.2.1 htx.2.2.2
  by_cases hz : q.1 = 0
  case neg =>
    obtain ⟨J2, h, hmk⟩ := m_Renter0 (I := (zup (zTS I q.2.2.1 q.2.2.2.1 q.2.2.2.2.1 q.1 q.2.2.2.2.2 a2 b2 e2) 129 2 q.2.1)) (π := π) (D := D) (X := zX I 2) (by rw [kp.2.2.2.1]; exact e) ci hck (kp.2.2.2.2.2.2.2.trans htx.2.1) htx.1 (by rw [kp.2.2.2.2.2.1]; exact hG) hz
    exact zGo_k s (hn hz) kp h hmk
  have h1 := hy hz
  have s2 : zSim (zup (zTS I q.2.2.1 q.2.2.2.1 q.2.2.2.2.1 q.1 q.2.2.2.2.2 a2 b2 e2) 129 2 q.2.1) π := zKp_S kp s
  have hk2_ : 0 ≤ (zup (zTS I q.2.2.1 q.2.2.2.1 q.2.2.2.2.1 q.1 q.2.2.2.2.2 a2 b2 e2) 129 2 q.2.1) 25 1 ∧ (zup (zTS I q.2.2.1 q.2.2.2.1 q.2.2.2.2.1 q.1 q.2.2.2.2.2 a2 b2 e2) 129 2 q.2.1) 25 1 ≤ 4 := hk
  have jr : ∀ r, (r < 25 ∨ 119 ≤ r) → J r = (zup (zTS I q.2.2.1 q.2.2.2.1 q.2.2.2.2.1 q.1 q.2.2.2.2.2 a2 b2 e2) 129 2 q.2.1) r := fun r hr => by rw [eJ9]; rcases hr with hr | hr; exact zKe_lt hπ hk2_ hr; exact zKe_gt hπ hk2_ hr
  have n8 : (zup (zcpR (zcpR J 11 132) 13 134) 9 2 (J 130 2)) 138 = I 138 := by rw [zup_ne (by decide), zcpR_ne (by decide), zcpR_ne (by decide), jr 138 (by decide), kp.2.2.2.1]
  have n7 : (zup (zcpR (zcpR J 11 132) 13 134) 9 2 (J 130 2)) 137 = I 137 := by rw [zup_ne (by decide), zcpR_ne (by decide), zcpR_ne (by decide), jr 137 (by decide)]; rfl
  have n0 : (zup (zcpR (zcpR J 11 132) 13 134) 9 2 (J 130 2)) 140 = I 140 := by rw [zup_ne (by decide), zcpR_ne (by decide), zcpR_ne (by decide), jr 140 (by decide), kp.2.2.2.2.2.1]
  obtain ⟨J1, J2, K, h, hm1, hR, hKf, hKe, hKm, hKd⟩ := m_Renter1 (I := (zup (zcpR (zcpR J 11 132) 13 134) 9 2 (J 130 2))) (π := zkr π (I 25 1)) (D := D) (X := zX I 2) (by rw [n8]; exact e) ci (by rw [n7]; exact hkm) hck (by rw [n7]; exact htx.2.1) htx.1 (by rw [n0]; exact hG) hz
  have g : zSa (zX I 2) (zX J 2) := zX_cg (fun r r0 r1 => by rw [jr r (Or.inl (by omega)), kp.1 r (by omega)])
  have j130 : J 130 2 = q.2.2.1 := by rw [jr 130 (by decide)]; rfl
  have j132 : J 132 = q.2.2.2.1 := by rw [jr 132 (by decide)]; rfl
  have j134 : J 134 = q.2.2.2.2.1 := by rw [jr 134 (by decide)]; rfl
  refine zGo_w (I := (zup (zTS I q.2.2.1 q.2.2.2.1 q.2.2.2.2.1 q.1 q.2.2.2.2.2 a2 b2 e2) 129 2 q.2.1)) s2 h1 (zCf_o hπ hk2_ (fun r hr => by rw [zup_ne (by omega), zcpR_ne (by omega), zcpR_ne (by omega), eJ9])) h hm1 hR hKf ?_ ?_
  · rw [zEn_X, j130, j132, j134]
    exact zSa_e (zRcX_Sa g) hKe
  · rw [zEn_X, j130, j132, j134]
    exact zSa_I (zRcX_Sa g) (zCI_rc ci hKm hKd)
theorem zGo_un {I : zI} {π : Int → Nat} {D : zD} {d : Nat} (s : zSim I π) (hK : 0 < I 25 1 ∧ I 25 1 ≤ 4) (hd : π (I 25 1 - 1) = d) (h1 : zMet 79 [vr 1] (I, zPp π, D, 147) (some (vi (I 25 1 - 1))) (zup (zcpC I 2 d) 25 1 (I 25 1 - 1), zPp π, D, 147)) : zGo 79 121 [] I π D := by
  obtain ⟨⟨a1, a2⟩, ⟨b1, b2⟩, c, di, hh, f⟩ := s
  have ro : ∀ r, 25 < r → zup (zcpC I 2 d) 25 1 (I 25 1 - 1) r = I r := fun r hr => by rw [zup_ne (by omega), zcpC_out (by omega)]
  have h2 := m_Rundo1 (I := zup (zcpC I 2 d) 25 1 (I 25 1 - 1)) (π := π) (D := D) (by rw [ro 137 (by decide)]; omega)
  rw [ro 137 (by decide), b2] at h2
  refine ⟨_, _, π, D, _, D, h1, h2, ?_⟩
  have hb := zPi_b c (k := I 25 1 - 1) (by omega) (by omega)
  rw [hd] at hb
  have last := hh (I 25 1 - 1) (by omega) (by omega)
  rw [hd] at last
  obtain ⟨I2, e2⟩ : ∃ I2, I2 = zUn (zup (zup (zcpC I 2 d) 25 1 (I 25 1 - 1)) 137 2 (I 25 1 - 1)) (I 25 1 - 1) 585 := ⟨_, rfl⟩
  rw [← e2]
  have un : ∀ r, r ≠ 138 → I2 r = zup (zup (zcpC I 2 d) 25 1 (I 25 1 - 1)) 137 2 (I 25 1 - 1) r := fun r hr => by
    rw [e2]
    funext j
    unfold zUn
    rw [if_neg (fun h => hr h.1)]
  have r2 : ∀ r, 25 < r → r ≠ 137 → r ≠ 138 → I2 r = I r := fun r h9 h8 h7 => by rw [un r h7, zup_ne h8, ro r h9]
  have g : zSa (zX I d) (zX I2 2) := zSa_t zcpC_Sa (zX_cg (b := 2) (fun r r0 r1 => by rw [un r (by omega), zup_ne (by omega), zup_ne (by omega)]))
  have e25 : I2 25 1 = I 25 1 - 1 := by rw [un 25 (by decide)]; rfl
  refine ⟨⟨?_, zSa_I g last.2⟩, ⟨by rw [e25]; omega, ?_⟩, c, di, fun k k0 k1 => ?_, ?_⟩
  · refine zSa_e g (zEq_cg last.2 (fun j j0 j1 => ?_) last.1)
    rw [e2]
    unfold zUn
    rw [if_pos ⟨rfl, j0, j1⟩, zup_ne (by decide), ro 139 (by decide)]
  · rw [e25, un 137 (by decide)]; rfl
  · rw [e25] at k1
    have hk := zPi_b c k0 (by omega)
    have := hh k k0 (by omega)
    have gk := zX_cg (J := I2) (I := I) (b := π k) (fun r r0 r1 => r2 r (by omega) (by omega) (by omega))
    rw [r2 139 (by decide) (by decide) (by decide)]
    exact ⟨zSa_e gk this.1, zSa_I gk this.2⟩
  · rw [r2 129 (by decide) (by decide) (by decide), r2 136 (by decide) (by decide) (by decide), r2 140 (by decide) (by decide) (by decide), un 137 (by decide)]
    refine ⟨f.1, ?_, f.2.2⟩
    show zcpC I 2 d 137 4 = _
    rw [zcpC_out (by omega)]
    exact f.2.1
theorem op_undo {I : zI} {π : Int → Nat} {D : zD} (s : zSim I π)  : zGo 79 121 [] I π D := by
  have e := s.1.1
  have ci := s.1.2
  have w : zW1 (I 2) := ci.1.1
  have v : zW2 (I 2) (I 6) (I 8) := ci.1.2.1
  have hsp1 : ∀ c, 0 ≤ c → c < I 2 5 → 1 ≤ I 4 c ∧ I 4 c ≤ 1000 := ci.1.2.2.1
  have hsp : ∀ c, 0 ≤ c → c < I 2 5 → 0 ≤ I 4 c ∧ I 4 c ≤ 1000 := fun c c0 c1 => by have := hsp1 c c0 c1; omega
  have hd : zDis (I 2) (I 6) (I 9 2) (I 11) (I 13) := ci.2.2
  have hm : 0 ≤ I 9 2 := ci.2.1
  have hdl := zdis_le w v hd hm
  have hM : 0 ≤ I 9 2 ∧ I 9 2 ≤ 4 := ⟨hm, hdl.2⟩
  have hlb := zlb_b w
  have hl0 : 0 ≤ I 14 4 ∧ I 14 4 ≤ zlb (I 2) := ci.1.2.2.2.1.1
  have hl : 0 ≤ I 14 4 ∧ I 14 4 ≤ 96 := by omega
  have hN := w.1
  have hO := w.2.2.2.1
  have hT := w.2.2.1
  have hk := s.2.1.1
  have hk2 := s.2.1.2
  have hπ := s.2.2.1
  have htx := s.2.2.2.2.2
  have hkm : 0 ≤ I 137 2 ∧ I 137 2 ≤ 4 := by omega
  have eJ := zSa_e (zKe_S hπ hk) e
  have ciJ := zSa_I (zKe_S hπ hk) ci
  have j4 : zKe I π 4 = I 4 := zKe_lt hπ hk (by decide)
  have j2 : zKe I π 2 = I 2 := zKe_lt hπ hk (by decide)
  have j9 : zKe I π 9 = I 9 := zKe_lt hπ hk (by decide)
  have j137 : zKe I π 137 = I 137 := zKe_gt hπ hk (by decide)
  have j138 : zKe I π 138 = I 138 := zKe_gt hπ hk (by decide)
  by_cases hq : I 25 1 = 0
  · exact zGo_s s (m_undo0 hq) (m_Rundo0 (hk2.trans hq))
  have hK : 0 < I 25 1 ∧ I 25 1 ≤ 4 := by omega
  rcases hπ (I 25 1 - 1) (by omega) (by omega) with h9 | h9 | h9 | h9
  · exact zGo_un s hK h9 (m_undo27 hK h9)
  · exact zGo_un s hK h9 (m_undo50 hK h9)
  · exact zGo_un s hK h9 (m_undo73 hK h9)
  · exact zGo_un s hK h9 (m_undo96 hK h9)
theorem zSim_t {I J : zI} {π : Int → Nat} (s : zSim I π) (h : ∀ r, r ≠ 129 → r ≠ 136 → r ≠ 137 → r ≠ 140 → J r = I r) (h2 : J 137 2 = I 137 2) (ht : (0 ≤ J 129 0 ∧ J 129 0 ≤ 80) ∧ J 137 4 = J 129 0 ∧ (∀ p, 0 ≤ p → p < 80 → 0 ≤ J 136 p ∧ J 136 p ≤ 126) ∧ ∀ p, 0 ≤ p → p < J 129 0 → J 140 p = J 136 p) : zSim J π := by
  obtain ⟨⟨a1, a2⟩, ⟨b1, b2⟩, c, d, e, f⟩ := s
  have g := zX_cg (J := J) (I := I) (b := 2) (fun r _ hr => h r (by omega) (by omega) (by omega) (by omega))
  have h25 := h 25 (by decide) (by decide) (by decide) (by decide)
  refine ⟨⟨?_, zSa_I g a2⟩, ⟨by rw [h25]; exact b1, by rw [h25, h2]; exact b2⟩, c, d, fun k k0 k1 => ?_, ht⟩
  · rw [h 138 (by decide) (by decide) (by decide) (by decide)]; exact zSa_e g a1
  · rw [h25] at k1
    have hb := zPi_b c k0 (by omega)
    have g2 := zX_cg (J := J) (I := I) (b := π k) (fun r _ hr => h r (by omega) (by omega) (by omega) (by omega))
    have := e k k0 k1
    rw [h 139 (by decide) (by decide) (by decide) (by decide)]
    exact ⟨zSa_e g2 this.1, zSa_I g2 this.2⟩
theorem op_type {I : zI} {π : Int → Nat} {D : zD} (s : zSim I π) (c : Int) : zGo 88 132 [vi c] I π D := by
  have e := s.1.1
  have ci := s.1.2
  have w : zW1 (I 2) := ci.1.1
  have v : zW2 (I 2) (I 6) (I 8) := ci.1.2.1
  have hsp1 : ∀ c, 0 ≤ c → c < I 2 5 → 1 ≤ I 4 c ∧ I 4 c ≤ 1000 := ci.1.2.2.1
  have hsp : ∀ c, 0 ≤ c → c < I 2 5 → 0 ≤ I 4 c ∧ I 4 c ≤ 1000 := fun c c0 c1 => by have := hsp1 c c0 c1; omega
  have hd : zDis (I 2) (I 6) (I 9 2) (I 11) (I 13) := ci.2.2
  have hm : 0 ≤ I 9 2 := ci.2.1
  have hdl := zdis_le w v hd hm
  have hM : 0 ≤ I 9 2 ∧ I 9 2 ≤ 4 := ⟨hm, hdl.2⟩
  have hlb := zlb_b w
  have hl0 : 0 ≤ I 14 4 ∧ I 14 4 ≤ zlb (I 2) := ci.1.2.2.2.1.1
  have hl : 0 ≤ I 14 4 ∧ I 14 4 ≤ 96 := by omega
  have hN := w.1
  have hO := w.2.2.2.1
  have hT := w.2.2.1
  have hk := s.2.1.1
  have hk2 := s.2.1.2
  have hπ := s.2.2.1
  have htx := s.2.2.2.2.2
  have hkm : 0 ≤ I 137 2 ∧ I 137 2 ≤ 4 := by omega
  have eJ := zSa_e (zKe_S hπ hk) e
  have ciJ := zSa_I (zKe_S hπ hk) ci
  have j4 : zKe I π 4 = I 4 := zKe_lt hπ hk (by decide)
  have j2 : zKe I π 2 = I 2 := zKe_lt hπ hk (by decide)
  have j9 : zKe I π 9 = I 9 := zKe_lt hπ hk (by decide)
  have j137 : zKe I π 137 = I 137 := zKe_gt hπ hk (by decide)
  have j138 : zKe I π 138 = I 138 := zKe_gt hπ hk (by decide)
  by_cases hq : 32 ≤ c ∧ c ≤ 126
  case neg => exact zGo_s s (m_typex hq) (m_Rtypex hq)
  by_cases hl8 : I 129 0 < 80
  case neg => exact zGo_s s (m_typef hq (by omega)) (m_Rtypef hq (by rw [htx.2.1]; have := htx.1; omega))
  have h1 := m_type1 (π := π) (D := D) hq ⟨htx.1.1, hl8⟩
  have h2 := m_Rtype1 (I := (zup (zup I 136 (I 129 0) c) 129 0 (I 129 0 + 1))) (π := π) (D := D) hq (by show 0 ≤ I 137 4 ∧ I 137 4 < 80; rw [htx.2.1]; exact ⟨htx.1.1, hl8⟩)
  have e4 : (zup (zup I 136 (I 129 0) c) 129 0 (I 129 0 + 1)) 137 4 = I 129 0 := htx.2.1
  rw [e4] at h2
  refine ⟨_, _, π, D, _, D, h1, h2, zSim_t s (fun r a1 a2 a3 a4 => ?_) rfl ⟨?_, rfl, fun p p0 p1 => ?_, fun p p0 p1 => ?_⟩⟩
  · rw [zup_ne a3, zup_ne a4, zup_ne a1, zup_ne a2]
  · show 0 ≤ I 129 0 + 1 ∧ I 129 0 + 1 ≤ 80
    have := htx.1.1
    omega
  · rw [zup_ne (by decide), zup_ne (by decide), zup_ne (by decide), zup_at]
    split
    · omega
    · exact htx.2.2.1 p p0 p1
  · have p1_ : p < I 129 0 + 1 := p1
    rw [zup_ne (by decide), zup_at, zup_ne (by decide), zup_ne (by decide), zup_ne (by decide), zup_ne (by decide), zup_ne (by decide), zup_at]
    by_cases h9 : p = I 129 0
    · rw [if_pos h9, if_pos h9]
    · rw [if_neg h9, if_neg h9]
      exact htx.2.2.2 p p0 (by omega)
theorem op_clearText {I : zI} {π : Int → Nat} {D : zD} (s : zSim I π)  : zGo 89 133 [] I π D := by
  have e := s.1.1
  have ci := s.1.2
  have w : zW1 (I 2) := ci.1.1
  have v : zW2 (I 2) (I 6) (I 8) := ci.1.2.1
  have hsp1 : ∀ c, 0 ≤ c → c < I 2 5 → 1 ≤ I 4 c ∧ I 4 c ≤ 1000 := ci.1.2.2.1
  have hsp : ∀ c, 0 ≤ c → c < I 2 5 → 0 ≤ I 4 c ∧ I 4 c ≤ 1000 := fun c c0 c1 => by have := hsp1 c c0 c1; omega
  have hd : zDis (I 2) (I 6) (I 9 2) (I 11) (I 13) := ci.2.2
  have hm : 0 ≤ I 9 2 := ci.2.1
  have hdl := zdis_le w v hd hm
  have hM : 0 ≤ I 9 2 ∧ I 9 2 ≤ 4 := ⟨hm, hdl.2⟩
  have hlb := zlb_b w
  have hl0 : 0 ≤ I 14 4 ∧ I 14 4 ≤ zlb (I 2) := ci.1.2.2.2.1.1
  have hl : 0 ≤ I 14 4 ∧ I 14 4 ≤ 96 := by omega
  have hN := w.1
  have hO := w.2.2.2.1
  have hT := w.2.2.1
  have hk := s.2.1.1
  have hk2 := s.2.1.2
  have hπ := s.2.2.1
  have htx := s.2.2.2.2.2
  have hkm : 0 ≤ I 137 2 ∧ I 137 2 ≤ 4 := by omega
  have eJ := zSa_e (zKe_S hπ hk) e
  have ciJ := zSa_I (zKe_S hπ hk) ci
  have j4 : zKe I π 4 = I 4 := zKe_lt hπ hk (by decide)
  have j2 : zKe I π 2 = I 2 := zKe_lt hπ hk (by decide)
  have j9 : zKe I π 9 = I 9 := zKe_lt hπ hk (by decide)
  have j137 : zKe I π 137 = I 137 := zKe_gt hπ hk (by decide)
  have j138 : zKe I π 138 = I 138 := zKe_gt hπ hk (by decide)
  have h1 := m_clearText (I := I) (π := π) (D := D)
  have h2 := m_RclearText (I := zup I 129 0 0) (π := π) (D := D)
  have e4 : (zup I 129 0 0) 137 4 = I 129 0 := htx.2.1
  rw [e4] at h2
  refine ⟨_, _, π, D, _, D, h1, h2, zSim_t s (fun r a1 a2 a3 a4 => ?_) rfl ⟨?_, rfl, fun p p0 p1 => ?_, fun p p0 p1 => ?_⟩⟩
  · rw [zup_ne a3, zup_ne a1]
  · show (0 : Int) ≤ 0 ∧ (0 : Int) ≤ 80
    omega
  · exact htx.2.2.1 p p0 p1
  · have p1_ : p < 0 := p1
    omega
/-- a chart that has just begun -/
theorem zBeg_eq {I1 K : zI} {a b c g l : Int} (ha : 2 ≤ a ∧ a ≤ 24) (hb : 3 ≤ b ∧ b ≤ 8) (f : I1 2 5 = a ∧ I1 2 6 = b ∧ I1 2 7 = c ∧ I1 2 8 = 0 ∧ I1 2 9 = (a + b - 1) / b - 1 ∧ I1 2 10 = g ∧ I1 2 11 = l) (h4 : ∀ q, 0 ≤ q → q < a → I1 4 q = 400 ∧ I1 6 q = q ∧ I1 24 (0 * 24 + q) = q) (h9 : I1 9 2 = 0) (h14 : I1 14 4 = 0) (k5 : K 138 5 = g) (k6 : K 138 6 = l) : zEq ((zCr (zup (zBg (zup (zup (zup (zup (zup (zup K 138 0 a) 138 1 b) 138 2 c) 138 3 0) 138 55 0) 138 80 0) 24) 138 4 ((a + b - 1) / b - 1)) 0 24) 138) (zX I1 2) := by
  obtain ⟨f5, f6, f7, f8, f9, f10, f11⟩ := f
  refine ⟨⟨f5.symm, f6.symm, f7.symm, f8.symm, f9.symm, k5.trans f10.symm, k6.trans f11.symm⟩, fun q q0 q1 => ⟨?_, ?_⟩, ⟨h9.symm, fun k k0 k1 => ?_⟩, ⟨h14.symm, fun k k0 k1 => ?_⟩, fun t q t0 t1 q0 q1 => ?_⟩
  · have q1' : q < I1 2 5 := q1
    show _ = I1 4 q
    rw [(h4 q q0 (by omega)).1, zCr_lo (by omega) (by omega), zup_at, if_neg (by omega)]
    unfold zBg
    rw [if_pos ⟨rfl, by omega, by omega⟩]
  · have q1' : q < I1 2 5 := q1
    show _ = I1 6 q
    rw [(h4 q q0 (by omega)).2.1, zCr_lo (by omega) (by omega), zup_at, if_neg (by omega)]
    unfold zBg
    rw [if_neg (by omega), if_pos ⟨rfl, by omega, by omega⟩]
    omega
  · have k1' : k < I1 9 2 := k1
    omega
  · have k1' : k < I1 14 4 := k1
    omega
  · have q1' : q < I1 2 5 := q1
    have t1' : t ≤ I1 2 8 := t1
    have et : t = 0 := by omega
    subst et
    show _ = I1 24 (0 * 24 + q)
    rw [(h4 q q0 (by omega)).2.2]
    unfold zCr
    rw [if_pos ⟨rfl, by omega, by omega⟩, zup_at, if_neg (by omega)]
    unfold zBg
    rw [if_neg (by omega), if_pos ⟨rfl, by omega, by omega⟩]
    omega
theorem zBeg_CI {I1 : zI} {a b c g l : Int} (ha : 2 ≤ a ∧ a ≤ 24) (hb : 3 ≤ b ∧ b ≤ 8) (hc : 1 ≤ c ∧ c ≤ 6) (hg : 100 ≤ g ∧ g ≤ 5000) (hl : 1 ≤ l ∧ l ≤ 1000) (f : I1 2 5 = a ∧ I1 2 6 = b ∧ I1 2 7 = c ∧ I1 2 8 = 0 ∧ I1 2 9 = (a + b - 1) / b - 1 ∧ I1 2 10 = g ∧ I1 2 11 = l) (h4 : ∀ q, 0 ≤ q → q < a → I1 4 q = 400 ∧ I1 6 q = q ∧ I1 24 (0 * 24 + q) = q) (h8 : ∀ q, 0 ≤ q → q < a → I1 8 q = q) (h6 : ∀ q, 0 ≤ q → q < 24 → 0 ≤ I1 6 q ∧ I1 6 q < 24) (h9 : I1 9 2 = 0) (h14 : I1 14 4 = 0) : zCI (zX I1 2) := by
  obtain ⟨f5, f6, f7, f8, f9, f10, f11⟩ := f
  have hdv : (0 ≤ (a + b - 1) / b - 1 ∧ (a + b - 1) / b - 1 ≤ 7) ∧ 0 ≤ ((a + b - 1) / b - 1) * b ∧ ((a + b - 1) / b - 1) * b < a := by
    rcases (show b = 3 ∨ b = 4 ∨ b = 5 ∨ b = 6 ∨ b = 7 ∨ b = 8 by omega) with e | e | e | e | e | e <;> subst e <;> omega
  refine ⟨⟨?_, ⟨fun q q0 q1 => ?_, fun q q0 q1 => ?_, h6⟩, fun q q0 q1 => ?_, ⟨⟨?_, ?_⟩, fun k k0 k1 => ?_, fun q q0 q1 => ?_⟩, fun t q t0 t1 q0 q1 => ?_, fun q q0 q1 => ?_⟩, ?_, fun k k0 k1 => ?_⟩
  · show (2 ≤ I1 2 5 ∧ I1 2 5 ≤ 24) ∧ (3 ≤ I1 2 6 ∧ I1 2 6 ≤ 8) ∧ (1 ≤ I1 2 7 ∧ I1 2 7 ≤ 6) ∧ (0 ≤ I1 2 8 ∧ I1 2 8 ≤ I1 2 7) ∧ (-1 ≤ I1 2 9 ∧ I1 2 9 ≤ 7) ∧ (I1 2 9 = -1 ↔ I1 2 8 = I1 2 7) ∧ ((-8 ≤ I1 2 9 * I1 2 6 ∧ I1 2 9 * I1 2 6 < I1 2 5) ∧ (I1 2 9 = -1 ∨ 0 ≤ I1 2 9 * I1 2 6)) ∧ (100 ≤ I1 2 10 ∧ I1 2 10 ≤ 5000) ∧ (1 ≤ I1 2 11 ∧ I1 2 11 ≤ 1000)
    rw [f5, f6, f7, f8, f9, f10, f11]
    omega
  · have q1' : q < I1 2 5 := q1
    have e := h4 q q0 (by omega)
    show 0 ≤ I1 6 q ∧ I1 6 q < I1 2 5 ∧ I1 8 (I1 6 q) = q
    rw [e.2.1, h8 q q0 (by omega)]
    omega
  · have q1' : q < I1 2 5 := q1
    have e := h4 q q0 (by omega)
    show 0 ≤ I1 8 q ∧ I1 8 q < I1 2 5 ∧ I1 6 (I1 8 q) = q
    rw [h8 q q0 (by omega), e.2.1]
    omega
  · have q1' : q < I1 2 5 := q1
    show 1 ≤ I1 4 q ∧ I1 4 q ≤ 1000
    rw [(h4 q q0 (by omega)).1]
    omega
  · show 0 ≤ I1 14 4
    omega
  · show I1 14 4 ≤ 16 * I1 2 8 + (if I1 2 9 = -1 then 0 else (I1 2 6 + 1) / 2 * ((I1 2 5 + I1 2 6 - 1) / I1 2 6 - 1 - I1 2 9))
    rw [f5, f6, f8, f9, h14, show (a + b - 1) / b - 1 - ((a + b - 1) / b - 1) = 0 by omega, Int.mul_zero]
    split <;> omega
  · have k1' : k < I1 14 4 := k1
    omega
  · have q1' : q < I1 2 5 := q1
    show I1 6 q = zsw (I1 18) (I1 20) (I1 14 4).toNat q
    rw [h14, (h4 q q0 (by omega)).2.1]
    rfl
  · have q1' : q < I1 2 5 := q1
    have t1' : t ≤ I1 2 8 := t1
    have et : t = 0 := by omega
    subst et
    show 0 ≤ I1 24 (0 * 24 + q) ∧ I1 24 (0 * 24 + q) < I1 2 5
    rw [(h4 q q0 (by omega)).2.2]
    omega
  · have q1' : q < I1 2 5 := q1
    exact (h4 q q0 (by omega)).2.2
  · show 0 ≤ I1 9 2
    omega
  · have k1' : k < I1 9 2 := k1
    omega
theorem zAnew_4p {J : zI} {k q : Int} (h : 0 ≤ q ∧ q < k) : zAnew J k 4 q = 400 := by
  unfold zAnew
  rw [if_pos ⟨Or.inl rfl, h.1, h.2⟩, if_pos rfl]
theorem zAnew_6p {J : zI} {k q : Int} (h : 0 ≤ q ∧ q < k) : zAnew J k 6 q = q := by
  unfold zAnew
  rw [if_pos ⟨Or.inr (Or.inl rfl), h.1, h.2⟩, if_neg (by decide)]
theorem zAnew_8p {J : zI} {k q : Int} (h : 0 ≤ q ∧ q < k) : zAnew J k 8 q = q := by
  unfold zAnew
  rw [if_pos ⟨Or.inr (Or.inr rfl), h.1, h.2⟩, if_neg (by decide)]
theorem zAnew_n {J : zI} {k q : Int} {r : Nat} (h : ¬ (0 ≤ q ∧ q < k)) : zAnew J k r q = J r q := by
  unfold zAnew
  rw [if_neg (fun h9 => h h9.2)]
theorem zNote_24 {J : zI} {k j : Int} (h : J 2 8 * 24 ≤ j ∧ j < J 2 8 * 24 + k) : zNote J k 24 j = J 6 (j - J 2 8 * 24) := if_pos ⟨rfl, h.1, h.2⟩
/-- the rows of a chart that has just begun -/
theorem zBeg_r {J : zI} {a b c : Int} (ha : 2 ≤ a ∧ a ≤ 24) (hb : 3 ≤ b ∧ b ≤ 8) (h6 : ∀ q, 0 ≤ q → q < 24 → 0 ≤ J 6 q ∧ J 6 q < 24) : ∃ I1, I1 = zBeg (zup (zup (zup (zup J 2 5 a) 2 6 b) 2 7 c) 2 8 0) ∧ (∀ q, 0 ≤ q → q < a → I1 4 q = 400 ∧ I1 6 q = q ∧ I1 24 (0 * 24 + q) = q) ∧ (∀ q, 0 ≤ q → q < a → I1 8 q = q) ∧ (∀ q, 0 ≤ q → q < 24 → 0 ≤ I1 6 q ∧ I1 6 q < 24) ∧ ∀ r, 25 ≤ r → I1 r = J r := by
  refine ⟨_, rfl, ?_⟩
  obtain ⟨K, eK⟩ : ∃ K, K = zup (zup (zup (zup J 2 5 a) 2 6 b) 2 7 c) 2 8 0 := ⟨_, rfl⟩
  rw [← eK]
  have k5 : K 2 5 = a := by rw [eK]; rfl
  have k8 : K 2 8 = 0 := by rw [eK]; rfl
  have k6 : K 6 = J 6 := by rw [eK, zup_ne (by decide), zup_ne (by decide), zup_ne (by decide), zup_ne (by decide)]
  have kr : ∀ r, 25 ≤ r → K r = J r := fun r hr => by rw [eK, zup_ne (by omega), zup_ne (by omega), zup_ne (by omega), zup_ne (by omega)]
  have e : ∀ r, r ≠ 2 → r ≠ 9 → r ≠ 14 → r ≠ 24 → zBeg K r = zAnew K (K 2 5) r := fun r h1 h2 h3 h4 => by
    unfold zBeg
    rw [zup_ne h1, zup_ne h3, zup_ne h2, zNote_ne h4]
  have e24 : zBeg K 24 = zNote (zAnew K (K 2 5)) (K 2 5) 24 := by
    unfold zBeg
    rw [zup_ne (by decide), zup_ne (by decide), zup_ne (by decide)]
  have a8 : zAnew K (K 2 5) 2 8 = 0 := by
    unfold zAnew
    rw [if_neg (by omega)]
    exact k8
  refine ⟨fun q q0 q1 => ⟨?_, ?_, ?_⟩, fun q q0 q1 => ?_, fun q q0 q1 => ?_, fun r hr => ?_⟩
  · rw [e 4 (by decide) (by decide) (by decide) (by decide), k5]; exact zAnew_4p ⟨q0, q1⟩
  · rw [e 6 (by decide) (by decide) (by decide) (by decide), k5]; exact zAnew_6p ⟨q0, q1⟩
  · rw [e24, zNote_24 (by rw [a8, k5]; omega), a8, k5, zAnew_6p (by omega)]
    omega
  · rw [e 8 (by decide) (by decide) (by decide) (by decide), k5]; exact zAnew_8p ⟨q0, q1⟩
  · rw [e 6 (by decide) (by decide) (by decide) (by decide)]
    by_cases h : 0 ≤ q ∧ q < K 2 5
    · rw [zAnew_6p h]; omega
    · rw [zAnew_n h, k6]; exact h6 q q0 q1
  · rw [e r (by omega) (by omega) (by omega) (by omega)]
    funext j
    unfold zAnew
    rw [if_neg (by omega), kr r hr]
theorem op_begin {I : zI} {π : Int → Nat} {D : zD} (s : zSim I π) (a b c : Int) : zGo 66 106 [vi a, vi b, vi c] I π D := by
  have e := s.1.1
  have ci := s.1.2
  have w : zW1 (I 2) := ci.1.1
  have v : zW2 (I 2) (I 6) (I 8) := ci.1.2.1
  have hsp1 : ∀ c, 0 ≤ c → c < I 2 5 → 1 ≤ I 4 c ∧ I 4 c ≤ 1000 := ci.1.2.2.1
  have hsp : ∀ c, 0 ≤ c → c < I 2 5 → 0 ≤ I 4 c ∧ I 4 c ≤ 1000 := fun c c0 c1 => by have := hsp1 c c0 c1; omega
  have hd : zDis (I 2) (I 6) (I 9 2) (I 11) (I 13) := ci.2.2
  have hm : 0 ≤ I 9 2 := ci.2.1
  have hdl := zdis_le w v hd hm
  have hM : 0 ≤ I 9 2 ∧ I 9 2 ≤ 4 := ⟨hm, hdl.2⟩
  have hlb := zlb_b w
  have hl0 : 0 ≤ I 14 4 ∧ I 14 4 ≤ zlb (I 2) := ci.1.2.2.2.1.1
  have hl : 0 ≤ I 14 4 ∧ I 14 4 ≤ 96 := by omega
  have hN := w.1
  have hO := w.2.2.2.1
  have hT := w.2.2.1
  have hk := s.2.1.1
  have hk2 := s.2.1.2
  have hπ := s.2.2.1
  have htx := s.2.2.2.2.2
  have hkm : 0 ≤ I 137 2 ∧ I 137 2 ≤ 4 := by omega
  have eJ := zSa_e (zKe_S hπ hk) e
  have ciJ := zSa_I (zKe_S hπ hk) ci
  have j4 : zKe I π 4 = I 4 := zKe_lt hπ hk (by decide)
  have j2 : zKe I π 2 = I 2 := zKe_lt hπ hk (by decide)
  have j9 : zKe I π 9 = I 9 := zKe_lt hπ hk (by decide)
  have j137 : zKe I π 137 = I 137 := zKe_gt hπ hk (by decide)
  have j138 : zKe I π 138 = I 138 := zKe_gt hπ hk (by decide)
  by_cases hq : (2 ≤ a ∧ a ≤ 24) ∧ (3 ≤ b ∧ b ≤ 8) ∧ (1 ≤ c ∧ c ≤ 6)
  case neg => exact zGo_s s (m_begin0 hq) (m_Rbegin0 hq)
  have h1 := m_begin1 (π := π) (D := D) hq v.2.2 hπ hk rfl
  obtain ⟨I1, eI, r4, r8, r6, rr⟩ := zBeg_r (J := (zKe I π)) (c := c) hq.1 hq.2.1 (by rw [show (zKe I π) 6 = I 6 from zKe_lt hπ hk (by decide)]; exact v.2.2)
  have f : I1 2 5 = a ∧ I1 2 6 = b ∧ I1 2 7 = c ∧ I1 2 8 = 0 ∧ I1 2 9 = (a + b - 1) / b - 1 ∧ I1 2 10 = I 2 10 ∧ I1 2 11 = I 2 11 := by
    refine ⟨by rw [eI]; rfl, by rw [eI]; rfl, by rw [eI]; rfl, by rw [eI]; rfl, by rw [eI]; rfl, ?_, ?_⟩
    · rw [eI, ← j2]; rfl
    · rw [eI, ← j2]; rfl
  have f9 : I1 9 2 = 0 := by rw [eI]; rfl
  have f14 : I1 14 4 = 0 := by rw [eI]; rfl
  rw [← eI] at h1
  have i8 : I1 138 = I 138 := by rw [rr 138 (by decide), j138]
  have i7 : I1 137 = I 137 := by rw [rr 137 (by decide), j137]
  obtain ⟨K, h, hR⟩ := m_Rbegin1 (I := I1) (π := zkr π (I 25 1)) (D := D) (by rw [i7]; exact hkm) hq
  have k8 : K 138 = I 138 := by rw [hR.1 138 (by decide) (by decide), i8]
  have hfr : zFr (zCr (zup (zBg (zup (zup (zup (zup (zup (zup K 138 0 a) 138 1 b) 138 2 c) 138 3 0) 138 55 0) 138 80 0) 24) 138 4 ((a + b - 1) / b - 1)) 0 24) K := by
    refine zFr_8 (fun r hr => ?_)
    have z1 : zCr (zup (zBg (zup (zup (zup (zup (zup (zup K 138 0 a) 138 1 b) 138 2 c) 138 3 0) 138 55 0) 138 80 0) 24) 138 4 ((a + b - 1) / b - 1)) 0 24 r = (zup (zBg (zup (zup (zup (zup (zup (zup K 138 0 a) 138 1 b) 138 2 c) 138 3 0) 138 55 0) 138 80 0) 24) 138 4 ((a + b - 1) / b - 1)) r := funext fun j => if_neg (fun h9 => hr h9.1)
    rw [z1, zup_ne hr]
    funext j
    unfold zBg
    rw [if_neg (fun h9 => hr h9.1), if_neg (fun h9 => hr h9.1), zup_ne hr, zup_ne hr, zup_ne hr, zup_ne hr, zup_ne hr, zup_ne hr]
  exact zGo_w s h1 (zCf_o hπ hk rr) h zMk_r hR hfr (zBeg_eq hq.1 hq.2.1 f r4 f9 f14 (by rw [k8]; exact e.1.2.2.2.2.2.1) (by rw [k8]; exact e.1.2.2.2.2.2.2)) (zBeg_CI hq.1 hq.2.1 hq.2.2 w.2.2.2.2.2.2.2.1 w.2.2.2.2.2.2.2.2 f r4 r8 r6 f9 f14)
