theorem op_setSpeed {I : zI} {π : Int → Nat} {D : zD} (s : zSim I π) (c x : Int) : zGo 67 107 [vi c, vi x] I π D := by
  have e := s.1.1
  have ci := s.1.2
  have w : zW1 (I 2) := ci.1.1
  have v : zW2 (I 2) (I 6) (I 8) := ci.1.2.1
  have hsp1 : ∀ c, 0 ≤ c → c < I 2 5 → 1 ≤ I 4 c ∧ I 4 c ≤ 1000 := ci.1.2.2.1
  have hsp : ∀ c, 0 ≤ c → c < I 2 5 → 0 ≤ I 4 c ∧ I 4 c ≤ 1000 := fun c c0 c1 => by have := hsp1 c c0 c1; omega
  have hd : zDis (I 2) (I 6) (I 9 2) (I 11) (I 13) := ci.2.2
  have hm : 0 ≤ I 9 2 := ci.2.1
  have hdl := zdis_le w v hd hm
  have hM : 0 ≤ I 9 2 ∧ I 9 2 ≤ 4 := ⟨hm, hdl.2⟩
  have hlb := zlb_b w
  have hl0 : 0 ≤ I 14 4 ∧ I 14 4 ≤ zlb (I 2) := ci.1.2.2.2.1.1
  have hl : 0 ≤ I 14 4 ∧ I 14 4 ≤ 96 := by omega
  have hN := w.1
  have hO := w.2.2.2.1
  have hT := w.2.2.1
  have hk := s.2.1.1
  have hk2 := s.2.1.2
  have hπ := s.2.2.1
  have htx := s.2.2.2.2.2
  have hkm : 0 ≤ I 137 2 ∧ I 137 2 ≤ 4 := by omega
  have eJ := zSa_e (zKe_S hπ hk) e
  have ciJ := zSa_I (zKe_S hπ hk) ci
  have j4 : zKe I π 4 = I 4 := zKe_lt hπ hk (by decide)
  have j2 : zKe I π 2 = I 2 := zKe_lt hπ hk (by decide)
  have j9 : zKe I π 9 = I 9 := zKe_lt hπ hk (by decide)
  have j137 : zKe I π 137 = I 137 := zKe_gt hπ hk (by decide)
  have j138 : zKe I π 138 = I 138 := zKe_gt hπ hk (by decide)
  by_cases hq : (0 ≤ c ∧ c < I 2 5) ∧ (1 ≤ x ∧ x ≤ 1000)
  case neg => exact zGo_s s (m_setSpeed0 hq) (m_RsetSpeed0 e ci hq)
  obtain ⟨K, h, hR⟩ := m_RsetSpeed1 (I := zup (zKe I π) 4 c x) (π := zkr π (I 25 1)) (D := D) (X := zX I 2) (by rw [zup_ne (by decide), j138]; exact e) ci (by rw [zup_ne (by decide), j137]; exact hkm) hq
  have h1 := m_setSpeed1 (π := π) (D := D) hq (by omega) hπ hk rfl
  refine zGo_w s h1 (zCf_o hπ hk (fun r hr => zup_ne (by omega))) h zMk_r hR zFr_u ?_ ?_
  · rw [zX_up (b := 2) (k := 2), zup_u, hR.1 138 (by decide) (by decide), zup_ne (by decide), j138]
    exact zEq_sp eJ (by show 0 ≤ c ∧ c < (zKe I π) 2 5; rw [j2]; exact hq.1) (by show (zKe I π) 2 5 ≤ 24; rw [j2]; omega)
  · rw [zX_up (b := 2) (k := 2)]
    exact zCI_sp ciJ hq.2
theorem op_set {I : zI} {π : Int → Nat} {D : zD} (s : zSim I π) (a x : Int) : zGo 68 108 [vi a, vi x] I π D := by
  have e := s.1.1
  have ci := s.1.2
  have w : zW1 (I 2) := ci.1.1
  have v : zW2 (I 2) (I 6) (I 8) := ci.1.2.1
  have hsp1 : ∀ c, 0 ≤ c → c < I 2 5 → 1 ≤ I 4 c ∧ I 4 c ≤ 1000 := ci.1.2.2.1
  have hsp : ∀ c, 0 ≤ c → c < I 2 5 → 0 ≤ I 4 c ∧ I 4 c ≤ 1000 := fun c c0 c1 => by have := hsp1 c c0 c1; omega
  have hd : zDis (I 2) (I 6) (I 9 2) (I 11) (I 13) := ci.2.2
  have hm : 0 ≤ I 9 2 := ci.2.1
  have hdl := zdis_le w v hd hm
  have hM : 0 ≤ I 9 2 ∧ I 9 2 ≤ 4 := ⟨hm, hdl.2⟩
  have hlb := zlb_b w
  have hl0 : 0 ≤ I 14 4 ∧ I 14 4 ≤ zlb (I 2) := ci.1.2.2.2.1.1
  have hl : 0 ≤ I 14 4 ∧ I 14 4 ≤ 96 := by omega
  have hN := w.1
  have hO := w.2.2.2.1
  have hT := w.2.2.1
  have hk := s.2.1.1
  have hk2 := s.2.1.2
  have hπ := s.2.2.1
  have htx := s.2.2.2.2.2
  have hkm : 0 ≤ I 137 2 ∧ I 137 2 ≤ 4 := by omega
  have eJ := zSa_e (zKe_S hπ hk) e
  have ciJ := zSa_I (zKe_S hπ hk) ci
  have j4 : zKe I π 4 = I 4 := zKe_lt hπ hk (by decide)
  have j2 : zKe I π 2 = I 2 := zKe_lt hπ hk (by decide)
  have j9 : zKe I π 9 = I 9 := zKe_lt hπ hk (by decide)
  have j137 : zKe I π 137 = I 137 := zKe_gt hπ hk (by decide)
  have j138 : zKe I π 138 = I 138 := zKe_gt hπ hk (by decide)
  by_cases hq : (a = 0 ∧ 100 ≤ x ∧ x ≤ 5000) ∨ (a = 1 ∧ 1 ≤ x ∧ x ≤ 1000)
  case neg => exact zGo_s s (m_setx hq) (m_Rsetx hq)
  have jl : zX (zKe I π) 2 12 4 ≤ 112 := by have := ciJ.1.2.2.2.1.1; have := (zlb_b ciJ.1.1).1; omega
  have jm : zX (zKe I π) 2 7 2 ≤ 4 := (zdis_le ciJ.1.1 ciJ.1.2.1 ciJ.2.2 ciJ.2.1).2
  rcases hq with ⟨h9, hq⟩ | ⟨h9, hq⟩
  · subst h9
    obtain ⟨K, h, hR⟩ := m_Rset0 (I := zup (zKe I π) 2 10 x) (π := zkr π (I 25 1)) (D := D) (X := zX I 2) (by rw [zup_ne (by decide), j138]; exact e) ci (by rw [zup_ne (by decide), j137]; exact hkm) hq
    have h1 := m_set0 (π := π) (D := D) hq hπ hk rfl
    refine zGo_w s h1 (zCf_o hπ hk (fun r hr => zup_ne (by omega))) h zMk_r hR zFr_u ?_ ?_
    · rw [zX_up (b := 2) (k := 0), zup_u, hR.1 138 (by decide) (by decide), zup_ne (by decide), j138]
      exact zEq_g eJ jl jm
    · rw [zX_up (b := 2) (k := 0)]
      exact zCI_g ciJ hq
  · subst h9
    obtain ⟨K, h, hR⟩ := m_Rset1 (I := zup (zKe I π) 2 11 x) (π := zkr π (I 25 1)) (D := D) (X := zX I 2) (by rw [zup_ne (by decide), j138]; exact e) ci (by rw [zup_ne (by decide), j137]; exact hkm) hq
    have h1 := m_set1 (π := π) (D := D) hq hπ hk rfl
    refine zGo_w s h1 (zCf_o hπ hk (fun r hr => zup_ne (by omega))) h zMk_r hR zFr_u ?_ ?_
    · rw [zX_up (b := 2) (k := 0), zup_u, hR.1 138 (by decide) (by decide), zup_ne (by decide), j138]
      exact zEq_h eJ jl jm
    · rw [zX_up (b := 2) (k := 0)]
      exact zCI_h ciJ hq
theorem zRcX_Sa {X Y : zI} {m : Int} {u d : Int → Int} (h : zSa X Y) : zSa (zRcX X m u d) (zRcX Y m u d) := by
  obtain ⟨⟨a1, a2, a3, a4, a5, a6, a7, a8, a9, a10⟩, ⟨b1, b2, b3, b4, b5, b6, b7⟩, c1, c2⟩ := h
  exact ⟨⟨a1, a2, a3, rfl, rfl, a6, a7, a8, a9, a10⟩, ⟨b1, b2, b3, b4, b5, b6, b7⟩, rfl, c2⟩
theorem zRcX_up {X : zI} {m a b : Int} : zup (zup (zup X 9 m a) 11 m b) 7 2 (m + 1) = zRcX X (m + 1) (zu1 (X 9) m a) (zu1 (X 11) m b) := by
  funext r j
  unfold zup zRcX zu1
  by_cases h1 : r = 7 ∧ j = 2
  · rw [if_pos h1, if_pos h1]
  · rw [if_neg h1, if_neg h1]
    by_cases h2 : r = 9
    · subst h2; simp
    · rw [if_neg h2]
      by_cases h3 : r = 11
      · subst h3; simp
      · rw [if_neg h3, if_neg (fun h => h3 h.1), if_neg (fun h => h2 h.1)]
theorem op_bump {I : zI} {π : Int → Nat} {D : zD} (s : zSim I π) (a b : Int) : zGo 74 115 [vi a, vi b] I π D := by
  have e := s.1.1
  have ci := s.1.2
  have w : zW1 (I 2) := ci.1.1
  have v : zW2 (I 2) (I 6) (I 8) := ci.1.2.1
  have hsp1 : ∀ c, 0 ≤ c → c < I 2 5 → 1 ≤ I 4 c ∧ I 4 c ≤ 1000 := ci.1.2.2.1
  have hsp : ∀ c, 0 ≤ c → c < I 2 5 → 0 ≤ I 4 c ∧ I 4 c ≤ 1000 := fun c c0 c1 => by have := hsp1 c c0 c1; omega
  have hd : zDis (I 2) (I 6) (I 9 2) (I 11) (I 13) := ci.2.2
  have hm : 0 ≤ I 9 2 := ci.2.1
  have hdl := zdis_le w v hd hm
  have hM : 0 ≤ I 9 2 ∧ I 9 2 ≤ 4 := ⟨hm, hdl.2⟩
  have hlb := zlb_b w
  have hl0 : 0 ≤ I 14 4 ∧ I 14 4 ≤ zlb (I 2) := ci.1.2.2.2.1.1
  have hl : 0 ≤ I 14 4 ∧ I 14 4 ≤ 96 := by omega
  have hN := w.1
  have hO := w.2.2.2.1
  have hT := w.2.2.1
  have hk := s.2.1.1
  have hk2 := s.2.1.2
  have hπ := s.2.2.1
  have htx := s.2.2.2.2.2
  have hkm : 0 ≤ I 137 2 ∧ I 137 2 ≤ 4 := by omega
  have eJ := zSa_e (zKe_S hπ hk) e
  have ciJ := zSa_I (zKe_S hπ hk) ci
  have j4 : zKe I π 4 = I 4 := zKe_lt hπ hk (by decide)
  have j2 : zKe I π 2 = I 2 := zKe_lt hπ hk (by decide)
  have j9 : zKe I π 9 = I 9 := zKe_lt hπ hk (by decide)
  have j137 : zKe I π 137 = I 137 := zKe_gt hπ hk (by decide)
  have j138 : zKe I π 138 = I 138 := zKe_gt hπ hk (by decide)
  by_cases hq : (0 ≤ a ∧ a < I 2 5) ∧ (0 ≤ b ∧ b < I 2 5)
  case neg => exact zGo_s s (m_bumpx hq) (m_Rbumpx e ci hq)
  obtain ⟨res, hz, hn, hy⟩ := m_bump (π := π) (D := D) (J := (zKe I π)) hq w v hM (fun {res} h0 hz => by subst h0; exact zdis_push4 w v hm hd hz) hπ hk rfl
  by_cases hr : res = 0
  case neg =>
    obtain ⟨K, h, hmk⟩ := m_Rbumpn (π := π) (D := D) e ci hq hz (by rcases hz with ⟨h9, _⟩ | ⟨_, _, ⟨h9, _⟩ | ⟨_, _, ⟨h9, _⟩ | ⟨_, ⟨h9, _⟩ | ⟨h9, _⟩⟩⟩⟩ <;> omega)
    exact zGo_m s (hn hr) h hmk
  subst hr
  have h1 := hy rfl
  obtain ⟨J1, K, h, hR, hmk⟩ := m_Rbump0 (I := zup (zup (zup (zKe I π) 11 (I 9 2) a) 13 (I 9 2) b) 9 2 (I 9 2 + 1)) (π := zkr π (I 25 1)) (D := D) (X := zX I 2) (by rw [zup_ne (by decide), zup_ne (by decide), zup_ne (by decide), j138]; exact e) ci (by rw [zup_ne (by decide), zup_ne (by decide), zup_ne (by decide), j137]; exact hkm) hq hz
  have k8 : K 138 = I 138 := by rw [hR.1 138 (by decide) (by decide), hmk.2.1, zup_ne (by decide), zup_ne (by decide), zup_ne (by decide), j138]
  have hX : zX (zup (zup (zup (zKe I π) 11 (I 9 2) a) 13 (I 9 2) b) 9 2 (I 9 2 + 1)) 2 = zRcX (zX (zKe I π) 2) (I 9 2 + 1) (zu1 (zX (zKe I π) 2 9) (I 9 2) a) (zu1 (zX (zKe I π) 2 11) (I 9 2) b) := by rw [zX_up (b := 2) (k := 7), zX_up (b := 2) (k := 11), zX_up (b := 2) (k := 9), zRcX_up]
  have e7 : zX (zKe I π) 2 7 2 = I 9 2 := by show (zKe I π) 9 2 = _; rw [j9]
  have hm4 := zdis_push4 w v hm hd hz
  refine zGo_w s h1 (zCf_o hπ hk (fun r hr => by rw [zup_ne (by omega), zup_ne (by omega), zup_ne (by omega)])) h hmk hR (zFr_t zFr_u (zFr_t zFr_u zFr_u)) ?_ ?_
  · rw [hX, zup_u, zup_u, zup_u, k8]
    have eJ2 : zEq (I 138) (zRcX (zX (zKe I π) 2) (I 9 2) (zX (zKe I π) 2 9) (zX (zKe I π) 2 11)) := by rw [← e7, zRcX_i]; exact eJ
    exact zEq_pu eJ2 ⟨hm, hm4⟩ (by show (zKe I π) 2 5 ≤ 24; rw [j2]; omega)
  · rw [hX]
    have dd := ciJ.2.2
    rw [e7] at dd
    have hz0 := zReas_0 hz
    refine zCI_rc ciJ (by omega) (zdis_push dd ?_)
    show zIs ((zKe I π) 2) ((zKe I π) 6) a ∧ zIs ((zKe I π) 2) ((zKe I π) 6) b ∧ ¬ zOut (I 9 2) ((zKe I π) 11) ((zKe I π) 13) a ∧ ¬ zOut (I 9 2) ((zKe I π) 11) ((zKe I π) 13) b ∧ (zKe I π) 6 b < (zKe I π) 6 a
    rw [j2, show (zKe I π) 6 = I 6 from zKe_lt hπ hk (by decide), show (zKe I π) 11 = I 11 from zKe_lt hπ hk (by decide), show (zKe I π) 13 = I 13 from zKe_lt hπ hk (by decide)]
    exact hz0
theorem op_rerow {I : zI} {π : Int → Nat} {D : zD} (s : zSim I π) (b : Int) : zGo 77 119 [vi b] I π D := by
  have e := s.1.1
  have ci := s.1.2
  have w : zW1 (I 2) := ci.1.1
  have v : zW2 (I 2) (I 6) (I 8) := ci.1.2.1
  have hsp1 : ∀ c, 0 ≤ c → c < I 2 5 → 1 ≤ I 4 c ∧ I 4 c ≤ 1000 := ci.1.2.2.1
  have hsp : ∀ c, 0 ≤ c → c < I 2 5 → 0 ≤ I 4 c ∧ I 4 c ≤ 1000 := fun c c0 c1 => by have := hsp1 c c0 c1; omega
  have hd : zDis (I 2) (I 6) (I 9 2) (I 11) (I 13) := ci.2.2
  have hm : 0 ≤ I 9 2 := ci.2.1
  have hdl := zdis_le w v hd hm
  have hM : 0 ≤ I 9 2 ∧ I 9 2 ≤ 4 := ⟨hm, hdl.2⟩
  have hlb := zlb_b w
  have hl0 : 0 ≤ I 14 4 ∧ I 14 4 ≤ zlb (I 2) := ci.1.2.2.2.1.1
  have hl : 0 ≤ I 14 4 ∧ I 14 4 ≤ 96 := by omega
  have hN := w.1
  have hO := w.2.2.2.1
  have hT := w.2.2.1
  have hk := s.2.1.1
  have hk2 := s.2.1.2
  have hπ := s.2.2.1
  have htx := s.2.2.2.2.2
  have hkm : 0 ≤ I 137 2 ∧ I 137 2 ≤ 4 := by omega
  have eJ := zSa_e (zKe_S hπ hk) e
  have ciJ := zSa_I (zKe_S hπ hk) ci
  have j4 : zKe I π 4 = I 4 := zKe_lt hπ hk (by decide)
  have j2 : zKe I π 2 = I 2 := zKe_lt hπ hk (by decide)
  have j9 : zKe I π 9 = I 9 := zKe_lt hπ hk (by decide)
  have j137 : zKe I π 137 = I 137 := zKe_gt hπ hk (by decide)
  have j138 : zKe I π 138 = I 138 := zKe_gt hπ hk (by decide)
  by_cases hq : 0 ≤ b ∧ b < I 9 2
  case neg => exact zGo_s s (m_rerowx hq) (m_Rrerowx e ci hq)
  obtain ⟨g, hg⟩ := zTk_ex (nd := zNeed (I 6) (I 11) (I 13)) hq.1 (I 9 2 - b - 1).toNat (by omega)
  rw [show b + 1 + (((I 9 2 - b - 1).toNat : Nat) : Int) = I 9 2 by omega] at hg
  have h1 := m_rerow1 (π := π) (D := D) hq hM (fun k k0 k1 => by have dk := hd k k0 k1; have a1 := dk.1.1; have a2 := dk.2.1.1; omega) hg hπ hk rfl
  have q6 : (zKe I π) 6 = I 6 := zKe_lt hπ hk (by decide)
  have q11 : (zKe I π) 11 = I 11 := zKe_lt hπ hk (by decide)
  have q13 : (zKe I π) 13 = I 13 := zKe_lt hπ hk (by decide)
  have r8 : ∀ r, 25 ≤ r → zTBw (zKe I π) g (I 9 2).toNat r = (zKe I π) r := fun r hr => by rw [zTBw_eq]; exact zTB_out (by omega) _
  obtain ⟨J1, K, h, hR, hKr, hKe⟩ := m_Rrerow1 (I := zTBw (zKe I π) g (I 9 2).toNat) (π := zkr π (I 25 1)) (D := D) (X := zX (zKe I π) 2) (b := b) (g := g) (by rw [r8 138 (by decide), j138]; exact eJ) ciJ (by rw [r8 137 (by decide), j137]; exact hkm) (by show 0 ≤ b ∧ b < (zKe I π) 9 2; rw [j9]; exact hq) (by show zTk (zNeed ((zKe I π) 6) ((zKe I π) 11) ((zKe I π) 13)) b ((zKe I π) 9 2) g; rw [j9, q6, q11, q13]; exact hg)
  have e7 : zX (zKe I π) 2 7 2 = I 9 2 := by show (zKe I π) 9 2 = _; rw [j9]
  rw [e7] at hKe
  have hX : zX (zTBw (zKe I π) g (I 9 2).toNat) 2 = zTBX (zX (zKe I π) 2) g (I 9 2).toNat := by rw [zTBw_eq, zTBX_X]
  refine zGo_w s h1 (zCf_o hπ hk r8) h zMk_r hR (zFr_8 hKr) (by rw [hX]; exact hKe) ?_
  rw [hX, ← e7]
  exact zTBX_I ciJ
theorem op_finish {I : zI} {π : Int → Nat} {D : zD} (s : zSim I π)  : zGo 78 120 [] I π D := by
  have e := s.1.1
  have ci := s.1.2
  have w : zW1 (I 2) := ci.1.1
  have v : zW2 (I 2) (I 6) (I 8) := ci.1.2.1
  have hsp1 : ∀ c, 0 ≤ c → c < I 2 5 → 1 ≤ I 4 c ∧ I 4 c ≤ 1000 := ci.1.2.2.1
  have hsp : ∀ c, 0 ≤ c → c < I 2 5 → 0 ≤ I 4 c ∧ I 4 c ≤ 1000 := fun c c0 c1 => by have := hsp1 c c0 c1; omega
  have hd : zDis (I 2) (I 6) (I 9 2) (I 11) (I 13) := ci.2.2
  have hm : 0 ≤ I 9 2 := ci.2.1
  have hdl := zdis_le w v hd hm
  have hM : 0 ≤ I 9 2 ∧ I 9 2 ≤ 4 := ⟨hm, hdl.2⟩
  have hlb := zlb_b w
  have hl0 : 0 ≤ I 14 4 ∧ I 14 4 ≤ zlb (I 2) := ci.1.2.2.2.1.1
  have hl : 0 ≤ I 14 4 ∧ I 14 4 ≤ 96 := by omega
  have hN := w.1
  have hO := w.2.2.2.1
  have hT := w.2.2.1
  have hk := s.2.1.1
  have hk2 := s.2.1.2
  have hπ := s.2.2.1
  have htx := s.2.2.2.2.2
  have hkm : 0 ≤ I 137 2 ∧ I 137 2 ≤ 4 := by omega
  have eJ := zSa_e (zKe_S hπ hk) e
  have ciJ := zSa_I (zKe_S hπ hk) ci
  have j4 : zKe I π 4 = I 4 := zKe_lt hπ hk (by decide)
  have j2 : zKe I π 2 = I 2 := zKe_lt hπ hk (by decide)
  have j9 : zKe I π 9 = I 9 := zKe_lt hπ hk (by decide)
  have j137 : zKe I π 137 = I 137 := zKe_gt hπ hk (by decide)
  have j138 : zKe I π 138 = I 138 := zKe_gt hπ hk (by decide)
  by_cases hq : I 2 9 = -1
  · exact zGo_s s (m_finish0 hq) (m_Rfinish0 (e.1.2.2.2.2.1.trans hq))
  obtain ⟨I1, h1, hr1, hX⟩ := m_cfin (D := D) ci hq hπ hk
  have e7 : zX (zKe I π) 2 7 2 = I 9 2 := by show (zKe I π) 9 2 = _; rw [j9]
  obtain ⟨J1, K, h, hR, hKr, hKe⟩ := m_Rfinish1 (I := I1) (π := zkr π (I 25 1)) (D := D) (X := zX (zKe I π) 2) (by rw [hr1 138 (by decide), j138]; exact eJ) ciJ (by rw [hr1 137 (by decide), j137]; exact hkm) (by show ¬ (zKe I π) 2 9 = -1; rw [j2]; exact hq)
  rw [e7] at h hKe
  refine zGo_w s h1 (zCf_o hπ hk hr1) h zMk_r hR (zFr_8 hKr) (by rw [hX]; exact hKe) ?_
  rw [hX, ← e7]
  exact zCI_fin ciJ (by show ¬ (zKe I π) 2 9 = -1; rw [j2]; exact hq)
theorem zRw_X {J : zI} {D : zD} {n : Int} (w : zW1 (J 2)) (v : zW2 (J 2) (J 6) (J 8)) (hn : n = (zFX (zX J 2)).2.1) : ∀ r, r < 23 → zX (zRw (zFI J D (-1) 0) n) 2 r = zRwX (zX J 2) n r := by
  obtain ⟨f1, f2⟩ := zFR_X (D := D) w v
  have ag := zFI_agr (I := J) (D := D) (c := -1) (v := 0)
  have g : ∀ r, r < 119 → zFI J D (-1) 0 r = J r := fun r hr => ag r (by omega) (by omega) (by omega) (by omega) (by omega)
  intro r hr
  funext j
  show zRw (zFI J D (-1) 0) n (2 + r) j = zRwX (zX J 2) n r j
  unfold zRw zRwX
  by_cases h1 : r = 7 ∧ j = 2
  · rw [if_pos ⟨by omega, h1.2⟩, if_pos h1]
  · rw [if_neg (fun h => h1 ⟨by omega, h.2⟩), if_neg h1]
    by_cases h2 : r = 9 ∧ 0 ≤ j ∧ j < n
    · rw [if_pos ⟨by omega, h2.2⟩, if_pos h2, g 8 (by decide), g 2 (by decide)]
      have := (f2 j h2.2.1 (by omega)).1
      rw [← this]
      rfl
    · rw [if_neg (fun h => h2 ⟨by omega, h.2⟩), if_neg h2]
      by_cases h3 : r = 11 ∧ 0 ≤ j ∧ j < n
      · rw [if_pos ⟨by omega, h3.2⟩, if_pos h3, g 8 (by decide), g 2 (by decide)]
        have := (f2 j h3.2.1 (by omega)).2.1
        rw [← this]
        rfl
      · rw [if_neg (fun h => h3 ⟨by omega, h.2⟩), if_neg h3, g _ (by omega)]
        rfl
theorem zSa_of {X Y : zI} (h : ∀ r, r < 23 → X r = Y r) : zSa X Y :=
  ⟨⟨h _ (by decide), h _ (by decide), h _ (by decide), h _ (by decide), h _ (by decide), h _ (by decide), h _ (by decide), h _ (by decide), h _ (by decide), h _ (by decide)⟩, ⟨by rw [h 0 (by decide)], by rw [h 0 (by decide)], by rw [h 0 (by decide)], by rw [h 0 (by decide)], by rw [h 0 (by decide)], by rw [h 0 (by decide)], by rw [h 0 (by decide)]⟩, by rw [h 7 (by decide)], by rw [h 12 (by decide)]⟩
theorem zStp_S {X Y : zI} {a b : Int} (h : ∀ r, r < 23 → X r = Y r) : ∀ r, r < 23 → zStp X a b r = zStp Y a b r := by
  intro r hr
  funext j
  unfold zStp zup
  rw [h 0 (by decide), h 4 (by decide), h 12 (by decide)]
  (repeat' split) <;> first | rfl | rw [h r hr]
theorem zERX_S {X Y : zI} (h : ∀ r, r < 23 → X r = Y r) : ∀ n : Nat, ∀ r, r < 23 → zERX X n r = zERX Y n r
  | 0 => h
  | n + 1 => by
    show ∀ r, r < 23 → zStp (zERX X n) (X 9 n) (X 11 n) r = zStp (zERX Y n) (Y 9 n) (Y 11 n) r
    rw [h 9 (by decide), h 11 (by decide)]
    exact zStp_S (zERX_S h n)
theorem zFnX_S {X Y : zI} (h : ∀ r, r < 23 → X r = Y r) : ∀ r, r < 23 → zFnX X r = zFnX Y r := by
  intro r hr
  funext j
  unfold zFnX
  rw [h 0 (by decide)]
  split
  · unfold zup
    (repeat' split) <;> first | rfl | rw [h r hr]
  · unfold zup
    rw [h 4 (by decide)]
    (repeat' split) <;> first | rfl | rw [h r hr] | (dsimp only; rw [h r hr])
theorem op_row {I : zI} {π : Int → Nat} {D : zD} (s : zSim I π)  : zGo 81 124 [] I π D := by
  have e := s.1.1
  have ci := s.1.2
  have w : zW1 (I 2) := ci.1.1
  have v : zW2 (I 2) (I 6) (I 8) := ci.1.2.1
  have hsp1 : ∀ c, 0 ≤ c → c < I 2 5 → 1 ≤ I 4 c ∧ I 4 c ≤ 1000 := ci.1.2.2.1
  have hsp : ∀ c, 0 ≤ c → c < I 2 5 → 0 ≤ I 4 c ∧ I 4 c ≤ 1000 := fun c c0 c1 => by have := hsp1 c c0 c1; omega
  have hd : zDis (I 2) (I 6) (I 9 2) (I 11) (I 13) := ci.2.2
  have hm : 0 ≤ I 9 2 := ci.2.1
  have hdl := zdis_le w v hd hm
  have hM : 0 ≤ I 9 2 ∧ I 9 2 ≤ 4 := ⟨hm, hdl.2⟩
  have hlb := zlb_b w
  have hl0 : 0 ≤ I 14 4 ∧ I 14 4 ≤ zlb (I 2) := ci.1.2.2.2.1.1
  have hl : 0 ≤ I 14 4 ∧ I 14 4 ≤ 96 := by omega
  have hN := w.1
  have hO := w.2.2.2.1
  have hT := w.2.2.1
  have hk := s.2.1.1
  have hk2 := s.2.1.2
  have hπ := s.2.2.1
  have htx := s.2.2.2.2.2
  have hkm : 0 ≤ I 137 2 ∧ I 137 2 ≤ 4 := by omega
  have eJ := zSa_e (zKe_S hπ hk) e
  have ciJ := zSa_I (zKe_S hπ hk) ci
  have j4 : zKe I π 4 = I 4 := zKe_lt hπ hk (by decide)
  have j2 : zKe I π 2 = I 2 := zKe_lt hπ hk (by decide)
  have j9 : zKe I π 9 = I 9 := zKe_lt hπ hk (by decide)
  have j137 : zKe I π 137 = I 137 := zKe_gt hπ hk (by decide)
  have j138 : zKe I π 138 = I 138 := zKe_gt hπ hk (by decide)
  by_cases hq : ¬ I 2 9 = -1 ∧ I 9 2 = 0
  case neg => exact zGo_s s (m_row0 hm hq) (m_Rrow0 (by rw [e.2.2.1.1]; exact hm) (by rw [e.2.2.1.1, e.1.2.2.2.2.1]; exact hq))
  have wJ : zW1 ((zKe I π) 2) := ciJ.1.1
  have vJ : zW2 ((zKe I π) 2) ((zKe I π) 6) ((zKe I π) 8) := ciJ.1.2.1
  have hX0 := zRw_X (D := D) wJ vJ rfl
  have ciR := zRwX_I ciJ
  have ciK : zCI (zX (zRw (zFI (zKe I π) D (-1) 0) (zFX (zX (zKe I π) 2)).2.1) 2) := zSa_I (zSa_s (zSa_of hX0)) ciR
  have k9 : (zRw (zFI (zKe I π) D (-1) 0) (zFX (zX (zKe I π) 2)).2.1) 2 = (zKe I π) 2 := hX0 0 (by decide)
  obtain ⟨I1, hend, hr1, hX⟩ := m_cend (π := zkr π (I 25 1)) (D := zFDR (zKe I π) D (-1) 0) ciK (by rw [k9, j2]; exact hq.1)
  have en : (zRw (zFI (zKe I π) D (-1) 0) (zFX (zX (zKe I π) 2)).2.1) 9 2 = (zFX (zX (zKe I π) 2)).2.1 := rfl
  rw [en] at hend hX
  have ef : (zFI (zKe I π) D (-1) 0) 119 2 = (zFX (zX (zKe I π) 2)).2.1 := (zFR_X (D := D) wJ vJ).1
  have h1 := m_row1 (π := π) (D := D) hq w v hsp hπ hk rfl (by rw [ef]; exact hend)
  have ag := zFI_agr (I := (zKe I π)) (D := D) (c := -1) (v := 0)
  have rR : ∀ r, 25 ≤ r → r ≠ 119 → r ≠ 121 → r ≠ 123 → r ≠ 126 → r ≠ 128 → I1 r = (zKe I π) r := fun r hr a1 a2 a3 a4 a5 => by
    rw [hr1 r hr]
    funext j
    unfold zRw
    rw [if_neg (by omega), if_neg (by omega), if_neg (by omega), ag r a1 a2 a3 a4 a5]
  have r137 := rR 137 (by decide) (by decide) (by decide) (by decide) (by decide) (by decide)
  have r138 := rR 138 (by decide) (by decide) (by decide) (by decide) (by decide) (by decide)
  obtain ⟨J1, K, E, h, hR, hKf, hKe⟩ := m_Rrow1 (I := I1) (π := zkr π (I 25 1)) (D := zFDR (zKe I π) D (-1) 0) (X := zX (zKe I π) 2) (by rw [r138, j138]; exact eJ) ciJ (by rw [r137, j137]; exact hkm) (by show ¬ (zKe I π) 2 9 = -1 ∧ (zKe I π) 9 2 = 0; rw [j2, j9]; exact hq)
  have gS := zSa_of (zFnX_S (zERX_S hX0 (zFX (zX (zKe I π) 2)).2.1.toNat))
  refine zGo_w s h1 ⟨fun r r0 r1 => rR r r0 (by omega) (by omega) (by omega) (by omega) (by omega), ?_, ?_, ?_⟩ h zMk_r hR hKf (by rw [hX]; exact zSa_e (zSa_s gS) hKe) (by rw [hX]; exact zSa_I (zSa_s gS) (zCI_fin ciR (by rw [zRwX_o (by decide)]; show ¬ (zKe I π) 2 9 = -1; rw [j2]; exact hq.1)))
  · rw [rR 136 (by decide) (by decide) (by decide) (by decide) (by decide) (by decide), zKe_gt hπ hk (by decide)]
  · rw [rR 129 (by decide) (by decide) (by decide) (by decide) (by decide) (by decide), zKe_gt hπ hk (by decide)]
  · intro r hr
    rw [rR r (by omega) (by omega) (by omega) (by omega) (by omega) (by omega), zKe_gt hπ hk (by omega)]
