theorem op_count {I : zI} {π : Int → Nat} {D : zD} (s : zSim I π) (a : Int) : zGo 69 109 [vi a] I π D := by
  have e := s.1.1
  have ci := s.1.2
  have w : zW1 (I 2) := ci.1.1
  have v : zW2 (I 2) (I 6) (I 8) := ci.1.2.1
  have hsp1 : ∀ c, 0 ≤ c → c < I 2 5 → 1 ≤ I 4 c ∧ I 4 c ≤ 1000 := ci.1.2.2.1
  have hsp : ∀ c, 0 ≤ c → c < I 2 5 → 0 ≤ I 4 c ∧ I 4 c ≤ 1000 := fun c c0 c1 => by have := hsp1 c c0 c1; omega
  have hd : zDis (I 2) (I 6) (I 9 2) (I 11) (I 13) := ci.2.2
  have hm : 0 ≤ I 9 2 := ci.2.1
  have hdl := zdis_le w v hd hm
  have hM : 0 ≤ I 9 2 ∧ I 9 2 ≤ 4 := ⟨hm, hdl.2⟩
  have hlb := zlb_b w
  have hl0 : 0 ≤ I 14 4 ∧ I 14 4 ≤ zlb (I 2) := ci.1.2.2.2.1.1
  have hl : 0 ≤ I 14 4 ∧ I 14 4 ≤ 96 := by omega
  have hN := w.1
  have hO := w.2.2.2.1
  have hT := w.2.2.1
  have hk := s.2.1.1
  have hk2 := s.2.1.2
  have hπ := s.2.2.1
  have htx := s.2.2.2.2.2
  by_cases hx : a < 0 ∨ 12 < a
  · obtain ⟨J, h, hmk⟩ := m_Rcountx (π := π) (D := D) e ci hx
    exact zGo_m s (m_countx hx) h hmk
  rcases (show a = 0 ∨ a = 1 ∨ a = 2 ∨ a = 3 ∨ a = 4 ∨ a = 5 ∨ a = 6 ∨ a = 7 ∨ a = 8 ∨ a = 9 ∨ a = 10 ∨ a = 11 ∨ a = 12 by omega) with h9 | h9 | h9 | h9 | h9 | h9 | h9 | h9 | h9 | h9 | h9 | h9 | h9
  · subst h9
    obtain ⟨J, h, hmk⟩ := m_Rcount0 (π := π) (D := D) e ci
    exact zGo_m s (m_count0) h hmk
  · subst h9
    obtain ⟨J, h, hmk⟩ := m_Rcount1 (π := π) (D := D) e ci
    exact zGo_m s (m_count1) h hmk
  · subst h9
    obtain ⟨J, h, hmk⟩ := m_Rcount2 (π := π) (D := D) e ci
    exact zGo_m s (m_count2 w) h hmk
  · subst h9
    obtain ⟨J, h, hmk⟩ := m_Rcount3 (π := π) (D := D) e ci
    exact zGo_m s (m_count3) h hmk
  · subst h9
    obtain ⟨J, h, hmk⟩ := m_Rcount4 (π := π) (D := D) e ci
    exact zGo_m s (m_count4) h hmk
  · subst h9
    obtain ⟨J, h, hmk⟩ := m_Rcount5 (π := π) (D := D) e ci
    exact zGo_m s (m_count5 w) h hmk
  · subst h9
    obtain ⟨J, h, hmk⟩ := m_Rcount6 (π := π) (D := D) e ci
    exact zGo_m s (m_count6 w) h hmk
  · subst h9
    obtain ⟨J, h, hmk⟩ := m_Rcount7 (π := π) (D := D) e ci
    exact zGo_m s (m_count7 w) h hmk
  · subst h9
    obtain ⟨J, h, hmk⟩ := m_Rcount8 (π := π) (D := D) e ci
    exact zGo_m s (m_count8) h hmk
  · subst h9
    obtain ⟨J, h, hmk⟩ := m_Rcount9 (π := π) (D := D) e ci
    exact zGo_m s (m_count9) h hmk
  · subst h9
    obtain ⟨J, h, hmk⟩ := m_Rcount10 (π := π) (D := D) e ci
    rw [hk2] at h
    exact zGo_m s (m_count10) h hmk
  · subst h9
    obtain ⟨J, h, hmk⟩ := m_Rcount11 (π := π) (D := D) e ci
    rw [htx.2.1] at h
    exact zGo_m s (m_count11) h hmk
  · subst h9
    obtain ⟨J, h, hmk⟩ := m_Rcount12 (π := π) (D := D) e ci
    exact zGo_m s (m_count12) h hmk
theorem op_crew {I : zI} {π : Int → Nat} {D : zD} (s : zSim I π) (c a : Int) : zGo 70 112 [vi c, vi a] I π D := by
  have e := s.1.1
  have ci := s.1.2
  have w : zW1 (I 2) := ci.1.1
  have v : zW2 (I 2) (I 6) (I 8) := ci.1.2.1
  have hsp1 : ∀ c, 0 ≤ c → c < I 2 5 → 1 ≤ I 4 c ∧ I 4 c ≤ 1000 := ci.1.2.2.1
  have hsp : ∀ c, 0 ≤ c → c < I 2 5 → 0 ≤ I 4 c ∧ I 4 c ≤ 1000 := fun c c0 c1 => by have := hsp1 c c0 c1; omega
  have hd : zDis (I 2) (I 6) (I 9 2) (I 11) (I 13) := ci.2.2
  have hm : 0 ≤ I 9 2 := ci.2.1
  have hdl := zdis_le w v hd hm
  have hM : 0 ≤ I 9 2 ∧ I 9 2 ≤ 4 := ⟨hm, hdl.2⟩
  have hlb := zlb_b w
  have hl0 : 0 ≤ I 14 4 ∧ I 14 4 ≤ zlb (I 2) := ci.1.2.2.2.1.1
  have hl : 0 ≤ I 14 4 ∧ I 14 4 ≤ 96 := by omega
  have hN := w.1
  have hO := w.2.2.2.1
  have hT := w.2.2.1
  have hk := s.2.1.1
  have hk2 := s.2.1.2
  have hπ := s.2.2.1
  have htx := s.2.2.2.2.2
  by_cases hx : (0 ≤ c ∧ c < I 2 5) ∧ (0 ≤ a ∧ a ≤ 9)
  case neg =>
    refine zGo_s (res := -1001) s ?_ (m_Rcrew0 e ci hx)
    by_cases hc : 0 ≤ c ∧ c < I 2 5
    · exact m_crewx hc (by omega)
    · exact m_crew0 hc
  obtain ⟨hq, ha⟩ := hx
  rcases (show a = 0 ∨ a = 1 ∨ a = 2 ∨ a = 3 ∨ a = 4 ∨ a = 5 ∨ a = 6 ∨ a = 7 ∨ a = 8 ∨ a = 9 by omega) with h9 | h9 | h9 | h9 | h9 | h9 | h9 | h9 | h9 | h9
  · subst h9
    obtain ⟨J, h, hmk⟩ := m_Rcrew_0 (π := π) (D := D) e ci hq
    exact zGo_m s (m_crew_0 hq w) h hmk
  · subst h9
    obtain ⟨J, h, hmk⟩ := m_Rcrew_1 (π := π) (D := D) e ci hq
    exact zGo_m s (m_crew_1 hq w) h hmk
  · subst h9
    obtain ⟨J, h, hmk⟩ := m_Rcrew_2 (π := π) (D := D) e ci hq
    exact zGo_m s (m_crew_2 hq w v) h hmk
  · subst h9
    by_cases hs : zIs (I 2) (I 6) c
    · obtain ⟨J, h, hmk⟩ := m_Rcrew_3s (π := π) (D := D) e ci hq hs
      exact zGo_m s (m_crew_3s hq w v hs) h hmk
    · obtain ⟨J, h, hmk⟩ := m_Rcrew_3n (π := π) (D := D) e ci hq hs
      exact zGo_m s (m_crew_3n hq w v hs) h hmk
  · subst h9
    by_cases hs : zIs (I 2) (I 6) c
    · by_cases ho : zOut (I 9 2) (I 11) (I 13) c
      · obtain ⟨J, h, hmk⟩ := m_Rcrew_4o (π := π) (D := D) e ci hq hs ho
        exact zGo_m s (m_crew_4o hq w v hM hs ho) h hmk
      · obtain ⟨J, h, hmk⟩ := m_Rcrew_4i (π := π) (D := D) e ci hq hs ho
        exact zGo_m s (m_crew_4i hq w v hM hs ho) h hmk
    · obtain ⟨J, h, hmk⟩ := m_Rcrew_4n (π := π) (D := D) e ci hq hs
      exact zGo_m s (m_crew_4n hq w v hs) h hmk
  · subst h9
    obtain ⟨J, h, hmk⟩ := m_Rcrew_5 (π := π) (D := D) e ci hq
    exact zGo_m s (m_crew_5 hq w) h hmk
  · subst h9
    obtain ⟨J, h, hmk⟩ := m_Rcrew_6 (π := π) (D := D) e ci hq
    exact zGo_m s (m_crew_6 hq w) h hmk
  · subst h9
    obtain ⟨J, h, hmk⟩ := m_Rcrew_7 (π := π) (D := D) e ci hq
    exact zGo_m s (m_crew_7 hq w) h hmk
  · subst h9
    obtain ⟨J, h, hmk⟩ := m_Rcrew_8 (π := π) (D := D) e ci hq
    exact zGo_m s (m_crew_8 hq w hl) h hmk
  · subst h9
    obtain ⟨J, h, hmk⟩ := m_Rcrew_9 (π := π) (D := D) e ci hq
    exact zGo_m s (m_crew_9 hq w hl) h hmk
theorem op_at {I : zI} {π : Int → Nat} {D : zD} (s : zSim I π) (q : Int) : zGo 72 113 [vi q] I π D := by
  have e := s.1.1
  have ci := s.1.2
  have w : zW1 (I 2) := ci.1.1
  have v : zW2 (I 2) (I 6) (I 8) := ci.1.2.1
  have hsp1 : ∀ c, 0 ≤ c → c < I 2 5 → 1 ≤ I 4 c ∧ I 4 c ≤ 1000 := ci.1.2.2.1
  have hsp : ∀ c, 0 ≤ c → c < I 2 5 → 0 ≤ I 4 c ∧ I 4 c ≤ 1000 := fun c c0 c1 => by have := hsp1 c c0 c1; omega
  have hd : zDis (I 2) (I 6) (I 9 2) (I 11) (I 13) := ci.2.2
  have hm : 0 ≤ I 9 2 := ci.2.1
  have hdl := zdis_le w v hd hm
  have hM : 0 ≤ I 9 2 ∧ I 9 2 ≤ 4 := ⟨hm, hdl.2⟩
  have hlb := zlb_b w
  have hl0 : 0 ≤ I 14 4 ∧ I 14 4 ≤ zlb (I 2) := ci.1.2.2.2.1.1
  have hl : 0 ≤ I 14 4 ∧ I 14 4 ≤ 96 := by omega
  have hN := w.1
  have hO := w.2.2.2.1
  have hT := w.2.2.1
  have hk := s.2.1.1
  have hk2 := s.2.1.2
  have hπ := s.2.2.1
  have htx := s.2.2.2.2.2
  by_cases hq : 0 ≤ q ∧ q < I 2 5
  · exact zGo_s s (m_at1 hq w) (m_Rat1 e ci hq)
  · exact zGo_s s (m_at0 hq) (m_Rat0 e ci hq)
theorem op_starter {I : zI} {π : Int → Nat} {D : zD} (s : zSim I π) (q : Int) : zGo 73 114 [vi q] I π D := by
  have e := s.1.1
  have ci := s.1.2
  have w : zW1 (I 2) := ci.1.1
  have v : zW2 (I 2) (I 6) (I 8) := ci.1.2.1
  have hsp1 : ∀ c, 0 ≤ c → c < I 2 5 → 1 ≤ I 4 c ∧ I 4 c ≤ 1000 := ci.1.2.2.1
  have hsp : ∀ c, 0 ≤ c → c < I 2 5 → 0 ≤ I 4 c ∧ I 4 c ≤ 1000 := fun c c0 c1 => by have := hsp1 c c0 c1; omega
  have hd : zDis (I 2) (I 6) (I 9 2) (I 11) (I 13) := ci.2.2
  have hm : 0 ≤ I 9 2 := ci.2.1
  have hdl := zdis_le w v hd hm
  have hM : 0 ≤ I 9 2 ∧ I 9 2 ≤ 4 := ⟨hm, hdl.2⟩
  have hlb := zlb_b w
  have hl0 : 0 ≤ I 14 4 ∧ I 14 4 ≤ zlb (I 2) := ci.1.2.2.2.1.1
  have hl : 0 ≤ I 14 4 ∧ I 14 4 ≤ 96 := by omega
  have hN := w.1
  have hO := w.2.2.2.1
  have hT := w.2.2.1
  have hk := s.2.1.1
  have hk2 := s.2.1.2
  have hπ := s.2.2.1
  have htx := s.2.2.2.2.2
  by_cases hq : q < 0
  · exact zGo_s s (m_starterx hq) (m_Rstarterx hq)
  by_cases h2 : q < zns (I 2)
  · obtain ⟨J, h, hmk⟩ := m_Rstarter1 (π := π) (D := D) e ci (by omega) h2
    exact zGo_m s (m_starter1 w (by omega) h2) h hmk
  · obtain ⟨J, h, hmk⟩ := m_Rstarter0 (π := π) (D := D) e ci (q := q) (by omega) (show zns (I 2) ≤ q by omega)
    exact zGo_m s (m_starter0 w (by omega) (by omega)) h hmk
theorem op_why {I : zI} {π : Int → Nat} {D : zD} (s : zSim I π) (a b : Int) : zGo 75 116 [vi a, vi b] I π D := by
  have e := s.1.1
  have ci := s.1.2
  have w : zW1 (I 2) := ci.1.1
  have v : zW2 (I 2) (I 6) (I 8) := ci.1.2.1
  have hsp1 : ∀ c, 0 ≤ c → c < I 2 5 → 1 ≤ I 4 c ∧ I 4 c ≤ 1000 := ci.1.2.2.1
  have hsp : ∀ c, 0 ≤ c → c < I 2 5 → 0 ≤ I 4 c ∧ I 4 c ≤ 1000 := fun c c0 c1 => by have := hsp1 c c0 c1; omega
  have hd : zDis (I 2) (I 6) (I 9 2) (I 11) (I 13) := ci.2.2
  have hm : 0 ≤ I 9 2 := ci.2.1
  have hdl := zdis_le w v hd hm
  have hM : 0 ≤ I 9 2 ∧ I 9 2 ≤ 4 := ⟨hm, hdl.2⟩
  have hlb := zlb_b w
  have hl0 : 0 ≤ I 14 4 ∧ I 14 4 ≤ zlb (I 2) := ci.1.2.2.2.1.1
  have hl : 0 ≤ I 14 4 ∧ I 14 4 ≤ 96 := by omega
  have hN := w.1
  have hO := w.2.2.2.1
  have hT := w.2.2.1
  have hk := s.2.1.1
  have hk2 := s.2.1.2
  have hπ := s.2.2.1
  have htx := s.2.2.2.2.2
  by_cases hq : (0 ≤ a ∧ a < I 2 5) ∧ (0 ≤ b ∧ b < I 2 5)
  · obtain ⟨res, hz, h1⟩ := m_why (π := π) (D := D) hq w v hM
    obtain ⟨J, h, hmk⟩ := m_Rwhy (π := π) (D := D) e ci hq hz
    exact zGo_m s h1 h hmk
  · exact zGo_s s (m_whyx hq) (m_Rwhyx e ci hq)
theorem op_bumped {I : zI} {π : Int → Nat} {D : zD} (s : zSim I π) (k a : Int) : zGo 76 117 [vi k, vi a] I π D := by
  have e := s.1.1
  have ci := s.1.2
  have w : zW1 (I 2) := ci.1.1
  have v : zW2 (I 2) (I 6) (I 8) := ci.1.2.1
  have hsp1 : ∀ c, 0 ≤ c → c < I 2 5 → 1 ≤ I 4 c ∧ I 4 c ≤ 1000 := ci.1.2.2.1
  have hsp : ∀ c, 0 ≤ c → c < I 2 5 → 0 ≤ I 4 c ∧ I 4 c ≤ 1000 := fun c c0 c1 => by have := hsp1 c c0 c1; omega
  have hd : zDis (I 2) (I 6) (I 9 2) (I 11) (I 13) := ci.2.2
  have hm : 0 ≤ I 9 2 := ci.2.1
  have hdl := zdis_le w v hd hm
  have hM : 0 ≤ I 9 2 ∧ I 9 2 ≤ 4 := ⟨hm, hdl.2⟩
  have hlb := zlb_b w
  have hl0 : 0 ≤ I 14 4 ∧ I 14 4 ≤ zlb (I 2) := ci.1.2.2.2.1.1
  have hl : 0 ≤ I 14 4 ∧ I 14 4 ≤ 96 := by omega
  have hN := w.1
  have hO := w.2.2.2.1
  have hT := w.2.2.1
  have hk := s.2.1.1
  have hk2 := s.2.1.2
  have hπ := s.2.2.1
  have htx := s.2.2.2.2.2
  by_cases hq : (0 ≤ k ∧ k < I 9 2) ∧ (0 ≤ a ∧ a ≤ 2)
  case neg =>
    refine zGo_s (res := -1001) s ?_ (m_Rbumpedx e ci hq)
    by_cases hc : 0 ≤ k ∧ k < I 9 2
    · exact m_bumpedy hc (by omega)
    · exact m_bumpedx hc
  obtain ⟨hq, ha⟩ := hq
  have dk := hd k hq.1 hq.2
  have v1 := v.1 _ dk.1.1.1 dk.1.1.2
  have v2 := v.1 _ dk.2.1.1.1 dk.2.1.1.2
  have u1 := dk.1.1
  have u2 := dk.2.1.1
  rcases (show a = 0 ∨ a = 1 ∨ a = 2 by omega) with h9 | h9 | h9
  · subst h9; exact zGo_s s (m_bumped0 hq hM) (m_Rbumped0 e ci hq)
  · subst h9; exact zGo_s s (m_bumped1 hq hM) (m_Rbumped1 e ci hq)
  · subst h9; exact zGo_s s (m_bumped2 hq hM (by omega) (by omega) (by omega) (by omega)) (m_Rbumped2 e ci hq)
theorem op_place {I : zI} {π : Int → Nat} {D : zD} (s : zSim I π) (c d : Int) : zGo 85 129 [vi c, vi d] I π D := by
  have e := s.1.1
  have ci := s.1.2
  have w : zW1 (I 2) := ci.1.1
  have v : zW2 (I 2) (I 6) (I 8) := ci.1.2.1
  have hsp1 : ∀ c, 0 ≤ c → c < I 2 5 → 1 ≤ I 4 c ∧ I 4 c ≤ 1000 := ci.1.2.2.1
  have hsp : ∀ c, 0 ≤ c → c < I 2 5 → 0 ≤ I 4 c ∧ I 4 c ≤ 1000 := fun c c0 c1 => by have := hsp1 c c0 c1; omega
  have hd : zDis (I 2) (I 6) (I 9 2) (I 11) (I 13) := ci.2.2
  have hm : 0 ≤ I 9 2 := ci.2.1
  have hdl := zdis_le w v hd hm
  have hM : 0 ≤ I 9 2 ∧ I 9 2 ≤ 4 := ⟨hm, hdl.2⟩
  have hlb := zlb_b w
  have hl0 : 0 ≤ I 14 4 ∧ I 14 4 ≤ zlb (I 2) := ci.1.2.2.2.1.1
  have hl : 0 ≤ I 14 4 ∧ I 14 4 ≤ 96 := by omega
  have hN := w.1
  have hO := w.2.2.2.1
  have hT := w.2.2.1
  have hk := s.2.1.1
  have hk2 := s.2.1.2
  have hπ := s.2.2.1
  have htx := s.2.2.2.2.2
  by_cases hq : (0 ≤ c ∧ c < I 2 5) ∧ (0 ≤ d ∧ d ≤ I 2 8)
  · exact zGo_s s (m_place1 hq w) (m_Rplace1 e ci hq)
  · exact zGo_s s (m_placex hq) (m_Rplacex e ci hq)
theorem op_again {I : zI} {π : Int → Nat} {D : zD} (s : zSim I π) (c d : Int) : zGo 86 130 [vi c, vi d] I π D := by
  have e := s.1.1
  have ci := s.1.2
  have w : zW1 (I 2) := ci.1.1
  have v : zW2 (I 2) (I 6) (I 8) := ci.1.2.1
  have hsp1 : ∀ c, 0 ≤ c → c < I 2 5 → 1 ≤ I 4 c ∧ I 4 c ≤ 1000 := ci.1.2.2.1
  have hsp : ∀ c, 0 ≤ c → c < I 2 5 → 0 ≤ I 4 c ∧ I 4 c ≤ 1000 := fun c c0 c1 => by have := hsp1 c c0 c1; omega
  have hd : zDis (I 2) (I 6) (I 9 2) (I 11) (I 13) := ci.2.2
  have hm : 0 ≤ I 9 2 := ci.2.1
  have hdl := zdis_le w v hd hm
  have hM : 0 ≤ I 9 2 ∧ I 9 2 ≤ 4 := ⟨hm, hdl.2⟩
  have hlb := zlb_b w
  have hl0 : 0 ≤ I 14 4 ∧ I 14 4 ≤ zlb (I 2) := ci.1.2.2.2.1.1
  have hl : 0 ≤ I 14 4 ∧ I 14 4 ≤ 96 := by omega
  have hN := w.1
  have hO := w.2.2.2.1
  have hT := w.2.2.1
  have hk := s.2.1.1
  have hk2 := s.2.1.2
  have hπ := s.2.2.1
  have htx := s.2.2.2.2.2
  by_cases hq : (0 ≤ c ∧ c < I 2 5) ∧ (0 ≤ d ∧ d ≤ I 2 8)
  case neg => exact zGo_s s (m_againx hq) (m_Ragainx e ci hq)
  have hlg : ∀ k, 0 ≤ k → k < I 14 4 → (0 ≤ I 18 k ∧ I 18 k < I 2 5) ∧ (0 ≤ I 20 k ∧ I 20 k < I 2 5) ∧ ¬ I 18 k = I 20 k ∧ I 22 k = zsw (I 18) (I 20) k.toNat (I 18 k) - zsw (I 18) (I 20) k.toNat (I 20 k) := ci.1.2.2.2.1.2.1
  obtain ⟨j, j0, j1, j2, j3⟩ := zstop (f := I 16) (d := d) (I 14 4).toNat
  have ej : (((I 14 4).toNat : Nat) : Int) = I 14 4 := by omega
  rw [ej] at j1 j3
  have key : ∀ m : Nat, (m : Int) ≤ I 14 4 → zfol (I 18) (I 20) (I 22) c m = zsw (I 18) (I 20) m c := fun m hm9 => zfol_sw (N := I 2 5) m (fun k k0 k1 => (hlg k k0 (by omega)).2.2)
  have h1 := m_again1 (π := π) (D := D) hq hl j0 j2 j3 (fun m hm9 => by
    rw [key m hm9]
    have := zsw_in (u := I 18) (d := I 20) (N := I 2 5) m (fun k k0 k1 => ⟨(hlg k k0 (by omega)).1, (hlg k k0 (by omega)).2.1⟩) c hq.1.1 hq.1.2
    omega)
  rw [key j.toNat (by omega)] at h1
  obtain ⟨J, h, hmk⟩ := m_Ragain1 (π := π) (D := D) (s := j) e ci hq.1 ⟨j0, j1⟩ j2 j3 hq.2
  exact zGo_m s h1 h hmk
theorem zbst_best {ri Q Pl : Int → Int} {N : Int} (hv : ∀ q, 0 ≤ q → q < N → 0 ≤ Q q ∧ Q q < N ∧ Pl (Q q) = q) : ∀ n : Nat, 0 < n → (n : Int) ≤ N → (0 ≤ zbst ri Q n ∧ zbst ri Q n < N) ∧ (∃ q : Int, 0 ≤ q ∧ q < n ∧ zbst ri Q n = Q q) ∧ ∀ q, 0 ≤ q → q < (n : Int) → (ri (Q q) < ri (zbst ri Q n) ∨ (ri (Q q) = ri (zbst ri Q n) ∧ Pl (zbst ri Q n) ≤ q))
  | 0, h, _ => absurd h (by omega)
  | n + 1, _, hn => by
    unfold zbst
    by_cases h0 : n = 0
    · subst h0
      rw [if_pos rfl]
      have := hv 0 (by omega) (by omega)
      refine ⟨⟨this.1, this.2.1⟩, ⟨0, by omega, by omega, rfl⟩, fun q q0 q1 => ?_⟩
      have e : q = 0 := by omega
      subst e
      exact Or.inr ⟨rfl, by omega⟩
    · rw [if_neg h0]
      obtain ⟨i1, ⟨p, p0, p1, p2⟩, i3⟩ := zbst_best (ri := ri) hv n (by omega) (by omega)
      have hvn := hv n (by omega) (by omega)
      by_cases h1 : ri (zbst ri Q n) < ri (Q n)
      · rw [if_pos h1]
        refine ⟨⟨hvn.1, hvn.2.1⟩, ⟨n, by omega, by omega, rfl⟩, fun q q0 q1 => ?_⟩
        by_cases e : q = n
        · subst e; exact Or.inr ⟨rfl, by omega⟩
        · have := i3 q q0 (by omega)
          exact Or.inl (by omega)
      · rw [if_neg h1]
        refine ⟨i1, ⟨p, p0, by omega, p2⟩, fun q q0 q1 => ?_⟩
        by_cases e : q = n
        · subst e
          have hvp := hv p p0 (by omega)
          rw [p2]
          rw [p2] at h1
          rcases Int.lt_or_eq_of_le (Int.not_lt.mp h1) with h2 | h2
          · exact Or.inl h2
          · exact Or.inr ⟨h2, by omega⟩
        · exact i3 q q0 (by omega)
theorem op_bestRise {I : zI} {π : Int → Nat} {D : zD} (s : zSim I π)  : zGo 87 131 [] I π D := by
  have e := s.1.1
  have ci := s.1.2
  have w : zW1 (I 2) := ci.1.1
  have v : zW2 (I 2) (I 6) (I 8) := ci.1.2.1
  have hsp1 : ∀ c, 0 ≤ c → c < I 2 5 → 1 ≤ I 4 c ∧ I 4 c ≤ 1000 := ci.1.2.2.1
  have hsp : ∀ c, 0 ≤ c → c < I 2 5 → 0 ≤ I 4 c ∧ I 4 c ≤ 1000 := fun c c0 c1 => by have := hsp1 c c0 c1; omega
  have hd : zDis (I 2) (I 6) (I 9 2) (I 11) (I 13) := ci.2.2
  have hm : 0 ≤ I 9 2 := ci.2.1
  have hdl := zdis_le w v hd hm
  have hM : 0 ≤ I 9 2 ∧ I 9 2 ≤ 4 := ⟨hm, hdl.2⟩
  have hlb := zlb_b w
  have hl0 : 0 ≤ I 14 4 ∧ I 14 4 ≤ zlb (I 2) := ci.1.2.2.2.1.1
  have hl : 0 ≤ I 14 4 ∧ I 14 4 ≤ 96 := by omega
  have hN := w.1
  have hO := w.2.2.2.1
  have hT := w.2.2.1
  have hk := s.2.1.1
  have hk2 := s.2.1.2
  have hπ := s.2.2.1
  have htx := s.2.2.2.2.2
  by_cases hq : I 2 8 = 0
  · exact zGo_s s (m_bestRise0 (by omega)) (m_RbestRise0 (e.1.2.2.2.1.trans hq))
  have hpt : ∀ t c, 0 ≤ t → t ≤ I 2 8 → 0 ≤ c → c < I 2 5 → 0 ≤ I 24 (t * 24 + c) ∧ I 24 (t * 24 + c) < I 2 5 := ci.1.2.2.2.2.1
  have hp0 : ∀ c, 0 ≤ c → c < I 2 5 → I 24 (0 * 24 + c) = c := ci.1.2.2.2.2.2
  have h1 := m_bestRise1 (π := π) (D := D) (by omega) w v (fun d c d0 d1 c0 c1 => by have := hpt d c d0 d1 c0 c1; omega)
  obtain ⟨b1, -, b3⟩ := zbst_best (ri := fun c => I 24 (0 * 24 + c) - I 24 (I 2 8 * 24 + c)) (Q := I 8) (Pl := I 6) (N := I 2 5) v.2.1 (I 2 5).toNat (by omega) (by omega)
  generalize zbst (fun c => I 24 (0 * 24 + c) - I 24 (I 2 8 * 24 + c)) (I 8) (I 2 5).toNat = B at h1 b1 b3
  refine zGo_s s h1 (m_RbestRise1 (N := I 2 5) (O := I 2 8) (P := fun c => I 24 (I 2 8 * 24 + c)) (Q := I 6) e.1.1 e.1.2.2.2.1 (by omega) (by omega) (fun c c0 c1 => e.2.2.2.2 _ c (by omega) (Int.le_refl _) c0 c1) (fun c c0 c1 => ?_) (fun c c0 c1 => (e.2.1 c c0 c1).2) ⟨b1, fun c c0 c1 => ?_⟩ (fun c d c0 c1 d0 d1 h => ?_) (by omega))
  · have := hpt (I 2 8) c (by omega) (Int.le_refl _) c0 c1
    show 0 ≤ I 24 (I 2 8 * 24 + c) ∧ I 24 (I 2 8 * 24 + c) < 24
    omega
  · have vc := v.1 c c0 c1
    have h3 := b3 (I 6 c) vc.1 (by omega)
    rw [vc.2.2, hp0 c c0 c1, hp0 B b1.1 b1.2] at h3
    exact h3
  · have v1 := v.1 c c0 c1
    have v2 := v.1 d d0 d1
    rw [← v1.2.2, h, v2.2.2]
theorem op_distanceBits {I : zI} {π : Int → Nat} {D : zD} (s : zSim I π) (k t : Int) : zGo 82 126 [vi k, vi t] I π D := by
  have e := s.1.1
  have ci := s.1.2
  have w : zW1 (I 2) := ci.1.1
  have v : zW2 (I 2) (I 6) (I 8) := ci.1.2.1
  have hsp1 : ∀ c, 0 ≤ c → c < I 2 5 → 1 ≤ I 4 c ∧ I 4 c ≤ 1000 := ci.1.2.2.1
  have hsp : ∀ c, 0 ≤ c → c < I 2 5 → 0 ≤ I 4 c ∧ I 4 c ≤ 1000 := fun c c0 c1 => by have := hsp1 c c0 c1; omega
  have hd : zDis (I 2) (I 6) (I 9 2) (I 11) (I 13) := ci.2.2
  have hm : 0 ≤ I 9 2 := ci.2.1
  have hdl := zdis_le w v hd hm
  have hM : 0 ≤ I 9 2 ∧ I 9 2 ≤ 4 := ⟨hm, hdl.2⟩
  have hlb := zlb_b w
  have hl0 : 0 ≤ I 14 4 ∧ I 14 4 ≤ zlb (I 2) := ci.1.2.2.2.1.1
  have hl : 0 ≤ I 14 4 ∧ I 14 4 ≤ 96 := by omega
  have hN := w.1
  have hO := w.2.2.2.1
  have hT := w.2.2.1
  have hk := s.2.1.1
  have hk2 := s.2.1.2
  have hπ := s.2.2.1
  have htx := s.2.2.2.2.2
  by_cases hq : 1 ≤ k ∧ 0 ≤ t ∧ t ≤ 1000
  case neg => exact zGo_s s (m_distx hq) (m_Rdistx hq)
  by_cases h2 : k < zns (I 2)
  · obtain ⟨J, h, hmk⟩ := m_Rdist1 (π := π) (D := D) e ci hq h2
    exact zGo_m s (m_dist1 w v hsp hq h2) h hmk
  · obtain ⟨J, h, hmk⟩ := m_Rdistn (π := π) (D := D) e ci hq (show zns (I 2) ≤ k by omega)
    exact zGo_m s (m_distn w hq (by omega)) h hmk
theorem zFI_Kp {I : zI} {D : zD} {c v : Int} : zKp (zFI I D c v) I := by
  have h := zFI_agr (I := I) (D := D) (c := c) (v := v)
  exact ⟨fun r hr => h r (by omega) (by omega) (by omega) (by omega) (by omega), h 136 (by decide) (by decide) (by decide) (by decide) (by decide), by rw [h 129 (by decide) (by decide) (by decide) (by decide) (by decide)], h 138 (by decide) (by decide) (by decide) (by decide) (by decide), h 139 (by decide) (by decide) (by decide) (by decide) (by decide), h 140 (by decide) (by decide) (by decide) (by decide) (by decide), by rw [h 137 (by decide) (by decide) (by decide) (by decide) (by decide)], by rw [h 137 (by decide) (by decide) (by decide) (by decide) (by decide)]⟩
theorem zagr_Kp {I J : zI} (h : zagr J I) : zKp J I :=
  ⟨fun r hr => h r (by omega) (by omega) (by omega) (by omega) (by omega), h 136 (by decide) (by decide) (by decide) (by decide) (by decide), by rw [h 129 (by decide) (by decide) (by decide) (by decide) (by decide)], h 138 (by decide) (by decide) (by decide) (by decide) (by decide), h 139 (by decide) (by decide) (by decide) (by decide) (by decide), h 140 (by decide) (by decide) (by decide) (by decide) (by decide), by rw [h 137 (by decide) (by decide) (by decide) (by decide) (by decide)], by rw [h 137 (by decide) (by decide) (by decide) (by decide) (by decide)]⟩
theorem zFR_X {I : zI} {D : zD} (w : zW1 (I 2)) (v : zW2 (I 2) (I 6) (I 8)) : (zFR I D (-1) 0).2.1 = (zFX (zX I 2)).2.1 ∧ ∀ j, 0 ≤ j → j < (zFX (zX I 2)).2.1 → (zFR I D (-1) 0).2.2.1 j = (zFX (zX I 2)).2.2.1 j ∧ (zFR I D (-1) 0).2.2.2.1 j = (zFX (zX I 2)).2.2.2.1 j ∧ (zFR I D (-1) 0).2.2.2.2 j = (zFX (zX I 2)).2.2.2.2 j := by
  have h := zFR_Fo (I := I) (D := D) (c := -1) (v := 0) w
  have hzb := zns_b w
  have g : zsam (zns (I 2)) (zFo (zns (I 2)) (zsp I (-1) 0) (I 2 10) (FP.i2d (Int32.ofInt (I 2 11)))) (zFX (zX I 2)) := by
    unfold zFX zFo
    refine zfi_cg hzb.1.1 (fun j a b => ?_) ⟨fun _ _ _ => rfl, rfl, Int.le_refl 0, fun j a b => absurd b (by show ¬ j < 0; omega)⟩ 4
    unfold zsp
    have := v.2.1 (I 2 9 * I 2 6 + j) (by omega) (by omega)
    rw [if_neg (by omega)]
    rfl
  refine ⟨h.2.1.trans g.2.1, fun j a b => ?_⟩
  have b2 : j < (zFo (zns (I 2)) (zsp I (-1) 0) (I 2 10) (FP.i2d (Int32.ofInt (I 2 11)))).2.1 := by rw [g.2.1]; exact b
  have b1 : j < (zFR I D (-1) 0).2.1 := by rw [h.2.1]; exact b2
  have x := h.2.2.2 j a b1
  have y := g.2.2.2 j a b2
  exact ⟨x.1.trans y.1, x.2.1.trans y.2.1, x.2.2.trans y.2.2⟩
theorem op_foretold {I : zI} {π : Int → Nat} {D : zD} (s : zSim I π) (k a : Int) : zGo 80 123 [vi k, vi a] I π D := by
  have e := s.1.1
  have ci := s.1.2
  have w : zW1 (I 2) := ci.1.1
  have v : zW2 (I 2) (I 6) (I 8) := ci.1.2.1
  have hsp1 : ∀ c, 0 ≤ c → c < I 2 5 → 1 ≤ I 4 c ∧ I 4 c ≤ 1000 := ci.1.2.2.1
  have hsp : ∀ c, 0 ≤ c → c < I 2 5 → 0 ≤ I 4 c ∧ I 4 c ≤ 1000 := fun c c0 c1 => by have := hsp1 c c0 c1; omega
  have hd : zDis (I 2) (I 6) (I 9 2) (I 11) (I 13) := ci.2.2
  have hm : 0 ≤ I 9 2 := ci.2.1
  have hdl := zdis_le w v hd hm
  have hM : 0 ≤ I 9 2 ∧ I 9 2 ≤ 4 := ⟨hm, hdl.2⟩
  have hlb := zlb_b w
  have hl0 : 0 ≤ I 14 4 ∧ I 14 4 ≤ zlb (I 2) := ci.1.2.2.2.1.1
  have hl : 0 ≤ I 14 4 ∧ I 14 4 ≤ 96 := by omega
  have hN := w.1
  have hO := w.2.2.2.1
  have hT := w.2.2.1
  have hk := s.2.1.1
  have hk2 := s.2.1.2
  have hπ := s.2.2.1
  have htx := s.2.2.2.2.2
  by_cases hq : 0 ≤ k ∧ 0 ≤ a ∧ a ≤ 2
  case neg => exact zGo_s s (m_foretoldx hq) (m_Rforetoldx hq)
  have e1 : zEq (zFI I D (-1) 0 138) (zX I 2) := by rw [zFI_Kp.2.2.2.1]; exact e
  obtain ⟨f1, f2⟩ := zFR_X (D := D) w v
  by_cases h2 : k < (zFX (zX I 2)).2.1
  case neg =>
    obtain ⟨J, E, h, hmk⟩ := m_Rforetoldn (I := zFI I D (-1) 0) (π := π) (D := zFDR I D (-1) 0) e1 ci hq (by omega)
    exact zGo_k s (m_foretoldn hq (by omega) w v hsp) zFI_Kp h hmk
  have hk9 : 0 ≤ k ∧ k < (zFR I D (-1) 0).2.1 := by omega
  have fk := f2 k hq.1 h2
  rcases (show a = 0 ∨ a = 1 ∨ a = 2 by omega) with h9 | h9 | h9
  · subst h9
    obtain ⟨J, E, h, hmk⟩ := m_Rforetold0 (I := zFI I D (-1) 0) (π := π) (D := zFDR I D (-1) 0) e1 ci ⟨hq.1, h2⟩
    rw [← fk.1] at h
    exact zGo_k s (m_foretold0 hk9 w v hsp) zFI_Kp h hmk
  · subst h9
    obtain ⟨J, E, h, hmk⟩ := m_Rforetold1 (I := zFI I D (-1) 0) (π := π) (D := zFDR I D (-1) 0) e1 ci ⟨hq.1, h2⟩
    rw [← fk.2.1] at h
    exact zGo_k s (m_foretold1 hk9 w v hsp) zFI_Kp h hmk
  · subst h9
    obtain ⟨J, E, h, hmk⟩ := m_Rforetold2 (I := zFI I D (-1) 0) (π := π) (D := zFDR I D (-1) 0) e1 ci ⟨hq.1, h2⟩
    obtain ⟨ta, tb, ta1, tb1, et⟩ := zFX_t (X := zX I 2) w v hsp1 k hq.1 h2
    have hok := (zfok_tm ta1 tb1).2
    rw [← et, ← fk.2.2] at hok
    rw [← fk.2.2] at h
    exact zGo_k s (m_foretold2 hk9 hok w v hsp) zFI_Kp h hmk
theorem zhu_hx {I : zI} {c nb s : Int} : zhu I c nb s ↔ zhx (zX I 2) c nb s := by
  unfold zhu zhx zFX
  have : zsp I c s = (fun j => zup (zX I 2) 2 c s 2 (zup (zX I 2) 2 c s 6 (zup (zX I 2) 2 c s 0 9 * zup (zX I 2) 2 c s 0 6 + j))) := by
    funext j
    rw [zup_at]
    rfl
  rw [this]
  exact Iff.rfl
theorem op_speedFor {I : zI} {π : Int → Nat} {D : zD} (s : zSim I π) (c : Int) : zGo 83 127 [vi c] I π D := by
  have e := s.1.1
  have ci := s.1.2
  have w : zW1 (I 2) := ci.1.1
  have v : zW2 (I 2) (I 6) (I 8) := ci.1.2.1
  have hsp1 : ∀ c, 0 ≤ c → c < I 2 5 → 1 ≤ I 4 c ∧ I 4 c ≤ 1000 := ci.1.2.2.1
  have hsp : ∀ c, 0 ≤ c → c < I 2 5 → 0 ≤ I 4 c ∧ I 4 c ≤ 1000 := fun c c0 c1 => by have := hsp1 c c0 c1; omega
  have hd : zDis (I 2) (I 6) (I 9 2) (I 11) (I 13) := ci.2.2
  have hm : 0 ≤ I 9 2 := ci.2.1
  have hdl := zdis_le w v hd hm
  have hM : 0 ≤ I 9 2 ∧ I 9 2 ≤ 4 := ⟨hm, hdl.2⟩
  have hlb := zlb_b w
  have hl0 : 0 ≤ I 14 4 ∧ I 14 4 ≤ zlb (I 2) := ci.1.2.2.2.1.1
  have hl : 0 ≤ I 14 4 ∧ I 14 4 ≤ 96 := by omega
  have hN := w.1
  have hO := w.2.2.2.1
  have hT := w.2.2.1
  have hk := s.2.1.1
  have hk2 := s.2.1.2
  have hπ := s.2.2.1
  have htx := s.2.2.2.2.2
  by_cases hq : 0 ≤ c ∧ c < I 2 5
  case neg => exact zGo_s s (m_speedForx hq) (m_RspeedForx e ci hq)
  by_cases hs : zIs (I 2) (I 6) c
  case neg =>
    obtain ⟨J, h, hmk⟩ := m_RspeedForn (π := π) (D := D) e ci hq hs
    exact zGo_m s (m_speedForn w v hsp hq hs) h hmk
  by_cases h1 : 1 ≤ I 6 c - I 2 9 * I 2 6
  · obtain ⟨res, I2, D2, ha, hz, hrun⟩ := m_speedFor1 (π := π) (D := D) w v hsp hq hs h1
    have hz2 : zSf (zhx (zX I 2) c (I 6 c - I 2 9 * I 2 6)) res := by
      unfold zSf at hz ⊢
      simpa only [zhu_hx] using hz
    have hkp := zagr_Kp ha
    obtain ⟨J, E, h, hmk⟩ := m_RspeedFor1 (I := I2) (π := π) (D := D2) (by rw [hkp.2.2.2.1]; exact e) ci hq hs hz2
    exact zGo_k s hrun hkp h hmk
  · have hz2 : zSf (zhx (zX I 2) c (I 6 c - I 2 9 * I 2 6)) (-1004) := Or.inr ⟨rfl, fun sp s0 s1 ⟨j, j0, j1, j2⟩ => by
      have hin := zFX_in (X := zup (zX I 2) 2 c sp) w
      have := hin.2 j j0 j1
      omega⟩
    obtain ⟨J, E, h, hmk⟩ := m_RspeedFor1 (π := π) (D := D) e ci hq hs hz2
    exact zGo_m s (m_speedForz w v hsp hq hs (by omega)) h hmk
theorem zTS_Kp {I : zI} {m : Int} {u d : Int → Int} {re c a b e f : Int} : zKp (zup (zTS I m u d re c a b e) 129 2 f) I := by
  have h : ∀ r, r ≠ 129 → r ≠ 130 → r ≠ 132 → r ≠ 134 → zup (zTS I m u d re c a b e) 129 2 f r = I r := by
    intro r h1 h2 h3 h4
    rw [zup_ne h1]
    funext j
    unfold zTS
    rw [if_neg h3, if_neg h4, if_neg (fun h => h2 h.1), if_neg (fun h => h1 h.1), if_neg (fun h => h1 h.1), if_neg (fun h => h1 h.1), if_neg (fun h => h1 h.1), if_neg (fun h => h1 h.1)]
  exact ⟨fun r hr => h r (by omega) (by omega) (by omega) (by omega), h 136 (by decide) (by decide) (by decide) (by decide), rfl, h 138 (by decide) (by decide) (by decide) (by decide), h 139 (by decide) (by decide) (by decide) (by decide), h 140 (by decide) (by decide) (by decide) (by decide), rfl, rfl⟩
theorem zsg_G {I J : zI} {l : Int} (hl : 0 ≤ l ∧ l ≤ 80) (ht : ∀ p, 0 ≤ p → p < 80 → 0 ≤ I 136 p ∧ I 136 p ≤ 126) (h : ∀ p, 0 ≤ p → p < l → J 140 p = I 136 p) : (∀ p, 0 ≤ p → p < l → J 140 p = zsg (I 136) l p) ∧ (∀ p, l ≤ p → zsg (I 136) l p = 0) ∧ ∀ p, 0 ≤ p → 0 ≤ zsg (I 136) l p ∧ zsg (I 136) l p ≤ 126 := by
  refine ⟨fun p p0 p1 => ?_, fun p p0 => ?_, fun p p0 => zsg_b hl.2 ht p0⟩
  · unfold zsg; rw [if_pos p1]; exact h p p0 p1
  · unfold zsg; rw [if_neg (by omega)]
theorem op_fault {I : zI} {π : Int → Nat} {D : zD} (s : zSim I π) (a : Int) : zGo 90 137 [vi a] I π D := by
  have e := s.1.1
  have ci := s.1.2
  have w : zW1 (I 2) := ci.1.1
  have v : zW2 (I 2) (I 6) (I 8) := ci.1.2.1
  have hsp1 : ∀ c, 0 ≤ c → c < I 2 5 → 1 ≤ I 4 c ∧ I 4 c ≤ 1000 := ci.1.2.2.1
  have hsp : ∀ c, 0 ≤ c → c < I 2 5 → 0 ≤ I 4 c ∧ I 4 c ≤ 1000 := fun c c0 c1 => by have := hsp1 c c0 c1; omega
  have hd : zDis (I 2) (I 6) (I 9 2) (I 11) (I 13) := ci.2.2
  have hm : 0 ≤ I 9 2 := ci.2.1
  have hdl := zdis_le w v hd hm
  have hM : 0 ≤ I 9 2 ∧ I 9 2 ≤ 4 := ⟨hm, hdl.2⟩
  have hlb := zlb_b w
  have hl0 : 0 ≤ I 14 4 ∧ I 14 4 ≤ zlb (I 2) := ci.1.2.2.2.1.1
  have hl : 0 ≤ I 14 4 ∧ I 14 4 ≤ 96 := by omega
  have hN := w.1
  have hO := w.2.2.2.1
  have hT := w.2.2.1
  have hk := s.2.1.1
  have hk2 := s.2.1.2
  have hπ := s.2.2.1
  have htx := s.2.2.2.2.2
  by_cases hq : 0 ≤ a ∧ a ≤ 1
  case neg => exact zGo_s s (m_faultx hq) (m_Rfaultx hq)
  rcases (show a = 0 ∨ a = 1 by omega) with h9 | h9
  · subst h9
    obtain ⟨q, a2, b2, e2, hck, hrun⟩ := m_fault0 (π := π) (D := D) w v htx.1 htx.2.2.1 hm hd
    have hqp := zCk_p 80 _ _ _ _ _ hck (by omega)
    have kp := zTS_Kp (I := I) (m := q.2.2.1) (u := q.2.2.2.1) (d := q.2.2.2.2.1) (re := q.1) (c := q.2.2.2.2.2) (a := a2) (b := b2) (e := e2) (f := q.2.1)
    have e1 : zEq (zup (zTS I q.2.2.1 q.2.2.2.1 q.2.2.2.2.1 q.1 q.2.2.2.2.2 a2 b2 e2) 129 2 q.2.1 138) (zX I 2) := by rw [kp.2.2.2.1]; exact e
    have hG := zsg_G (I := I) (J := zup (zTS I q.2.2.1 q.2.2.2.1 q.2.2.2.2.1 q.1 q.2.2.2.2.2 a2 b2 e2) 129 2 q.2.1) htx.1 htx.2.2.1 (by rw [kp.2.2.2.2.2.1]; exact htx.2.2.2)
    by_cases hz : q.1 = 0
    · obtain ⟨J, h, hmk⟩ := m_Rfault0z (π := π) (D := D) e1 ci hck (kp.2.2.2.2.2.2.2.trans htx.2.1) htx.1 hG hz
      rw [if_pos hz] at hrun
      exact zGo_k s hrun kp h hmk
    · obtain ⟨J, h, hmk⟩ := m_Rfault0n (π := π) (D := D) e1 ci hck (kp.2.2.2.2.2.2.2.trans htx.2.1) htx.1 hG hz hqp
      rw [if_neg hz] at hrun
      exact zGo_k s hrun kp h hmk
  · subst h9
    obtain ⟨q, a2, b2, e2, hck, hrun⟩ := m_fault1 (π := π) (D := D) w v htx.1 htx.2.2.1 hm hd
    have hqp := zCk_p 80 _ _ _ _ _ hck (by omega)
    have kp := zTS_Kp (I := I) (m := q.2.2.1) (u := q.2.2.2.1) (d := q.2.2.2.2.1) (re := q.1) (c := q.2.2.2.2.2) (a := a2) (b := b2) (e := e2) (f := q.2.1)
    have e1 : zEq (zup (zTS I q.2.2.1 q.2.2.2.1 q.2.2.2.2.1 q.1 q.2.2.2.2.2 a2 b2 e2) 129 2 q.2.1 138) (zX I 2) := by rw [kp.2.2.2.1]; exact e
    have hG := zsg_G (I := I) (J := zup (zTS I q.2.2.1 q.2.2.2.1 q.2.2.2.2.1 q.1 q.2.2.2.2.2 a2 b2 e2) 129 2 q.2.1) htx.1 htx.2.2.1 (by rw [kp.2.2.2.2.2.1]; exact htx.2.2.2)
    by_cases hz : q.1 = 0
    · obtain ⟨J, h, hmk⟩ := m_Rfault1z (π := π) (D := D) e1 ci hck (kp.2.2.2.2.2.2.2.trans htx.2.1) htx.1 hG hz
      rw [if_pos hz] at hrun
      exact zGo_k s hrun kp h hmk
    · obtain ⟨J, h, hmk⟩ := m_Rfault1n (π := π) (D := D) e1 ci hck (kp.2.2.2.2.2.2.2.trans htx.2.1) htx.1 hG hz hqp
      rw [if_neg hz] at hrun
      exact zGo_k s hrun kp h hmk
