/-! ===== the object between the calls; what each call does ===== -/
def zSm (I : zI) (π : Int → Nat) : Prop := zCH (zX I 2) ∧ (0 ≤ I 25 1 ∧ I 25 1 ≤ 4) ∧ zPi π ∧ (∀ j k, 0 ≤ j → j < 4 → 0 ≤ k → k < 4 → π j = π k → j = k) ∧ ∀ k, 0 ≤ k → k < I 25 1 → zCH (zX I (π k))
theorem zSm_r {I J : zI} {π : Int → Nat} (s : zSm I π) (h : ∀ r, r < 119 → J r = I r) : zSm J π := by
  obtain ⟨a, b, c, d, e⟩ := s
  have g := zX_cg (J := J) (I := I) (b := 2) (fun r _ hr => h r (by omega))
  refine ⟨zSa_CH g a, by rw [h 25 (by decide)]; exact b, c, d, fun k k0 k1 => ?_⟩
  rw [h 25 (by decide)] at k1
  have hb := zPi_b c k0 (by omega)
  exact zSa_CH (zX_cg (b := π k) (fun r r0 r1 => h r (by omega))) (e k k0 k1)
/-- a state kept -/
theorem zSm_k {I I2 : zI} {π : Int → Nat} (s : zSm I π) (h25 : ∀ r, 25 ≤ r → r < 119 → I2 r = zKe I π r) (ci : zCH (zX I2 2)) : zSm I2 (zkr π (I 25 1)) ∧ I2 25 1 = zkp (I 25 1) ∧ zSa (zX I 2) (zX I2 (zkr π (I 25 1) (zkp (I 25 1) - 1))) := by
  obtain ⟨a2, b1, c, d, hh⟩ := s
  have kd := zkd_in c b1.1
  have e25 : zKe I π 25 1 = zkp (I 25 1) := by
    unfold zKe
    rw [zcpC_out (by omega), zup_at, if_pos rfl]
  have hkp : (0 ≤ zkp (I 25 1) ∧ zkp (I 25 1) ≤ 4) ∧ (I 25 1 < 4 → zkp (I 25 1) = I 25 1 + 1) ∧ (I 25 1 = 4 → zkp (I 25 1) = 4) := by
    unfold zkp
    split <;> omega
  have cpS : zSa (zX I 2) (zX I2 (zkd π (I 25 1))) := by
    refine zSa_t (zX_cg (J := zup I 25 1 (zkp (I 25 1))) (b := 2) (fun r r0 r1 => zup_ne (by omega))) (zSa_t (zcpC_Sa (a := zkd π (I 25 1)) (b := 2)) (zX_cg (b := zkd π (I 25 1)) (fun r r0 r1 => ?_)))
    exact h25 r (by omega) (by omega)
  have othS : ∀ q : Nat, (q = 27 ∨ q = 50 ∨ q = 73 ∨ q = 96) → (q + 23 ≤ zkd π (I 25 1) ∨ zkd π (I 25 1) + 23 ≤ q) → zSa (zX I q) (zX I2 q) := by
    intro q hq hf
    refine zX_cg (fun r r0 r1 => ?_)
    rw [h25 r (by omega) (by omega)]
    unfold zKe
    rw [zcpC_out (by omega), zup_ne (by omega)]
  have z25 : I2 25 1 = zkp (I 25 1) := by rw [h25 25 (by decide) (by decide), e25]
  refine ⟨⟨ci, by rw [z25]; exact hkp.1, zkr_Pi c, zkr_inj d, fun k k0 k1 => ?_⟩, z25, ?_⟩
  · rw [z25] at k1
    by_cases hk4 : I 25 1 < 4
    · have ekd : zkd π (I 25 1) = π (I 25 1) := if_pos hk4
      have ekr : zkr π (I 25 1) = π := if_pos hk4
      rw [ekr]
      have hz := hkp.2.1 hk4
      by_cases hk : k = I 25 1
      · rw [hk, ← ekd]
        exact zSa_CH cpS a2
      · have hs := othS (π k) (c k k0 (by omega)) (by rw [ekd]; exact zPi_far c d k0 (by omega) b1.1 hk4 hk)
        exact zSa_CH hs (hh k k0 (by omega))
    · have ekd : zkd π (I 25 1) = π 0 := if_neg hk4
      have ekr : zkr π (I 25 1) = zrot π := if_neg hk4
      rw [ekr]
      have hz := hkp.2.2 (by omega)
      by_cases hk : k = 3
      · subst hk
        rw [show zrot π 3 = π 0 from rfl, ← ekd]
        exact zSa_CH cpS a2
      · rw [zrot_k k0 (by omega)]
        have hs := othS (π (k + 1)) (c (k + 1) (by omega) (by omega)) (by rw [ekd]; exact zPi_far c d (by omega) (by omega) (by omega) (by omega) (by omega))
        exact zSa_CH hs (hh (k + 1) (by omega) (by omega))
  · by_cases hk4 : I 25 1 < 4
    · have ekd : zkd π (I 25 1) = π (I 25 1) := if_pos hk4
      have ekr : zkr π (I 25 1) = π := if_pos hk4
      rw [hkp.2.1 hk4, ekr, show I 25 1 + 1 - 1 = I 25 1 by omega, ← ekd]
      exact cpS
    · have ekd : zkd π (I 25 1) = π 0 := if_neg hk4
      have ekr : zkr π (I 25 1) = zrot π := if_neg hk4
      rw [hkp.2.2 (by omega), ekr, show zrot π (4 - 1) = π 0 from rfl, ← ekd]
      exact cpS
/-- the latest state taken back -/
theorem zSm_u {I : zI} {π : Int → Nat} {d : Nat} (s : zSm I π) (hK : 0 < I 25 1) (hd : π (I 25 1 - 1) = d) : zSm (zup (zcpC I 2 d) 25 1 (I 25 1 - 1)) π ∧ zSa (zX I d) (zX (zup (zcpC I 2 d) 25 1 (I 25 1 - 1)) 2) ∧ (zup (zcpC I 2 d) 25 1 (I 25 1 - 1)) 25 1 = I 25 1 - 1 := by
  obtain ⟨a2, b1, c, di, hh⟩ := s
  have hb := zPi_b c (k := I 25 1 - 1) (by omega) (by omega)
  rw [hd] at hb
  have last := hh (I 25 1 - 1) (by omega) (by omega)
  rw [hd] at last
  have ro : ∀ r, 25 < r → zup (zcpC I 2 d) 25 1 (I 25 1 - 1) r = I r := fun r hr => by rw [zup_ne (by omega), zcpC_out (by omega)]
  have g : zSa (zX I d) (zX (zup (zcpC I 2 d) 25 1 (I 25 1 - 1)) 2) := zSa_t zcpC_Sa (zX_cg (b := 2) (fun r r0 r1 => by rw [zup_ne (by omega)]))
  have e25 : (zup (zcpC I 2 d) 25 1 (I 25 1 - 1)) 25 1 = I 25 1 - 1 := by rw [zup_at, if_pos rfl]
  refine ⟨⟨zSa_CH g last, by rw [e25]; omega, c, di, fun k k0 k1 => ?_⟩, g, e25⟩
  rw [e25] at k1
  have hk := zPi_b c k0 (by omega)
  exact zSa_CH (zX_cg (b := π k) (fun r r0 r1 => ro r (by omega))) (hh k k0 (by omega))
/-- a chart that has just begun -/
theorem zBeg_H {I1 : zI} {a : Int} (f5 : I1 2 5 = a) (f8 : I1 2 8 = 0) (f14 : I1 14 4 = 0) (h : ∀ q, 0 ≤ q → q < a → I1 24 (0 * 24 + q) = q) : zHX (zX I1 2) := by
  refine ⟨fun i i0 i1 => ?_, fun t t0 t1 => ⟨0, ⟨Int.le_refl _, ?_⟩, fun i i0 i1 => by omega, fun i i0 i1 => ?_, fun c c0 c1 => ?_⟩⟩
  · have i1' : i < I1 14 4 := i1
    omega
  · show 0 ≤ I1 14 4
    omega
  · have i1' : i < I1 14 4 := i1
    omega
  · have t1' : t ≤ I1 2 8 := t1
    have c1' : c < I1 2 5 := c1
    have et : t = 0 := by omega
    subst et
    show I1 24 (0 * 24 + c) = c
    exact h c c0 (by omega)
theorem op_undo {I : zI} {π : Int → Nat} {D : zD} (s : zSm I π) (hK : 0 < I 25 1) : ∃ I2, zMet 70 [vr 1] (I, zPp π, D, 137) (some (vi (I 25 1 - 1))) (I2, zPp π, D, 137) ∧ zSm I2 π ∧ zSa (zX I (π (I 25 1 - 1))) (zX I2 2) ∧ I2 25 1 = I 25 1 - 1 := by
  have hk := s.2.1
  have hk2 : 0 < I 25 1 ∧ I 25 1 ≤ 4 := ⟨hK, hk.2⟩
  rcases s.2.2.1 (I 25 1 - 1) (by omega) (by omega) with h9 | h9 | h9 | h9
  · obtain ⟨a1, a2, a3⟩ := zSm_u s hK h9
    exact ⟨_, m_undo27 hk2 h9, a1, by rw [h9]; exact a2, a3⟩
  · obtain ⟨a1, a2, a3⟩ := zSm_u s hK h9
    exact ⟨_, m_undo50 hk2 h9, a1, by rw [h9]; exact a2, a3⟩
  · obtain ⟨a1, a2, a3⟩ := zSm_u s hK h9
    exact ⟨_, m_undo73 hk2 h9, a1, by rw [h9]; exact a2, a3⟩
  · obtain ⟨a1, a2, a3⟩ := zSm_u s hK h9
    exact ⟨_, m_undo96 hk2 h9, a1, by rw [h9]; exact a2, a3⟩
theorem op_setSpeed {I : zI} {π : Int → Nat} {D : zD} (s : zSm I π) {c x : Int} (hq : (0 ≤ c ∧ c < I 2 5) ∧ (1 ≤ x ∧ x ≤ 1000)) : ∃ I1, zMet 59 [vr 1, vi c, vi x] (I, zPp π, D, 137) (some (vi (I 4 c))) (I1, zPp (zkr π (I 25 1)), D, 137) ∧ zSm I1 (zkr π (I 25 1)) ∧ I1 25 1 = zkp (I 25 1) ∧ I1 2 = I 2 ∧ I1 9 = I 9 ∧ ∀ q, ¬ q = c → I1 4 q = I 4 q := by
  have ci := s.1.1
  have w : zW1 (I 2) := ci.1.1
  have v : zW2 (I 2) (I 6) (I 8) := ci.1.2.1
  have hsp1 : ∀ c, 0 ≤ c → c < I 2 5 → 1 ≤ I 4 c ∧ I 4 c ≤ 1000 := ci.1.2.2.1
  have hsp : ∀ c, 0 ≤ c → c < I 2 5 → 0 ≤ I 4 c ∧ I 4 c ≤ 1000 := fun c c0 c1 => by have := hsp1 c c0 c1; omega
  have hd : zDis (I 2) (I 6) (I 9 2) (I 11) (I 13) := ci.2.2
  have hm : 0 ≤ I 9 2 := ci.2.1
  have hdl := zdis_le w v hd hm
  have hM : 0 ≤ I 9 2 ∧ I 9 2 ≤ 4 := ⟨hm, hdl.2⟩
  have hN := w.1
  have hO := w.2.2.2.1
  have hT := w.2.2.1
  have hk := s.2.1
  have hπ := s.2.2.1
  have chJ : zCH (zX (zKe I π) 2) := zSa_CH (zKe_S hπ hk) s.1
  have j4 : zKe I π 4 = I 4 := zKe_lt hπ hk (by decide)
  have j2 : zKe I π 2 = I 2 := zKe_lt hπ hk (by decide)
  have j9 : zKe I π 9 = I 9 := zKe_lt hπ hk (by decide)
  have j6 : zKe I π 6 = I 6 := zKe_lt hπ hk (by decide)
  have j8 : zKe I π 8 = I 8 := zKe_lt hπ hk (by decide)
  have j11 : zKe I π 11 = I 11 := zKe_lt hπ hk (by decide)
  have j13 : zKe I π 13 = I 13 := zKe_lt hπ hk (by decide)
  have h1 := m_setSpeed1 (π := π) (D := D) hq (by omega) hπ hk rfl
  have ch : zCH (zX (zup (zKe I π) 4 c x) 2) := by
    rw [zX_up (b := 2) (k := 2)]
    exact ⟨zCI_sp chJ.1 hq.2, zHX_o (fun r a1 a2 a3 a4 => zup_ne a1) chJ.2⟩
  obtain ⟨s2, e2, -⟩ := zSm_k s (I2 := zup (zKe I π) 4 c x) (fun r r0 r1 => zup_ne (by omega)) ch
  refine ⟨_, h1, s2, e2, by rw [zup_ne (by decide), j2], by rw [zup_ne (by decide), j9], fun q hqc => ?_⟩
  rw [zup_at, if_neg hqc, j4]
theorem op_bump {I : zI} {π : Int → Nat} {D : zD} (s : zSm I π) {a b : Int} (hq : (0 ≤ a ∧ a < I 2 5) ∧ (0 ≤ b ∧ b < I 2 5)) : ∃ res : Int, zReas (I 2) (I 6) (I 8) (I 9 2) (I 11) (I 13) a b res ∧ (¬ res = 0 → zMet 65 [vr 1, vi a, vi b] (I, zPp π, D, 137) (some (vi (-1002))) (I, zPp π, D, 137)) ∧ (res = 0 → ∃ I1, zMet 65 [vr 1, vi a, vi b] (I, zPp π, D, 137) (some (vi (I 9 2))) (I1, zPp (zkr π (I 25 1)), D, 137) ∧ zSm I1 (zkr π (I 25 1)) ∧ I1 25 1 = zkp (I 25 1) ∧ I1 9 2 = I 9 2 + 1 ∧ I1 11 (I 9 2) = a ∧ I1 13 (I 9 2) = b ∧ I1 2 = I 2 ∧ I1 6 = I 6 ∧ I1 8 = I 8) := by
  have ci := s.1.1
  have w : zW1 (I 2) := ci.1.1
  have v : zW2 (I 2) (I 6) (I 8) := ci.1.2.1
  have hsp1 : ∀ c, 0 ≤ c → c < I 2 5 → 1 ≤ I 4 c ∧ I 4 c ≤ 1000 := ci.1.2.2.1
  have hsp : ∀ c, 0 ≤ c → c < I 2 5 → 0 ≤ I 4 c ∧ I 4 c ≤ 1000 := fun c c0 c1 => by have := hsp1 c c0 c1; omega
  have hd : zDis (I 2) (I 6) (I 9 2) (I 11) (I 13) := ci.2.2
  have hm : 0 ≤ I 9 2 := ci.2.1
  have hdl := zdis_le w v hd hm
  have hM : 0 ≤ I 9 2 ∧ I 9 2 ≤ 4 := ⟨hm, hdl.2⟩
  have hN := w.1
  have hO := w.2.2.2.1
  have hT := w.2.2.1
  have hk := s.2.1
  have hπ := s.2.2.1
  have chJ : zCH (zX (zKe I π) 2) := zSa_CH (zKe_S hπ hk) s.1
  have j4 : zKe I π 4 = I 4 := zKe_lt hπ hk (by decide)
  have j2 : zKe I π 2 = I 2 := zKe_lt hπ hk (by decide)
  have j9 : zKe I π 9 = I 9 := zKe_lt hπ hk (by decide)
  have j6 : zKe I π 6 = I 6 := zKe_lt hπ hk (by decide)
  have j8 : zKe I π 8 = I 8 := zKe_lt hπ hk (by decide)
  have j11 : zKe I π 11 = I 11 := zKe_lt hπ hk (by decide)
  have j13 : zKe I π 13 = I 13 := zKe_lt hπ hk (by decide)
  obtain ⟨res, hz, hn, hy⟩ := m_bump (π := π) (D := D) (J := (zKe I π)) hq w v hM (fun {res} h0 hz => by subst h0; exact zdis_push4 w v hm hd hz) hπ hk rfl
  refine ⟨res, hz, hn, fun hr => ?_⟩
  have h1 := hy hr
  subst hr
  have hX : zX (zup (zup (zup (zKe I π) 11 (I 9 2) a) 13 (I 9 2) b) 9 2 (I 9 2 + 1)) 2 = zRcX (zX (zKe I π) 2) (I 9 2 + 1) (zu1 (zX (zKe I π) 2 9) (I 9 2) a) (zu1 (zX (zKe I π) 2 11) (I 9 2) b) := by rw [zX_up (b := 2) (k := 7), zX_up (b := 2) (k := 11), zX_up (b := 2) (k := 9), zRcX_up]
  have e7 : zX (zKe I π) 2 7 2 = I 9 2 := by show (zKe I π) 9 2 = _; rw [j9]
  have ch : zCH (zX (zup (zup (zup (zKe I π) 11 (I 9 2) a) 13 (I 9 2) b) 9 2 (I 9 2 + 1)) 2) := by
    rw [hX]
    have dd := chJ.1.2.2
    rw [e7] at dd
    have hz0 := zReas_0 hz
    refine ⟨zCI_rc chJ.1 (by omega) (zdis_push dd ?_), zHX_o (fun r a1 a2 a3 a4 => zRcX_o ⟨a2, a3, a4⟩) chJ.2⟩
    show zIs ((zKe I π) 2) ((zKe I π) 6) a ∧ zIs ((zKe I π) 2) ((zKe I π) 6) b ∧ ¬ zOut (I 9 2) ((zKe I π) 11) ((zKe I π) 13) a ∧ ¬ zOut (I 9 2) ((zKe I π) 11) ((zKe I π) 13) b ∧ (zKe I π) 6 b < (zKe I π) 6 a
    rw [j2, j6, j11, j13]
    exact hz0
  obtain ⟨s2, e2, -⟩ := zSm_k s (I2 := zup (zup (zup (zKe I π) 11 (I 9 2) a) 13 (I 9 2) b) 9 2 (I 9 2 + 1)) (fun r r0 r1 => by rw [zup_ne (by omega), zup_ne (by omega), zup_ne (by omega)]) ch
  refine ⟨_, h1, s2, e2, ?_, ?_, ?_, ?_, ?_, ?_⟩
  · rw [zup_at, if_pos rfl]
  · rw [zup_ne (by decide), zup_ne (by decide), zup_at, if_pos rfl]
  · rw [zup_ne (by decide), zup_at, if_pos rfl]
  · rw [zup_ne (by decide), zup_ne (by decide), zup_ne (by decide), j2]
  · rw [zup_ne (by decide), zup_ne (by decide), zup_ne (by decide), j6]
  · rw [zup_ne (by decide), zup_ne (by decide), zup_ne (by decide), j8]
theorem op_rerow {I : zI} {π : Int → Nat} {D : zD} (s : zSm I π) {b : Int} (hq : 0 ≤ b ∧ b < I 9 2) : ∃ (g : Int) (I1 : zI), zTk (zNeed (I 6) (I 11) (I 13)) b (I 9 2) g ∧ zMet 68 [vr 1, vi b] (I, zPp π, D, 137) (some (vi (zbc g))) (I1, zPp (zkr π (I 25 1)), D, 137) ∧ zSm I1 (zkr π (I 25 1)) ∧ I1 25 1 = zkp (I 25 1) ∧ zSa (zX I 2) (zX I1 (zkr π (I 25 1) (zkp (I 25 1) - 1))) ∧ I1 9 2 = I 9 2 - zbc g ∧ 0 ≤ I1 9 2 ∧ I1 2 = I 2 := by
  have ci := s.1.1
  have w : zW1 (I 2) := ci.1.1
  have v : zW2 (I 2) (I 6) (I 8) := ci.1.2.1
  have hsp1 : ∀ c, 0 ≤ c → c < I 2 5 → 1 ≤ I 4 c ∧ I 4 c ≤ 1000 := ci.1.2.2.1
  have hsp : ∀ c, 0 ≤ c → c < I 2 5 → 0 ≤ I 4 c ∧ I 4 c ≤ 1000 := fun c c0 c1 => by have := hsp1 c c0 c1; omega
  have hd : zDis (I 2) (I 6) (I 9 2) (I 11) (I 13) := ci.2.2
  have hm : 0 ≤ I 9 2 := ci.2.1
  have hdl := zdis_le w v hd hm
  have hM : 0 ≤ I 9 2 ∧ I 9 2 ≤ 4 := ⟨hm, hdl.2⟩
  have hN := w.1
  have hO := w.2.2.2.1
  have hT := w.2.2.1
  have hk := s.2.1
  have hπ := s.2.2.1
  have chJ : zCH (zX (zKe I π) 2) := zSa_CH (zKe_S hπ hk) s.1
  have j4 : zKe I π 4 = I 4 := zKe_lt hπ hk (by decide)
  have j2 : zKe I π 2 = I 2 := zKe_lt hπ hk (by decide)
  have j9 : zKe I π 9 = I 9 := zKe_lt hπ hk (by decide)
  have j6 : zKe I π 6 = I 6 := zKe_lt hπ hk (by decide)
  have j8 : zKe I π 8 = I 8 := zKe_lt hπ hk (by decide)
  have j11 : zKe I π 11 = I 11 := zKe_lt hπ hk (by decide)
  have j13 : zKe I π 13 = I 13 := zKe_lt hπ hk (by decide)
  obtain ⟨g, hg⟩ := zTk_ex (nd := zNeed (I 6) (I 11) (I 13)) hq.1 (I 9 2 - b - 1).toNat (by omega)
  rw [show b + 1 + (((I 9 2 - b - 1).toNat : Nat) : Int) = I 9 2 by omega] at hg
  have h1 := m_rerow1 (π := π) (D := D) hq hM (fun k k0 k1 => by have dk := hd k k0 k1; have a1 := dk.1.1; have a2 := dk.2.1.1; omega) hg hπ hk rfl
  have r8 : ∀ r, 25 ≤ r → zTBw (zKe I π) g (I 9 2).toNat r = (zKe I π) r := fun r hr => by rw [zTBw_eq]; exact zTB_out (by omega) _
  have e7 : zX (zKe I π) 2 7 2 = I 9 2 := by show (zKe I π) 9 2 = _; rw [j9]
  have hX : zX (zTBw (zKe I π) g (I 9 2).toNat) 2 = zTBX (zX (zKe I π) 2) g (I 9 2).toNat := by rw [zTBw_eq, zTBX_X]
  have ch : zCH (zX (zTBw (zKe I π) g (I 9 2).toNat) 2) := by
    rw [hX, ← e7]
    exact ⟨zTBX_I chJ.1, zHX_o (fun r a1 a2 a3 a4 => zTBX_o ⟨a2, a3, a4⟩ _) chJ.2⟩
  obtain ⟨s2, e2, e3⟩ := zSm_k s (I2 := zTBw (zKe I π) g (I 9 2).toNat) (fun r r0 r1 => r8 r r0) ch
  have cnt := zTBX_c (X := zX (zKe I π) 2) (m := g) (I 9 2).toNat
  have e9 : zTBw (zKe I π) g (I 9 2).toNat 9 2 = zTBX (zX (zKe I π) 2) g (I 9 2).toNat 7 2 := by rw [← hX]; rfl
  have hbc := zbs_c (b := b) (g := g) (n := I 9 2) ⟨hq.2, hM.2⟩ hq.1 hg
  refine ⟨g, _, hg, h1, s2, e2, e3, ?_, ?_, ?_⟩
  · rw [e9, cnt.2, hbc]; omega
  · rw [e9]; exact cnt.1.1
  · rw [zTBw_eq, zTB_out (by decide), j2]
/-- what the end of a race shows -/
def zEd (I1 I : zI) : Prop := I1 9 2 = 0 ∧ (0 < I 2 9 → I1 2 9 = I 2 9 - 1 ∧ I1 8 0 = I 8 0 ∧ I1 2 8 = I 2 8) ∧ (¬ 0 < I 2 9 → I1 2 8 = I 2 8 + 1)
theorem zEd_of {I1 : zI} {X : zI} (ci : zCI X) (hr : ¬ X 0 9 = -1) (h : zX I1 2 = zFnX (zERX X (X 7 2).toNat)) {I : zI} (h0 : X 0 = I 2) (h6 : X 6 = I 8) : zEd I1 I := by
  have hm := ci.2.1
  have e0 : zERX X (X 7 2).toNat 0 = X 0 := zERX_o (by decide) _
  have w := ci.1.1
  have x0 : ∀ r j, I1 (2 + r) j = zFnX (zERX X (X 7 2).toNat) r j := fun r j => by rw [← h]; rfl
  refine ⟨?_, fun hR => ⟨?_, ?_, ?_⟩, fun hR => ?_⟩
  · refine (x0 7 2).trans ?_
    unfold zFnX
    split <;> rfl
  · refine (x0 0 9).trans ?_
    unfold zFnX
    rw [e0, h0, if_pos hR]
    rfl
  · refine (x0 6 0).trans ?_
    unfold zFnX
    rw [e0, h0, if_pos hR, zup_ne (by decide), zup_ne (by decide)]
    have hp : 0 < X 0 9 * X 0 6 := by
      rw [h0] at w ⊢
      exact Int.mul_pos hR (by have := w.2.1; omega)
    rw [(zER_head ci hp (X 7 2).toNat (by omega)).1, h6]
  · refine (x0 0 8).trans ?_
    unfold zFnX
    rw [e0, h0, if_pos hR]
    show zERX X (X 7 2).toNat 0 8 = _
    rw [e0, h0]
  · refine (x0 0 8).trans ?_
    unfold zFnX
    rw [e0, h0, if_neg hR]
    rfl
theorem op_finish {I : zI} {π : Int → Nat} {D : zD} (s : zSm I π) (hq : ¬ I 2 9 = -1) : ∃ I1, zMet 69 [vr 1] (I, zPp π, D, 137) (some (vi (I 9 2))) (I1, zPp (zkr π (I 25 1)), D, 137) ∧ zSm I1 (zkr π (I 25 1)) ∧ I1 25 1 = zkp (I 25 1) ∧ zEd I1 I := by
  have ci := s.1.1
  have w : zW1 (I 2) := ci.1.1
  have v : zW2 (I 2) (I 6) (I 8) := ci.1.2.1
  have hsp1 : ∀ c, 0 ≤ c → c < I 2 5 → 1 ≤ I 4 c ∧ I 4 c ≤ 1000 := ci.1.2.2.1
  have hsp : ∀ c, 0 ≤ c → c < I 2 5 → 0 ≤ I 4 c ∧ I 4 c ≤ 1000 := fun c c0 c1 => by have := hsp1 c c0 c1; omega
  have hd : zDis (I 2) (I 6) (I 9 2) (I 11) (I 13) := ci.2.2
  have hm : 0 ≤ I 9 2 := ci.2.1
  have hdl := zdis_le w v hd hm
  have hM : 0 ≤ I 9 2 ∧ I 9 2 ≤ 4 := ⟨hm, hdl.2⟩
  have hN := w.1
  have hO := w.2.2.2.1
  have hT := w.2.2.1
  have hk := s.2.1
  have hπ := s.2.2.1
  have chJ : zCH (zX (zKe I π) 2) := zSa_CH (zKe_S hπ hk) s.1
  have j4 : zKe I π 4 = I 4 := zKe_lt hπ hk (by decide)
  have j2 : zKe I π 2 = I 2 := zKe_lt hπ hk (by decide)
  have j9 : zKe I π 9 = I 9 := zKe_lt hπ hk (by decide)
  have j6 : zKe I π 6 = I 6 := zKe_lt hπ hk (by decide)
  have j8 : zKe I π 8 = I 8 := zKe_lt hπ hk (by decide)
  have j11 : zKe I π 11 = I 11 := zKe_lt hπ hk (by decide)
  have j13 : zKe I π 13 = I 13 := zKe_lt hπ hk (by decide)
  obtain ⟨I1, h1, hr1, hX⟩ := m_cfin (D := D) ci hq hπ hk
  have e7 : zX (zKe I π) 2 7 2 = I 9 2 := by show (zKe I π) 9 2 = _; rw [j9]
  have hq2 : ¬ zX (zKe I π) 2 0 9 = -1 := by show ¬ (zKe I π) 2 9 = -1; rw [j2]; exact hq
  rw [← e7] at hX
  have ch : zCH (zX I1 2) := by rw [hX]; exact zCH_fin chJ hq2
  obtain ⟨s2, e2, -⟩ := zSm_k s (I2 := I1) (fun r r0 r1 => hr1 r r0) ch
  exact ⟨I1, h1, s2, e2, zEd_of chJ.1 hq2 hX j2 j8⟩
theorem op_foretold {I : zI} {π : Int → Nat} {D : zD} (s : zSm I π) : ∃ (x : Int) (I1 : zI) (D1 : zD), zMet 71 [vr 1, vi 0, vi 0] (I, zPp π, D, 137) (some (vi x)) (I1, zPp π, D1, 137) ∧ (∀ r, r < 119 → I1 r = I r) ∧ (x = -1004 ↔ (zFX (zX I 2)).2.1 = 0) := by
  have ci := s.1.1
  have w : zW1 (I 2) := ci.1.1
  have v : zW2 (I 2) (I 6) (I 8) := ci.1.2.1
  have hsp1 : ∀ c, 0 ≤ c → c < I 2 5 → 1 ≤ I 4 c ∧ I 4 c ≤ 1000 := ci.1.2.2.1
  have hsp : ∀ c, 0 ≤ c → c < I 2 5 → 0 ≤ I 4 c ∧ I 4 c ≤ 1000 := fun c c0 c1 => by have := hsp1 c c0 c1; omega
  have hd : zDis (I 2) (I 6) (I 9 2) (I 11) (I 13) := ci.2.2
  have hm : 0 ≤ I 9 2 := ci.2.1
  have hdl := zdis_le w v hd hm
  have hM : 0 ≤ I 9 2 ∧ I 9 2 ≤ 4 := ⟨hm, hdl.2⟩
  have hN := w.1
  have hO := w.2.2.2.1
  have hT := w.2.2.1
  have hk := s.2.1
  have hπ := s.2.2.1
  have chJ : zCH (zX (zKe I π) 2) := zSa_CH (zKe_S hπ hk) s.1
  have j4 : zKe I π 4 = I 4 := zKe_lt hπ hk (by decide)
  have j2 : zKe I π 2 = I 2 := zKe_lt hπ hk (by decide)
  have j9 : zKe I π 9 = I 9 := zKe_lt hπ hk (by decide)
  have j6 : zKe I π 6 = I 6 := zKe_lt hπ hk (by decide)
  have j8 : zKe I π 8 = I 8 := zKe_lt hπ hk (by decide)
  have j11 : zKe I π 11 = I 11 := zKe_lt hπ hk (by decide)
  have j13 : zKe I π 13 = I 13 := zKe_lt hπ hk (by decide)
  have ag := zFI_agr (I := I) (D := D) (c := -1) (v := 0)
  have ar : ∀ r, r < 119 → zFI I D (-1) 0 r = I r := fun r hr => ag r (by omega) (by omega) (by omega) (by omega) (by omega)
  have hx := (zFR_X (D := D) w v).1
  have hin := zFR_in (I := I) (D := D) (c := -1) (v := 0) w
  have hzb := zns_b w
  by_cases h0 : 0 < (zFR I D (-1) 0).2.1
  · have b0 := (hin.2 0 (by omega) h0).1
    have q := v.2.1 (I 2 9 * I 2 6 + (zFR I D (-1) 0).2.2.1 0) (by omega) (by omega)
    exact ⟨_, _, _, m_foretold0 (k := 0) ⟨by omega, h0⟩ w v hsp, ar, by omega⟩
  · exact ⟨_, _, _, m_foretoldn (k := 0) (a := 0) ⟨by omega, by omega, by omega⟩ (by omega) w v hsp, ar, by omega⟩
theorem op_row {I : zI} {π : Int → Nat} {D : zD} (s : zSm I π) (hq : ¬ I 2 9 = -1 ∧ I 9 2 = 0) : ∃ (I1 : zI) (D1 : zD), zMet 72 [vr 1] (I, zPp π, D, 137) (some (vi (zFX (zX I 2)).2.1)) (I1, zPp (zkr π (I 25 1)), D1, 137) ∧ zSm I1 (zkr π (I 25 1)) ∧ I1 25 1 = zkp (I 25 1) ∧ I1 9 2 = 0 ∧ 0 ≤ (zFX (zX I 2)).2.1 := by
  have ci := s.1.1
  have w : zW1 (I 2) := ci.1.1
  have v : zW2 (I 2) (I 6) (I 8) := ci.1.2.1
  have hsp1 : ∀ c, 0 ≤ c → c < I 2 5 → 1 ≤ I 4 c ∧ I 4 c ≤ 1000 := ci.1.2.2.1
  have hsp : ∀ c, 0 ≤ c → c < I 2 5 → 0 ≤ I 4 c ∧ I 4 c ≤ 1000 := fun c c0 c1 => by have := hsp1 c c0 c1; omega
  have hd : zDis (I 2) (I 6) (I 9 2) (I 11) (I 13) := ci.2.2
  have hm : 0 ≤ I 9 2 := ci.2.1
  have hdl := zdis_le w v hd hm
  have hM : 0 ≤ I 9 2 ∧ I 9 2 ≤ 4 := ⟨hm, hdl.2⟩
  have hN := w.1
  have hO := w.2.2.2.1
  have hT := w.2.2.1
  have hk := s.2.1
  have hπ := s.2.2.1
  have chJ : zCH (zX (zKe I π) 2) := zSa_CH (zKe_S hπ hk) s.1
  have j4 : zKe I π 4 = I 4 := zKe_lt hπ hk (by decide)
  have j2 : zKe I π 2 = I 2 := zKe_lt hπ hk (by decide)
  have j9 : zKe I π 9 = I 9 := zKe_lt hπ hk (by decide)
  have j6 : zKe I π 6 = I 6 := zKe_lt hπ hk (by decide)
  have j8 : zKe I π 8 = I 8 := zKe_lt hπ hk (by decide)
  have j11 : zKe I π 11 = I 11 := zKe_lt hπ hk (by decide)
  have j13 : zKe I π 13 = I 13 := zKe_lt hπ hk (by decide)
  have wJ : zW1 ((zKe I π) 2) := chJ.1.1.1
  have vJ : zW2 ((zKe I π) 2) ((zKe I π) 6) ((zKe I π) 8) := chJ.1.1.2.1
  have hX0 := zRw_X (D := D) wJ vJ rfl
  have chR : zCH (zRwX (zX (zKe I π) 2) (zFX (zX (zKe I π) 2)).2.1) := ⟨zRwX_I chJ.1, zHX_o (fun r a1 a2 a3 a4 => zRwX_o ⟨a2, a3, a4⟩) chJ.2⟩
  have chK : zCH (zX (zRw (zFI (zKe I π) D (-1) 0) (zFX (zX (zKe I π) 2)).2.1) 2) := zSa_CH (zSa_s (zSa_of hX0)) chR
  have k9 : (zRw (zFI (zKe I π) D (-1) 0) (zFX (zX (zKe I π) 2)).2.1) 2 = (zKe I π) 2 := hX0 0 (by decide)
  obtain ⟨I1, hend, hr1, hX⟩ := m_cend (π := zkr π (I 25 1)) (D := zFDR (zKe I π) D (-1) 0) chK.1 (by rw [k9, j2]; exact hq.1)
  have en : (zRw (zFI (zKe I π) D (-1) 0) (zFX (zX (zKe I π) 2)).2.1) 9 2 = (zFX (zX (zKe I π) 2)).2.1 := rfl
  have e7 : zX (zRw (zFI (zKe I π) D (-1) 0) (zFX (zX (zKe I π) 2)).2.1) 2 7 2 = (zFX (zX (zKe I π) 2)).2.1 := rfl
  rw [en] at hend hX
  rw [← e7] at hX
  have ef : (zFI (zKe I π) D (-1) 0) 119 2 = (zFX (zX (zKe I π) 2)).2.1 := (zFR_X (D := D) wJ vJ).1
  have h1 := m_row1 (π := π) (D := D) hq w v hsp hπ hk rfl (by rw [ef]; exact hend)
  have ag := zFI_agr (I := (zKe I π)) (D := D) (c := -1) (v := 0)
  have rR : ∀ r, 25 ≤ r → r < 119 → I1 r = (zKe I π) r := fun r hr a1 => by
    rw [hr1 r hr]
    funext j
    unfold zRw
    rw [if_neg (by omega), if_neg (by omega), if_neg (by omega), ag r (by omega) (by omega) (by omega) (by omega) (by omega)]
  have hqK : ¬ zX (zRw (zFI (zKe I π) D (-1) 0) (zFX (zX (zKe I π) 2)).2.1) 2 0 9 = -1 := by
    show ¬ (zRw (zFI (zKe I π) D (-1) 0) (zFX (zX (zKe I π) 2)).2.1) 2 9 = -1
    rw [k9, j2]
    exact hq.1
  have ch : zCH (zX I1 2) := by rw [hX]; exact zCH_fin chK hqK
  obtain ⟨s2, e2, -⟩ := zSm_k s (I2 := I1) rR ch
  have ed := zEd_of chK.1 hqK hX (I := zRw (zFI (zKe I π) D (-1) 0) (zFX (zX (zKe I π) 2)).2.1) rfl rfl
  have eX : zFX (zX (zKe I π) 2) = zFX (zX I 2) := by
    unfold zFX
    rw [zKe_X hπ hk (by decide), zKe_X hπ hk (by decide), zKe_X hπ hk (by decide)]
  rw [eX] at h1
  exact ⟨I1, _, h1, s2, e2, ed.1, (zFX_in (X := zX I 2) w).1.1⟩
theorem op_begin {I : zI} {π : Int → Nat} {D : zD} (s : zSm I π) {a b c : Int} (hq : (2 ≤ a ∧ a ≤ 24) ∧ (3 ≤ b ∧ b ≤ 8) ∧ (1 ≤ c ∧ c ≤ 6)) : ∃ I1, zMet 58 [vr 1, vi a, vi b, vi c] (I, zPp π, D, 137) (some (vi ((a + b - 1) / b))) (I1, zPp (zkr π (I 25 1)), D, 137) ∧ zSm I1 (zkr π (I 25 1)) ∧ I1 25 1 = zkp (I 25 1) ∧ I1 2 5 = a ∧ I1 2 6 = b ∧ (∀ q, 0 ≤ q → q < a → I1 4 q = 400) ∧ I1 9 2 = 0 := by
  have ci := s.1.1
  have w : zW1 (I 2) := ci.1.1
  have v : zW2 (I 2) (I 6) (I 8) := ci.1.2.1
  have hsp1 : ∀ c, 0 ≤ c → c < I 2 5 → 1 ≤ I 4 c ∧ I 4 c ≤ 1000 := ci.1.2.2.1
  have hsp : ∀ c, 0 ≤ c → c < I 2 5 → 0 ≤ I 4 c ∧ I 4 c ≤ 1000 := fun c c0 c1 => by have := hsp1 c c0 c1; omega
  have hd : zDis (I 2) (I 6) (I 9 2) (I 11) (I 13) := ci.2.2
  have hm : 0 ≤ I 9 2 := ci.2.1
  have hdl := zdis_le w v hd hm
  have hM : 0 ≤ I 9 2 ∧ I 9 2 ≤ 4 := ⟨hm, hdl.2⟩
  have hN := w.1
  have hO := w.2.2.2.1
  have hT := w.2.2.1
  have hk := s.2.1
  have hπ := s.2.2.1
  have chJ : zCH (zX (zKe I π) 2) := zSa_CH (zKe_S hπ hk) s.1
  have j4 : zKe I π 4 = I 4 := zKe_lt hπ hk (by decide)
  have j2 : zKe I π 2 = I 2 := zKe_lt hπ hk (by decide)
  have j9 : zKe I π 9 = I 9 := zKe_lt hπ hk (by decide)
  have j6 : zKe I π 6 = I 6 := zKe_lt hπ hk (by decide)
  have j8 : zKe I π 8 = I 8 := zKe_lt hπ hk (by decide)
  have j11 : zKe I π 11 = I 11 := zKe_lt hπ hk (by decide)
  have j13 : zKe I π 13 = I 13 := zKe_lt hπ hk (by decide)
  have h1 := m_begin1 (π := π) (D := D) hq v.2.2 hπ hk rfl
  obtain ⟨I1, eI, r4, r8, r6, rr⟩ := zBeg_r (J := (zKe I π)) (c := c) hq.1 hq.2.1 (by rw [j6]; exact v.2.2)
  have f : I1 2 5 = a ∧ I1 2 6 = b ∧ I1 2 7 = c ∧ I1 2 8 = 0 ∧ I1 2 9 = (a + b - 1) / b - 1 ∧ I1 2 10 = I 2 10 ∧ I1 2 11 = I 2 11 := by
    refine ⟨by rw [eI]; rfl, by rw [eI]; rfl, by rw [eI]; rfl, by rw [eI]; rfl, by rw [eI]; rfl, ?_, ?_⟩
    · rw [eI, ← j2]; rfl
    · rw [eI, ← j2]; rfl
  have f9 : I1 9 2 = 0 := by rw [eI]; rfl
  have f14 : I1 14 4 = 0 := by rw [eI]; rfl
  rw [← eI] at h1
  have hci := zBeg_CI hq.1 hq.2.1 hq.2.2 w.2.2.2.2.2.2.2.1 w.2.2.2.2.2.2.2.2 f r4 r8 r6 f9 f14
  have ch : zCH (zX I1 2) := ⟨hci, zBeg_H f.1 f.2.2.2.1 f14 (fun q q0 q1 => (r4 q q0 q1).2.2)⟩
  obtain ⟨s2, e2, -⟩ := zSm_k s (I2 := I1) (fun r r0 r1 => rr r r0) ch
  exact ⟨I1, h1, s2, e2, f.1, f.2.1, fun q q0 q1 => (r4 q q0 q1).1, f9⟩
