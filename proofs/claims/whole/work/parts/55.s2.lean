theorem zEq_cg {m m2 : Int → Int} {X : zI} (ci : zCI X) (h : ∀ j, 0 ≤ j → j < 585 → m2 j = m j) (e : zEq m X) : zEq m2 X := by
  obtain ⟨⟨w, v, hsp, ⟨⟨hl0, hl1⟩, hlg, hps⟩, hpt, hp0⟩, hm, hd⟩ := ci
  have hm4 := zdis_le w v hd hm
  have hl2 := (zlb_b w).1
  obtain ⟨⟨w1, w2⟩, ⟨w3, w4⟩, ⟨w5, w6⟩, ⟨w7, w8⟩, -⟩ := w
  obtain ⟨⟨m0, m1, m2', m3, m4, m5, m6⟩, mc, ⟨mb, mk⟩, ⟨ml, mg⟩, mt⟩ := e
  refine ⟨⟨(h 0 (by omega) (by omega)).trans m0, (h 1 (by omega) (by omega)).trans m1, (h 2 (by omega) (by omega)).trans m2', (h 3 (by omega) (by omega)).trans m3, (h 4 (by omega) (by omega)).trans m4, (h 5 (by omega) (by omega)).trans m5, (h 6 (by omega) (by omega)).trans m6⟩, fun c c0 c1 => ?_, ⟨(h 55 (by omega) (by omega)).trans mb, fun k k0 k1 => ?_⟩, ⟨(h 80 (by omega) (by omega)).trans ml, fun k k0 k1 => ?_⟩, fun t c t0 t1 c0 c1 => ?_⟩
  · rw [h _ (by omega) (by omega), h _ (by omega) (by omega)]; exact mc c c0 c1
  · rw [h _ (by omega) (by omega), h _ (by omega) (by omega)]; exact mk k k0 k1
  · rw [h _ (by omega) (by omega), h _ (by omega) (by omega), h _ (by omega) (by omega)]; exact mg k k0 k1
  · rw [h _ (by omega) (by omega)]; exact mt t c t0 t1 c0 c1
theorem zcpC_Sa {I : zI} {a b : Nat} : zSa (zX I b) (zX (zcpC I a b) a) := by
  have row : ∀ k, (k = 2 ∨ k = 4 ∨ k = 6 ∨ k = 9 ∨ k = 11 ∨ k = 14 ∨ k = 16 ∨ k = 18 ∨ k = 20 ∨ k = 22) → zX I b k = zX (zcpC I a b) a k := fun k hk => (zcpC_row k hk).symm
  have at_ : ∀ (k : Nat) (j : Int), k < 23 → zcm k j → zX I b k j = zX (zcpC I a b) a k j := fun k j hk hz => by
    show I (b + k) j = zcpC I a b (a + k) j
    rw [zcpC_in (by omega) (by omega) (by rw [show a + k - a = k by omega]; exact hz), show a + k - a + b = b + k by omega]
  exact ⟨⟨row _ (by decide), row _ (by decide), row _ (by decide), row _ (by decide), row _ (by decide), row _ (by decide), row _ (by decide), row _ (by decide), row _ (by decide), row _ (by decide)⟩, ⟨at_ 0 5 (by decide) (by unfold zcm; omega), at_ 0 6 (by decide) (by unfold zcm; omega), at_ 0 7 (by decide) (by unfold zcm; omega), at_ 0 8 (by decide) (by unfold zcm; omega), at_ 0 9 (by decide) (by unfold zcm; omega), at_ 0 10 (by decide) (by unfold zcm; omega), at_ 0 11 (by decide) (by unfold zcm; omega)⟩, at_ 7 2 (by decide) (by unfold zcm; omega), at_ 12 4 (by decide) (by unfold zcm; omega)⟩
theorem zSa_t {X Y Z : zI} (h : zSa X Y) (g : zSa Y Z) : zSa X Z := by
  obtain ⟨⟨a1, a2, a3, a4, a5, a6, a7, a8, a9, a10⟩, ⟨b1, b2, b3, b4, b5, b6, b7⟩, c1, c2⟩ := h
  obtain ⟨⟨p1, p2, p3, p4, p5, p6, p7, p8, p9, p10⟩, ⟨q1, q2, q3, q4, q5, q6, q7⟩, r1, r2⟩ := g
  exact ⟨⟨a1.trans p1, a2.trans p2, a3.trans p3, a4.trans p4, a5.trans p5, a6.trans p6, a7.trans p7, a8.trans p8, a9.trans p9, a10.trans p10⟩, ⟨b1.trans q1, b2.trans q2, b3.trans q3, b4.trans q4, b5.trans q5, b6.trans q6, b7.trans q7⟩, c1.trans r1, c2.trans r2⟩
theorem zPi_far {π : Int → Nat} (hπ : zPi π) (hi : ∀ j k, 0 ≤ j → j < 4 → 0 ≤ k → k < 4 → π j = π k → j = k) {j k : Int} (j0 : 0 ≤ j) (j1 : j < 4) (k0 : 0 ≤ k) (k1 : k < 4) (h : ¬ j = k) : π j + 23 ≤ π k ∨ π k + 23 ≤ π j := by
  have a := hπ j j0 j1
  have b := hπ k k0 k1
  have c : ¬ π j = π k := fun h9 => h (hi j k j0 j1 k0 k1 h9)
  omega
theorem zrot_k {π : Int → Nat} {k : Int} (h0 : 0 ≤ k) (h1 : k < 3) : zrot π k = π (k + 1) := by
  unfold zrot
  rcases (show k = 0 ∨ k = 1 ∨ k = 2 by omega) with h | h | h <;> subst h <;> rfl
theorem zkr_Pi {π : Int → Nat} {K : Int} (hπ : zPi π) : zPi (zkr π K) := by
  unfold zkr
  split
  · exact hπ
  · intro k k0 k1
    by_cases h : k = 3
    · subst h; exact hπ 0 (by omega) (by omega)
    · rw [zrot_k k0 (by omega)]; exact hπ _ (by omega) (by omega)
theorem zkr_inj {π : Int → Nat} {K : Int} (hi : ∀ j k, 0 ≤ j → j < 4 → 0 ≤ k → k < 4 → π j = π k → j = k) : ∀ j k, 0 ≤ j → j < 4 → 0 ≤ k → k < 4 → zkr π K j = zkr π K k → j = k := by
  unfold zkr
  split
  · exact hi
  · intro j k j0 j1 k0 k1 h
    have z3 : zrot π 3 = π 0 := rfl
    by_cases hj : j = 3
    · subst hj
      by_cases hk : k = 3
      · exact hk.symm
      · rw [z3, zrot_k k0 (by omega)] at h
        have := hi 0 (k + 1) (by omega) (by omega) (by omega) (by omega) h
        omega
    · by_cases hk : k = 3
      · subst hk
        rw [z3, zrot_k j0 (by omega)] at h
        have := hi (j + 1) 0 (by omega) (by omega) (by omega) (by omega) h
        omega
      · rw [zrot_k k0 (by omega), zrot_k j0 (by omega)] at h
        have := hi (j + 1) (k + 1) (by omega) (by omega) (by omega) (by omega) h
        omega
/-- what the reference has recorded: s states before, the numbers m, the records w -/
def zRq (s : Int) (m w w2 : Int → Int) : Prop := ∀ k j, 0 ≤ k → k < zkp s → 0 ≤ j → j < 585 → w2 (585 * k + j) = if k = zkp s - 1 then m j else if s = 4 then w (585 * (k + 1) + j) else w (585 * k + j)
/-- a state kept on both sides -/
theorem zSim_k {I I2 : zI} {π : Int → Nat} (s : zSim I π) (h25 : ∀ r, 25 ≤ r → r < 119 → I2 r = zKe I π r) (h136 : I2 136 = I 136) (h129 : I2 129 0 = I 129 0) (h140 : I2 140 = I 140) (h4 : I2 137 4 = I 137 4) (h2 : I2 137 2 = zkp (I 137 2)) (hc : zRq (I 137 2) (I 138) (I 139) (I2 139)) (e : zEq (I2 138) (zX I2 2)) (ci : zCI (zX I2 2)) : zSim I2 (zkr π (I 25 1)) := by
  obtain ⟨⟨a1, a2⟩, ⟨b1, b2⟩, c, d, hh, f⟩ := s
  have kd := zkd_in c b1.1
  have e25 : zKe I π 25 1 = zkp (I 25 1) := by
    unfold zKe
    rw [zcpC_out (by omega), zup_at, if_pos rfl]
  have hkp : (0 ≤ zkp (I 25 1) ∧ zkp (I 25 1) ≤ 4) ∧ (I 25 1 < 4 → zkp (I 25 1) = I 25 1 + 1) ∧ (I 25 1 = 4 → zkp (I 25 1) = 4) := by
    unfold zkp
    split <;> omega
  have cpS : zSa (zX I 2) (zX I2 (zkd π (I 25 1))) := by
    refine zSa_t (zX_cg (J := zup I 25 1 (zkp (I 25 1))) (b := 2) (fun r r0 r1 => zup_ne (by omega))) (zSa_t (zcpC_Sa (a := zkd π (I 25 1)) (b := 2)) (zX_cg (b := zkd π (I 25 1)) (fun r r0 r1 => ?_)))
    exact h25 r (by omega) (by omega)
  have othS : ∀ q : Nat, (q = 27 ∨ q = 50 ∨ q = 73 ∨ q = 96) → (q + 23 ≤ zkd π (I 25 1) ∨ zkd π (I 25 1) + 23 ≤ q) → zSa (zX I q) (zX I2 q) := by
    intro q hq hf
    refine zX_cg (fun r r0 r1 => ?_)
    rw [h25 r (by omega) (by omega)]
    unfold zKe
    rw [zcpC_out (by omega), zup_ne (by omega)]
  rw [b2] at h2 hc
  refine ⟨⟨e, ci⟩, ⟨?_, ?_⟩, zkr_Pi c, zkr_inj d, fun k k0 k1 => ?_, ?_⟩
  · rw [h25 25 (by decide) (by decide), e25]; exact hkp.1
  · rw [h25 25 (by decide) (by decide), e25]; exact h2
  · rw [h25 25 (by decide) (by decide), e25] at k1
    by_cases hk4 : I 25 1 < 4
    · have ekd : zkd π (I 25 1) = π (I 25 1) := if_pos hk4
      have ekr : zkr π (I 25 1) = π := if_pos hk4
      rw [ekr]
      have hz := hkp.2.1 hk4
      by_cases hk : k = I 25 1
      · rw [hk, ← ekd]
        refine ⟨zSa_e cpS (zEq_cg a2 (fun j j0 j1 => ?_) a1), zSa_I cpS a2⟩
        rw [← hk, hc k j k0 k1 j0 j1, if_pos (by omega)]
      · have hs := othS (π k) (c k k0 (by omega)) (by rw [ekd]; exact zPi_far c d k0 (by omega) b1.1 hk4 hk)
        have := hh k k0 (by omega)
        refine ⟨zSa_e hs (zEq_cg this.2 (fun j j0 j1 => ?_) this.1), zSa_I hs this.2⟩
        rw [hc k j k0 k1 j0 j1, if_neg (by omega), if_neg (by omega)]
    · have ekd : zkd π (I 25 1) = π 0 := if_neg hk4
      have ekr : zkr π (I 25 1) = zrot π := if_neg hk4
      rw [ekr]
      have hz := hkp.2.2 (by omega)
      by_cases hk : k = 3
      · subst hk
        rw [show zrot π 3 = π 0 from rfl, ← ekd]
        refine ⟨zSa_e cpS (zEq_cg a2 (fun j j0 j1 => ?_) a1), zSa_I cpS a2⟩
        rw [hc 3 j k0 k1 j0 j1, if_pos (by omega)]
      · rw [zrot_k k0 (by omega)]
        have hs := othS (π (k + 1)) (c (k + 1) (by omega) (by omega)) (by rw [ekd]; exact zPi_far c d (by omega) (by omega) (by omega) (by omega) (by omega))
        have := hh (k + 1) (by omega) (by omega)
        refine ⟨zSa_e hs (zEq_cg this.2 (fun j j0 j1 => ?_) this.1), zSa_I hs this.2⟩
        rw [hc k j k0 k1 j0 j1, if_neg (by omega), if_pos (by omega)]
  · rw [h136, h129, h140, h4]; exact f
/-- a call's answers are the same and what holds between the calls is kept -/
def zGo (yc ym : Nat) (As : List zV) (I : zI) (π : Int → Nat) (D : zD) : Prop := ∃ (res : Int) (I1 : zI) (π1 : Int → Nat) (D1 : zD) (I2 : zI) (D2 : zD), zMet yc (vr 1 :: As) (I, zPp π, D, 147) (some (vi res)) (I1, zPp π1, D1, 147) ∧ zMet ym (vr 137 :: As) (I1, zPp π1, D1, 147) (some (vi res)) (I2, zPp π1, D2, 147) ∧ zSim I2 π1
theorem zGo_s {yc ym : Nat} {As : List zV} {I : zI} {π : Int → Nat} {D : zD} {res : Int} (s : zSim I π) (h1 : zMet yc (vr 1 :: As) (I, zPp π, D, 147) (some (vi res)) (I, zPp π, D, 147)) (h2 : zMet ym (vr 137 :: As) (I, zPp π, D, 147) (some (vi res)) (I, zPp π, D, 147)) : zGo yc ym As I π D := ⟨res, I, π, D, I, D, h1, h2, s⟩
theorem zGo_m {yc ym : Nat} {As : List zV} {I J : zI} {π : Int → Nat} {D E : zD} {res : Int} (s : zSim I π) (h1 : zMet yc (vr 1 :: As) (I, zPp π, D, 147) (some (vi res)) (I, zPp π, D, 147)) (h2 : zMet ym (vr 137 :: As) (I, zPp π, D, 147) (some (vi res)) (J, zPp π, E, 147)) (hm : zMk J I) : zGo yc ym As I π D := ⟨res, I, π, D, J, E, h1, h2, zKp_S (zMk_Kp hm) s⟩
theorem zGo_k {yc ym : Nat} {As : List zV} {I I1 J : zI} {π : Int → Nat} {D D1 E : zD} {res : Int} (s : zSim I π) (h1 : zMet yc (vr 1 :: As) (I, zPp π, D, 147) (some (vi res)) (I1, zPp π, D1, 147)) (hk : zKp I1 I) (h2 : zMet ym (vr 137 :: As) (I1, zPp π, D1, 147) (some (vi res)) (J, zPp π, E, 147)) (hm : zMk J I1) : zGo yc ym As I π D := ⟨res, I1, π, D1, J, E, h1, h2, zKp_S (zKp_t (zMk_Kp hm) hk) s⟩
