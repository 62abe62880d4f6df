/-! ===== what holds of a chart between the calls: the places told in both ways ===== -/
/-- the bumps so far by their days; the places after each day that is over are those of the bumps up to it -/
def zHX (X : zI) : Prop :=
  (∀ i, 0 ≤ i → i < X 12 4 → X 14 i ≤ X 0 8 + 1) ∧
  ∀ t, 0 ≤ t → t ≤ X 0 8 → ∃ j, (0 ≤ j ∧ j ≤ X 12 4) ∧ (∀ i, 0 ≤ i → i < j → X 14 i ≤ t) ∧ (∀ i, j ≤ i → i < X 12 4 → t < X 14 i) ∧ ∀ c, 0 ≤ c → c < X 0 5 → X 22 (t * 24 + c) = zsw (X 16) (X 18) j.toNat c
def zCH (X : zI) : Prop := zCI X ∧ zHX X
theorem zSa_H {X Y : zI} (h : zSa X Y) (e : zHX X) : zHX Y := by
  obtain ⟨⟨a1, a2, a3, a4, a5, a6, a7, a8, a9, a10⟩, ⟨b1, b2, b3, b4, b5, b6, b7⟩, c1, c2⟩ := h
  unfold zHX at e ⊢
  rw [← a6, ← a7, ← a8, ← a10, ← b1, ← b4, ← c2]
  exact e
theorem zSa_CH {X Y : zI} (h : zSa X Y) (e : zCH X) : zCH Y := ⟨zSa_I h e.1, zSa_H h e.2⟩
theorem zHX_o {X Y : zI} (h : ∀ r, r ≠ 2 → r ≠ 7 → r ≠ 9 → r ≠ 11 → Y r = X r) (e : zHX X) : zHX Y := by
  unfold zHX at e ⊢
  rw [h 0 (by decide) (by decide) (by decide) (by decide), h 12 (by decide) (by decide) (by decide) (by decide), h 14 (by decide) (by decide) (by decide) (by decide), h 16 (by decide) (by decide) (by decide) (by decide), h 18 (by decide) (by decide) (by decide) (by decide), h 22 (by decide) (by decide) (by decide) (by decide)]
  exact e
theorem zStp_14 {X : zI} {a b k : Int} : zStp X a b 14 k = if k = X 12 4 then X 0 8 + 1 else X 14 k := by
  unfold zStp
  rw [zup_ne (by decide), zup_ne (by decide), zup_ne (by decide), zup_ne (by decide), zup_ne (by decide), zup_ne (by decide), zup_ne (by decide), zup_ne (by decide), zup_at]
theorem zHX_st {X : zI} {a b : Int} (h0 : 0 ≤ X 12 4) (e : zHX X) : zHX (zStp X a b) := by
  have e0 : zStp X a b 0 = X 0 := zStp_o (by decide)
  have e22 : zStp X a b 22 = X 22 := zStp_o (by decide)
  have e12 : zStp X a b 12 4 = X 12 4 + 1 := rfl
  obtain ⟨h1, h2⟩ := e
  unfold zHX
  rw [e0, e22, e12]
  refine ⟨fun i i0 i1 => ?_, fun t t0 t1 => ?_⟩
  · rw [zStp_14]
    split
    · omega
    · exact h1 i i0 (by omega)
  · obtain ⟨j, jb, j1, j2, j3⟩ := h2 t t0 t1
    refine ⟨j, by omega, fun i i0 i1 => ?_, fun i i0 i1 => ?_, fun c c0 c1 => ?_⟩
    · rw [zStp_14, if_neg (by omega)]; exact j1 i i0 i1
    · rw [zStp_14]
      split
      · omega
      · exact j2 i i0 (by omega)
    · have cg : zsw (zStp X a b 16) (zStp X a b 18) j.toNat = zsw (X 16) (X 18) j.toNat := by
        refine zsw_cg j.toNat (fun k k0 k1 => ?_)
        rw [zStp_16, zStp_18, if_neg (by omega), if_neg (by omega)]
        exact ⟨rfl, rfl⟩
      rw [cg]
      exact j3 c c0 c1
theorem zHX_ER {X : zI} (ci : zCI X) (e : zHX X) : ∀ n : Nat, zHX (zERX X n)
  | 0 => e
  | n + 1 => by
    have hl := ci.1.2.2.2.1.1.1
    have := zERX_l (X := X) n
    exact zHX_st (by omega) (zHX_ER ci e n)
theorem zHX_fin {X : zI} (ci : zCI X) (e : zHX X) : zHX (zFnX (zERX X (X 7 2).toNat)) := by
  have hm := ci.2.1
  have ck := zCK_ER ci (X 7 2).toNat (by omega)
  have hh := zHX_ER ci e (X 7 2).toNat
  have e0 : zERX X (X 7 2).toNat 0 = X 0 := zERX_o (by decide) _
  generalize zERX X (X 7 2).toNat = Y at ck hh e0
  obtain ⟨w, v, -, ⟨hl0, -, hps⟩, -⟩ := ck
  obtain ⟨h1, h2⟩ := hh
  have hN := w.1
  unfold zFnX
  by_cases hR : 0 < Y 0 9
  · rw [if_pos hR]
    exact ⟨h1, h2⟩
  · rw [if_neg hR]
    refine ⟨fun i i0 i1 => ?_, fun t t0 t1 => ?_⟩
    · show Y 14 i ≤ Y 0 8 + 1 + 1
      have := h1 i i0 i1
      omega
    · have t1' : t ≤ Y 0 8 + 1 := t1
      show ∃ j, (0 ≤ j ∧ j ≤ Y 12 4) ∧ (∀ i, 0 ≤ i → i < j → Y 14 i ≤ t) ∧ (∀ i, j ≤ i → i < Y 12 4 → t < Y 14 i) ∧ ∀ c, 0 ≤ c → c < Y 0 5 → (if 22 = 22 ∧ (Y 0 8 + 1) * 24 ≤ t * 24 + c ∧ t * 24 + c < (Y 0 8 + 1) * 24 + Y 0 5 then Y 4 (t * 24 + c - (Y 0 8 + 1) * 24) else Y 22 (t * 24 + c)) = zsw (Y 16) (Y 18) j.toNat c
      by_cases ht : t = Y 0 8 + 1
      · refine ⟨Y 12 4, ⟨hl0, Int.le_refl _⟩, fun i i0 i1 => by rw [ht]; exact h1 i i0 i1, fun i i0 i1 => by omega, fun c c0 c1 => ?_⟩
        rw [if_pos (by omega), show t * 24 + c - (Y 0 8 + 1) * 24 = c by omega]
        exact hps c c0 c1
      · obtain ⟨j, jb, j1, j2, j3⟩ := h2 t t0 (by omega)
        refine ⟨j, jb, j1, j2, fun c c0 c1 => ?_⟩
        rw [if_neg (by omega)]
        exact j3 c c0 c1
theorem zCH_fin {X : zI} (h : zCH X) (hr : ¬ X 0 9 = -1) : zCH (zFnX (zERX X (X 7 2).toNat)) := ⟨zCI_fin h.1 hr, zHX_fin h.1 h.2⟩
/-- a race that ends behind the first division leaves the head -/
theorem zER_head {X : zI} (ci : zCI X) (hr : 0 < X 0 9 * X 0 6) : ∀ n : Nat, (n : Int) ≤ X 7 2 → zERX X n 6 0 = X 6 0 ∧ ∀ c, zIs (X 0) (X 4) c → X 0 9 * X 0 6 ≤ zERX X n 4 c
  | 0, _ => ⟨rfl, fun c h => h.2.1⟩
  | n + 1, hn => by
    obtain ⟨i1, i2⟩ := zER_head ci hr n (by omega)
    have dk := ci.2.2 n (by omega) (by omega)
    have ba := i2 _ dk.1
    have bb := i2 _ dk.2.1
    show zStp (zERX X n) (X 9 n) (X 11 n) 6 0 = X 6 0 ∧ ∀ c, zIs (X 0) (X 4) c → X 0 9 * X 0 6 ≤ zStp (zERX X n) (X 9 n) (X 11 n) 4 c
    refine ⟨?_, fun c hc => ?_⟩
    · rw [zStp_6, if_neg (by omega), if_neg (by omega)]
      exact i1
    · have := i2 c hc
      rw [zStp_4]
      split
      · exact ba
      · split
        · exact bb
        · exact this
/-- the places after a day, each with one crew -/
theorem zPA_on {X : zI} (h : zCH X) {t : Int} (t0 : 0 ≤ t) (t1 : t ≤ X 0 8) {q : Int} (q0 : 0 ≤ q) (q1 : q < X 0 5) : ∃ c, 0 ≤ c ∧ c < X 0 5 ∧ X 22 (t * 24 + c) = q := by
  obtain ⟨j, jb, -, -, j3⟩ := h.2.2 t t0 t1
  have hlg := h.1.1.2.2.2.1.2.1
  obtain ⟨c, c0, c1, hc⟩ := zsw_on (u := X 16) (d := X 18) (N := X 0 5) j.toNat (fun k k0 k1 => ⟨(hlg k k0 (by omega)).1, (hlg k k0 (by omega)).2.1⟩) q q0 q1
  exact ⟨c, c0, c1, by rw [j3 c c0 c1]; exact hc⟩
