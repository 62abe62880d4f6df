theorem zup_at {I : zI} {r : Nat} {k v j : Int} : zup I r k v r j = if j = k then v else I r j := by simp [zup]
/-- a chart seen from its own object -/
def zX (I : zI) (b : Nat) : zI := fun k => I (b + k)
/-- crews' places after so many bumps, from each at its own number -/
def zsw (u d : Int → Int) : Nat → Int → Int
  | 0 => fun c => c
  | n + 1 => fun c => if c = u n then zsw u d n (d n) else if c = d n then zsw u d n (u n) else zsw u d n c
/-- how many bumps there can be so far -/
def zlb (F : Int → Int) : Int := 16 * F 8 + (if F 9 = -1 then 0 else (F 6 + 1) / 2 * ((F 5 + F 6 - 1) / F 6 - 1 - F 9))
def zLg (X : zI) : Prop :=
  (0 ≤ X 12 4 ∧ X 12 4 ≤ zlb (X 0)) ∧
  (∀ k, 0 ≤ k → k < X 12 4 → (0 ≤ X 16 k ∧ X 16 k < X 0 5) ∧ (0 ≤ X 18 k ∧ X 18 k < X 0 5) ∧ ¬ X 16 k = X 18 k ∧ X 20 k = zsw (X 16) (X 18) k.toNat (X 16 k) - zsw (X 16) (X 18) k.toNat (X 18 k)) ∧
  ∀ c, 0 ≤ c → c < X 0 5 → X 4 c = zsw (X 16) (X 18) (X 12 4).toNat c
def zPA (X : zI) : Prop := (∀ t c, 0 ≤ t → t ≤ X 0 8 → 0 ≤ c → c < X 0 5 → 0 ≤ X 22 (t * 24 + c) ∧ X 22 (t * 24 + c) < X 0 5) ∧ ∀ c, 0 ≤ c → c < X 0 5 → X 22 (0 * 24 + c) = c
/-- what holds of a chart between the calls, its race apart -/
def zCJ (X : zI) : Prop := zW1 (X 0) ∧ zW2 (X 0) (X 4) (X 6) ∧ (∀ c, 0 ≤ c → c < X 0 5 → 1 ≤ X 2 c ∧ X 2 c ≤ 1000) ∧ zLg X ∧ zPA X
def zCI (X : zI) : Prop := zCJ X ∧ 0 ≤ X 7 2 ∧ zDis (X 0) (X 4) (X 7 2) (X 9) (X 11)
/-- charts alike in what is their own -/
def zSa (X Y : zI) : Prop := (X 2 = Y 2 ∧ X 4 = Y 4 ∧ X 6 = Y 6 ∧ X 9 = Y 9 ∧ X 11 = Y 11 ∧ X 14 = Y 14 ∧ X 16 = Y 16 ∧ X 18 = Y 18 ∧ X 20 = Y 20 ∧ X 22 = Y 22) ∧ (X 0 5 = Y 0 5 ∧ X 0 6 = Y 0 6 ∧ X 0 7 = Y 0 7 ∧ X 0 8 = Y 0 8 ∧ X 0 9 = Y 0 9 ∧ X 0 10 = Y 0 10 ∧ X 0 11 = Y 0 11) ∧ X 7 2 = Y 7 2 ∧ X 12 4 = Y 12 4
theorem zSa_r {X : zI} : zSa X X := ⟨⟨rfl, rfl, rfl, rfl, rfl, rfl, rfl, rfl, rfl, rfl⟩, ⟨rfl, rfl, rfl, rfl, rfl, rfl, rfl⟩, rfl, rfl⟩
theorem zSa_s {X Y : zI} (h : zSa X Y) : zSa Y X := by
  obtain ⟨⟨a1, a2, a3, a4, a5, a6, a7, a8, a9, a10⟩, ⟨b1, b2, b3, b4, b5, b6, b7⟩, c1, c2⟩ := h
  exact ⟨⟨a1.symm, a2.symm, a3.symm, a4.symm, a5.symm, a6.symm, a7.symm, a8.symm, a9.symm, a10.symm⟩, ⟨b1.symm, b2.symm, b3.symm, b4.symm, b5.symm, b6.symm, b7.symm⟩, c1.symm, c2.symm⟩
theorem zSa_J {X Y : zI} (h : zSa X Y) (e : zCJ X) : zCJ Y := by
  obtain ⟨⟨a1, a2, a3, a4, a5, a6, a7, a8, a9, a10⟩, ⟨b1, b2, b3, b4, b5, b6, b7⟩, c1, c2⟩ := h
  unfold zCJ zW1 zW2 zLg zlb zPA at e ⊢
  rw [← a1, ← a2, ← a3, ← a7, ← a8, ← a9, ← a10, ← b1, ← b2, ← b3, ← b4, ← b5, ← b6, ← b7, ← c2]
  exact e
theorem zSa_I {X Y : zI} (h : zSa X Y) (e : zCI X) : zCI Y := by
  refine ⟨zSa_J h e.1, ?_⟩
  have e2 := e.2
  obtain ⟨⟨a1, a2, a3, a4, a5, a6, a7, a8, a9, a10⟩, ⟨b1, b2, b3, b4, b5, b6, b7⟩, c1, c2⟩ := h
  unfold zDis zIs zns at e2 ⊢
  rw [← a2, ← a4, ← a5, ← b1, ← b2, ← b5, ← c1]
  exact e2
theorem zsw_s {u d : Int → Int} {k : Int} (h : 0 ≤ k) : zsw u d (k + 1).toNat = fun c => if c = u k then zsw u d k.toNat (d k) else if c = d k then zsw u d k.toNat (u k) else zsw u d k.toNat c := by
  obtain ⟨j, rfl⟩ : ∃ j : Nat, k = j := ⟨k.toNat, by omega⟩
  rfl
theorem zsw_cg {u d u2 d2 : Int → Int} : ∀ n : Nat, (∀ k, 0 ≤ k → k < (n : Int) → u k = u2 k ∧ d k = d2 k) → zsw u d n = zsw u2 d2 n
  | 0, _ => rfl
  | n + 1, h => by
    have ih := zsw_cg n (fun k k0 k1 => h k k0 (by omega))
    have e := h n (by omega) (by omega)
    show (fun c => if c = u n then zsw u d n (d n) else if c = d n then zsw u d n (u n) else zsw u d n c) = (fun c => if c = u2 n then zsw u2 d2 n (d2 n) else if c = d2 n then zsw u2 d2 n (u2 n) else zsw u2 d2 n c)
    rw [ih, e.1, e.2]
theorem zsw_in {u d : Int → Int} {N : Int} : ∀ n : Nat, (∀ k, 0 ≤ k → k < (n : Int) → (0 ≤ u k ∧ u k < N) ∧ (0 ≤ d k ∧ d k < N)) → ∀ c, 0 ≤ c → c < N → 0 ≤ zsw u d n c ∧ zsw u d n c < N
  | 0, _, c, c0, c1 => ⟨c0, c1⟩
  | n + 1, h, c, c0, c1 => by
    have ih := zsw_in n (fun k k0 k1 => h k k0 (by omega))
    have e := h n (by omega) (by omega)
    show 0 ≤ (if c = u n then zsw u d n (d n) else if c = d n then zsw u d n (u n) else zsw u d n c) ∧ (if c = u n then zsw u d n (d n) else if c = d n then zsw u d n (u n) else zsw u d n c) < N
    split
    · exact ih _ e.2.1 e.2.2
    · split
      · exact ih _ e.1.1 e.1.2
      · exact ih _ c0 c1
/-- a crew followed through its own bumps is where the exchanges put it -/
theorem zfol_sw {u d s : Int → Int} {c N : Int} : ∀ n : Nat, (∀ k, 0 ≤ k → k < (n : Int) → ¬ u k = d k ∧ s k = zsw u d k.toNat (u k) - zsw u d k.toNat (d k)) → zfol u d s c n = zsw u d n c
  | 0, _ => rfl
  | n + 1, h => by
    have ih := zfol_sw (c := c) (N := N) n (fun k k0 k1 => h k k0 (by omega))
    have e := h n (by omega) (by omega)
    rw [show ((n : Int)).toNat = n from by omega] at e
    show (if u n = c then zfol u d s c n - s n else if d n = c then zfol u d s c n + s n else zfol u d s c n) = (if c = u n then zsw u d n (d n) else if c = d n then zsw u d n (u n) else zsw u d n c)
    rw [ih, e.2]
    by_cases h1 : u n = c
    · rw [if_pos h1, if_pos h1.symm, h1]; omega
    · rw [if_neg h1, if_neg (show ¬ c = u n from fun h9 => h1 h9.symm)]
      by_cases h2 : d n = c
      · rw [if_pos h2, if_pos h2.symm, h2]; omega
      · rw [if_neg h2, if_neg (show ¬ c = d n from fun h9 => h2 h9.symm)]
theorem zX_cg {J I : zI} {b : Nat} (h : ∀ r, b ≤ r → r < b + 23 → J r = I r) : zSa (zX I b) (zX J b) := by
  have g : ∀ k, k < 23 → zX I b k = zX J b k := fun k hk => (h (b + k) (by omega) (by omega)).symm
  exact ⟨⟨g _ (by decide), g _ (by decide), g _ (by decide), g _ (by decide), g _ (by decide), g _ (by decide), g _ (by decide), g _ (by decide), g _ (by decide), g _ (by decide)⟩, ⟨by rw [g 0 (by decide)], by rw [g 0 (by decide)], by rw [g 0 (by decide)], by rw [g 0 (by decide)], by rw [g 0 (by decide)], by rw [g 0 (by decide)], by rw [g 0 (by decide)]⟩, by rw [g 7 (by decide)], by rw [g 12 (by decide)]⟩
theorem zPi_b {π : Int → Nat} (h : zPi π) {k : Int} (h0 : 0 ≤ k) (h1 : k < 4) : 27 ≤ π k ∧ π k + 23 ≤ 119 := by
  have := h k h0 h1
  omega
theorem zlb_b {F : Int → Int} (w : zW1 F) : zlb F ≤ 96 ∧ (¬ F 9 = -1 → zlb F + (F 6 + 1) / 2 ≤ 96 ∧ F 8 ≤ 5 ∧ F 9 * F 6 + 1 ≤ F 5) := by
  obtain ⟨⟨w1, w2⟩, ⟨w3, w4⟩, ⟨w5, w6⟩, ⟨w7, w8⟩, ⟨w9, w10⟩, w11, ⟨⟨w12, w12b⟩, w12c⟩, ⟨w13, w14⟩, ⟨w15, w16⟩⟩ := w
  unfold zlb
  rcases (show F 6 = 3 ∨ F 6 = 4 ∨ F 6 = 5 ∨ F 6 = 6 ∨ F 6 = 7 ∨ F 6 = 8 by omega) with e | e | e | e | e | e <;> rw [e] at w12 w12b w12c ⊢ <;> omega
theorem zX_up {I : zI} {b k : Nat} {j v : Int} : zX (zup I (b + k) j v) b = zup (zX I b) k j v := by
  funext r i
  unfold zX zup
  by_cases h : r = k
  · subst h; simp
  · rw [if_neg (fun h9 => h (by omega)), if_neg (fun h9 => h h9.1)]
/-- one bump of a race that ends, seen from the chart -/
def zStp (X : zI) (u d : Int) : zI := zup (zup (zup (zup (zup (zup (zup (zup (zup X 14 (X 12 4) (X 0 8 + 1)) 16 (X 12 4) u) 18 (X 12 4) d) 20 (X 12 4) (X 4 u - X 4 d)) 12 4 (X 12 4 + 1)) 6 (X 4 d) u) 4 u (X 4 d)) 6 (X 4 u) d) 4 d (X 4 u)
theorem zStp_X {K : zI} {u d : Int} : zX (zStep K u d) 2 = zStp (zX K 2) u d := by
  unfold zStep zStp
  rw [zX_up (k := 4), zX_up (k := 6), zX_up (k := 4), zX_up (k := 6), zX_up (k := 12), zX_up (k := 20), zX_up (k := 18), zX_up (k := 16), zX_up (k := 14)]
  rfl
/-- a race's end, seen from the chart: nothing is to be exchanged any more -/
def zFnX (X : zI) : zI := if 0 < X 0 9 then zup (zup X 7 2 0) 0 9 (X 0 9 - 1) else zup (zup (zup (fun r j => if r = 22 ∧ (X 0 8 + 1) * 24 ≤ j ∧ j < (X 0 8 + 1) * 24 + X 0 5 then X 4 (j - (X 0 8 + 1) * 24) else X r j) 7 2 0) 0 8 (X 0 8 + 1)) 0 9 (if X 0 8 + 1 < X 0 7 then (X 0 5 + X 0 6 - 1) / X 0 6 - 1 else -1)
theorem zup_u {I : zI} {r : Nat} {k v : Int} : zup I r k v r = zu1 (I r) k v := by
  funext j
  simp [zup, zu1]
/-- a race's bumps exchanged, the first so many -/
def zERX (X : zI) : Nat → zI
  | 0 => X
  | n + 1 => zStp (zERX X n) (X 9 n) (X 11 n)
theorem zERX_X {K : zI} : ∀ n : Nat, zX (zER K n) 2 = zERX (zX K 2) n
  | 0 => rfl
  | n + 1 => by
    show zX (zStep (zER K n) (K 11 n) (K 13 n)) 2 = zStp (zERX (zX K 2) n) (K 11 n) (K 13 n)
    rw [zStp_X, zERX_X n]
theorem zStp_o {X : zI} {u d : Int} {r : Nat} (h : r ≠ 4 ∧ r ≠ 6 ∧ r ≠ 12 ∧ r ≠ 14 ∧ r ≠ 16 ∧ r ≠ 18 ∧ r ≠ 20) : zStp X u d r = X r := by
  obtain ⟨h1, h2, h3, h4, h5, h6, h7⟩ := h
  unfold zStp
  rw [zup_ne h1, zup_ne h2, zup_ne h1, zup_ne h2, zup_ne h3, zup_ne h7, zup_ne h6, zup_ne h5, zup_ne h4]
theorem zERX_o {X : zI} {r : Nat} (h : r ≠ 4 ∧ r ≠ 6 ∧ r ≠ 12 ∧ r ≠ 14 ∧ r ≠ 16 ∧ r ≠ 18 ∧ r ≠ 20) : ∀ n : Nat, zERX X n r = X r
  | 0 => rfl
  | n + 1 => by
    show zStp (zERX X n) _ _ r = _
    rw [zStp_o h, zERX_o h n]
theorem zERX_l {X : zI} : ∀ n : Nat, zERX X n 12 4 = X 12 4 + n
  | 0 => by show X 12 4 = X 12 4 + ((0 : Nat) : Int); omega
  | n + 1 => by
    have h := zERX_l (X := X) n
    show zStp (zERX X n) _ _ 12 4 = _
    have : zStp (zERX X n) (X 9 n) (X 11 n) 12 4 = zERX X n 12 4 + 1 := rfl
    rw [this, h]
    omega
/-- as zCJ, but how many bumps there can be -/
def zCK (X : zI) : Prop := zW1 (X 0) ∧ zW2 (X 0) (X 4) (X 6) ∧ (∀ c, 0 ≤ c → c < X 0 5 → 1 ≤ X 2 c ∧ X 2 c ≤ 1000) ∧ (0 ≤ X 12 4 ∧ (∀ k, 0 ≤ k → k < X 12 4 → (0 ≤ X 16 k ∧ X 16 k < X 0 5) ∧ (0 ≤ X 18 k ∧ X 18 k < X 0 5) ∧ ¬ X 16 k = X 18 k ∧ X 20 k = zsw (X 16) (X 18) k.toNat (X 16 k) - zsw (X 16) (X 18) k.toNat (X 18 k)) ∧ ∀ c, 0 ≤ c → c < X 0 5 → X 4 c = zsw (X 16) (X 18) (X 12 4).toNat c) ∧ zPA X
theorem zCJ_CK {X : zI} (h : zCJ X) : zCK X := by
  obtain ⟨w, v, hsp, ⟨⟨hl0, hl1⟩, hlg, hps⟩, hpa⟩ := h
  exact ⟨w, v, hsp, ⟨hl0, hlg, hps⟩, hpa⟩
theorem zCK_CJ {X : zI} (h : zCK X) (h2 : X 12 4 ≤ zlb (X 0)) : zCJ X := by
  obtain ⟨w, v, hsp, ⟨hl0, hlg, hps⟩, hpa⟩ := h
  exact ⟨w, v, hsp, ⟨⟨hl0, h2⟩, hlg, hps⟩, hpa⟩
theorem zStp_4 {X : zI} {a b c : Int} : zStp X a b 4 c = if c = b then X 4 a else if c = a then X 4 b else X 4 c := by
  unfold zStp
  rw [zup_at, zup_ne (by decide), zup_at, zup_ne (by decide), zup_ne (by decide), zup_ne (by decide), zup_ne (by decide), zup_ne (by decide), zup_ne (by decide)]
theorem zStp_6 {X : zI} {a b c : Int} : zStp X a b 6 c = if c = X 4 a then b else if c = X 4 b then a else X 6 c := by
  unfold zStp
  rw [zup_ne (by decide), zup_at, zup_ne (by decide), zup_at, zup_ne (by decide), zup_ne (by decide), zup_ne (by decide), zup_ne (by decide), zup_ne (by decide)]
theorem zStp_16 {X : zI} {a b k : Int} : zStp X a b 16 k = if k = X 12 4 then a else X 16 k := by
  unfold zStp
  rw [zup_ne (by decide), zup_ne (by decide), zup_ne (by decide), zup_ne (by decide), zup_ne (by decide), zup_ne (by decide), zup_ne (by decide), zup_at, zup_ne (by decide)]
theorem zStp_18 {X : zI} {a b k : Int} : zStp X a b 18 k = if k = X 12 4 then b else X 18 k := by
  unfold zStp
  rw [zup_ne (by decide), zup_ne (by decide), zup_ne (by decide), zup_ne (by decide), zup_ne (by decide), zup_ne (by decide), zup_at, zup_ne (by decide), zup_ne (by decide)]
theorem zStp_20 {X : zI} {a b k : Int} : zStp X a b 20 k = if k = X 12 4 then X 4 a - X 4 b else X 20 k := by
  unfold zStp
  rw [zup_ne (by decide), zup_ne (by decide), zup_ne (by decide), zup_ne (by decide), zup_ne (by decide), zup_at, zup_ne (by decide), zup_ne (by decide), zup_ne (by decide)]
theorem zW2_x {F Pl Q : Int → Int} {a b : Int} (hN : F 5 ≤ 24) (v : zW2 F Pl Q) (ha : 0 ≤ a ∧ a < F 5) (hb : 0 ≤ b ∧ b < F 5) (hab : ¬ a = b) : zW2 F (fun c => if c = b then Pl a else if c = a then Pl b else Pl c) (fun c => if c = Pl a then b else if c = Pl b then a else Q c) := by
  have va := v.1 a ha.1 ha.2
  have vb := v.1 b hb.1 hb.2
  refine ⟨fun c c0 c1 => ?_, fun q q0 q1 => ?_, fun c c0 c1 => ?_⟩
  · have vc := v.1 c c0 c1
    dsimp only
    by_cases h1 : c = b
    · rw [if_pos h1, if_pos rfl]; omega
    · rw [if_neg h1]
      by_cases h2 : c = a
      · rw [if_pos h2, if_neg (fun h => hab (by rw [← va.2.2, ← vb.2.2, h])), if_pos rfl]; omega
      · rw [if_neg h2, if_neg (fun h => h2 (by rw [← vc.2.2, h, va.2.2])), if_neg (fun h => h1 (by rw [← vc.2.2, h, vb.2.2]))]; omega
  · have vq := v.2.1 q q0 q1
    dsimp only
    by_cases h1 : q = Pl a
    · rw [if_pos h1, if_pos rfl]; omega
    · rw [if_neg h1]
      by_cases h2 : q = Pl b
      · rw [if_pos h2, if_neg hab, if_pos rfl]; omega
      · rw [if_neg h2, if_neg (fun h => h2 (by rw [← vq.2.2, h])), if_neg (fun h => h1 (by rw [← vq.2.2, h]))]; omega
  · have vc := v.2.2 c c0 c1
    have va3 := v.2.2 a ha.1 (by omega)
    have vb3 := v.2.2 b hb.1 (by omega)
    dsimp only
    split
    · exact va3
    · split
      · exact vb3
      · exact vc
theorem zCK_st {X : zI} {a b : Int} (h : zCK X) (ha : 0 ≤ a ∧ a < X 0 5) (hb : 0 ≤ b ∧ b < X 0 5) (hab : ¬ a = b) : zCK (zStp X a b) := by
  obtain ⟨w, v, hsp, ⟨hl0, hlg, hps⟩, hpt, hp0⟩ := h
  have e0 : zStp X a b 0 = X 0 := zStp_o (by decide)
  have e2 : zStp X a b 2 = X 2 := zStp_o (by decide)
  have e22 : zStp X a b 22 = X 22 := zStp_o (by decide)
  have e12 : zStp X a b 12 4 = X 12 4 + 1 := rfl
  have cg : ∀ n : Nat, (n : Int) ≤ X 12 4 → zsw (zStp X a b 16) (zStp X a b 18) n = zsw (X 16) (X 18) n := by
    intro n hn
    refine zsw_cg n (fun k k0 k1 => ?_)
    rw [zStp_16, zStp_18, if_neg (by omega), if_neg (by omega)]
    exact ⟨rfl, rfl⟩
  unfold zCK zPA
  rw [e0, e2, e22, e12]
  refine ⟨w, ?_, hsp, ⟨by omega, fun k k0 k1 => ?_, fun c c0 c1 => ?_⟩, hpt, hp0⟩
  · have h4 : zStp X a b 4 = fun c => if c = b then X 4 a else if c = a then X 4 b else X 4 c := funext fun c => zStp_4
    have h6 : zStp X a b 6 = fun c => if c = X 4 a then b else if c = X 4 b then a else X 6 c := funext fun c => zStp_6
    rw [h4, h6]
    exact zW2_x (by have := w.1; omega) v ha hb hab
  · rw [cg k.toNat (by omega), zStp_16, zStp_18, zStp_20]
    by_cases hk : k = X 12 4
    · rw [if_pos hk, if_pos hk, if_pos hk]
      refine ⟨ha, hb, hab, ?_⟩
      rw [hk, ← hps a ha.1 ha.2, ← hps b hb.1 hb.2]
    · rw [if_neg hk, if_neg hk, if_neg hk]
      exact hlg k k0 (by omega)
  · rw [zsw_s hl0, zStp_4, zStp_16, zStp_18, if_pos rfl, if_pos rfl, cg _ (by omega)]
    dsimp only
    by_cases h1 : c = b
    · subst h1
      rw [if_pos rfl, if_neg (fun h => hab h.symm), if_pos rfl]
      exact hps a ha.1 ha.2
    · rw [if_neg h1]
      by_cases h2 : c = a
      · rw [if_pos h2, if_pos h2]
        exact hps b hb.1 hb.2
      · rw [if_neg h2, if_neg h2, if_neg h1]
        exact hps c c0 c1
theorem zCK_ER {X : zI} (ci : zCI X) : ∀ n : Nat, (n : Int) ≤ X 7 2 → zCK (zERX X n)
  | 0, _ => zCJ_CK ci.1
  | n + 1, hn => by
    have ih := zCK_ER ci n (by omega)
    have dk := ci.2.2 n (by omega) (by omega)
    have e0 : zERX X n 0 = X 0 := zERX_o (by decide) _
    refine zCK_st ih (by rw [e0]; exact dk.1.1) (by rw [e0]; exact dk.2.1.1) (fun h => ?_)
    have := dk.2.2.1
    rw [h] at this
    omega
theorem zCI_fin {X : zI} (ci : zCI X) (hr : ¬ X 0 9 = -1) : zCI (zFnX (zERX X (X 7 2).toNat)) := by
  have hm := ci.2.1
  have hd := ci.2.2
  have w := ci.1.1
  have v := ci.1.2.1
  have hlb := ci.1.2.2.2.1.1
  have ck := zCK_ER ci (X 7 2).toNat (by omega)
  have e0 : zERX X (X 7 2).toNat 0 = X 0 := zERX_o (by decide) _
  have eL := zERX_l (X := X) (X 7 2).toNat
  have hm4 := zdis_le w v hd hm
  generalize zERX X (X 7 2).toNat = Y at ck e0 eL
  obtain ⟨_, v', hsp, ⟨hl0, hlg, hps⟩, hpt, hp0⟩ := ck
  unfold zlb at hlb
  obtain ⟨⟨w1, w2⟩, ⟨w3, w4⟩, ⟨w5, w6⟩, ⟨w7, w8⟩, ⟨w9, w10⟩, w11, ⟨⟨w12, w12b⟩, w12c⟩, ⟨w13, w14⟩, ⟨w15, w16⟩⟩ := id w
  rw [if_neg hr] at hlb
  have hz : zns (X 0) ≤ X 0 6 + 1 := by unfold zns; omega
  unfold zFnX
  rw [e0]
  by_cases hR : 0 < X 0 9
  · rw [if_pos hR]
    refine ⟨zCK_CJ ⟨?_, v', hsp, ⟨hl0, hlg, hps⟩, ?_⟩ ?_, ?_, fun k k0 k1 => ?_⟩
    · unfold zW1
      show (2 ≤ Y 0 5 ∧ Y 0 5 ≤ 24) ∧ (3 ≤ Y 0 6 ∧ Y 0 6 ≤ 8) ∧ (1 ≤ Y 0 7 ∧ Y 0 7 ≤ 6) ∧ (0 ≤ Y 0 8 ∧ Y 0 8 ≤ Y 0 7) ∧ (-1 ≤ X 0 9 - 1 ∧ X 0 9 - 1 ≤ 7) ∧ (X 0 9 - 1 = -1 ↔ Y 0 8 = Y 0 7) ∧ ((-8 ≤ (X 0 9 - 1) * Y 0 6 ∧ (X 0 9 - 1) * Y 0 6 < Y 0 5) ∧ (X 0 9 - 1 = -1 ∨ 0 ≤ (X 0 9 - 1) * Y 0 6)) ∧ (100 ≤ Y 0 10 ∧ Y 0 10 ≤ 5000) ∧ (1 ≤ Y 0 11 ∧ Y 0 11 ≤ 1000)
      rw [e0]
      have h1 : 0 ≤ (X 0 9 - 1) * X 0 6 := Int.mul_nonneg (by omega) (by omega)
      have h2 : (X 0 9 - 1) * X 0 6 = X 0 9 * X 0 6 - X 0 6 := by rw [Int.sub_mul]; omega
      omega
    · exact ⟨hpt, hp0⟩
    · show Y 12 4 ≤ 16 * Y 0 8 + (if X 0 9 - 1 = -1 then 0 else (Y 0 6 + 1) / 2 * ((Y 0 5 + Y 0 6 - 1) / Y 0 6 - 1 - (X 0 9 - 1)))
      rw [e0, if_neg (by omega)]
      rcases (show X 0 6 = 3 ∨ X 0 6 = 4 ∨ X 0 6 = 5 ∨ X 0 6 = 6 ∨ X 0 6 = 7 ∨ X 0 6 = 8 by omega) with e | e | e | e | e | e <;> rw [e] at hlb hz ⊢ <;> omega
    · show (0 : Int) ≤ 0
      omega
    · have k1' : k < 0 := k1
      omega
  · have h9 : X 0 9 = 0 := by omega
    rw [if_neg hR]
    have hx : ∃ x, x = (if X 0 8 + 1 < X 0 7 then (X 0 5 + X 0 6 - 1) / X 0 6 - 1 else -1) := ⟨_, rfl⟩
    obtain ⟨x, hx⟩ := hx
    rw [← hx]
    rw [h9] at hlb
    refine ⟨zCK_CJ ⟨?_, v', hsp, ⟨hl0, hlg, hps⟩, ?_, ?_⟩ ?_, ?_, fun k k0 k1 => ?_⟩
    · unfold zW1
      show (2 ≤ Y 0 5 ∧ Y 0 5 ≤ 24) ∧ (3 ≤ Y 0 6 ∧ Y 0 6 ≤ 8) ∧ (1 ≤ Y 0 7 ∧ Y 0 7 ≤ 6) ∧ (0 ≤ X 0 8 + 1 ∧ X 0 8 + 1 ≤ Y 0 7) ∧ (-1 ≤ x ∧ x ≤ 7) ∧ (x = -1 ↔ X 0 8 + 1 = Y 0 7) ∧ ((-8 ≤ x * Y 0 6 ∧ x * Y 0 6 < Y 0 5) ∧ (x = -1 ∨ 0 ≤ x * Y 0 6)) ∧ (100 ≤ Y 0 10 ∧ Y 0 10 ≤ 5000) ∧ (1 ≤ Y 0 11 ∧ Y 0 11 ≤ 1000)
      rw [e0]
      rcases (show X 0 6 = 3 ∨ X 0 6 = 4 ∨ X 0 6 = 5 ∨ X 0 6 = 6 ∨ X 0 6 = 7 ∨ X 0 6 = 8 by omega) with e | e | e | e | e | e <;> rw [e] at hx ⊢ <;> (split at hx <;> omega)
    · intro t c t0 t1 c0 c1
      have t1' : t ≤ X 0 8 + 1 := t1
      have c1' : c < Y 0 5 := c1
      rw [e0] at c1'
      show 0 ≤ (if 22 = 22 ∧ (X 0 8 + 1) * 24 ≤ t * 24 + c ∧ t * 24 + c < (X 0 8 + 1) * 24 + X 0 5 then Y 4 (t * 24 + c - (X 0 8 + 1) * 24) else Y 22 (t * 24 + c)) ∧ (if 22 = 22 ∧ (X 0 8 + 1) * 24 ≤ t * 24 + c ∧ t * 24 + c < (X 0 8 + 1) * 24 + X 0 5 then Y 4 (t * 24 + c - (X 0 8 + 1) * 24) else Y 22 (t * 24 + c)) < Y 0 5
      rw [e0]
      by_cases ht : t = X 0 8 + 1
      · rw [if_pos (by omega), show t * 24 + c - (X 0 8 + 1) * 24 = c by omega]
        have := v'.1 c c0 (by rw [e0]; exact c1')
        rw [e0] at this
        omega
      · rw [if_neg (by omega)]
        have := hpt t c t0 (by rw [e0]; omega) c0 (by rw [e0]; exact c1')
        rw [e0] at this
        exact this
    · intro c c0 c1
      have c1' : c < Y 0 5 := c1
      rw [e0] at c1'
      show (if 22 = 22 ∧ (X 0 8 + 1) * 24 ≤ 0 * 24 + c ∧ 0 * 24 + c < (X 0 8 + 1) * 24 + X 0 5 then Y 4 (0 * 24 + c - (X 0 8 + 1) * 24) else Y 22 (0 * 24 + c)) = c
      rw [if_neg (by omega)]
      exact hp0 c c0 (by rw [e0]; exact c1')
    · show Y 12 4 ≤ 16 * (X 0 8 + 1) + (if x = -1 then 0 else (Y 0 6 + 1) / 2 * ((Y 0 5 + Y 0 6 - 1) / Y 0 6 - 1 - x))
      rw [e0]
      rcases (show X 0 6 = 3 ∨ X 0 6 = 4 ∨ X 0 6 = 5 ∨ X 0 6 = 6 ∨ X 0 6 = 7 ∨ X 0 6 = 8 by omega) with e | e | e | e | e | e <;> rw [e] at hx hlb hz ⊢ <;> (split at hx <;> split <;> omega)
    · show (0 : Int) ≤ 0
      omega
    · have k1' : k < 0 := k1
      omega

/-- the bumps left of the first n, seen from the chart -/
def zTBX (X : zI) (m : Int) : Nat → zI
  | 0 => zup X 7 2 0
  | n + 1 => if zbt m n then zTBX X m n else zup (zup (zup (zTBX X m n) 9 (zTBX X m n 7 2) (zTBX X m n 9 n)) 11 (zTBX X m n 7 2) (zTBX X m n 11 n)) 7 2 (zTBX X m n 7 2 + 1)
theorem zTBX_X {I : zI} {m : Int} : ∀ n : Nat, zX (zTB I m n) 2 = zTBX (zX I 2) m n
  | 0 => zX_up (b := 2) (k := 7)
  | n + 1 => by
    have ih := zTBX_X (I := I) (m := m) n
    unfold zTB zTBX
    by_cases h : zbt m n
    · rw [if_pos h, if_pos h, ih]
    · rw [if_neg h, if_neg h, ← ih, zX_up (b := 2) (k := 7), zX_up (b := 2) (k := 11), zX_up (b := 2) (k := 9)]
      rfl
theorem zTBX_o {X : zI} {m : Int} {r : Nat} (h : r ≠ 7 ∧ r ≠ 9 ∧ r ≠ 11) : ∀ n : Nat, zTBX X m n r = X r
  | 0 => zup_ne h.1
  | n + 1 => by
    unfold zTBX
    split
    · exact zTBX_o h n
    · rw [zup_ne h.1, zup_ne h.2.2, zup_ne h.2.1]; exact zTBX_o h n
/-- how many places of the first n the mask has -/
def zbs (m : Int) : Nat → Int
  | 0 => 0
  | n + 1 => zbs m n + (if zbt m n then 1 else 0)
theorem zTBX_c {X : zI} {m : Int} : ∀ n : Nat, (0 ≤ zTBX X m n 7 2 ∧ zTBX X m n 7 2 ≤ n) ∧ zTBX X m n 7 2 = n - zbs m n
  | 0 => by
    show (0 ≤ (0 : Int) ∧ (0 : Int) ≤ ((0 : Nat) : Int)) ∧ (0 : Int) = ((0 : Nat) : Int) - 0
    omega
  | n + 1 => by
    have ih := zTBX_c (X := X) (m := m) n
    unfold zTBX zbs
    by_cases h : zbt m n
    · rw [if_pos h, if_pos h]; omega
    · rw [if_neg h, if_neg h]
      show (0 ≤ zTBX X m n 7 2 + 1 ∧ zTBX X m n 7 2 + 1 ≤ ((n + 1 : Nat) : Int)) ∧ zTBX X m n 7 2 + 1 = ((n + 1 : Nat) : Int) - (zbs m n + 0)
      omega
theorem zbs_c0 : ∀ m : Fin 16, zbs m.val 4 = zbc m.val := by decide +kernel
theorem zbs_c {nd : Int → Int → Prop} {b g : Int} {n : Int} (hn : b < n ∧ n ≤ 4) (hb : 0 ≤ b) (h : zTk nd b n g) : zbs g n.toNat = zbc g := by
  have h4 : zbs g 4 = zbc g := by
    have := zbs_c0 ⟨g.toNat, by have := h.1; omega⟩
    simpa only [show ((g.toNat : Nat) : Int) = g by have := h.1; omega] using this
  have key : ∀ j : Nat, n ≤ (j : Int) → j ≤ 4 → zbs g j = zbs g n.toNat := by
    intro j
    induction j with
    | zero => intro j0 _; rw [show n.toNat = 0 by omega]
    | succ j ih =>
      intro j0 j1
      by_cases e : n = ((j + 1 : Nat) : Int)
      · rw [show n.toNat = j + 1 by omega]
      · show zbs g j + (if zbt g j then 1 else 0) = _
        rw [ih (by omega) (by omega), if_neg (fun hz => by
          rcases (h.2 j (by omega) (by omega)).mp hz with e2 | e2 <;> omega)]
        omega
  rw [← h4, key 4 (by omega) (by omega)]
theorem zTBX_D {X : zI} {m : Int} (hm : 0 ≤ X 7 2) (hd : zDis (X 0) (X 4) (X 7 2) (X 9) (X 11)) : ∀ n : Nat, (n : Int) ≤ X 7 2 → zDis (X 0) (X 4) (zTBX X m n 7 2) (zTBX X m n 9) (zTBX X m n 11) ∧ (∀ c, zOut (zTBX X m n 7 2) (zTBX X m n 9) (zTBX X m n 11) c → zOut n (X 9) (X 11) c) ∧ ∀ j, zTBX X m n 7 2 ≤ j → zTBX X m n 9 j = X 9 j ∧ zTBX X m n 11 j = X 11 j
  | 0, _ => by
    refine ⟨fun k k0 k1 => ?_, fun c hc => ?_, fun j _ => ⟨rfl, rfl⟩⟩
    · have k1' : k < 0 := k1
      omega
    · obtain ⟨k, k0, k1, _⟩ := hc
      have k1' : k < 0 := k1
      omega
  | n + 1, hn => by
    obtain ⟨i1, i2, i3⟩ := zTBX_D (m := m) hm hd n (by omega)
    have hc := zTBX_c (X := X) (m := m) n
    have hdn := hd n (by omega) (by omega)
    have out : ∀ c, zOut n (X 9) (X 11) c → zOut ((n + 1 : Nat) : Int) (X 9) (X 11) c := fun c ⟨k, k0, k1, k2⟩ => ⟨k, k0, by omega, k2⟩
    unfold zTBX
    by_cases h : zbt m n
    · rw [if_pos h]
      exact ⟨i1, fun c h => out c (i2 c h), i3⟩
    · rw [if_neg h]
      generalize zTBX X m n = T at i1 i2 i3 hc ⊢
      have en := i3 n hc.1.2
      have e7 : (zup (zup (zup T 9 (T 7 2) (T 9 n)) 11 (T 7 2) (T 11 n)) 7 2 (T 7 2 + 1)) 7 2 = T 7 2 + 1 := rfl
      have e9 : (zup (zup (zup T 9 (T 7 2) (T 9 n)) 11 (T 7 2) (T 11 n)) 7 2 (T 7 2 + 1)) 9 = zu1 (T 9) (T 7 2) (X 9 n) := by
        rw [zup_ne (by decide), zup_ne (by decide), zup_u, en.1]
      have e11 : (zup (zup (zup T 9 (T 7 2) (T 9 n)) 11 (T 7 2) (T 11 n)) 7 2 (T 7 2 + 1)) 11 = zu1 (T 11) (T 7 2) (X 11 n) := by
        rw [zup_ne (by decide), zup_u, zup_ne (by decide), en.2]
      rw [e7, e9, e11]
      refine ⟨zdis_push i1 ⟨hdn.1, hdn.2.1, fun h => hdn.2.2.2.1 (i2 _ h), fun h => hdn.2.2.2.2 (i2 _ h), hdn.2.2.1⟩, fun c hcc => ?_, fun j hj => ?_⟩
      · rcases (zOut_s hc.1.1).mp hcc with h9 | h9 | h9
        · exact out c (i2 c ((zOut_u (by omega)).mp h9))
        · unfold zu1 at h9
          rw [if_pos rfl] at h9
          exact ⟨n, by omega, by omega, Or.inl h9.symm⟩
        · unfold zu1 at h9
          rw [if_pos rfl] at h9
          exact ⟨n, by omega, by omega, Or.inr h9.symm⟩
      · unfold zu1
        rw [if_neg (by omega), if_neg (by omega)]
        exact i3 j (by omega)
theorem zTBX_I {X : zI} {m : Int} (ci : zCI X) : zCI (zTBX X m (X 7 2).toNat) := by
  have hm := ci.2.1
  have hd := zTBX_D (m := m) hm ci.2.2 (X 7 2).toNat (by omega)
  have hc := zTBX_c (X := X) (m := m) (X 7 2).toNat
  have e0 : zTBX X m (X 7 2).toNat 0 = X 0 := zTBX_o (by decide) _
  have e2 : zTBX X m (X 7 2).toNat 2 = X 2 := zTBX_o (by decide) _
  have e4 : zTBX X m (X 7 2).toNat 4 = X 4 := zTBX_o (by decide) _
  have e6 : zTBX X m (X 7 2).toNat 6 = X 6 := zTBX_o (by decide) _
  have e12 : zTBX X m (X 7 2).toNat 12 = X 12 := zTBX_o (by decide) _
  have e16 : zTBX X m (X 7 2).toNat 16 = X 16 := zTBX_o (by decide) _
  have e18 : zTBX X m (X 7 2).toNat 18 = X 18 := zTBX_o (by decide) _
  have e20 : zTBX X m (X 7 2).toNat 20 = X 20 := zTBX_o (by decide) _
  have e22 : zTBX X m (X 7 2).toNat 22 = X 22 := zTBX_o (by decide) _
  unfold zCI zCJ zLg zPA
  rw [e0, e2, e4, e6, e12, e16, e18, e20, e22]
  exact ⟨ci.1, hc.1.1, hd.1⟩
theorem zsc_o {s f : Int → Int} {g : Int} {X : UInt64} : ∀ n : Nat, ((zscn s f g X n).2.2.2 = -1 ∨ f (zscn s f g X n).2.2.2 = 0) ∧ ((zscn s f g X n).1 = -1 ∨ (f (zscn s f g X n).1 = 0 ∧ f (zscn s f g X n).2.1 = 0))
  | 0 => ⟨Or.inl rfl, Or.inl rfl⟩
  | n + 1 => by
    have ih := zsc_o (s := s) (f := f) (g := g) (X := X) n
    show ((zsc1 s f g n (zscn s f g X n)).2.2.2 = -1 ∨ f (zsc1 s f g n (zscn s f g X n)).2.2.2 = 0) ∧ ((zsc1 s f g n (zscn s f g X n)).1 = -1 ∨ (f (zsc1 s f g n (zscn s f g X n)).1 = 0 ∧ f (zsc1 s f g n (zscn s f g X n)).2.1 = 0))
    generalize zscn s f g X n = q at ih ⊢
    unfold zsc1
    by_cases h0 : f n = 0
    · rw [if_pos h0]
      by_cases h1 : ¬ q.2.2.2 = -1
      · rw [if_pos h1]
        have h2 := ih.1.resolve_left h1
        (repeat' split) <;> first | exact ⟨Or.inr h0, ih.2⟩ | exact ⟨Or.inr h0, Or.inr ⟨h0, h2⟩⟩
      · rw [if_neg h1]
        exact ⟨Or.inr h0, ih.2⟩
    · rw [if_neg h0]
      exact ih
/-- what is foretold of the chart -/
def zFX (X : zI) : zFA := (zFo (zns (X 0)) (fun j => X 2 (X 6 (X 0 9 * X 0 6 + j))) (X 0 10) (FP.i2d (Int32.ofInt (X 0 11))))
theorem zFX_in {X : zI} (w : zW1 (X 0)) : (0 ≤ (zFX X).2.1 ∧ (zFX X).2.1 ≤ 4) ∧ ∀ j, 0 ≤ j → j < (zFX X).2.1 → (0 ≤ (zFX X).2.2.1 j ∧ (zFX X).2.2.1 j < zns (X 0)) ∧ (0 ≤ (zFX X).2.2.2.1 j ∧ (zFX X).2.2.2.1 j < (zFX X).2.2.1 j) :=
  zfi_in (A := (fun _ => 0, 0, fun _ => 0, fun _ => 0, fun _ => 0)) (zns_b w).1.1 rfl 4
theorem zCI_sp {X : zI} {c s : Int} (ci : zCI X) (hs : 1 ≤ s ∧ s ≤ 1000) : zCI (zup X 2 c s) := by
  obtain ⟨⟨w, v, hsp, hlg, hpa⟩, hm, hd⟩ := ci
  refine ⟨⟨w, v, fun d d0 d1 => ?_, hlg, hpa⟩, hm, hd⟩
  rw [zup_at]
  split
  · exact hs
  · exact hsp d d0 d1
theorem zfi_D {s : Int → Int} {g n : Int} {X : UInt64} {A : zFA} (hn : 0 ≤ n) (h : A.2.1 = 0) (h0 : ∀ j, 0 ≤ j → j < n → A.1 j = 0) : ∀ k : Nat, (∀ x, 0 ≤ x → x < n → (zOut (zfi n s g X A k).2.1 (zfi n s g X A k).2.2.1 (zfi n s g X A k).2.2.2.1 x → ¬ (zfi n s g X A k).1 x = 0)) ∧ ∀ j, 0 ≤ j → j < (zfi n s g X A k).2.1 → ¬ zOut j (zfi n s g X A k).2.2.1 (zfi n s g X A k).2.2.2.1 ((zfi n s g X A k).2.2.1 j) ∧ ¬ zOut j (zfi n s g X A k).2.2.1 (zfi n s g X A k).2.2.2.1 ((zfi n s g X A k).2.2.2.1 j)
  | 0 => ⟨fun x a b ⟨k, k0, k1, _⟩ => by have : k < A.2.1 := k1; omega, fun j a b => by have : j < A.2.1 := b; omega⟩
  | k + 1 => by
    obtain ⟨i1, i2⟩ := zfi_D (s := s) (g := g) (X := X) hn h h0 k
    have hm := zfi_m (n := n) (s := s) (g := g) (X := X) h k
    have hb := zsc_b (s := s) (f := (zfi n s g X A k).1) (g := g) (X := X) n.toNat
    have ho := (zsc_o (s := s) (f := (zfi n s g X A k).1) (g := g) (X := X) n.toNat).2
    show (∀ x, 0 ≤ x → x < n → (zOut (zf1 n s g X (zfi n s g X A k)).2.1 (zf1 n s g X (zfi n s g X A k)).2.2.1 (zf1 n s g X (zfi n s g X A k)).2.2.2.1 x → ¬ (zf1 n s g X (zfi n s g X A k)).1 x = 0)) ∧ ∀ j, 0 ≤ j → j < (zf1 n s g X (zfi n s g X A k)).2.1 → ¬ zOut j (zf1 n s g X (zfi n s g X A k)).2.2.1 (zf1 n s g X (zfi n s g X A k)).2.2.2.1 ((zf1 n s g X (zfi n s g X A k)).2.2.1 j) ∧ ¬ zOut j (zf1 n s g X (zfi n s g X A k)).2.2.1 (zf1 n s g X (zfi n s g X A k)).2.2.2.1 ((zf1 n s g X (zfi n s g X A k)).2.2.2.1 j)
    generalize zfi n s g X A k = B at i1 i2 hm hb ho ⊢
    unfold zf1
    by_cases hq : (zscn s B.1 g X n.toNat).1 = -1
    · rw [if_pos hq]
      exact ⟨i1, i2⟩
    · rw [if_neg hq]
      have hb2 := hb.2.resolve_left hq
      have ho2 := ho.resolve_left hq
      generalize zscn s B.1 g X n.toNat = q at hb2 ho2 ⊢
      refine ⟨fun x a b hx => ?_, fun j a b => ?_⟩
      · show ¬ zu1 (zu1 B.1 q.1 1) q.2.1 1 x = 0
        unfold zu1
        rcases (zOut_s hm.1).mp hx with h9 | h9 | h9
        · have := i1 x a b ((zOut_u (Int.le_refl _)).mp h9)
          split
          · decide
          · split
            · decide
            · exact this
        · have h8 : x = zu1 B.2.2.1 B.2.1 q.1 B.2.1 := h9
          unfold zu1 at h8
          rw [if_pos rfl] at h8
          rw [if_pos h8]
          split <;> decide
        · have h8 : x = zu1 B.2.2.2.1 B.2.1 q.2.1 B.2.1 := h9
          unfold zu1 at h8
          rw [if_pos rfl] at h8
          rw [if_pos h8]; decide
      · have b' : j < B.2.1 + 1 := b
        show ¬ zOut j (zu1 B.2.2.1 B.2.1 q.1) (zu1 B.2.2.2.1 B.2.1 q.2.1) (zu1 B.2.2.1 B.2.1 q.1 j) ∧ ¬ zOut j (zu1 B.2.2.1 B.2.1 q.1) (zu1 B.2.2.2.1 B.2.1 q.2.1) (zu1 B.2.2.2.1 B.2.1 q.2.1 j)
        rw [zOut_u (by omega), zOut_u (by omega)]
        by_cases ej : j = B.2.1
        · subst ej
          unfold zu1
          rw [if_pos rfl, if_pos rfl]
          exact ⟨fun h => i1 q.1 (by omega) (by omega) h ho2.1, fun h => i1 q.2.1 (by omega) (by omega) h ho2.2⟩
        · unfold zu1
          rw [if_neg ej, if_neg ej]
          exact i2 j a (by omega)
/-- the first k of the foretold bumps made, seen from the chart -/
def zRwX (X : zI) (k : Int) : zI := fun r j => if r = 7 ∧ j = 2 then k else if r = 9 ∧ 0 ≤ j ∧ j < k then X 6 (X 0 9 * X 0 6 + (zFX X).2.2.1 j) else if r = 11 ∧ 0 ≤ j ∧ j < k then X 6 (X 0 9 * X 0 6 + (zFX X).2.2.2.1 j) else X r j
theorem zRwX_o {X : zI} {k : Int} {r : Nat} (h : r ≠ 7 ∧ r ≠ 9 ∧ r ≠ 11) : zRwX X k r = X r := by
  funext j
  unfold zRwX
  rw [if_neg (fun h9 => h.1 h9.1), if_neg (fun h9 => h.2.1 h9.1), if_neg (fun h9 => h.2.2 h9.1)]
theorem zRwX_I {X : zI} (ci : zCI X) : zCI (zRwX X (zFX X).2.1) := by
  have hin := zFX_in ci.1.1
  have hzb := zns_b ci.1.1
  have w := ci.1.1
  have v := ci.1.2.1
  have hD := (zfi_D (s := fun j => X 2 (X 6 (X 0 9 * X 0 6 + j))) (g := X 0 10) (X := FP.i2d (Int32.ofInt (X 0 11))) (A := (fun _ => 0, 0, fun _ => 0, fun _ => 0, fun _ => 0)) hzb.1.1 rfl (fun _ _ _ => rfl) 4).2
  change ∀ j, 0 ≤ j → j < (zFX X).2.1 → ¬ zOut j (zFX X).2.2.1 (zFX X).2.2.2.1 ((zFX X).2.2.1 j) ∧ ¬ zOut j (zFX X).2.2.1 (zFX X).2.2.2.1 ((zFX X).2.2.2.1 j) at hD
  have e9 : ∀ j, 0 ≤ j → j < (zFX X).2.1 → zRwX X (zFX X).2.1 9 j = X 6 (X 0 9 * X 0 6 + (zFX X).2.2.1 j) := fun j a b => by
    unfold zRwX
    rw [if_neg (by omega), if_pos ⟨rfl, a, b⟩]
  have e11 : ∀ j, 0 ≤ j → j < (zFX X).2.1 → zRwX X (zFX X).2.1 11 j = X 6 (X 0 9 * X 0 6 + (zFX X).2.2.2.1 j) := fun j a b => by
    unfold zRwX
    rw [if_neg (by omega), if_neg (by omega), if_pos ⟨rfl, a, b⟩]
  have e7 : zRwX X (zFX X).2.1 7 2 = (zFX X).2.1 := rfl
  unfold zCI zCJ zLg zPA
  rw [zRwX_o (r := 0) (by decide), zRwX_o (r := 2) (by decide), zRwX_o (r := 4) (by decide), zRwX_o (r := 6) (by decide), zRwX_o (r := 12) (by decide), zRwX_o (r := 16) (by decide), zRwX_o (r := 18) (by decide), zRwX_o (r := 20) (by decide), zRwX_o (r := 22) (by decide), e7]
  refine ⟨ci.1, hin.1.1, fun k k0 k1 => ?_⟩
  have ik := hin.2 k k0 k1
  have dk := hD k k0 k1
  have q1 := v.2.1 (X 0 9 * X 0 6 + (zFX X).2.2.1 k) (by omega) (by omega)
  have q2 := v.2.1 (X 0 9 * X 0 6 + (zFX X).2.2.2.1 k) (by omega) (by omega)
  have inj : ∀ a b, 0 ≤ a → a < zns (X 0) → 0 ≤ b → b < zns (X 0) → X 6 (X 0 9 * X 0 6 + a) = X 6 (X 0 9 * X 0 6 + b) → a = b := by
    intro a b a0 a1 b0 b1 h
    have p1 := v.2.1 (X 0 9 * X 0 6 + a) (by omega) (by omega)
    have p2 := v.2.1 (X 0 9 * X 0 6 + b) (by omega) (by omega)
    rw [h] at p1
    omega
  have out : ∀ x, 0 ≤ x → x < zns (X 0) → zOut k (zRwX X (zFX X).2.1 9) (zRwX X (zFX X).2.1 11) (X 6 (X 0 9 * X 0 6 + x)) → zOut k (zFX X).2.2.1 (zFX X).2.2.2.1 x := by
    rintro x x0 x1 ⟨j, j0, j1, j2⟩
    have ij := hin.2 j j0 (by omega)
    rw [e9 j j0 (by omega), e11 j j0 (by omega)] at j2
    exact ⟨j, j0, j1, j2.elim (fun h => Or.inl (inj _ _ (by omega) (by omega) x0 x1 h)) (fun h => Or.inr (inj _ _ (by omega) (by omega) x0 x1 h))⟩
  rw [e9 k k0 k1, e11 k k0 k1]
  exact ⟨⟨⟨q1.1, q1.2.1⟩, by omega, by omega⟩, ⟨⟨q2.1, q2.2.1⟩, by omega, by omega⟩, by omega, fun h => dk.1 (out _ (by omega) (by omega) h), fun h => dk.2 (out _ (by omega) (by omega) h)⟩
/-- the chart with another race -/
def zRcX (X : zI) (m : Int) (u d : Int → Int) : zI := fun r j => if r = 7 ∧ j = 2 then m else if r = 9 then u j else if r = 11 then d j else X r j
theorem zRcX_o {X : zI} {m : Int} {u d : Int → Int} {r : Nat} (h : r ≠ 7 ∧ r ≠ 9 ∧ r ≠ 11) : zRcX X m u d r = X r := by
  funext j
  unfold zRcX
  rw [if_neg (fun h9 => h.1 h9.1), if_neg h.2.1, if_neg h.2.2]
theorem zCI_rc {X : zI} {m : Int} {u d : Int → Int} (ci : zCI X) (hm : 0 ≤ m) (hd : zDis (X 0) (X 4) m u d) : zCI (zRcX X m u d) := by
  unfold zCI zCJ zLg zPA
  rw [zRcX_o (r := 0) (by decide), zRcX_o (r := 2) (by decide), zRcX_o (r := 4) (by decide), zRcX_o (r := 6) (by decide), zRcX_o (r := 12) (by decide), zRcX_o (r := 16) (by decide), zRcX_o (r := 18) (by decide), zRcX_o (r := 20) (by decide), zRcX_o (r := 22) (by decide)]
  exact ⟨ci.1, hm, hd⟩
theorem zcpC_Sa {I : zI} {a b : Nat} : zSa (zX I b) (zX (zcpC I a b) a) := by
  have row : ∀ k, (k = 2 ∨ k = 4 ∨ k = 6 ∨ k = 9 ∨ k = 11 ∨ k = 14 ∨ k = 16 ∨ k = 18 ∨ k = 20 ∨ k = 22) → zX I b k = zX (zcpC I a b) a k := fun k hk => (zcpC_row k hk).symm
  have at_ : ∀ (k : Nat) (j : Int), k < 23 → zcm k j → zX I b k j = zX (zcpC I a b) a k j := fun k j hk hz => by
    show I (b + k) j = zcpC I a b (a + k) j
    rw [zcpC_in (by omega) (by omega) (by rw [show a + k - a = k by omega]; exact hz), show a + k - a + b = b + k by omega]
  exact ⟨⟨row _ (by decide), row _ (by decide), row _ (by decide), row _ (by decide), row _ (by decide), row _ (by decide), row _ (by decide), row _ (by decide), row _ (by decide), row _ (by decide)⟩, ⟨at_ 0 5 (by decide) (by unfold zcm; omega), at_ 0 6 (by decide) (by unfold zcm; omega), at_ 0 7 (by decide) (by unfold zcm; omega), at_ 0 8 (by decide) (by unfold zcm; omega), at_ 0 9 (by decide) (by unfold zcm; omega), at_ 0 10 (by decide) (by unfold zcm; omega), at_ 0 11 (by decide) (by unfold zcm; omega)⟩, at_ 7 2 (by decide) (by unfold zcm; omega), at_ 12 4 (by decide) (by unfold zcm; omega)⟩
theorem zSa_t {X Y Z : zI} (h : zSa X Y) (g : zSa Y Z) : zSa X Z := by
  obtain ⟨⟨a1, a2, a3, a4, a5, a6, a7, a8, a9, a10⟩, ⟨b1, b2, b3, b4, b5, b6, b7⟩, c1, c2⟩ := h
  obtain ⟨⟨p1, p2, p3, p4, p5, p6, p7, p8, p9, p10⟩, ⟨q1, q2, q3, q4, q5, q6, q7⟩, r1, r2⟩ := g
  exact ⟨⟨a1.trans p1, a2.trans p2, a3.trans p3, a4.trans p4, a5.trans p5, a6.trans p6, a7.trans p7, a8.trans p8, a9.trans p9, a10.trans p10⟩, ⟨b1.trans q1, b2.trans q2, b3.trans q3, b4.trans q4, b5.trans q5, b6.trans q6, b7.trans q7⟩, c1.trans r1, c2.trans r2⟩
theorem zPi_far {π : Int → Nat} (hπ : zPi π) (hi : ∀ j k, 0 ≤ j → j < 4 → 0 ≤ k → k < 4 → π j = π k → j = k) {j k : Int} (j0 : 0 ≤ j) (j1 : j < 4) (k0 : 0 ≤ k) (k1 : k < 4) (h : ¬ j = k) : π j + 23 ≤ π k ∨ π k + 23 ≤ π j := by
  have a := hπ j j0 j1
  have b := hπ k k0 k1
  have c : ¬ π j = π k := fun h9 => h (hi j k j0 j1 k0 k1 h9)
  omega
theorem zrot_k {π : Int → Nat} {k : Int} (h0 : 0 ≤ k) (h1 : k < 3) : zrot π k = π (k + 1) := by
  unfold zrot
  rcases (show k = 0 ∨ k = 1 ∨ k = 2 by omega) with h | h | h <;> subst h <;> rfl
theorem zkr_Pi {π : Int → Nat} {K : Int} (hπ : zPi π) : zPi (zkr π K) := by
  unfold zkr
  split
  · exact hπ
  · intro k k0 k1
    by_cases h : k = 3
    · subst h; exact hπ 0 (by omega) (by omega)
    · rw [zrot_k k0 (by omega)]; exact hπ _ (by omega) (by omega)
theorem zkr_inj {π : Int → Nat} {K : Int} (hi : ∀ j k, 0 ≤ j → j < 4 → 0 ≤ k → k < 4 → π j = π k → j = k) : ∀ j k, 0 ≤ j → j < 4 → 0 ≤ k → k < 4 → zkr π K j = zkr π K k → j = k := by
  unfold zkr
  split
  · exact hi
  · intro j k j0 j1 k0 k1 h
    have z3 : zrot π 3 = π 0 := rfl
    by_cases hj : j = 3
    · subst hj
      by_cases hk : k = 3
      · exact hk.symm
      · rw [z3, zrot_k k0 (by omega)] at h
        have := hi 0 (k + 1) (by omega) (by omega) (by omega) (by omega) h
        omega
    · by_cases hk : k = 3
      · subst hk
        rw [z3, zrot_k j0 (by omega)] at h
        have := hi (j + 1) 0 (by omega) (by omega) (by omega) (by omega) h
        omega
      · rw [zrot_k k0 (by omega), zrot_k j0 (by omega)] at h
        have := hi (j + 1) (k + 1) (by omega) (by omega) (by omega) (by omega) h
        omega
theorem zFR_X {I : zI} {D : zD} (w : zW1 (I 2)) (v : zW2 (I 2) (I 6) (I 8)) : (zFR I D (-1) 0).2.1 = (zFX (zX I 2)).2.1 ∧ ∀ j, 0 ≤ j → j < (zFX (zX I 2)).2.1 → (zFR I D (-1) 0).2.2.1 j = (zFX (zX I 2)).2.2.1 j ∧ (zFR I D (-1) 0).2.2.2.1 j = (zFX (zX I 2)).2.2.2.1 j ∧ (zFR I D (-1) 0).2.2.2.2 j = (zFX (zX I 2)).2.2.2.2 j := by
  have h := zFR_Fo (I := I) (D := D) (c := -1) (v := 0) w
  have hzb := zns_b w
  have g : zsam (zns (I 2)) (zFo (zns (I 2)) (zsp I (-1) 0) (I 2 10) (FP.i2d (Int32.ofInt (I 2 11)))) (zFX (zX I 2)) := by
    unfold zFX zFo
    refine zfi_cg hzb.1.1 (fun j a b => ?_) ⟨fun _ _ _ => rfl, rfl, Int.le_refl 0, fun j a b => absurd b (by show ¬ j < 0; omega)⟩ 4
    unfold zsp
    have := v.2.1 (I 2 9 * I 2 6 + j) (by omega) (by omega)
    rw [if_neg (by omega)]
    rfl
  refine ⟨h.2.1.trans g.2.1, fun j a b => ?_⟩
  have b2 : j < (zFo (zns (I 2)) (zsp I (-1) 0) (I 2 10) (FP.i2d (Int32.ofInt (I 2 11)))).2.1 := by rw [g.2.1]; exact b
  have b1 : j < (zFR I D (-1) 0).2.1 := by rw [h.2.1]; exact b2
  have x := h.2.2.2 j a b1
  have y := g.2.2.2 j a b2
  exact ⟨x.1.trans y.1, x.2.1.trans y.2.1, x.2.2.trans y.2.2⟩
theorem zKe_X {I : zI} {π : Int → Nat} (hπ : zPi π) (hk : 0 ≤ I 25 1 ∧ I 25 1 ≤ 4) {k : Nat} (h : k < 23) : zX (zKe I π) 2 k = zX I 2 k := zKe_lt hπ hk (by omega)
theorem zKe_S {I : zI} {π : Int → Nat} (hπ : zPi π) (hk : 0 ≤ I 25 1 ∧ I 25 1 ≤ 4) : zSa (zX I 2) (zX (zKe I π) 2) := zX_cg (fun r r0 r1 => zKe_lt hπ hk (by omega))
/-- the end of a race in the class, seen from the chart -/
theorem zER_XA {K : zI} (h : 0 < K 2 9) : zX (zup (zup (zERw K (K 9 2).toNat) 9 2 0) 2 9 (K 2 9 - 1)) 2 = zFnX (zERX (zX K 2) (K 9 2).toNat) := by
  have e0 : zERX (zX K 2) (K 9 2).toNat 0 = K 2 := zERX_o (by decide) _
  unfold zFnX
  rw [e0, if_pos h, zX_up (b := 2) (k := 0), zX_up (b := 2) (k := 7), zERw_eq, zERX_X]
theorem zER_XB {K : zI} {x : Int} (h : ¬ 0 < K 2 9) (hx : x = if K 2 8 + 1 < K 2 7 then (K 2 5 + K 2 6 - 1) / K 2 6 - 1 else -1) : zX (zup (zNote (zup (zup (zERw K (K 9 2).toNat) 9 2 0) 2 8 (K 2 8 + 1)) (K 2 5)) 2 9 x) 2 = zFnX (zERX (zX K 2) (K 9 2).toNat) := by
  have e0 : zERX (zX K 2) (K 9 2).toNat 0 = K 2 := zERX_o (by decide) _
  unfold zFnX
  rw [e0, if_neg h, ← hx, zX_up (b := 2) (k := 0)]
  congr 1
  rw [← zERX_X, zERw_eq]
  generalize zER K (K 9 2).toNat = E
  funext r j
  show (if 2 + r = 24 ∧ (K 2 8 + 1) * 24 ≤ j ∧ j < (K 2 8 + 1) * 24 + K 2 5 then (zup (zup E 9 2 0) 2 8 (K 2 8 + 1)) 6 (j - (K 2 8 + 1) * 24) else (zup (zup E 9 2 0) 2 8 (K 2 8 + 1)) (2 + r) j) = _
  unfold zup zX
  by_cases h1 : r = 22 ∧ (K 2 8 + 1) * 24 ≤ j ∧ j < (K 2 8 + 1) * 24 + K 2 5
  · obtain ⟨h1, h2⟩ := h1
    subst h1
    simp [h2]
  · rw [if_neg (fun h9 => h1 ⟨by omega, h9.2⟩)]
    by_cases h2 : r = 0 ∧ j = 8
    · obtain ⟨h2, h3⟩ := h2
      subst h2; subst h3
      simp
    · by_cases h3 : r = 7 ∧ j = 2
      · obtain ⟨h3, h4⟩ := h3
        subst h3; subst h4
        simp
      · have a1 : ¬ (2 + r = 2 ∧ j = 8) := fun h9 => h2 ⟨by omega, h9.2⟩
        have a2 : ¬ (2 + r = 9 ∧ j = 2) := fun h9 => h3 ⟨by omega, h9.2⟩
        simp only [if_neg a1, if_neg a2, if_neg h2, if_neg h3, if_neg h1]
theorem zER_r {K : zI} {r : Nat} (h : 25 ≤ r) (n : Nat) : zERw K n r = K r := by
  rw [zERw_eq]; exact zER_out (by omega) n
theorem zNote_r {K : zI} {n : Int} {r : Nat} (h : 25 ≤ r) : zNote K n r = K r := zNote_ne (by omega)
/-- what endRace needs -/
theorem zEnd_hyp {K : zI} (ci : zCI (zX K 2)) (hr : ¬ K 2 9 = -1) : (0 ≤ K 9 2 ∧ K 9 2 ≤ 4) ∧ (2 ≤ K 2 5 ∧ K 2 5 ≤ 24) ∧ (3 ≤ K 2 6 ∧ K 2 6 ≤ 8) ∧ (0 ≤ K 2 8 ∧ K 2 8 ≤ 5) ∧ (0 ≤ K 2 9 ∧ K 2 9 ≤ 7) ∧ (∀ c, 0 ≤ c → c < 24 → 0 ≤ K 6 c ∧ K 6 c < 24) ∧ (∀ k, 0 ≤ k → k < K 9 2 → (0 ≤ K 11 k ∧ K 11 k < 24) ∧ (0 ≤ K 13 k ∧ K 13 k < 24)) ∧ (0 ≤ K 14 4 ∧ K 14 4 + K 9 2 ≤ 96) := by
  have w : zW1 (K 2) := ci.1.1
  have v : zW2 (K 2) (K 6) (K 8) := ci.1.2.1
  have hm : 0 ≤ K 9 2 := ci.2.1
  have hd : zDis (K 2) (K 6) (K 9 2) (K 11) (K 13) := ci.2.2
  have hdl := zdis_le w v hd hm
  have hlb := (zlb_b w).2 hr
  have hl0 : 0 ≤ K 14 4 ∧ K 14 4 ≤ zlb (K 2) := ci.1.2.2.2.1.1
  have hz : zns (K 2) ≤ K 2 6 + 1 := by unfold zns; have := w.2.1; omega
  have w5 := w.2.2.2.2.1
  have w1 := w.1
  have w2 := w.2.1
  have w4 := w.2.2.2.1
  refine ⟨⟨hm, hdl.2⟩, w1, w2, by omega, by omega, v.2.2, fun k k0 k1 => ?_, by omega⟩
  have dk := hd k k0 k1
  have a := dk.1.1
  have b := dk.2.1.1
  omega
theorem m_cend {K : zI} {π : Int → Nat} {D : zD} (ci : zCI (zX K 2)) (hr : ¬ K 2 9 = -1) : ∃ K2, zMet 21 [vr 2] (K, zPp π, D, 137) (some (vi (K 9 2))) (K2, zPp π, D, 137) ∧ (∀ r, 25 ≤ r → K2 r = K r) ∧ zX K2 2 = zFnX (zERX (zX K 2) (K 9 2).toNat) := by
  obtain ⟨h1, h2, h3, h4, h5, h6, h7, h8⟩ := zEnd_hyp ci hr
  by_cases hR : 0 < K 2 9
  · refine ⟨_, m_endRaceA h1 h2 h3 h4 h5 h6 h7 h8 hR, fun r hr => ?_, zER_XA hR⟩
    rw [zup_ne (by omega), zup_ne (by omega), zER_r hr]
  · by_cases hT : K 2 8 + 1 < K 2 7
    · refine ⟨_, m_endRaceB h1 h2 h3 h4 h5 h6 h7 h8 (by omega) hT, fun r hr => ?_, zER_XB hR (by rw [if_pos hT])⟩
      rw [zup_ne (by omega), zNote_r hr, zup_ne (by omega), zup_ne (by omega), zER_r hr]
    · refine ⟨_, m_endRaceC h1 h2 h3 h4 h5 h6 h7 h8 (by omega) (by omega), fun r hr => ?_, zER_XB hR (by rw [if_neg hT])⟩
      rw [zup_ne (by omega), zNote_r hr, zup_ne (by omega), zup_ne (by omega), zER_r hr]
theorem m_cfin {I : zI} {π : Int → Nat} {D : zD} (ci : zCI (zX I 2)) (hr : ¬ I 2 9 = -1) (hπ : zPi π) (hk : 0 ≤ I 25 1 ∧ I 25 1 ≤ 4) : ∃ K2, zMet 69 [vr 1] (I, zPp π, D, 137) (some (vi (I 9 2))) (K2, zPp (zkr π (I 25 1)), D, 137) ∧ (∀ r, 25 ≤ r → K2 r = zKe I π r) ∧ zX K2 2 = zFnX (zERX (zX (zKe I π) 2) (I 9 2).toNat) := by
  obtain ⟨h1, h2, h3, h4, h5, h6, h7, h8⟩ := zEnd_hyp ci hr
  have e9 : zKe I π 9 = I 9 := zKe_lt hπ hk (by decide)
  have e2 : zKe I π 2 = I 2 := zKe_lt hπ hk (by decide)
  by_cases hR : 0 < I 2 9
  · refine ⟨_, m_finishA h1 h2 h3 h4 h5 h6 h7 h8 hR hπ hk rfl, fun r hr => ?_, ?_⟩
    · rw [zup_ne (by omega), zup_ne (by omega), zER_r hr]
    · rw [zER_XA (by rw [e2]; exact hR), e9]
  · by_cases hT : I 2 8 + 1 < I 2 7
    · refine ⟨_, m_finishB h1 h2 h3 h4 h5 h6 h7 h8 (by omega) hT hπ hk rfl, fun r hr => ?_, ?_⟩
      · rw [zup_ne (by omega), zNote_r hr, zup_ne (by omega), zup_ne (by omega), zER_r hr]
      · rw [zER_XB (by rw [e2]; exact hR) (by rw [e2, if_pos hT]), e9]
    · refine ⟨_, m_finishC h1 h2 h3 h4 h5 h6 h7 h8 (by omega) (by omega) hπ hk rfl, fun r hr => ?_, ?_⟩
      · rw [zup_ne (by omega), zNote_r hr, zup_ne (by omega), zup_ne (by omega), zER_r hr]
      · rw [zER_XB (by rw [e2]; exact hR) (by rw [e2, if_neg hT]), e9]

theorem zRcX_up {X : zI} {m a b : Int} : zup (zup (zup X 9 m a) 11 m b) 7 2 (m + 1) = zRcX X (m + 1) (zu1 (X 9) m a) (zu1 (X 11) m b) := by
  funext r j
  unfold zup zRcX zu1
  by_cases h1 : r = 7 ∧ j = 2
  · rw [if_pos h1, if_pos h1]
  · rw [if_neg h1, if_neg h1]
    by_cases h2 : r = 9
    · subst h2; simp
    · rw [if_neg h2]
      by_cases h3 : r = 11
      · subst h3; simp
      · rw [if_neg h3, if_neg (fun h => h3 h.1), if_neg (fun h => h2 h.1)]
theorem zRw_X {J : zI} {D : zD} {n : Int} (w : zW1 (J 2)) (v : zW2 (J 2) (J 6) (J 8)) (hn : n = (zFX (zX J 2)).2.1) : ∀ r, r < 23 → zX (zRw (zFI J D (-1) 0) n) 2 r = zRwX (zX J 2) n r := by
  obtain ⟨f1, f2⟩ := zFR_X (D := D) w v
  have ag := zFI_agr (I := J) (D := D) (c := -1) (v := 0)
  have g : ∀ r, r < 119 → zFI J D (-1) 0 r = J r := fun r hr => ag r (by omega) (by omega) (by omega) (by omega) (by omega)
  intro r hr
  funext j
  show zRw (zFI J D (-1) 0) n (2 + r) j = zRwX (zX J 2) n r j
  unfold zRw zRwX
  by_cases h1 : r = 7 ∧ j = 2
  · rw [if_pos ⟨by omega, h1.2⟩, if_pos h1]
  · rw [if_neg (fun h => h1 ⟨by omega, h.2⟩), if_neg h1]
    by_cases h2 : r = 9 ∧ 0 ≤ j ∧ j < n
    · rw [if_pos ⟨by omega, h2.2⟩, if_pos h2, g 8 (by decide), g 2 (by decide)]
      have := (f2 j h2.2.1 (by omega)).1
      rw [← this]
      rfl
    · rw [if_neg (fun h => h2 ⟨by omega, h.2⟩), if_neg h2]
      by_cases h3 : r = 11 ∧ 0 ≤ j ∧ j < n
      · rw [if_pos ⟨by omega, h3.2⟩, if_pos h3, g 8 (by decide), g 2 (by decide)]
        have := (f2 j h3.2.1 (by omega)).2.1
        rw [← this]
        rfl
      · rw [if_neg (fun h => h3 ⟨by omega, h.2⟩), if_neg h3, g _ (by omega)]
        rfl
theorem zSa_of {X Y : zI} (h : ∀ r, r < 23 → X r = Y r) : zSa X Y :=
  ⟨⟨h _ (by decide), h _ (by decide), h _ (by decide), h _ (by decide), h _ (by decide), h _ (by decide), h _ (by decide), h _ (by decide), h _ (by decide), h _ (by decide)⟩, ⟨by rw [h 0 (by decide)], by rw [h 0 (by decide)], by rw [h 0 (by decide)], by rw [h 0 (by decide)], by rw [h 0 (by decide)], by rw [h 0 (by decide)], by rw [h 0 (by decide)]⟩, by rw [h 7 (by decide)], by rw [h 12 (by decide)]⟩
theorem zStp_S {X Y : zI} {a b : Int} (h : ∀ r, r < 23 → X r = Y r) : ∀ r, r < 23 → zStp X a b r = zStp Y a b r := by
  intro r hr
  funext j
  unfold zStp zup
  rw [h 0 (by decide), h 4 (by decide), h 12 (by decide)]
  (repeat' split) <;> first | rfl | rw [h r hr]
theorem zERX_S {X Y : zI} (h : ∀ r, r < 23 → X r = Y r) : ∀ n : Nat, ∀ r, r < 23 → zERX X n r = zERX Y n r
  | 0 => h
  | n + 1 => by
    show ∀ r, r < 23 → zStp (zERX X n) (X 9 n) (X 11 n) r = zStp (zERX Y n) (Y 9 n) (Y 11 n) r
    rw [h 9 (by decide), h 11 (by decide)]
    exact zStp_S (zERX_S h n)
theorem zFnX_S {X Y : zI} (h : ∀ r, r < 23 → X r = Y r) : ∀ r, r < 23 → zFnX X r = zFnX Y r := by
  intro r hr
  funext j
  unfold zFnX
  rw [h 0 (by decide)]
  split
  · unfold zup
    (repeat' split) <;> first | rfl | rw [h r hr]
  · unfold zup
    rw [h 4 (by decide)]
    (repeat' split) <;> first | rfl | rw [h r hr] | (dsimp only; rw [h r hr])
theorem zBeg_CI {I1 : zI} {a b c g l : Int} (ha : 2 ≤ a ∧ a ≤ 24) (hb : 3 ≤ b ∧ b ≤ 8) (hc : 1 ≤ c ∧ c ≤ 6) (hg : 100 ≤ g ∧ g ≤ 5000) (hl : 1 ≤ l ∧ l ≤ 1000) (f : I1 2 5 = a ∧ I1 2 6 = b ∧ I1 2 7 = c ∧ I1 2 8 = 0 ∧ I1 2 9 = (a + b - 1) / b - 1 ∧ I1 2 10 = g ∧ I1 2 11 = l) (h4 : ∀ q, 0 ≤ q → q < a → I1 4 q = 400 ∧ I1 6 q = q ∧ I1 24 (0 * 24 + q) = q) (h8 : ∀ q, 0 ≤ q → q < a → I1 8 q = q) (h6 : ∀ q, 0 ≤ q → q < 24 → 0 ≤ I1 6 q ∧ I1 6 q < 24) (h9 : I1 9 2 = 0) (h14 : I1 14 4 = 0) : zCI (zX I1 2) := by
  obtain ⟨f5, f6, f7, f8, f9, f10, f11⟩ := f
  have hdv : (0 ≤ (a + b - 1) / b - 1 ∧ (a + b - 1) / b - 1 ≤ 7) ∧ 0 ≤ ((a + b - 1) / b - 1) * b ∧ ((a + b - 1) / b - 1) * b < a := by
    rcases (show b = 3 ∨ b = 4 ∨ b = 5 ∨ b = 6 ∨ b = 7 ∨ b = 8 by omega) with e | e | e | e | e | e <;> subst e <;> omega
  refine ⟨⟨?_, ⟨fun q q0 q1 => ?_, fun q q0 q1 => ?_, h6⟩, fun q q0 q1 => ?_, ⟨⟨?_, ?_⟩, fun k k0 k1 => ?_, fun q q0 q1 => ?_⟩, fun t q t0 t1 q0 q1 => ?_, fun q q0 q1 => ?_⟩, ?_, fun k k0 k1 => ?_⟩
  · show (2 ≤ I1 2 5 ∧ I1 2 5 ≤ 24) ∧ (3 ≤ I1 2 6 ∧ I1 2 6 ≤ 8) ∧ (1 ≤ I1 2 7 ∧ I1 2 7 ≤ 6) ∧ (0 ≤ I1 2 8 ∧ I1 2 8 ≤ I1 2 7) ∧ (-1 ≤ I1 2 9 ∧ I1 2 9 ≤ 7) ∧ (I1 2 9 = -1 ↔ I1 2 8 = I1 2 7) ∧ ((-8 ≤ I1 2 9 * I1 2 6 ∧ I1 2 9 * I1 2 6 < I1 2 5) ∧ (I1 2 9 = -1 ∨ 0 ≤ I1 2 9 * I1 2 6)) ∧ (100 ≤ I1 2 10 ∧ I1 2 10 ≤ 5000) ∧ (1 ≤ I1 2 11 ∧ I1 2 11 ≤ 1000)
    rw [f5, f6, f7, f8, f9, f10, f11]
    omega
  · have q1' : q < I1 2 5 := q1
    have e := h4 q q0 (by omega)
    show 0 ≤ I1 6 q ∧ I1 6 q < I1 2 5 ∧ I1 8 (I1 6 q) = q
    rw [e.2.1, h8 q q0 (by omega)]
    omega
  · have q1' : q < I1 2 5 := q1
    have e := h4 q q0 (by omega)
    show 0 ≤ I1 8 q ∧ I1 8 q < I1 2 5 ∧ I1 6 (I1 8 q) = q
    rw [h8 q q0 (by omega), e.2.1]
    omega
  · have q1' : q < I1 2 5 := q1
    show 1 ≤ I1 4 q ∧ I1 4 q ≤ 1000
    rw [(h4 q q0 (by omega)).1]
    omega
  · show 0 ≤ I1 14 4
    omega
  · show I1 14 4 ≤ 16 * I1 2 8 + (if I1 2 9 = -1 then 0 else (I1 2 6 + 1) / 2 * ((I1 2 5 + I1 2 6 - 1) / I1 2 6 - 1 - I1 2 9))
    rw [f5, f6, f8, f9, h14, show (a + b - 1) / b - 1 - ((a + b - 1) / b - 1) = 0 by omega, Int.mul_zero]
    split <;> omega
  · have k1' : k < I1 14 4 := k1
    omega
  · have q1' : q < I1 2 5 := q1
    show I1 6 q = zsw (I1 18) (I1 20) (I1 14 4).toNat q
    rw [h14, (h4 q q0 (by omega)).2.1]
    rfl
  · have q1' : q < I1 2 5 := q1
    have t1' : t ≤ I1 2 8 := t1
    have et : t = 0 := by omega
    subst et
    show 0 ≤ I1 24 (0 * 24 + q) ∧ I1 24 (0 * 24 + q) < I1 2 5
    rw [(h4 q q0 (by omega)).2.2]
    omega
  · have q1' : q < I1 2 5 := q1
    exact (h4 q q0 (by omega)).2.2
  · show 0 ≤ I1 9 2
    omega
  · have k1' : k < I1 9 2 := k1
    omega
theorem zAnew_4p {J : zI} {k q : Int} (h : 0 ≤ q ∧ q < k) : zAnew J k 4 q = 400 := by
  unfold zAnew
  rw [if_pos ⟨Or.inl rfl, h.1, h.2⟩, if_pos rfl]
theorem zAnew_6p {J : zI} {k q : Int} (h : 0 ≤ q ∧ q < k) : zAnew J k 6 q = q := by
  unfold zAnew
  rw [if_pos ⟨Or.inr (Or.inl rfl), h.1, h.2⟩, if_neg (by decide)]
theorem zAnew_8p {J : zI} {k q : Int} (h : 0 ≤ q ∧ q < k) : zAnew J k 8 q = q := by
  unfold zAnew
  rw [if_pos ⟨Or.inr (Or.inr rfl), h.1, h.2⟩, if_neg (by decide)]
theorem zAnew_n {J : zI} {k q : Int} {r : Nat} (h : ¬ (0 ≤ q ∧ q < k)) : zAnew J k r q = J r q := by
  unfold zAnew
  rw [if_neg (fun h9 => h h9.2)]
theorem zNote_24 {J : zI} {k j : Int} (h : J 2 8 * 24 ≤ j ∧ j < J 2 8 * 24 + k) : zNote J k 24 j = J 6 (j - J 2 8 * 24) := if_pos ⟨rfl, h.1, h.2⟩
/-- the rows of a chart that has just begun -/
theorem zBeg_r {J : zI} {a b c : Int} (ha : 2 ≤ a ∧ a ≤ 24) (hb : 3 ≤ b ∧ b ≤ 8) (h6 : ∀ q, 0 ≤ q → q < 24 → 0 ≤ J 6 q ∧ J 6 q < 24) : ∃ I1, I1 = zBeg (zup (zup (zup (zup J 2 5 a) 2 6 b) 2 7 c) 2 8 0) ∧ (∀ q, 0 ≤ q → q < a → I1 4 q = 400 ∧ I1 6 q = q ∧ I1 24 (0 * 24 + q) = q) ∧ (∀ q, 0 ≤ q → q < a → I1 8 q = q) ∧ (∀ q, 0 ≤ q → q < 24 → 0 ≤ I1 6 q ∧ I1 6 q < 24) ∧ ∀ r, 25 ≤ r → I1 r = J r := by
  refine ⟨_, rfl, ?_⟩
  obtain ⟨K, eK⟩ : ∃ K, K = zup (zup (zup (zup J 2 5 a) 2 6 b) 2 7 c) 2 8 0 := ⟨_, rfl⟩
  rw [← eK]
  have k5 : K 2 5 = a := by rw [eK]; rfl
  have k8 : K 2 8 = 0 := by rw [eK]; rfl
  have k6 : K 6 = J 6 := by rw [eK, zup_ne (by decide), zup_ne (by decide), zup_ne (by decide), zup_ne (by decide)]
  have kr : ∀ r, 25 ≤ r → K r = J r := fun r hr => by rw [eK, zup_ne (by omega), zup_ne (by omega), zup_ne (by omega), zup_ne (by omega)]
  have e : ∀ r, r ≠ 2 → r ≠ 9 → r ≠ 14 → r ≠ 24 → zBeg K r = zAnew K (K 2 5) r := fun r h1 h2 h3 h4 => by
    unfold zBeg
    rw [zup_ne h1, zup_ne h3, zup_ne h2, zNote_ne h4]
  have e24 : zBeg K 24 = zNote (zAnew K (K 2 5)) (K 2 5) 24 := by
    unfold zBeg
    rw [zup_ne (by decide), zup_ne (by decide), zup_ne (by decide)]
  have a8 : zAnew K (K 2 5) 2 8 = 0 := by
    unfold zAnew
    rw [if_neg (by omega)]
    exact k8
  refine ⟨fun q q0 q1 => ⟨?_, ?_, ?_⟩, fun q q0 q1 => ?_, fun q q0 q1 => ?_, fun r hr => ?_⟩
  · rw [e 4 (by decide) (by decide) (by decide) (by decide), k5]; exact zAnew_4p ⟨q0, q1⟩
  · rw [e 6 (by decide) (by decide) (by decide) (by decide), k5]; exact zAnew_6p ⟨q0, q1⟩
  · rw [e24, zNote_24 (by rw [a8, k5]; omega), a8, k5, zAnew_6p (by omega)]
    omega
  · rw [e 8 (by decide) (by decide) (by decide) (by decide), k5]; exact zAnew_8p ⟨q0, q1⟩
  · rw [e 6 (by decide) (by decide) (by decide) (by decide)]
    by_cases h : 0 ≤ q ∧ q < K 2 5
    · rw [zAnew_6p h]; omega
    · rw [zAnew_n h, k6]; exact h6 q q0 q1
  · rw [e r (by omega) (by omega) (by omega) (by omega)]
    funext j
    unfold zAnew
    rw [if_neg (by omega), kr r hr]
