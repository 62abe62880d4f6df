/-- a chart seen from its own object -/
def zX (I : zI) (b : Nat) : zI := fun k => I (b + k)
/-- crews' places after so many bumps, from each at its own number -/
def zsw (u d : Int → Int) : Nat → Int → Int
  | 0 => fun c => c
  | n + 1 => fun c => if c = u n then zsw u d n (d n) else if c = d n then zsw u d n (u n) else zsw u d n c
/-- the reference's numbers say what the chart says -/
def zEq (m : Int → Int) (X : zI) : Prop :=
  (m 0 = X 0 5 ∧ m 1 = X 0 6 ∧ m 2 = X 0 7 ∧ m 3 = X 0 8 ∧ m 4 = X 0 9 ∧ m 5 = X 0 10 ∧ m 6 = X 0 11) ∧
  (∀ c, 0 ≤ c → c < X 0 5 → m (7 + c) = X 2 c ∧ m (31 + c) = X 4 c) ∧
  (m 55 = X 7 2 ∧ ∀ k, 0 ≤ k → k < X 7 2 → m (56 + k) = X 9 k ∧ m (68 + k) = X 11 k) ∧
  (m 80 = X 12 4 ∧ ∀ k, 0 ≤ k → k < X 12 4 → m (81 + k) = X 14 k - 1 ∧ m (193 + k) = X 16 k ∧ m (305 + k) = X 18 k) ∧
  (∀ t c, 0 ≤ t → t ≤ X 0 8 → 0 ≤ c → c < X 0 5 → m (417 + 24 * t + c) = X 22 (t * 24 + c))
/-- how many bumps there can be so far -/
def zlb (F : Int → Int) : Int := 16 * F 8 + (if F 9 = -1 then 0 else (F 6 + 1) / 2 * ((F 5 + F 6 - 1) / F 6 - 1 - F 9))
def zLg (X : zI) : Prop :=
  (0 ≤ X 12 4 ∧ X 12 4 ≤ zlb (X 0)) ∧
  (∀ k, 0 ≤ k → k < X 12 4 → (0 ≤ X 16 k ∧ X 16 k < X 0 5) ∧ (0 ≤ X 18 k ∧ X 18 k < X 0 5) ∧ ¬ X 16 k = X 18 k ∧ X 20 k = zsw (X 16) (X 18) k.toNat (X 16 k) - zsw (X 16) (X 18) k.toNat (X 18 k)) ∧
  ∀ c, 0 ≤ c → c < X 0 5 → X 4 c = zsw (X 16) (X 18) (X 12 4).toNat c
def zPA (X : zI) : Prop := (∀ t c, 0 ≤ t → t ≤ X 0 8 → 0 ≤ c → c < X 0 5 → 0 ≤ X 22 (t * 24 + c) ∧ X 22 (t * 24 + c) < X 0 5) ∧ ∀ c, 0 ≤ c → c < X 0 5 → X 22 (0 * 24 + c) = c
/-- what holds of a chart between the calls, its race apart -/
def zCJ (X : zI) : Prop := zW1 (X 0) ∧ zW2 (X 0) (X 4) (X 6) ∧ (∀ c, 0 ≤ c → c < X 0 5 → 1 ≤ X 2 c ∧ X 2 c ≤ 1000) ∧ zLg X ∧ zPA X
def zCI (X : zI) : Prop := zCJ X ∧ 0 ≤ X 7 2 ∧ zDis (X 0) (X 4) (X 7 2) (X 9) (X 11)
/-- charts alike in what is their own -/
def zSa (X Y : zI) : Prop := (X 2 = Y 2 ∧ X 4 = Y 4 ∧ X 6 = Y 6 ∧ X 9 = Y 9 ∧ X 11 = Y 11 ∧ X 14 = Y 14 ∧ X 16 = Y 16 ∧ X 18 = Y 18 ∧ X 20 = Y 20 ∧ X 22 = Y 22) ∧ (X 0 5 = Y 0 5 ∧ X 0 6 = Y 0 6 ∧ X 0 7 = Y 0 7 ∧ X 0 8 = Y 0 8 ∧ X 0 9 = Y 0 9 ∧ X 0 10 = Y 0 10 ∧ X 0 11 = Y 0 11) ∧ X 7 2 = Y 7 2 ∧ X 12 4 = Y 12 4
theorem zSa_r {X : zI} : zSa X X := ⟨⟨rfl, rfl, rfl, rfl, rfl, rfl, rfl, rfl, rfl, rfl⟩, ⟨rfl, rfl, rfl, rfl, rfl, rfl, rfl⟩, rfl, rfl⟩
theorem zSa_s {X Y : zI} (h : zSa X Y) : zSa Y X := by
  obtain ⟨⟨a1, a2, a3, a4, a5, a6, a7, a8, a9, a10⟩, ⟨b1, b2, b3, b4, b5, b6, b7⟩, c1, c2⟩ := h
  exact ⟨⟨a1.symm, a2.symm, a3.symm, a4.symm, a5.symm, a6.symm, a7.symm, a8.symm, a9.symm, a10.symm⟩, ⟨b1.symm, b2.symm, b3.symm, b4.symm, b5.symm, b6.symm, b7.symm⟩, c1.symm, c2.symm⟩
theorem zSa_e {X Y : zI} {m : Int → Int} (h : zSa X Y) (e : zEq m X) : zEq m Y := by
  obtain ⟨⟨a1, a2, a3, a4, a5, a6, a7, a8, a9, a10⟩, ⟨b1, b2, b3, b4, b5, b6, b7⟩, c1, c2⟩ := h
  unfold zEq at e ⊢
  rw [← a1, ← a2, ← a4, ← a5, ← a6, ← a7, ← a8, ← a10, ← b1, ← b2, ← b3, ← b4, ← b5, ← b6, ← b7, ← c1, ← c2]
  exact e
theorem zSa_J {X Y : zI} (h : zSa X Y) (e : zCJ X) : zCJ Y := by
  obtain ⟨⟨a1, a2, a3, a4, a5, a6, a7, a8, a9, a10⟩, ⟨b1, b2, b3, b4, b5, b6, b7⟩, c1, c2⟩ := h
  unfold zCJ zW1 zW2 zLg zlb zPA at e ⊢
  rw [← a1, ← a2, ← a3, ← a7, ← a8, ← a9, ← a10, ← b1, ← b2, ← b3, ← b4, ← b5, ← b6, ← b7, ← c2]
  exact e
theorem zSa_I {X Y : zI} (h : zSa X Y) (e : zCI X) : zCI Y := by
  refine ⟨zSa_J h e.1, ?_⟩
  have e2 := e.2
  obtain ⟨⟨a1, a2, a3, a4, a5, a6, a7, a8, a9, a10⟩, ⟨b1, b2, b3, b4, b5, b6, b7⟩, c1, c2⟩ := h
  unfold zDis zIs zns at e2 ⊢
  rw [← a2, ← a4, ← a5, ← b1, ← b2, ← b5, ← c1]
  exact e2
theorem zsw_s {u d : Int → Int} {k : Int} (h : 0 ≤ k) : zsw u d (k + 1).toNat = fun c => if c = u k then zsw u d k.toNat (d k) else if c = d k then zsw u d k.toNat (u k) else zsw u d k.toNat c := by
  obtain ⟨j, rfl⟩ : ∃ j : Nat, k = j := ⟨k.toNat, by omega⟩
  rfl
theorem zsw_cg {u d u2 d2 : Int → Int} : ∀ n : Nat, (∀ k, 0 ≤ k → k < (n : Int) → u k = u2 k ∧ d k = d2 k) → zsw u d n = zsw u2 d2 n
  | 0, _ => rfl
  | n + 1, h => by
    have ih := zsw_cg n (fun k k0 k1 => h k k0 (by omega))
    have e := h n (by omega) (by omega)
    show (fun c => if c = u n then zsw u d n (d n) else if c = d n then zsw u d n (u n) else zsw u d n c) = (fun c => if c = u2 n then zsw u2 d2 n (d2 n) else if c = d2 n then zsw u2 d2 n (u2 n) else zsw u2 d2 n c)
    rw [ih, e.1, e.2]
theorem zsw_in {u d : Int → Int} {N : Int} : ∀ n : Nat, (∀ k, 0 ≤ k → k < (n : Int) → (0 ≤ u k ∧ u k < N) ∧ (0 ≤ d k ∧ d k < N)) → ∀ c, 0 ≤ c → c < N → 0 ≤ zsw u d n c ∧ zsw u d n c < N
  | 0, _, c, c0, c1 => ⟨c0, c1⟩
  | n + 1, h, c, c0, c1 => by
    have ih := zsw_in n (fun k k0 k1 => h k k0 (by omega))
    have e := h n (by omega) (by omega)
    show 0 ≤ (if c = u n then zsw u d n (d n) else if c = d n then zsw u d n (u n) else zsw u d n c) ∧ (if c = u n then zsw u d n (d n) else if c = d n then zsw u d n (u n) else zsw u d n c) < N
    split
    · exact ih _ e.2.1 e.2.2
    · split
      · exact ih _ e.1.1 e.1.2
      · exact ih _ c0 c1
/-- a crew followed through its own bumps is where the exchanges put it -/
theorem zfol_sw {u d s : Int → Int} {c N : Int} : ∀ n : Nat, (∀ k, 0 ≤ k → k < (n : Int) → ¬ u k = d k ∧ s k = zsw u d k.toNat (u k) - zsw u d k.toNat (d k)) → zfol u d s c n = zsw u d n c
  | 0, _ => rfl
  | n + 1, h => by
    have ih := zfol_sw (c := c) (N := N) n (fun k k0 k1 => h k k0 (by omega))
    have e := h n (by omega) (by omega)
    rw [show ((n : Int)).toNat = n from by omega] at e
    show (if u n = c then zfol u d s c n - s n else if d n = c then zfol u d s c n + s n else zfol u d s c n) = (if c = u n then zsw u d n (d n) else if c = d n then zsw u d n (u n) else zsw u d n c)
    rw [ih, e.2]
    by_cases h1 : u n = c
    · rw [if_pos h1, if_pos h1.symm, h1]; omega
    · rw [if_neg h1, if_neg (show ¬ c = u n from fun h9 => h1 h9.symm)]
      by_cases h2 : d n = c
      · rw [if_pos h2, if_pos h2.symm, h2]; omega
      · rw [if_neg h2, if_neg (show ¬ c = d n from fun h9 => h2 h9.symm)]
/-- the reference's state, its rooms for work apart -/
def zMk (J I : zI) : Prop := (∀ r, r < 137 → J r = I r) ∧ J 138 = I 138 ∧ J 139 = I 139 ∧ J 140 = I 140 ∧ J 137 2 = I 137 2 ∧ J 137 4 = I 137 4
theorem zMk_r {I : zI} : zMk I I := ⟨fun _ _ => rfl, rfl, rfl, rfl, rfl, rfl⟩
theorem zMk_t {A B C : zI} (h : zMk A B) (g : zMk B C) : zMk A C := by
  obtain ⟨h1, h2, h3, h4, h5, h6⟩ := h
  obtain ⟨g1, g2, g3, g4, g5, g6⟩ := g
  exact ⟨fun r hr => (h1 r hr).trans (g1 r hr), h2.trans g2, h3.trans g3, h4.trans g4, h5.trans g5, h6.trans g6⟩
/-- what holds between the calls -/
def zSim (I : zI) (π : Int → Nat) : Prop := (zEq (I 138) (zX I 2) ∧ zCI (zX I 2)) ∧ ((0 ≤ I 25 1 ∧ I 25 1 ≤ 4) ∧ I 137 2 = I 25 1) ∧ zPi π ∧ (∀ j k, 0 ≤ j → j < 4 → 0 ≤ k → k < 4 → π j = π k → j = k) ∧
  (∀ k, 0 ≤ k → k < I 25 1 → zEq (fun j => I 139 (585 * k + j)) (zX I (π k)) ∧ zCI (zX I (π k))) ∧
  ((0 ≤ I 129 0 ∧ I 129 0 ≤ 80) ∧ I 137 4 = I 129 0 ∧ (∀ p, 0 ≤ p → p < 80 → 0 ≤ I 136 p ∧ I 136 p ≤ 126) ∧ ∀ p, 0 ≤ p → p < I 129 0 → I 140 p = I 136 p)
/-- alike but for the rooms for work -/
def zKp (J I : zI) : Prop := (∀ r, r < 119 → J r = I r) ∧ J 136 = I 136 ∧ J 129 0 = I 129 0 ∧ J 138 = I 138 ∧ J 139 = I 139 ∧ J 140 = I 140 ∧ J 137 2 = I 137 2 ∧ J 137 4 = I 137 4
theorem zKp_t {A B C : zI} (h : zKp A B) (g : zKp B C) : zKp A C := by
  obtain ⟨h1, h2, h3, h4, h5, h6, h7, h8⟩ := h
  obtain ⟨g1, g2, g3, g4, g5, g6, g7, g8⟩ := g
  exact ⟨fun r hr => (h1 r hr).trans (g1 r hr), h2.trans g2, h3.trans g3, h4.trans g4, h5.trans g5, h6.trans g6, h7.trans g7, h8.trans g8⟩
theorem zMk_Kp {J I : zI} (h : zMk J I) : zKp J I := by
  obtain ⟨h1, h2, h3, h4, h5, h6⟩ := h
  exact ⟨fun r hr => h1 r (by omega), h1 136 (by omega), by rw [h1 129 (by omega)], h2, h3, h4, h5, h6⟩
theorem zX_cg {J I : zI} {b : Nat} (h : ∀ r, b ≤ r → r < b + 23 → J r = I r) : zSa (zX I b) (zX J b) := by
  have g : ∀ k, k < 23 → zX I b k = zX J b k := fun k hk => (h (b + k) (by omega) (by omega)).symm
  exact ⟨⟨g _ (by decide), g _ (by decide), g _ (by decide), g _ (by decide), g _ (by decide), g _ (by decide), g _ (by decide), g _ (by decide), g _ (by decide), g _ (by decide)⟩, ⟨by rw [g 0 (by decide)], by rw [g 0 (by decide)], by rw [g 0 (by decide)], by rw [g 0 (by decide)], by rw [g 0 (by decide)], by rw [g 0 (by decide)], by rw [g 0 (by decide)]⟩, by rw [g 7 (by decide)], by rw [g 12 (by decide)]⟩
theorem zPi_b {π : Int → Nat} (h : zPi π) {k : Int} (h0 : 0 ≤ k) (h1 : k < 4) : 27 ≤ π k ∧ π k + 23 ≤ 119 := by
  have := h k h0 h1
  omega
theorem zKp_S {J I : zI} {π : Int → Nat} (h : zKp J I) (s : zSim I π) : zSim J π := by
  obtain ⟨h1, h2, h3, h4, h5, h6, h7, h8⟩ := h
  obtain ⟨⟨a1, a2⟩, ⟨b1, b2⟩, c, d, e, f⟩ := s
  have g := zX_cg (J := J) (I := I) (b := 2) (fun r _ hr => h1 r (by omega))
  refine ⟨⟨?_, zSa_I g a2⟩, ⟨?_, ?_⟩, c, d, fun k k0 k1 => ?_, ?_⟩
  · rw [h4]; exact zSa_e g a1
  · rw [h1 25 (by decide)]; exact b1
  · rw [h7, h1 25 (by decide)]; exact b2
  · rw [h1 25 (by decide)] at k1
    have hb := zPi_b c k0 (by omega)
    have g2 := zX_cg (J := J) (I := I) (b := π k) (fun r _ hr => h1 r (by omega))
    have := e k k0 k1
    rw [h5]
    exact ⟨zSa_e g2 this.1, zSa_I g2 this.2⟩
  · rw [h2, h3, h6, h8]; exact f
