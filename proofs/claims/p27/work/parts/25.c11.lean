/-- how many of the first n have it -/
noncomputable def zcpp (P : Int → Prop) : Nat → Int
  | 0 => 0
  | n + 1 => zcpp P n + @ite Int (P n) (Classical.propDecidable _) 1 0
theorem zcpp_b {P : Int → Prop} : ∀ n : Nat, 0 ≤ zcpp P n ∧ zcpp P n ≤ n
  | 0 => by simp [zcpp]
  | n + 1 => by
    have ih := zcpp_b (P := P) n
    unfold zcpp
    by_cases h : P n
    · rw [if_pos h]; omega
    · rw [if_neg h]; omega
theorem zcpp_two {P Q : Int → Prop} {i j : Int} (hij : ¬ i = j) (h0 : ¬ P i) (h1 : ¬ P j) : ∀ n : Nat, (∀ k : Int, 0 ≤ k → k < n → (Q k ↔ (P k ∨ k = i ∨ k = j))) → zcpp Q n = zcpp P n + (if 0 ≤ i ∧ i < n then 1 else 0) + (if 0 ≤ j ∧ j < n then 1 else 0)
  | 0, _ => by
    rw [if_neg (by omega), if_neg (by omega)]
    rfl
  | n + 1, h => by
    have ih := zcpp_two hij h0 h1 n (fun k a b => h k a (by omega))
    have hn := h n (by omega) (by omega)
    unfold zcpp
    by_cases e1 : (n : Int) = i
    · have hp : ¬ P n := by rw [e1]; exact h0
      rw [if_pos (hn.mpr (Or.inr (Or.inl e1))), if_neg hp]
      split at ih <;> split at ih <;> split <;> split <;> omega
    · by_cases e2 : (n : Int) = j
      · have hp : ¬ P n := by rw [e2]; exact h1
        rw [if_pos (hn.mpr (Or.inr (Or.inr e2))), if_neg hp]
        split at ih <;> split at ih <;> split <;> split <;> omega
      · by_cases hp : P n
        · rw [if_pos (hn.mpr (Or.inl hp)), if_pos hp]
          split at ih <;> split at ih <;> split <;> split <;> omega
        · rw [if_neg (fun hq => by rcases hn.mp hq with a | a | a <;> contradiction), if_neg hp]
          split at ih <;> split at ih <;> split <;> split <;> omega
/-- the bumps of a race, each between two starters that no earlier one has put out, the one behind the other -/
def zDis (F Pl : Int → Int) (M : Int) (u d : Int → Int) : Prop := ∀ k, 0 ≤ k → k < M → zIs F Pl (u k) ∧ zIs F Pl (d k) ∧ Pl (d k) < Pl (u k) ∧ ¬ zOut k u d (u k) ∧ ¬ zOut k u d (d k)
theorem zOut_s {M : Int} {u d : Int → Int} {c : Int} (h : 0 ≤ M) : zOut (M + 1) u d c ↔ (zOut M u d c ∨ c = u M ∨ c = d M) := by
  constructor
  · rintro ⟨k, k0, k1, k2⟩
    by_cases e : k = M
    · subst e
      rcases k2 with a | a
      · exact Or.inr (Or.inl a.symm)
      · exact Or.inr (Or.inr a.symm)
    · exact Or.inl ⟨k, k0, by omega, k2⟩
  · rintro (⟨k, k0, k1, k2⟩ | a | a)
    · exact ⟨k, k0, by omega, k2⟩
    · exact ⟨M, h, by omega, Or.inl a.symm⟩
    · exact ⟨M, h, by omega, Or.inr a.symm⟩
theorem zdis_cnt {F Pl Or u d : Int → Int} {M : Int} (w : zW1 F) (v : zW2 F Pl Or) (h : zDis F Pl M u d) : ∀ m : Nat, (m : Int) ≤ M → zcpp (fun k => zOut m u d (Or (F 9 * F 6 + k))) (zns F).toNat = 2 * m
  | 0, _ => by
    have : ∀ n : Nat, zcpp (fun k => zOut ((0 : Nat) : Int) u d (Or (F 9 * F 6 + k))) n = 0 := by
      intro n
      induction n with
      | zero => rfl
      | succ n ih =>
        unfold zcpp
        rw [ih, if_neg (fun ⟨k, k0, k1, _⟩ => by omega)]
        rfl
    rw [this]; rfl
  | m + 1, hm => by
    have ih := zdis_cnt w v h m (by omega)
    obtain ⟨hu, hd, hlt, ou, od⟩ := h m (by omega) (by omega)
    have hb := zns_b w
    have iu : zns F = 0 → False := fun e => by have := hu.2; omega
    have pu := v.1 _ hu.1.1 hu.1.2
    have pd := v.1 _ hd.1.1 hd.1.2
    have key := zcpp_two (P := fun k => zOut m u d (Or (F 9 * F 6 + k))) (Q := fun k => zOut ((m + 1 : Nat) : Int) u d (Or (F 9 * F 6 + k))) (i := Pl (u m) - F 9 * F 6) (j := Pl (d m) - F 9 * F 6) (by omega)
      (by show ¬ zOut m u d (Or (F 9 * F 6 + (Pl (u m) - F 9 * F 6))); rw [show F 9 * F 6 + (Pl (u m) - F 9 * F 6) = Pl (u m) by omega, pu.2.2]; exact ou)
      (by show ¬ zOut m u d (Or (F 9 * F 6 + (Pl (d m) - F 9 * F 6))); rw [show F 9 * F 6 + (Pl (d m) - F 9 * F 6) = Pl (d m) by omega, pd.2.2]; exact od)
      (zns F).toNat (fun k k0 k1 => by
        show zOut ((m + 1 : Nat) : Int) u d (Or (F 9 * F 6 + k)) ↔ _
        rw [show ((m + 1 : Nat) : Int) = (m : Int) + 1 by omega, zOut_s (by omega)]
        have q := v.2.1 (F 9 * F 6 + k) (by omega) (by omega)
        have e1 : Or (F 9 * F 6 + k) = u m ↔ k = Pl (u m) - F 9 * F 6 := by
          constructor
          · intro e; rw [← e, q.2.2]; omega
          · intro e; rw [e, show F 9 * F 6 + (Pl (u m) - F 9 * F 6) = Pl (u m) by omega, pu.2.2]
        have e2 : Or (F 9 * F 6 + k) = d m ↔ k = Pl (d m) - F 9 * F 6 := by
          constructor
          · intro e; rw [← e, q.2.2]; omega
          · intro e; rw [e, show F 9 * F 6 + (Pl (d m) - F 9 * F 6) = Pl (d m) by omega, pd.2.2]
        rw [e1, e2])
    rw [key, ih, if_pos (by have := hu.2; omega), if_pos (by have := hd.2; omega)]
    omega
theorem zdis_le {F Pl Or u d : Int → Int} {M : Int} (w : zW1 F) (v : zW2 F Pl Or) (h : zDis F Pl M u d) (h0 : 0 ≤ M) : 2 * M ≤ zns F ∧ M ≤ 4 := by
  have h1 := zdis_cnt w v h M.toNat (by omega)
  have h2 := zcpp_b (P := fun k => zOut M.toNat u d (Or (F 9 * F 6 + k))) (zns F).toNat
  have h3 := zns_b w
  omega
theorem zOut_u {M k : Int} {u d : Int → Int} {a b c : Int} (h : k ≤ M) : zOut k (zu1 u M a) (zu1 d M b) c ↔ zOut k u d c := by
  constructor
  · rintro ⟨j, j0, j1, j2⟩
    refine ⟨j, j0, j1, ?_⟩
    unfold zu1 at j2
    rwa [if_neg (by omega), if_neg (by omega)] at j2
  · rintro ⟨j, j0, j1, j2⟩
    refine ⟨j, j0, j1, ?_⟩
    unfold zu1
    rwa [if_neg (by omega), if_neg (by omega)]
theorem zReas_0 {F Pl Or u d : Int → Int} {M a b : Int} (h : zReas F Pl Or M u d a b 0) : zIs F Pl a ∧ zIs F Pl b ∧ ¬ zOut M u d a ∧ ¬ zOut M u d b ∧ Pl b < Pl a := by
  rcases h with ⟨e, -⟩ | ⟨h1, h2, ⟨e, -⟩ | ⟨h3, h4, ⟨e, -⟩ | ⟨h5, -⟩⟩⟩
  · exact absurd e (by decide)
  · exact absurd e (by decide)
  · exact absurd e (by decide)
  · exact ⟨h1, h2, h3, h4, h5⟩
theorem zdis_push {F Pl u d : Int → Int} {M a b : Int} (h : zDis F Pl M u d) (hr : zIs F Pl a ∧ zIs F Pl b ∧ ¬ zOut M u d a ∧ ¬ zOut M u d b ∧ Pl b < Pl a) : zDis F Pl (M + 1) (zu1 u M a) (zu1 d M b) := by
  intro k k0 k1
  rw [zOut_u (by omega), zOut_u (by omega)]
  by_cases e : k = M
  · subst e
    unfold zu1
    rw [if_pos rfl, if_pos rfl]
    exact ⟨hr.1, hr.2.1, hr.2.2.2.2, hr.2.2.1, hr.2.2.2.1⟩
  · unfold zu1
    rw [if_neg e, if_neg e]
    exact h k k0 (by omega)
theorem zdis_push4 {F Pl Or u d : Int → Int} {M a b : Int} (w : zW1 F) (v : zW2 F Pl Or) (h0 : 0 ≤ M) (h : zDis F Pl M u d) (hr : zReas F Pl Or M u d a b 0) : M < 4 := by
  have := zdis_le w v (zdis_push h (zReas_0 hr)) (by omega)
  omega
