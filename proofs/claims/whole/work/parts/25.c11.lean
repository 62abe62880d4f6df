/-- how many of the first n have it -/
noncomputable def zcpp (P : Int → Prop) : Nat → Int
  | 0 => 0
  | n + 1 => zcpp P n + @ite Int (P n) (Classical.propDecidable _) 1 0
theorem zcpp_b {P : Int → Prop} : ∀ n : Nat, 0 ≤ zcpp P n ∧ zcpp P n ≤ n
  | 0 => by simp [zcpp]
  | n + 1 => by
    have ih := zcpp_b (P := P) n
    unfold zcpp
    by_cases h : P n
    · rw [if_pos h]; omega
    · rw [if_neg h]; omega
theorem zcpp_two {P Q : Int → Prop} {i j : Int} (hij : ¬ i = j) (h0 : ¬ P i) (h1 : ¬ P j) : ∀ n : Nat, (∀ k : Int, 0 ≤ k → k < n → (Q k ↔ (P k ∨ k = i ∨ k = j))) → zcpp Q n = zcpp P n + (if 0 ≤ i ∧ i < n then 1 else 0) + (if 0 ≤ j ∧ j < n then 1 else 0)
  | 0, _ => by
    rw [if_neg (by omega), if_neg (by omega)]
    rfl
  | n + 1, h => by
    have ih := zcpp_two hij h0 h1 n (fun k a b => h k a (by omega))
    have hn := h n (by omega) (by omega)
    unfold zcpp
    by_cases e1 : (n : Int) = i
    · have hp : ¬ P n := by rw [e1]; exact h0
      rw [if_pos (hn.mpr (Or.inr (Or.inl e1))), if_neg hp]
      split at ih <;> split at ih <;> split <;> split <;> omega
    · by_cases e2 : (n : Int) = j
      · have hp : ¬ P n := by rw [e2]; exact h1
        rw [if_pos (hn.mpr (Or.inr (Or.inr e2))), if_neg hp]
        split at ih <;> split at ih <;> split <;> split <;> omega
      · by_cases hp : P n
        · rw [if_pos (hn.mpr (Or.inl hp)), if_pos hp]
          split at ih <;> split at ih <;> split <;> split <;> omega
        · rw [if_neg (fun hq => by rcases hn.mp hq with a | a | a <;> contradiction), if_neg hp]
          split at ih <;> split at ih <;> split <;> split <;> omega
/-- the bumps of a race, each between two starters that no earlier one has put out, the one behind the other -/
def zDis (F Pl : Int → Int) (M : Int) (u d : Int → Int) : Prop := ∀ k, 0 ≤ k → k < M → zIs F Pl (u k) ∧ zIs F Pl (d k) ∧ Pl (d k) < Pl (u k) ∧ ¬ zOut k u d (u k) ∧ ¬ zOut k u d (d k)
theorem zOut_s {M : Int} {u d : Int → Int} {c : Int} (h : 0 ≤ M) : zOut (M + 1) u d c ↔ (zOut M u d c ∨ c = u M ∨ c = d M) := by
  constructor
  · rintro ⟨k, k0, k1, k2⟩
    by_cases e : k = M
    · subst e
      rcases k2 with a | a
      · exact Or.inr (Or.inl a.symm)
      · exact Or.inr (Or.inr a.symm)
    · exact Or.inl ⟨k, k0, by omega, k2⟩
  · rintro (⟨k, k0, k1, k2⟩ | a | a)
    · exact ⟨k, k0, by omega, k2⟩
    · exact ⟨M, h, by omega, Or.inl a.symm⟩
    · exact ⟨M, h, by omega, Or.inr a.symm⟩
theorem zdis_cnt {F Pl Or u d : Int → Int} {M : Int} (w : zW1 F) (v : zW2 F Pl Or) (h : zDis F Pl M u d) : ∀ m : Nat, (m : Int) ≤ M → zcpp (fun k => zOut m u d (Or (F 9 * F 6 + k))) (zns F).toNat = 2 * m
  | 0, _ => by
    have : ∀ n : Nat, zcpp (fun k => zOut ((0 : Nat) : Int) u d (Or (F 9 * F 6 + k))) n = 0 := by
      intro n
      induction n with
      | zero => rfl
      | succ n ih =>
        unfold zcpp
        rw [ih, if_neg (fun ⟨k, k0, k1, _⟩ => by omega)]
        rfl
    rw [this]; rfl
  | m + 1, hm => by
    have ih := zdis_cnt w v h m (by omega)
    obtain ⟨hu, hd, hlt, ou, od⟩ := h m (by omega) (by omega)
    have hb := zns_b w
    have iu : zns F = 0 → False := fun e => by have := hu.2; omega
    have pu := v.1 _ hu.1.1 hu.1.2
    have pd := v.1 _ hd.1.1 hd.1.2
    have key := zcpp_two (P := fun k => zOut m u d (Or (F 9 * F 6 + k))) (Q := fun k => zOut ((m + 1 : Nat) : Int) u d (Or (F 9 * F 6 + k))) (i := Pl (u m) - F 9 * F 6) (j := Pl (d m) - F 9 * F 6) (by omega)
      (by show ¬ zOut m u d (Or (F 9 * F 6 + (Pl (u m) - F 9 * F 6))); rw [show F 9 * F 6 + (Pl (u m) - F 9 * F 6) = Pl (u m) by omega, pu.2.2]; exact ou)
      (by show ¬ zOut m u d (Or (F 9 * F 6 + (Pl (d m) - F 9 * F 6))); rw [show F 9 * F 6 + (Pl (d m) - F 9 * F 6) = Pl (d m) by omega, pd.2.2]; exact od)
      (zns F).toNat (fun k k0 k1 => by
        show zOut ((m + 1 : Nat) : Int) u d (Or (F 9 * F 6 + k)) ↔ _
        rw [show ((m + 1 : Nat) : Int) = (m : Int) + 1 by omega, zOut_s (by omega)]
        have q := v.2.1 (F 9 * F 6 + k) (by omega) (by omega)
        have e1 : Or (F 9 * F 6 + k) = u m ↔ k = Pl (u m) - F 9 * F 6 := by
          constructor
          · intro e; rw [← e, q.2.2]; omega
          · intro e; rw [e, show F 9 * F 6 + (Pl (u m) - F 9 * F 6) = Pl (u m) by omega, pu.2.2]
        have e2 : Or (F 9 * F 6 + k) = d m ↔ k = Pl (d m) - F 9 * F 6 := by
          constructor
          · intro e; rw [← e, q.2.2]; omega
          · intro e; rw [e, show F 9 * F 6 + (Pl (d m) - F 9 * F 6) = Pl (d m) by omega, pd.2.2]
        rw [e1, e2])
    rw [key, ih, if_pos (by have := hu.2; omega), if_pos (by have := hd.2; omega)]
    omega
theorem zdis_le {F Pl Or u d : Int → Int} {M : Int} (w : zW1 F) (v : zW2 F Pl Or) (h : zDis F Pl M u d) (h0 : 0 ≤ M) : 2 * M ≤ zns F ∧ M ≤ 4 := by
  have h1 := zdis_cnt w v h M.toNat (by omega)
  have h2 := zcpp_b (P := fun k => zOut M.toNat u d (Or (F 9 * F 6 + k))) (zns F).toNat
  have h3 := zns_b w
  omega
theorem zOut_u {M k : Int} {u d : Int → Int} {a b c : Int} (h : k ≤ M) : zOut k (zu1 u M a) (zu1 d M b) c ↔ zOut k u d c := by
  constructor
  · rintro ⟨j, j0, j1, j2⟩
    refine ⟨j, j0, j1, ?_⟩
    unfold zu1 at j2
    rwa [if_neg (by omega), if_neg (by omega)] at j2
  · rintro ⟨j, j0, j1, j2⟩
    refine ⟨j, j0, j1, ?_⟩
    unfold zu1
    rwa [if_neg (by omega), if_neg (by omega)]
theorem zReas_0 {F Pl Or u d : Int → Int} {M a b : Int} (h : zReas F Pl Or M u d a b 0) : zIs F Pl a ∧ zIs F Pl b ∧ ¬ zOut M u d a ∧ ¬ zOut M u d b ∧ Pl b < Pl a := by
  rcases h with ⟨e, -⟩ | ⟨h1, h2, ⟨e, -⟩ | ⟨h3, h4, ⟨e, -⟩ | ⟨h5, -⟩⟩⟩
  · exact absurd e (by decide)
  · exact absurd e (by decide)
  · exact absurd e (by decide)
  · exact ⟨h1, h2, h3, h4, h5⟩
theorem zdis_push {F Pl u d : Int → Int} {M a b : Int} (h : zDis F Pl M u d) (hr : zIs F Pl a ∧ zIs F Pl b ∧ ¬ zOut M u d a ∧ ¬ zOut M u d b ∧ Pl b < Pl a) : zDis F Pl (M + 1) (zu1 u M a) (zu1 d M b) := by
  intro k k0 k1
  rw [zOut_u (by omega), zOut_u (by omega)]
  by_cases e : k = M
  · subst e
    unfold zu1
    rw [if_pos rfl, if_pos rfl]
    exact ⟨hr.1, hr.2.1, hr.2.2.2.2, hr.2.2.1, hr.2.2.2.1⟩
  · unfold zu1
    rw [if_neg e, if_neg e]
    exact h k k0 (by omega)
theorem zdis_push4 {F Pl Or u d : Int → Int} {M a b : Int} (w : zW1 F) (v : zW2 F Pl Or) (h0 : 0 ≤ M) (h : zDis F Pl M u d) (hr : zReas F Pl Or M u d a b 0) : M < 4 := by
  have := zdis_le w v (zdis_push h (zReas_0 hr)) (by omega)
  omega
/-- reason, where, bumps of the race, who, whom, how many bumps read -/
abbrev zCo : Type := Int × (Int × (Int × ((Int → Int) × ((Int → Int) × Int))))
/-- the check of a text from a place on, with at most so many bumps still to read: what comes of it -/
def zCk (F Pl Or G : Int → Int) (l : Int) : Nat → Int → Int → (Int → Int) → (Int → Int) → Int → zCo → Prop
  | 0, p, m, u, d, c, q => l ≤ p ∧ q = (0, p, m, u, d, c)
  | n + 1, p, m, u, d, c, q => (l ≤ p ∧ q = (0, p, m, u, d, c)) ∨ (p < l ∧ ((¬ zfm G p ∧ q = (1, p, m, u, d, c)) ∨ (zfm G p ∧ ∃ res, zReas F Pl Or m u d (zua G p) (zub G p) res ∧
      ((¬ res = 0 ∧ q = (res, p, m, u, d, c)) ∨ (res = 0 ∧ zCk F Pl Or G l n (zen G p + 1) (m + 1) (zu1 u m (zua G p)) (zu1 d m (zub G p)) (c + 1) q)))))
/-- what the check writes -/
def zTS (I : zI) (m : Int) (u d : Int → Int) (re c a b e : Int) : zI := fun r j => if r = 132 then u j else if r = 134 then d j else if r = 130 ∧ j = 2 then m else if r = 129 ∧ j = 1 then re else if r = 129 ∧ j = 3 then c else if r = 129 ∧ j = 6 then a else if r = 129 ∧ j = 7 then b else if r = 129 ∧ j = 8 then e else I r j
section
variable {I : zI} {m re c a b e k v : Int} {u d : Int → Int}
theorem zTS_132 : zup (zTS I m u d re c a b e) 132 k v = zTS I m (zu1 u k v) d re c a b e := by
  funext r j
  by_cases h : r = 132
  · subst h; simp [zup, zTS, zu1]
  · simp [zup, zTS, h]
theorem zTS_134 : zup (zTS I m u d re c a b e) 134 k v = zTS I m u (zu1 d k v) re c a b e := by
  funext r j
  by_cases h : r = 134
  · subst h; simp [zup, zTS, zu1]
  · simp [zup, zTS, h]
theorem zTS_m : zup (zTS I m u d re c a b e) 130 2 v = zTS I v u d re c a b e := by
  funext r j
  by_cases h : r = 130
  · subst h
    by_cases h2 : j = 2
    · subst h2; simp [zup, zTS]
    · simp [zup, zTS, h2]
  · simp [zup, zTS, h]
theorem zTS_1 : zup (zTS I m u d re c a b e) 129 1 v = zTS I m u d v c a b e := by
  funext r j
  by_cases h : r = 129
  · subst h
    by_cases h2 : j = 1
    · subst h2; simp [zup, zTS]
    · simp [zup, zTS, h2]
  · simp [zup, zTS, h]
theorem zTS_3 : zup (zTS I m u d re c a b e) 129 3 v = zTS I m u d re v a b e := by
  funext r j
  by_cases h : r = 129
  · subst h
    by_cases h2 : j = 3
    · subst h2; simp [zup, zTS]
    · simp [zup, zTS, h2]
  · simp [zup, zTS, h]
theorem zRd_TS {a' b' e' : Int} : zRd (zTS I m u d re c a b e) a' b' e' = zTS I m u d re c a' b' e' := by
  funext r j
  unfold zRd
  by_cases h : r = 129
  · subst h
    by_cases h6 : j = 6
    · subst h6; simp [zup, zTS]
    · by_cases h7 : j = 7
      · subst h7; simp [zup, zTS]
      · by_cases h8 : j = 8
        · subst h8; simp [zup, zTS]
        · simp [zup, zTS, h6, h7, h8]
  · simp [zup, zTS, h]
theorem zTS_0 : zup (zup (zup (zcpR (zcpR I 132 11) 134 13) 130 2 (I 9 2)) 129 3 0) 129 1 0 = zTS I (I 9 2) (I 11) (I 13) 0 0 (I 129 6) (I 129 7) (I 129 8) := by
  funext r j
  unfold zTS
  by_cases h1 : r = 132
  · subst h1; simp [zup, zcpR]
  · by_cases h2 : r = 134
    · subst h2; simp [zup, zcpR]
    · by_cases h3 : r = 130
      · subst h3
        by_cases h4 : j = 2
        · subst h4; simp [zup]
        · simp [zup, zcpR, h4]
      · by_cases h5 : r = 129
        · subst h5
          by_cases j1 : j = 1
          · subst j1; simp [zup]
          · by_cases j3 : j = 3
            · subst j3; simp [zup]
            · by_cases j6 : j = 6
              · subst j6; simp [zup, zcpR]
              · by_cases j7 : j = 7
                · subst j7; simp [zup, zcpR]
                · by_cases j8 : j = 8
                  · subst j8; simp [zup, zcpR]
                  · simp [zup, zcpR, j1, j3, j6, j7, j8]
        · simp [zup, zcpR, h1, h2, h3, h5]
end
set_option maxRecDepth 20000 in
theorem m_ck_l {I : zI} {π : Int → Nat} {D : zD} (w : zW1 (I 2)) (v : zW2 (I 2) (I 6) (I 8)) (hl : 0 ≤ I 129 0 ∧ I 129 0 ≤ 80) (ht : ∀ p, 0 ≤ p → p < 80 → 0 ≤ I 136 p ∧ I 136 p ≤ 126) : ∀ (N : Nat) (t p m : Int) (u d : Int → Int) (c a b e : Int), 0 ≤ t → t + N = 80 → t ≤ p → p ≤ I 129 0 → 0 ≤ m → 0 ≤ c → c ≤ m → zDis (I 2) (I 6) m u d → ∃ (q : zCo) (a2 b2 e2 : Int), zCk (I 2) (I 6) (I 8) (zsg (I 136) (I 129 0)) (I 129 0) N p m u d c q ∧ zRuns 60 25 [(3, vi t), (2, vi p), (0, vr 129), (1, vr 2)] [] ((zTS I m u d 0 c a b e), zPp π, D, 147) none (zup (zTS I q.2.2.1 q.2.2.2.1 q.2.2.2.2.1 q.1 q.2.2.2.2.2 a2 b2 e2) 129 2 q.2.1, zPp π, D, 147) := by
  intro N
  induction N with
  | zero =>
    intro t p m u d c a b e t0 tN tp pl m0 c0 c1 hd
    refine ⟨(0, p, m, u, d, c), a, b, e, ⟨by omega, rfl⟩, ?_⟩
    refine z_n 2 (28, [(3, vi t), (2, vi p), (0, vr 129), (1, vr 2)], [vi 80, vi t], ((zTS I m u d 0 c a b e), zPp π, D, 147)) rfl trivial ?_
    refine z_br (80 ≤ t) 121 31 [] rfl (fun hx1 => ?_) (fun h => absurd (show 80 ≤ t from by omega) h)
    refine z_n 3 (126, [(3, vi t), (2, vi p), (0, vr 129), (1, vr 2)], [], ((zup (zTS I m u d 0 c a b e) 129 2 p), zPp π, D, 147)) rfl trivial ?_
    exact z_ret rfl rfl rfl
  | succ N ih =>
  intro t p m u d c a b e t0 tN tp pl m0 c0 c1 hd
  have hm9 := zdis_le w v hd m0
  by_cases hp : I 129 0 ≤ p
  · refine ⟨(0, p, m, u, d, c), a, b, e, Or.inl ⟨hp, rfl⟩, ?_⟩
    refine z_n 2 (28, [(3, vi t), (2, vi p), (0, vr 129), (1, vr 2)], [vi 80, vi t], ((zTS I m u d 0 c a b e), zPp π, D, 147)) rfl trivial ?_
    refine z_br (80 ≤ t) 121 31 [] rfl (fun h => absurd h (show ¬ (80 ≤ t) from by omega)) (fun hx1 => ?_)
    refine z_n 3 (36, [(3, vi t), (2, vi p), (0, vr 129), (1, vr 2)], [vi (I 129 0), vi p], ((zTS I m u d 0 c a b e), zPp π, D, 147)) rfl trivial ?_
    refine z_br ((I 129 0) ≤ p) 121 39 [] rfl (fun hx2 => ?_) (fun h => absurd (show (I 129 0) ≤ p from by omega) h)
    refine z_n 3 (126, [(3, vi t), (2, vi p), (0, vr 129), (1, vr 2)], [], ((zup (zTS I m u d 0 c a b e) 129 2 p), zPp π, D, 147)) rfl trivial ?_
    exact z_ret rfl rfl rfl
  by_cases hf : zfm (zsg (I 136) (I 129 0)) p
  · have hr1 : zMet 61 [vr 129, vi p] ((zTS I m u d 0 c a b e), zPp π, D, 147) (some (vi 1)) ((zTS I m u d 0 c (zua (zsg (I 136) (I 129 0)) p) (zub (zsg (I 136) (I 129 0)) p) (zen (zsg (I 136) (I 129 0)) p + 1)), zPp π, D, 147) := by
      have h := m_read1 (I := zTS I m u d 0 c a b e) (π := π) (D := D) (p := p) hl ht (by omega) hf
      rw [zRd_TS] at h
      exact h
    obtain ⟨res, hr2, hz⟩ := m_rea130 (I := zTS I m u d 0 c (zua (zsg (I 136) (I 129 0)) p) (zub (zsg (I 136) (I 129 0)) p) (zen (zsg (I 136) (I 129 0)) p + 1)) (π := π) (D := D) (a := zua (zsg (I 136) (I 129 0)) p) (b := zub (zsg (I 136) (I 129 0)) p) (show zW1 (I 2) from w) (show zW2 (I 2) (I 6) (I 8) from v) (show 0 ≤ m ∧ m ≤ 4 from ⟨m0, hm9.2⟩)
    have hz2 : zReas (I 2) (I 6) (I 8) m u d (zua (zsg (I 136) (I 129 0)) p) (zub (zsg (I 136) (I 129 0)) p) res := hz
    clear hz
    by_cases hz0 : ¬ res = 0
    · refine ⟨(res, p, m, u, d, c), zua (zsg (I 136) (I 129 0)) p, zub (zsg (I 136) (I 129 0)) p, zen (zsg (I 136) (I 129 0)) p + 1, Or.inr ⟨by omega, Or.inr ⟨hf, res, hz2, Or.inl ⟨hz0, rfl⟩⟩⟩, ?_⟩
      refine z_n 2 (28, [(3, vi t), (2, vi p), (0, vr 129), (1, vr 2)], [vi 80, vi t], ((zTS I m u d 0 c a b e), zPp π, D, 147)) rfl trivial ?_
      refine z_br (80 ≤ t) 121 31 [] rfl (fun h => absurd h (show ¬ (80 ≤ t) from by omega)) (fun hx1 => ?_)
      refine z_n 3 (36, [(3, vi t), (2, vi p), (0, vr 129), (1, vr 2)], [vi (I 129 0), vi p], ((zTS I m u d 0 c a b e), zPp π, D, 147)) rfl trivial ?_
      refine z_br ((I 129 0) ≤ p) 121 39 [] rfl (fun h => absurd h (show ¬ ((I 129 0) ≤ p) from by omega)) (fun hx2 => ?_)
      refine z_n 2 (43, [(3, vi t), (2, vi p), (0, vr 129), (1, vr 2)], [vi 0], ((zTS I m u d 0 c a b e), zPp π, D, 147)) rfl trivial ?_
      refine z_br (¬ (0 : Int) = 0) 121 46 [] rfl (fun h => absurd h (show ¬ (¬ (0 : Int) = 0) from by decide)) (fun hx3 => ?_)
      refine z_n 3 (49, [(3, vi t), (2, vi p), (0, vr 129), (1, vr 2)], [vi p, vr 129, vr 129], ((zTS I m u d 0 c a b e), zPp π, D, 147)) rfl trivial ?_
      refine z_ci 61 [vr 129, vi p] [vr 129] rfl (hr1) ?_
      refine z_br ((1 : Int) = 0) 74 55 [vr 129] rfl (fun h => absurd h (show ¬ ((1 : Int) = 0) from by decide)) (fun hx4 => ?_)
      refine z_n 7 (68, [(3, vi t), (2, vi p), (0, vr 129), (1, vr 2)], [vi (zub (zsg (I 136) (I 129 0)) p), vi (zua (zsg (I 136) (I 129 0)) p), vr 130, vr 2, vr 129], ((zTS I m u d 0 c (zua (zsg (I 136) (I 129 0)) p) (zub (zsg (I 136) (I 129 0)) p) (zen (zsg (I 136) (I 129 0)) p + 1)), zPp π, D, 147)) rfl trivial ?_
      refine z_ci 16 [vr 2, vr 130, vi (zua (zsg (I 136) (I 129 0)) p), vi (zub (zsg (I 136) (I 129 0)) p)] [vr 129] rfl (hr2) ?_
      refine z_n 4 (82, [(3, vi t), (2, vi p), (0, vr 129), (1, vr 2)], [vi res], ((zup (zTS I m u d 0 c (zua (zsg (I 136) (I 129 0)) p) (zub (zsg (I 136) (I 129 0)) p) (zen (zsg (I 136) (I 129 0)) p + 1)) 129 1 res), zPp π, D, 147)) rfl trivial ?_
      refine z_br (¬ res = 0) 115 85 [] rfl (fun hx5 => ?_) (fun h => absurd (show ¬ res = 0 from hz0) h)
      refine z_n 4 (28, [(3, vi (t + 1)), (2, vi p), (0, vr 129), (1, vr 2)], [vi 80, vi (t + 1)], ((zup (zTS I m u d 0 c (zua (zsg (I 136) (I 129 0)) p) (zub (zsg (I 136) (I 129 0)) p) (zen (zsg (I 136) (I 129 0)) p + 1)) 129 1 res), zPp π, D, 147)) (G := (zr (t + 1)) ∧ True) rfl ⟨by omega, trivial⟩ ?_
      refine z_br (80 ≤ (t + 1)) 121 31 [] rfl (fun hx6 => ?_) (fun hx6 => ?_)
      · refine z_n 3 (126, [(3, vi (t + 1)), (2, vi p), (0, vr 129), (1, vr 2)], [], ((zup (zup (zTS I m u d 0 c (zua (zsg (I 136) (I 129 0)) p) (zub (zsg (I 136) (I 129 0)) p) (zen (zsg (I 136) (I 129 0)) p + 1)) 129 1 res) 129 2 p), zPp π, D, 147)) rfl trivial ?_
        exact z_ret rfl rfl (by rw [zTS_1])
      · refine z_n 3 (36, [(3, vi (t + 1)), (2, vi p), (0, vr 129), (1, vr 2)], [vi (I 129 0), vi p], ((zup (zTS I m u d 0 c (zua (zsg (I 136) (I 129 0)) p) (zub (zsg (I 136) (I 129 0)) p) (zen (zsg (I 136) (I 129 0)) p + 1)) 129 1 res), zPp π, D, 147)) rfl trivial ?_
        refine z_br ((I 129 0) ≤ p) 121 39 [] rfl (fun h => absurd h (show ¬ ((I 129 0) ≤ p) from by omega)) (fun hx7 => ?_)
        refine z_n 2 (43, [(3, vi (t + 1)), (2, vi p), (0, vr 129), (1, vr 2)], [vi res], ((zup (zTS I m u d 0 c (zua (zsg (I 136) (I 129 0)) p) (zub (zsg (I 136) (I 129 0)) p) (zen (zsg (I 136) (I 129 0)) p + 1)) 129 1 res), zPp π, D, 147)) rfl trivial ?_
        refine z_br (¬ res = 0) 121 46 [] rfl (fun hx8 => ?_) (fun h => absurd (show ¬ res = 0 from hz0) h)
        refine z_n 3 (126, [(3, vi (t + 1)), (2, vi p), (0, vr 129), (1, vr 2)], [], ((zup (zup (zTS I m u d 0 c (zua (zsg (I 136) (I 129 0)) p) (zub (zsg (I 136) (I 129 0)) p) (zen (zsg (I 136) (I 129 0)) p + 1)) 129 1 res) 129 2 p), zPp π, D, 147)) rfl trivial ?_
        exact z_ret rfl rfl (by rw [zTS_1])
    · have hz1 : res = 0 := Classical.not_not.mp hz0
      subst hz1
      have hm4 := zdis_push4 w v m0 hd hz2
      obtain ⟨f1, f2, f3, f4⟩ := id hf
      have hend : zen (zsg (I 136) (I 129 0)) p < I 129 0 := by
        apply Classical.byContradiction
        intro hge
        unfold zsg at f2
        rw [if_neg (by exact hge)] at f2
        exact absurd f2 (by decide)
      obtain ⟨q, a2, b2, e2, hck, hrun⟩ := ih (t + 1) (zen (zsg (I 136) (I 129 0)) p + 1) (m + 1) (zu1 u m (zua (zsg (I 136) (I 129 0)) p)) (zu1 d m (zub (zsg (I 136) (I 129 0)) p)) (c + 1) (zua (zsg (I 136) (I 129 0)) p) (zub (zsg (I 136) (I 129 0)) p) (zen (zsg (I 136) (I 129 0)) p + 1) (by omega) (by omega) (by show t + 1 ≤ p + zdg (zsg (I 136) (I 129 0)) p + 1 + zdg (zsg (I 136) (I 129 0)) (p + zdg (zsg (I 136) (I 129 0)) p + 1) + 1; omega) (by omega) (by omega) (by omega) (by omega) (zdis_push hd (zReas_0 hz2))
      refine ⟨q, a2, b2, e2, Or.inr ⟨by omega, Or.inr ⟨hf, 0, hz2, Or.inr ⟨rfl, hck⟩⟩⟩, ?_⟩
      refine z_n 2 (28, [(3, vi t), (2, vi p), (0, vr 129), (1, vr 2)], [vi 80, vi t], ((zTS I m u d 0 c a b e), zPp π, D, 147)) rfl trivial ?_
      refine z_br (80 ≤ t) 121 31 [] rfl (fun h => absurd h (show ¬ (80 ≤ t) from by omega)) (fun hx1 => ?_)
      refine z_n 3 (36, [(3, vi t), (2, vi p), (0, vr 129), (1, vr 2)], [vi (I 129 0), vi p], ((zTS I m u d 0 c a b e), zPp π, D, 147)) rfl trivial ?_
      refine z_br ((I 129 0) ≤ p) 121 39 [] rfl (fun h => absurd h (show ¬ ((I 129 0) ≤ p) from by omega)) (fun hx2 => ?_)
      refine z_n 2 (43, [(3, vi t), (2, vi p), (0, vr 129), (1, vr 2)], [vi 0], ((zTS I m u d 0 c a b e), zPp π, D, 147)) rfl trivial ?_
      refine z_br (¬ (0 : Int) = 0) 121 46 [] rfl (fun h => absurd h (show ¬ (¬ (0 : Int) = 0) from by decide)) (fun hx3 => ?_)
      refine z_n 3 (49, [(3, vi t), (2, vi p), (0, vr 129), (1, vr 2)], [vi p, vr 129, vr 129], ((zTS I m u d 0 c a b e), zPp π, D, 147)) rfl trivial ?_
      refine z_ci 61 [vr 129, vi p] [vr 129] rfl (hr1) ?_
      refine z_br ((1 : Int) = 0) 74 55 [vr 129] rfl (fun h => absurd h (show ¬ ((1 : Int) = 0) from by decide)) (fun hx4 => ?_)
      refine z_n 7 (68, [(3, vi t), (2, vi p), (0, vr 129), (1, vr 2)], [vi (zub (zsg (I 136) (I 129 0)) p), vi (zua (zsg (I 136) (I 129 0)) p), vr 130, vr 2, vr 129], ((zTS I m u d 0 c (zua (zsg (I 136) (I 129 0)) p) (zub (zsg (I 136) (I 129 0)) p) (zen (zsg (I 136) (I 129 0)) p + 1)), zPp π, D, 147)) rfl trivial ?_
      refine z_ci 16 [vr 2, vr 130, vi (zua (zsg (I 136) (I 129 0)) p), vi (zub (zsg (I 136) (I 129 0)) p)] [vr 129] rfl (hr2) ?_
      refine z_n 4 (82, [(3, vi t), (2, vi p), (0, vr 129), (1, vr 2)], [vi 0], ((zup (zTS I m u d 0 c (zua (zsg (I 136) (I 129 0)) p) (zub (zsg (I 136) (I 129 0)) p) (zen (zsg (I 136) (I 129 0)) p + 1)) 129 1 0), zPp π, D, 147)) rfl trivial ?_
      refine z_br (¬ (0 : Int) = 0) 115 85 [] rfl (fun h => absurd h (show ¬ (¬ (0 : Int) = 0) from by decide)) (fun hx5 => ?_)
      refine z_n 6 (97, [(3, vi t), (2, vi p), (0, vr 129), (1, vr 2)], [vi (zub (zsg (I 136) (I 129 0)) p), vi (zua (zsg (I 136) (I 129 0)) p), vr 130], ((zup (zTS I m u d 0 c (zua (zsg (I 136) (I 129 0)) p) (zub (zsg (I 136) (I 129 0)) p) (zen (zsg (I 136) (I 129 0)) p + 1)) 129 1 0), zPp π, D, 147)) rfl trivial ?_
      refine z_cv 54 [vr 130, vi (zua (zsg (I 136) (I 129 0)) p), vi (zub (zsg (I 136) (I 129 0)) p)] [] rfl (m_add130 (show 0 ≤ m ∧ m < 4 from ⟨by omega, hm4⟩)) ?_
      refine z_n 11 (25, [(3, vi (t + 1)), (2, vi (zen (zsg (I 136) (I 129 0)) p + 1)), (0, vr 129), (1, vr 2)], [], ((zup (zup (zup (zup (zup (zTS I m u d 0 c (zua (zsg (I 136) (I 129 0)) p) (zub (zsg (I 136) (I 129 0)) p) (zen (zsg (I 136) (I 129 0)) p + 1)) 129 1 0) 132 m (zua (zsg (I 136) (I 129 0)) p)) 134 m (zub (zsg (I 136) (I 129 0)) p)) 130 2 (m + 1)) 129 3 (c + 1)), zPp π, D, 147)) (G := (zr (c + 1)) ∧ (zr (t + 1)) ∧ True) rfl ⟨by omega, by omega, trivial⟩ ?_
      refine z_sub [(3, vi (t + 1)), (2, vi (zen (zsg (I 136) (I 129 0)) p + 1)), (0, vr 129), (1, vr 2)] [0, 1, 2, 3] rfl ?_
      refine z_st (σ1 := ((zTS I (m + 1) (zu1 u m (zua (zsg (I 136) (I 129 0)) p)) (zu1 d m (zub (zsg (I 136) (I 129 0)) p)) 0 (c + 1) (zua (zsg (I 136) (I 129 0)) p) (zub (zsg (I 136) (I 129 0)) p) (zen (zsg (I 136) (I 129 0)) p + 1)), zPp π, D, 147)) (by rw [zTS_1, zTS_132, zTS_134, zTS_m, zTS_3]) ?_
      exact hrun
  · obtain ⟨a', b', e', h⟩ := m_read0 (I := zTS I m u d 0 c a b e) (π := π) (D := D) (p := p) hl ht (by omega) hf
    have hr0 := h
    rw [zRd_TS] at hr0
    refine ⟨(1, p, m, u, d, c), a', b', e', Or.inr ⟨by omega, Or.inl ⟨hf, rfl⟩⟩, ?_⟩
    refine z_n 2 (28, [(3, vi t), (2, vi p), (0, vr 129), (1, vr 2)], [vi 80, vi t], ((zTS I m u d 0 c a b e), zPp π, D, 147)) rfl trivial ?_
    refine z_br (80 ≤ t) 121 31 [] rfl (fun h => absurd h (show ¬ (80 ≤ t) from by omega)) (fun hx1 => ?_)
    refine z_n 3 (36, [(3, vi t), (2, vi p), (0, vr 129), (1, vr 2)], [vi (I 129 0), vi p], ((zTS I m u d 0 c a b e), zPp π, D, 147)) rfl trivial ?_
    refine z_br ((I 129 0) ≤ p) 121 39 [] rfl (fun h => absurd h (show ¬ ((I 129 0) ≤ p) from by omega)) (fun hx2 => ?_)
    refine z_n 2 (43, [(3, vi t), (2, vi p), (0, vr 129), (1, vr 2)], [vi 0], ((zTS I m u d 0 c a b e), zPp π, D, 147)) rfl trivial ?_
    refine z_br (¬ (0 : Int) = 0) 121 46 [] rfl (fun h => absurd h (show ¬ (¬ (0 : Int) = 0) from by decide)) (fun hx3 => ?_)
    refine z_n 3 (49, [(3, vi t), (2, vi p), (0, vr 129), (1, vr 2)], [vi p, vr 129, vr 129], ((zTS I m u d 0 c a b e), zPp π, D, 147)) rfl trivial ?_
    refine z_ci 61 [vr 129, vi p] [vr 129] rfl (hr0) ?_
    refine z_br ((0 : Int) = 0) 74 55 [vr 129] rfl (fun hx4 => ?_) (fun h => absurd (show (0 : Int) = 0 from by decide) h)
    refine z_n 4 (82, [(3, vi t), (2, vi p), (0, vr 129), (1, vr 2)], [vi 1], ((zup (zTS I m u d 0 c a' b' e') 129 1 1), zPp π, D, 147)) rfl trivial ?_
    refine z_br (¬ (1 : Int) = 0) 115 85 [] rfl (fun hx5 => ?_) (fun h => absurd (show ¬ (1 : Int) = 0 from by decide) h)
    refine z_n 4 (28, [(3, vi (t + 1)), (2, vi p), (0, vr 129), (1, vr 2)], [vi 80, vi (t + 1)], ((zup (zTS I m u d 0 c a' b' e') 129 1 1), zPp π, D, 147)) (G := (zr (t + 1)) ∧ True) rfl ⟨by omega, trivial⟩ ?_
    refine z_br (80 ≤ (t + 1)) 121 31 [] rfl (fun hx6 => ?_) (fun hx6 => ?_)
    · refine z_n 3 (126, [(3, vi (t + 1)), (2, vi p), (0, vr 129), (1, vr 2)], [], ((zup (zup (zTS I m u d 0 c a' b' e') 129 1 1) 129 2 p), zPp π, D, 147)) rfl trivial ?_
      exact z_ret rfl rfl (by rw [zTS_1])
    · refine z_n 3 (36, [(3, vi (t + 1)), (2, vi p), (0, vr 129), (1, vr 2)], [vi (I 129 0), vi p], ((zup (zTS I m u d 0 c a' b' e') 129 1 1), zPp π, D, 147)) rfl trivial ?_
      refine z_br ((I 129 0) ≤ p) 121 39 [] rfl (fun h => absurd h (show ¬ ((I 129 0) ≤ p) from by omega)) (fun hx7 => ?_)
      refine z_n 2 (43, [(3, vi (t + 1)), (2, vi p), (0, vr 129), (1, vr 2)], [vi 1], ((zup (zTS I m u d 0 c a' b' e') 129 1 1), zPp π, D, 147)) rfl trivial ?_
      refine z_br (¬ (1 : Int) = 0) 121 46 [] rfl (fun hx8 => ?_) (fun h => absurd (show ¬ (1 : Int) = 0 from by decide) h)
      refine z_n 3 (126, [(3, vi (t + 1)), (2, vi p), (0, vr 129), (1, vr 2)], [], ((zup (zup (zTS I m u d 0 c a' b' e') 129 1 1) 129 2 p), zPp π, D, 147)) rfl trivial ?_
      exact z_ret rfl rfl (by rw [zTS_1])
set_option maxRecDepth 20000 in
theorem m_check {I : zI} {π : Int → Nat} {D : zD} (w : zW1 (I 2)) (v : zW2 (I 2) (I 6) (I 8)) (hl : 0 ≤ I 129 0 ∧ I 129 0 ≤ 80) (ht : ∀ p, 0 ≤ p → p < 80 → 0 ≤ I 136 p ∧ I 136 p ≤ 126) (hM : 0 ≤ I 9 2) (hd : zDis (I 2) (I 6) (I 9 2) (I 11) (I 13)) : ∃ (q : zCo) (a2 b2 e2 : Int), zCk (I 2) (I 6) (I 8) (zsg (I 136) (I 129 0)) (I 129 0) 80 0 (I 9 2) (I 11) (I 13) 0 q ∧ zMet 60 [vr 129, vr 2] (I, zPp π, D, 147) none (zup (zTS I q.2.2.1 q.2.2.2.1 q.2.2.2.2.1 q.1 q.2.2.2.2.2 a2 b2 e2) 129 2 q.2.1, zPp π, D, 147) := by
  obtain ⟨q, a2, b2, e2, hck, hrun⟩ := m_ck_l (π := π) (D := D) w v hl ht 80 0 0 (I 9 2) (I 11) (I 13) 0 (I 129 6) (I 129 7) (I 129 8) (by omega) (by omega) (by omega) hl.1 hM (by omega) hM hd
  refine ⟨q, a2, b2, e2, hck, ?_⟩
  refine z_n 4 (8, [(0, vr 129), (1, vr 2)], [vr 9, vr 130], (I, zPp π, D, 147)) rfl trivial ?_
  refine z_cv 57 [vr 130, vr 9] [] rfl (m_rcp_130_9) ?_
  refine z_n 10 (25, [(3, vi 0), (2, vi 0), (0, vr 129), (1, vr 2)], [], ((zup (zup (zup (zcpR (zcpR I 132 11) 134 13) 130 2 (I 9 2)) 129 3 0) 129 1 0), zPp π, D, 147)) rfl trivial ?_
  refine z_sub [(3, vi 0), (2, vi 0), (0, vr 129), (1, vr 2)] [0, 1, 2, 3] rfl ?_
  refine z_st (σ1 := ((zTS I (I 9 2) (I 11) (I 13) 0 0 (I 129 6) (I 129 7) (I 129 8)), zPp π, D, 147)) (by rw [zTS_0]) ?_
  exact hrun
