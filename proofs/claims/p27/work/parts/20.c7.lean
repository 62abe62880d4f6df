/-- the place k of the mask m -/
abbrev zbt (m k : Int) : Prop := m / 2 ^ k.toNat % 2 = 1
abbrev zsl1 (k : Int) : Int := (Int32.ofInt 1 <<< (Int32.ofInt k &&& 31)).toInt
theorem zfin16 {P : Int → Prop} (h : ∀ m : Fin 16, P m.val) {m : Int} (h0 : 0 ≤ m) (h1 : m < 16) : P m := by
  have := h ⟨m.toNat, by omega⟩
  rw [show (((⟨m.toNat, by omega⟩ : Fin 16).val : Nat) : Int) = m by simp; omega] at this
  exact this
theorem zfin4 {P : Int → Prop} (h : ∀ m : Fin 4, P m.val) {m : Int} (h0 : 0 ≤ m) (h1 : m < 4) : P m := by
  have := h ⟨m.toNat, by omega⟩
  rw [show (((⟨m.toNat, by omega⟩ : Fin 4).val : Nat) : Int) = m by simp; omega] at this
  exact this
theorem zb_or0 : ∀ m : Fin 16, ∀ k : Fin 4, (0 ≤ (Int32.ofInt m.val ||| Int32.ofInt (zsl1 k.val)).toInt ∧ (Int32.ofInt m.val ||| Int32.ofInt (zsl1 k.val)).toInt < 16) ∧ ∀ j : Fin 4, zbt (Int32.ofInt m.val ||| Int32.ofInt (zsl1 k.val)).toInt j.val ↔ (zbt m.val j.val ∨ j = k) := by decide +kernel
theorem zb_or {m k : Int} (h0 : 0 ≤ m) (h1 : m < 16) (k0 : 0 ≤ k) (k1 : k < 4) : (0 ≤ (Int32.ofInt m ||| Int32.ofInt (zsl1 k)).toInt ∧ (Int32.ofInt m ||| Int32.ofInt (zsl1 k)).toInt < 16) ∧ ∀ j, 0 ≤ j → j < 4 → (zbt (Int32.ofInt m ||| Int32.ofInt (zsl1 k)).toInt j ↔ (zbt m j ∨ j = k)) := by
  revert m k
  have h : ∀ m : Fin 16, ∀ k : Int, 0 ≤ k → k < 4 → (0 ≤ (Int32.ofInt m.val ||| Int32.ofInt (zsl1 k)).toInt ∧ (Int32.ofInt m.val ||| Int32.ofInt (zsl1 k)).toInt < 16) ∧ ∀ j, 0 ≤ j → j < 4 → (zbt (Int32.ofInt m.val ||| Int32.ofInt (zsl1 k)).toInt j ↔ (zbt m.val j ∨ j = k)) := by
    intro m k k0 k1
    obtain ⟨k, rfl⟩ : ∃ n : Nat, k = n := ⟨k.toNat, by omega⟩
    obtain ⟨a, b⟩ := zb_or0 m ⟨k, by omega⟩
    refine ⟨a, fun j j0 j1 => ?_⟩
    obtain ⟨j, rfl⟩ : ∃ n : Nat, j = n := ⟨j.toNat, by omega⟩
    have := b ⟨j, by omega⟩
    simp only [Fin.mk.injEq] at this
    rw [this]
    omega
  intro m k h0 h1 k0 k1
  exact zfin16 (P := fun m => (0 ≤ (Int32.ofInt m ||| Int32.ofInt (zsl1 k)).toInt ∧ (Int32.ofInt m ||| Int32.ofInt (zsl1 k)).toInt < 16) ∧ ∀ j, 0 ≤ j → j < 4 → (zbt (Int32.ofInt m ||| Int32.ofInt (zsl1 k)).toInt j ↔ (zbt m j ∨ j = k))) (fun m => h m k k0 k1) h0 h1
theorem zb_and0 : ∀ m w : Fin 16, (Int32.ofInt m.val &&& Int32.ofInt w.val).toInt = 0 ↔ ¬ ∃ j : Fin 4, zbt m.val j.val ∧ zbt w.val j.val := by decide +kernel
theorem zb_and {m w : Int} (h0 : 0 ≤ m) (h1 : m < 16) (k0 : 0 ≤ w) (k1 : w < 16) : (Int32.ofInt m &&& Int32.ofInt w).toInt = 0 ↔ ¬ ∃ j, 0 ≤ j ∧ j < 4 ∧ zbt m j ∧ zbt w j := by
  have h := zb_and0 ⟨m.toNat, by omega⟩ ⟨w.toNat, by omega⟩
  simp only [show ((m.toNat : Nat) : Int) = m by omega, show ((w.toNat : Nat) : Int) = w by omega] at h
  rw [h]
  constructor
  · rintro h1 ⟨j, j0, j1, j2⟩
    exact h1 ⟨⟨j.toNat, by omega⟩, by simpa only [show ((j.toNat : Nat) : Int) = j by omega] using j2⟩
  · rintro h1 ⟨j, j2⟩
    exact h1 ⟨j.val, by omega, by have := j.isLt; omega, j2⟩
theorem zb_one0 : ∀ k : Fin 4, (0 ≤ zsl1 k.val ∧ zsl1 k.val < 16) ∧ ∀ j : Fin 4, zbt (zsl1 k.val) j.val ↔ j = k := by decide +kernel
theorem zb_one {k : Int} (k0 : 0 ≤ k) (k1 : k < 4) : (0 ≤ zsl1 k ∧ zsl1 k < 16) ∧ ∀ j, 0 ≤ j → j < 4 → (zbt (zsl1 k) j ↔ j = k) := by
  obtain ⟨k, rfl⟩ : ∃ n : Nat, k = n := ⟨k.toNat, by omega⟩
  obtain ⟨a, b⟩ := zb_one0 ⟨k, by omega⟩
  refine ⟨a, fun j j0 j1 => ?_⟩
  obtain ⟨j, rfl⟩ : ∃ n : Nat, j = n := ⟨j.toNat, by omega⟩
  have := b ⟨j, by omega⟩
  simp only [Fin.mk.injEq] at this
  rw [this]
  omega
theorem zb_z : ∀ j, 0 ≤ j → j < 4 → ¬ zbt 0 j := by
  intro j h0 h1
  simp [zbt]
/-- bump k needs bump i -/
def zNeed (Pl Up Dn : Int → Int) (k i : Int) : Prop := (Pl (Dn k) < Pl (Up i) ∧ Pl (Up i) < Pl (Up k)) ∨ (Pl (Dn k) < Pl (Dn i) ∧ Pl (Dn i) < Pl (Up k))
/-- the mask m: bump b and those of the first n that need it -/
def zTk (nd : Int → Int → Prop) (b n m : Int) : Prop := (0 ≤ m ∧ m < 16) ∧ ∀ k, 0 ≤ k → k < 4 → (zbt m k ↔ (k = b ∨ (b < k ∧ k < n ∧ ∃ i, 0 ≤ i ∧ i < k ∧ zbt m i ∧ nd k i)))
theorem zTk_0 {nd : Int → Int → Prop} {b : Int} (h0 : 0 ≤ b) (h1 : b < 4) : zTk nd b (b + 1) (zsl1 b) := by
  obtain ⟨a, c⟩ := zb_one h0 h1
  refine ⟨a, fun k k0 k1 => ?_⟩
  rw [c k k0 k1]
  constructor
  · exact Or.inl
  · rintro (h | ⟨h2, h3, -⟩)
    · exact h
    · omega
theorem zTk_no {nd : Int → Int → Prop} {b n m : Int} (h : zTk nd b n m) (hn : ¬ ∃ i, 0 ≤ i ∧ i < n ∧ zbt m i ∧ nd n i) : zTk nd b (n + 1) m := by
  refine ⟨h.1, fun k k0 k1 => ?_⟩
  rw [h.2 k k0 k1]
  constructor
  · rintro (e | ⟨a1, a2, a3⟩)
    · exact Or.inl e
    · exact Or.inr ⟨a1, by omega, a3⟩
  · rintro (e | ⟨a1, a2, a3⟩)
    · exact Or.inl e
    · by_cases e : k = n
      · subst e; exact absurd a3 hn
      · exact Or.inr ⟨a1, by omega, a3⟩
theorem zTk_yes {nd : Int → Int → Prop} {b n m : Int} (h : zTk nd b n m) (hb : b < n) (hb0 : 0 ≤ b) (hn4 : n < 4) (hn : ∃ i, 0 ≤ i ∧ i < n ∧ zbt m i ∧ nd n i) : zTk nd b (n + 1) (Int32.ofInt m ||| Int32.ofInt (zsl1 n)).toInt := by
  obtain ⟨a, c⟩ := zb_or h.1.1 h.1.2 (show 0 ≤ n by omega) hn4
  have low : ∀ i, 0 ≤ i → i < n → (zbt (Int32.ofInt m ||| Int32.ofInt (zsl1 n)).toInt i ↔ zbt m i) := by
    intro i i0 i1
    rw [c i i0 (by omega)]
    constructor
    · rintro (e | e)
      · exact e
      · omega
    · exact Or.inl
  refine ⟨a, fun k k0 k1 => ?_⟩
  rw [c k k0 k1]
  constructor
  · rintro (e | e)
    · rcases (h.2 k k0 k1).mp e with e | ⟨a1, a2, i, i0, i1, i2, i3⟩
      · exact Or.inl e
      · exact Or.inr ⟨a1, by omega, i, i0, i1, (low i i0 (by omega)).mpr i2, i3⟩
    · subst e
      obtain ⟨i, i0, i1, i2, i3⟩ := hn
      exact Or.inr ⟨hb, by omega, i, i0, i1, (low i i0 i1).mpr i2, i3⟩
  · rintro (e | ⟨a1, a2, i, i0, i1, i2, i3⟩)
    · exact Or.inl ((h.2 k k0 k1).mpr (Or.inl e))
    · by_cases e : k = n
      · exact Or.inr e
      · exact Or.inl ((h.2 k k0 k1).mpr (Or.inr ⟨a1, by omega, i, i0, i1, (low i i0 (by omega)).mp i2, i3⟩))
theorem zmk_eq0 : ∀ m w : Fin 16, (∀ j : Fin 4, zbt m.val j.val ↔ zbt w.val j.val) → m = w := by decide +kernel
theorem zmk_eq {m w : Int} (h0 : 0 ≤ m) (h1 : m < 16) (k0 : 0 ≤ w) (k1 : w < 16) (h : ∀ j, 0 ≤ j → j < 4 → (zbt m j ↔ zbt w j)) : m = w := by
  have := zmk_eq0 ⟨m.toNat, by omega⟩ ⟨w.toNat, by omega⟩ (fun j => by
    have := h j.val (by omega) (by have := j.isLt; omega)
    simpa only [show ((m.toNat : Nat) : Int) = m by omega, show ((w.toNat : Nat) : Int) = w by omega] using this)
  simp only [Fin.mk.injEq] at this
  omega
theorem zTk_un {nd : Int → Int → Prop} {b n m w : Int} (h : zTk nd b n m) (h2 : zTk nd b n w) : m = w := by
  refine zmk_eq h.1.1 h.1.2 h2.1.1 h2.1.2 ?_
  have key : ∀ t : Nat, ∀ j : Int, 0 ≤ j → j < 4 → j < t → (zbt m j ↔ zbt w j) := by
    intro t
    induction t with
    | zero => intro j j0 _ j2; omega
    | succ t ih =>
      intro j j0 j1 j2
      rw [h.2 j j0 j1, h2.2 j j0 j1]
      constructor
      · rintro (e | ⟨a1, a2, i, i0, i1, i2, i3⟩)
        · exact Or.inl e
        · exact Or.inr ⟨a1, a2, i, i0, i1, (ih i i0 (by omega) (by omega)).mp i2, i3⟩
      · rintro (e | ⟨a1, a2, i, i0, i1, i2, i3⟩)
        · exact Or.inl e
        · exact Or.inr ⟨a1, a2, i, i0, i1, (ih i i0 (by omega) (by omega)).mpr i2, i3⟩
  exact fun j j0 j1 => key 4 j j0 j1 (by omega)
def zNb (nd : Int → Prop) (e m : Int) : Prop := (0 ≤ m ∧ m < 16) ∧ ∀ j, 0 ≤ j → j < 4 → (zbt m j ↔ (j < e ∧ nd j))
theorem zNb_0 {nd : Int → Prop} : zNb nd 0 0 := ⟨⟨by decide, by decide⟩, fun j h0 h1 => ⟨fun h => absurd h (zb_z j h0 h1), fun h => by omega⟩⟩
theorem zNb_no {nd : Int → Prop} {e m : Int} (h : zNb nd e m) (hn : ¬ nd e) : zNb nd (e + 1) m := ⟨h.1, fun j h0 h1 => by
  rw [h.2 j h0 h1]
  constructor
  · rintro ⟨a, b⟩; exact ⟨by omega, b⟩
  · rintro ⟨a, b⟩
    by_cases q : j = e
    · subst q; exact absurd b hn
    · exact ⟨by omega, b⟩⟩
theorem zNb_yes {nd : Int → Prop} {e m : Int} (h : zNb nd e m) (h0 : 0 ≤ e) (h1 : e < 4) (hn : nd e) : zNb nd (e + 1) (Int32.ofInt m ||| Int32.ofInt (zsl1 e)).toInt := by
  obtain ⟨a, c⟩ := zb_or h.1.1 h.1.2 h0 h1
  refine ⟨a, fun j j0 j1 => ?_⟩
  rw [c j j0 j1, h.2 j j0 j1]
  constructor
  · rintro (⟨p, q⟩ | q)
    · exact ⟨by omega, q⟩
    · subst q; exact ⟨by omega, hn⟩
  · rintro ⟨p, q⟩
    by_cases r : j = e
    · exact Or.inr r
    · exact Or.inl ⟨by omega, q⟩
set_option maxRecDepth 20000 in
theorem m_lies1 {I : zI} {π : Int → Nat} {D : zD} {c b : Int} (hc : 0 ≤ c ∧ c < 24) (hb : 0 ≤ b ∧ b < 4) (hu : 0 ≤ I 11 b ∧ I 11 b < 24) (hd : 0 ≤ I 13 b ∧ I 13 b < 24) (h : (I 6 (I 13 b) < I 6 c ∧ I 6 c < I 6 (I 11 b))) : zMet 20 [vr 2, vi c, vi b] (I, zPp π, D, 137) (some (vi 1)) (I, zPp π, D, 137) := by
  refine z_n 3 (5, [(0, vr 2), (1, vi c), (2, vi b)], [vi c, vr 5], (I, zPp π, D, 137)) rfl trivial ?_
  refine z_ci 1 [vr 5, vi c] [] rfl (m_get (n := 24) ⟨rfl, rfl, rfl, rfl⟩ (by omega) (by omega)) ?_
  refine z_n 8 (22, [(3, vi (I 6 c)), (0, vr 2), (1, vi c), (2, vi b)], [vi b, vr 12, vr 5, vi (I 6 c)], (I, zPp π, D, 137)) rfl trivial ?_
  refine z_ci 1 [vr 12, vi b] [vr 5, vi (I 6 c)] rfl (m_get (n := 4) ⟨rfl, rfl, rfl, rfl⟩ (by omega) (by omega)) ?_
  refine z_ci 1 [vr 5, vi (I 13 b)] [vi (I 6 c)] rfl (m_get (n := 24) ⟨rfl, rfl, rfl, rfl⟩ (by omega) (by omega)) ?_
  refine z_br ((I 6 c) ≤ (I 6 (I 13 b))) 57 31 [] rfl (fun hx1 => ?_) (fun hx1 => ?_)
  · refine z_n 1 (58, [(3, vi (I 6 c)), (0, vr 2), (1, vi c), (2, vi b)], [vi 0], (I, zPp π, D, 137)) rfl trivial ?_
    first | exact z_ret rfl rfl rfl | exact z_ret rfl (zv1 (by omega)) rfl | (exfalso; omega)
  · refine z_n 7 (44, [(3, vi (I 6 c)), (0, vr 2), (1, vi c), (2, vi b)], [vi b, vr 10, vr 5, vi (I 6 c)], (I, zPp π, D, 137)) rfl trivial ?_
    refine z_ci 1 [vr 10, vi b] [vr 5, vi (I 6 c)] rfl (m_get (n := 4) ⟨rfl, rfl, rfl, rfl⟩ (by omega) (by omega)) ?_
    refine z_ci 1 [vr 5, vi (I 11 b)] [vi (I 6 c)] rfl (m_get (n := 24) ⟨rfl, rfl, rfl, rfl⟩ (by omega) (by omega)) ?_
    refine z_br ((I 6 (I 11 b)) ≤ (I 6 c)) 57 53 [] rfl (fun hx2 => ?_) (fun hx2 => ?_)
    · refine z_n 1 (58, [(3, vi (I 6 c)), (0, vr 2), (1, vi c), (2, vi b)], [vi 0], (I, zPp π, D, 137)) rfl trivial ?_
      first | exact z_ret rfl rfl rfl | exact z_ret rfl (zv1 (by omega)) rfl | (exfalso; omega)
    · refine z_n 2 (58, [(3, vi (I 6 c)), (0, vr 2), (1, vi c), (2, vi b)], [vi 1], (I, zPp π, D, 137)) rfl trivial ?_
      first | exact z_ret rfl rfl rfl | exact z_ret rfl (zv1 (by omega)) rfl | (exfalso; omega)
set_option maxRecDepth 20000 in
theorem m_lies0 {I : zI} {π : Int → Nat} {D : zD} {c b : Int} (hc : 0 ≤ c ∧ c < 24) (hb : 0 ≤ b ∧ b < 4) (hu : 0 ≤ I 11 b ∧ I 11 b < 24) (hd : 0 ≤ I 13 b ∧ I 13 b < 24) (h : ¬ (I 6 (I 13 b) < I 6 c ∧ I 6 c < I 6 (I 11 b))) : zMet 20 [vr 2, vi c, vi b] (I, zPp π, D, 137) (some (vi 0)) (I, zPp π, D, 137) := by
  refine z_n 3 (5, [(0, vr 2), (1, vi c), (2, vi b)], [vi c, vr 5], (I, zPp π, D, 137)) rfl trivial ?_
  refine z_ci 1 [vr 5, vi c] [] rfl (m_get (n := 24) ⟨rfl, rfl, rfl, rfl⟩ (by omega) (by omega)) ?_
  refine z_n 8 (22, [(3, vi (I 6 c)), (0, vr 2), (1, vi c), (2, vi b)], [vi b, vr 12, vr 5, vi (I 6 c)], (I, zPp π, D, 137)) rfl trivial ?_
  refine z_ci 1 [vr 12, vi b] [vr 5, vi (I 6 c)] rfl (m_get (n := 4) ⟨rfl, rfl, rfl, rfl⟩ (by omega) (by omega)) ?_
  refine z_ci 1 [vr 5, vi (I 13 b)] [vi (I 6 c)] rfl (m_get (n := 24) ⟨rfl, rfl, rfl, rfl⟩ (by omega) (by omega)) ?_
  refine z_br ((I 6 c) ≤ (I 6 (I 13 b))) 57 31 [] rfl (fun hx1 => ?_) (fun hx1 => ?_)
  · refine z_n 1 (58, [(3, vi (I 6 c)), (0, vr 2), (1, vi c), (2, vi b)], [vi 0], (I, zPp π, D, 137)) rfl trivial ?_
    first | exact z_ret rfl rfl rfl | exact z_ret rfl (zv1 (by omega)) rfl | (exfalso; omega)
  · refine z_n 7 (44, [(3, vi (I 6 c)), (0, vr 2), (1, vi c), (2, vi b)], [vi b, vr 10, vr 5, vi (I 6 c)], (I, zPp π, D, 137)) rfl trivial ?_
    refine z_ci 1 [vr 10, vi b] [vr 5, vi (I 6 c)] rfl (m_get (n := 4) ⟨rfl, rfl, rfl, rfl⟩ (by omega) (by omega)) ?_
    refine z_ci 1 [vr 5, vi (I 11 b)] [vi (I 6 c)] rfl (m_get (n := 24) ⟨rfl, rfl, rfl, rfl⟩ (by omega) (by omega)) ?_
    refine z_br ((I 6 (I 11 b)) ≤ (I 6 c)) 57 53 [] rfl (fun hx2 => ?_) (fun hx2 => ?_)
    · refine z_n 1 (58, [(3, vi (I 6 c)), (0, vr 2), (1, vi c), (2, vi b)], [vi 0], (I, zPp π, D, 137)) rfl trivial ?_
      first | exact z_ret rfl rfl rfl | exact z_ret rfl (zv1 (by omega)) rfl | (exfalso; omega)
    · refine z_n 2 (58, [(3, vi (I 6 c)), (0, vr 2), (1, vi c), (2, vi b)], [vi 1], (I, zPp π, D, 137)) rfl trivial ?_
      first | exact z_ret rfl rfl rfl | exact z_ret rfl (zv1 (by omega)) rfl | (exfalso; omega)
set_option maxRecDepth 20000 in
theorem m_nb_l {I : zI} {π : Int → Nat} {D : zD} {b w : Int} (hb : 0 ≤ b ∧ b < 4) (hB : ∀ k, 0 ≤ k → k ≤ b → (0 ≤ I 11 k ∧ I 11 k < 24) ∧ (0 ≤ I 13 k ∧ I 13 k < 24)) (hw : ∀ m, zNb (zNeed (I 6) (I 11) (I 13) b) b m → m = w) : ∀ (n : Nat) (e m : Int), 0 ≤ e → e + n = b → zNb (zNeed (I 6) (I 11) (I 13) b) e m → zRuns 19 4 [(3, vi e), (2, vi m), (0, vr 2), (1, vi b)] [] (I, zPp π, D, 137) (some (vi w)) (I, zPp π, D, 137) := by
  intro n
  induction n with
  | zero =>
    intro e m h0 hn hm
    refine z_n 2 (6, [(3, vi e), (2, vi m), (0, vr 2), (1, vi b)], [vi b, vi e], (I, zPp π, D, 137)) rfl trivial ?_
    refine z_br (b ≤ e) 59 9 [] rfl (fun hx1 => ?_) (fun h => absurd (show b ≤ e from by omega) h)
    refine z_n 1 (60, [(3, vi e), (2, vi m), (0, vr 2), (1, vi b)], [vi m], (I, zPp π, D, 137)) rfl trivial ?_
    exact z_ret rfl (zv1 (hw m (by rw [← show e = b by omega]; rw [show e = b by omega] at hm ⊢; exact hm))) rfl
  | succ n ih =>
  intro e m h0 hn hm
  have hbb := hB b hb.1 (by omega)
  have he := hB e h0 (by omega)
  refine z_n 2 (6, [(3, vi e), (2, vi m), (0, vr 2), (1, vi b)], [vi b, vi e], (I, zPp π, D, 137)) rfl trivial ?_
  refine z_br (b ≤ e) 59 9 [] rfl (fun h => absurd h (show ¬ (b ≤ e) from by omega)) (fun hx1 => ?_)
  refine z_n 5 (18, [(3, vi e), (2, vi m), (0, vr 2), (1, vi b)], [vi e, vr 10, vr 2], (I, zPp π, D, 137)) rfl trivial ?_
  refine z_ci 1 [vr 10, vi e] [vr 2] rfl (m_get (n := 4) ⟨rfl, rfl, rfl, rfl⟩ (by omega) (by omega)) ?_
  refine z_n 1 (22, [(3, vi e), (2, vi m), (0, vr 2), (1, vi b)], [vi b, vi (I 11 e), vr 2], (I, zPp π, D, 137)) rfl trivial ?_
  by_cases hx2 : I 6 (I 13 b) < I 6 (I 11 e) ∧ I 6 (I 11 e) < I 6 (I 11 b)
  · refine z_ci 20 [vr 2, vi (I 11 e), vi b] [] rfl (m_lies1 he.1 hb hbb.1 hbb.2 hx2) ?_
    refine z_br (¬ (1 : Int) = 0) 47 28 [] rfl (fun hx3 => ?_) (fun h => absurd (show ¬ (1 : Int) = 0 from by decide) h)
    refine z_n 8 (4, [(3, vi (e + 1)), (2, vi ((Int32.ofInt m ||| Int32.ofInt ((Int32.ofInt 1 <<< (Int32.ofInt e &&& 31)).toInt)).toInt)), (0, vr 2), (1, vi b)], [], (I, zPp π, D, 137)) (G := (zr (e + 1)) ∧ True) rfl ⟨by omega, trivial⟩ ?_
    refine z_sub [(3, vi (e + 1)), (2, vi ((Int32.ofInt m ||| Int32.ofInt ((Int32.ofInt 1 <<< (Int32.ofInt e &&& 31)).toInt)).toInt)), (0, vr 2), (1, vi b)] [0, 1, 2, 3] rfl ?_
    exact ih (e + 1) _ (by omega) (by omega) (zNb_yes hm h0 (by omega) (by unfold zNeed; omega))
  · refine z_ci 20 [vr 2, vi (I 11 e), vi b] [] rfl (m_lies0 he.1 hb hbb.1 hbb.2 hx2) ?_
    refine z_br (¬ (0 : Int) = 0) 47 28 [] rfl (fun h => absurd h (show ¬ (¬ (0 : Int) = 0) from by decide)) (fun hx4 => ?_)
    refine z_n 5 (37, [(3, vi e), (2, vi m), (0, vr 2), (1, vi b)], [vi e, vr 12, vr 2], (I, zPp π, D, 137)) rfl trivial ?_
    refine z_ci 1 [vr 12, vi e] [vr 2] rfl (m_get (n := 4) ⟨rfl, rfl, rfl, rfl⟩ (by omega) (by omega)) ?_
    refine z_n 1 (41, [(3, vi e), (2, vi m), (0, vr 2), (1, vi b)], [vi b, vi (I 13 e), vr 2], (I, zPp π, D, 137)) rfl trivial ?_
    by_cases hx5 : I 6 (I 13 b) < I 6 (I 13 e) ∧ I 6 (I 13 e) < I 6 (I 11 b)
    · refine z_ci 20 [vr 2, vi (I 13 e), vi b] [] rfl (m_lies1 he.2 hb hbb.1 hbb.2 hx5) ?_
      refine z_br ((1 : Int) = 0) 53 47 [] rfl (fun h => absurd h (show ¬ ((1 : Int) = 0) from by decide)) (fun hx6 => ?_)
      refine z_n 8 (4, [(3, vi (e + 1)), (2, vi ((Int32.ofInt m ||| Int32.ofInt ((Int32.ofInt 1 <<< (Int32.ofInt e &&& 31)).toInt)).toInt)), (0, vr 2), (1, vi b)], [], (I, zPp π, D, 137)) (G := (zr (e + 1)) ∧ True) rfl ⟨by omega, trivial⟩ ?_
      refine z_sub [(3, vi (e + 1)), (2, vi ((Int32.ofInt m ||| Int32.ofInt ((Int32.ofInt 1 <<< (Int32.ofInt e &&& 31)).toInt)).toInt)), (0, vr 2), (1, vi b)] [0, 1, 2, 3] rfl ?_
      exact ih (e + 1) _ (by omega) (by omega) (zNb_yes hm h0 (by omega) (by unfold zNeed; omega))
    · refine z_ci 20 [vr 2, vi (I 13 e), vi b] [] rfl (m_lies0 he.2 hb hbb.1 hbb.2 hx5) ?_
      refine z_br ((0 : Int) = 0) 53 47 [] rfl (fun hx7 => ?_) (fun h => absurd (show (0 : Int) = 0 from by decide) h)
      refine z_n 2 (4, [(3, vi (e + 1)), (2, vi m), (0, vr 2), (1, vi b)], [], (I, zPp π, D, 137)) (G := (zr (e + 1)) ∧ True) rfl ⟨by omega, trivial⟩ ?_
      refine z_sub [(3, vi (e + 1)), (2, vi m), (0, vr 2), (1, vi b)] [0, 1, 2, 3] rfl ?_
      exact ih (e + 1) m (by omega) (by omega) (zNb_no hm (by unfold zNeed; omega))
theorem zNb_un {nd : Int → Prop} {e m w : Int} (h : zNb nd e m) (h2 : zNb nd e w) : m = w := zmk_eq h.1.1 h.1.2 h2.1.1 h2.1.2 (fun j h0 h1 => by rw [h.2 j h0 h1, h2.2 j h0 h1])
theorem zNb_ex {nd : Int → Prop} : ∀ e : Nat, (e : Int) ≤ 4 → ∃ m, zNb nd e m
  | 0, _ => ⟨0, zNb_0⟩
  | e + 1, h => by
    obtain ⟨m, hm⟩ := zNb_ex e (by omega)
    by_cases hn : nd e
    · exact ⟨_, zNb_yes hm (by omega) (by omega) hn⟩
    · exact ⟨_, zNb_no hm hn⟩
set_option maxRecDepth 20000 in
theorem m_nb {I : zI} {π : Int → Nat} {D : zD} {b w : Int} (hb : 0 ≤ b ∧ b < 4) (hB : ∀ k, 0 ≤ k → k ≤ b → (0 ≤ I 11 k ∧ I 11 k < 24) ∧ (0 ≤ I 13 k ∧ I 13 k < 24)) (hw : zNb (zNeed (I 6) (I 11) (I 13) b) b w) : zMet 19 [vr 2, vi b] (I, zPp π, D, 137) (some (vi w)) (I, zPp π, D, 137) := by
  refine z_n 4 (4, [(3, vi 0), (2, vi 0), (0, vr 2), (1, vi b)], [], (I, zPp π, D, 137)) rfl trivial ?_
  refine z_sub [(3, vi 0), (2, vi 0), (0, vr 2), (1, vi b)] [0, 1, 2, 3] rfl ?_
  exact m_nb_l hb hB (fun m h => zNb_un h hw) b.toNat 0 0 (by omega) (by omega) zNb_0
set_option maxRecDepth 20000 in
theorem m_wt_l {I : zI} {π : Int → Nat} {D : zD} {b w : Int} (hb : 0 ≤ b ∧ b < I 9 2) (hM : I 9 2 ≤ 4) (hB : ∀ k, 0 ≤ k → k < I 9 2 → (0 ≤ I 11 k ∧ I 11 k < 24) ∧ (0 ≤ I 13 k ∧ I 13 k < 24)) (hw : ∀ m, zTk (zNeed (I 6) (I 11) (I 13)) b (I 9 2) m → m = w) : ∀ (n : Nat) (k m : Int), b < k → k + n = I 9 2 → zTk (zNeed (I 6) (I 11) (I 13)) b k m → zRuns 18 8 [(3, vi k), (2, vi m), (0, vr 2), (1, vi b)] [] (I, zPp π, D, 137) (some (vi w)) (I, zPp π, D, 137) := by
  intro n
  induction n with
  | zero =>
    intro k m h0 hn hm
    refine z_n 4 (16, [(3, vi k), (2, vi m), (0, vr 2), (1, vi b)], [vi (I 9 2), vi k], (I, zPp π, D, 137)) rfl trivial ?_
    refine z_br ((I 9 2) ≤ k) 41 19 [] rfl (fun hx1 => ?_) (fun h => absurd (show (I 9 2) ≤ k from by omega) h)
    refine z_n 1 (42, [(3, vi k), (2, vi m), (0, vr 2), (1, vi b)], [vi m], (I, zPp π, D, 137)) rfl trivial ?_
    exact z_ret rfl (zv1 (hw m (by rw [show k = I 9 2 by omega] at hm; exact hm))) rfl
  | succ n ih =>
  intro k m h0 hn hm
  obtain ⟨v, hv⟩ := zNb_ex (nd := zNeed (I 6) (I 11) (I 13) k) k.toNat (by omega)
  rw [show ((k.toNat : Nat) : Int) = k by omega] at hv
  refine z_n 4 (16, [(3, vi k), (2, vi m), (0, vr 2), (1, vi b)], [vi (I 9 2), vi k], (I, zPp π, D, 137)) rfl trivial ?_
  refine z_br ((I 9 2) ≤ k) 41 19 [] rfl (fun h => absurd h (show ¬ ((I 9 2) ≤ k) from by omega)) (fun hx1 => ?_)
  refine z_n 3 (22, [(3, vi k), (2, vi m), (0, vr 2), (1, vi b)], [vi k, vr 2, vi m], (I, zPp π, D, 137)) rfl trivial ?_
  refine z_ci 19 [vr 2, vi k] [vi m] rfl (m_nb ⟨by omega, by omega⟩ (fun j a c => hB j a (by omega)) hv) ?_
  refine z_n 1 (26, [(3, vi k), (2, vi m), (0, vr 2), (1, vi b)], [vi ((Int32.ofInt m &&& Int32.ofInt v).toInt)], (I, zPp π, D, 137)) rfl trivial ?_
  refine z_br (((Int32.ofInt m &&& Int32.ofInt v).toInt) = 0) 35 29 [] rfl (fun hx => ?_) (fun hx => ?_)
  · refine z_n 2 (8, [(3, vi (k + 1)), (2, vi m), (0, vr 2), (1, vi b)], [], (I, zPp π, D, 137)) (G := (zr (k + 1)) ∧ True) rfl ⟨by omega, trivial⟩ ?_
    refine z_sub [(3, vi (k + 1)), (2, vi m), (0, vr 2), (1, vi b)] [0, 1, 2, 3] rfl ?_
    exact ih (k + 1) m (by omega) (by omega) (zTk_no hm (fun hh => by obtain ⟨j, j0, j1, j2, j3⟩ := hh; exact (zb_and hm.1.1 hm.1.2 hv.1.1 hv.1.2).mp (by omega) ⟨j, j0, by omega, j2, (hv.2 j j0 (by omega)).mpr ⟨j1, j3⟩⟩))
  · refine z_n 8 (8, [(3, vi (k + 1)), (2, vi ((Int32.ofInt m ||| Int32.ofInt ((Int32.ofInt 1 <<< (Int32.ofInt k &&& 31)).toInt)).toInt)), (0, vr 2), (1, vi b)], [], (I, zPp π, D, 137)) (G := (zr (k + 1)) ∧ True) rfl ⟨by omega, trivial⟩ ?_
    refine z_sub [(3, vi (k + 1)), (2, vi ((Int32.ofInt m ||| Int32.ofInt ((Int32.ofInt 1 <<< (Int32.ofInt k &&& 31)).toInt)).toInt)), (0, vr 2), (1, vi b)] [0, 1, 2, 3] rfl ?_
    exact ih (k + 1) _ (by omega) (by omega) (zTk_yes hm (by omega) hb.1 (by omega) (by obtain ⟨j, j0, j1, j2, j3⟩ := Classical.byContradiction (fun hq => hx ((zb_and hm.1.1 hm.1.2 hv.1.1 hv.1.2).mpr hq)); exact ⟨j, j0, ((hv.2 j j0 j1).mp j3).1, j2, ((hv.2 j j0 j1).mp j3).2⟩))
set_option maxRecDepth 20000 in
theorem m_wt {I : zI} {π : Int → Nat} {D : zD} {b w : Int} (hb : 0 ≤ b ∧ b < I 9 2) (hM : I 9 2 ≤ 4) (hB : ∀ k, 0 ≤ k → k < I 9 2 → (0 ≤ I 11 k ∧ I 11 k < 24) ∧ (0 ≤ I 13 k ∧ I 13 k < 24)) (hw : zTk (zNeed (I 6) (I 11) (I 13)) b (I 9 2) w) : zMet 18 [vr 2, vi b] (I, zPp π, D, 137) (some (vi w)) (I, zPp π, D, 137) := by
  refine z_n 8 (8, [(3, vi (b + 1)), (2, vi ((Int32.ofInt 1 <<< (Int32.ofInt b &&& 31)).toInt)), (0, vr 2), (1, vi b)], [], (I, zPp π, D, 137)) (G := (zr (b + 1)) ∧ True) rfl ⟨by omega, trivial⟩ ?_
  refine z_sub [(3, vi (b + 1)), (2, vi ((Int32.ofInt 1 <<< (Int32.ofInt b &&& 31)).toInt)), (0, vr 2), (1, vi b)] [0, 1, 2, 3] rfl ?_
  exact m_wt_l hb hM hB (fun m h => zTk_un h hw) (I 9 2 - b - 1).toNat (b + 1) _ (by omega) (by omega) (zTk_0 hb.1 (by omega))
/-- what is left of the first n bumps -/
def zTB (I : zI) (m : Int) : Nat → zI
  | 0 => zup I 9 2 0
  | n + 1 => if zbt m n then zTB I m n else zup (zup (zup (zTB I m n) 11 (zTB I m n 9 2) (zTB I m n 11 n)) 13 (zTB I m n 9 2) (zTB I m n 13 n)) 9 2 (zTB I m n 9 2 + 1)
theorem zTB_out {I : zI} {m : Int} {r : Nat} (h : r ≠ 9 ∧ r ≠ 11 ∧ r ≠ 13) : ∀ n : Nat, zTB I m n r = I r
  | 0 => zup_ne h.1
  | n + 1 => by
    unfold zTB
    split
    · exact zTB_out h n
    · rw [zup_ne h.1, zup_ne h.2.2, zup_ne h.2.1]; exact zTB_out h n
theorem zTB_n {I : zI} {m : Int} : ∀ n : Nat, 0 ≤ zTB I m n 9 2 ∧ zTB I m n 9 2 ≤ n
  | 0 => by simp [zTB, zup]
  | n + 1 => by
    have := zTB_n (I := I) (m := m) n
    unfold zTB
    split
    · omega
    · simp [zup]; omega
def zTBw (I : zI) (m : Int) (n : Nat) : zI := fun r j => if r = 9 ∨ r = 11 ∨ r = 13 then zTB I m n r j else I r j
theorem zTBw_eq {I : zI} {m : Int} {n : Nat} : zTBw I m n = zTB I m n := by
  funext r j
  unfold zTBw
  by_cases h : r = 9 ∨ r = 11 ∨ r = 13
  · rw [if_pos h]
  · rw [if_neg h, zTB_out (by omega)]
theorem zTBw_y {I : zI} {m k : Int} (h : 0 ≤ k) (hb : zbt m k) : zTBw I m k.toNat = zTBw I m (k + 1).toNat := by
  obtain ⟨n, rfl⟩ : ∃ n : Nat, k = n := ⟨k.toNat, by omega⟩
  rw [zTBw_eq, zTBw_eq]
  show zTB I m n = zTB I m (n + 1)
  conv => rhs; unfold zTB
  rw [if_pos hb]
theorem zTBw_n {I : zI} {m k : Int} (h : 0 ≤ k) (hb : ¬ zbt m k) : zup (zup (zup (zTBw I m k.toNat) 11 (zTBw I m k.toNat 9 2) (zTBw I m k.toNat 11 k)) 13 (zTBw I m k.toNat 9 2) (zTBw I m k.toNat 13 k)) 9 2 (zTBw I m k.toNat 9 2 + 1) = zTBw I m (k + 1).toNat := by
  obtain ⟨n, rfl⟩ : ∃ n : Nat, k = n := ⟨k.toNat, by omega⟩
  rw [zTBw_eq, zTBw_eq]
  show _ = zTB I m (n + 1)
  conv => rhs; unfold zTB
  rw [if_neg hb]
  rfl
set_option maxRecDepth 20000 in
theorem m_tb_l {I : zI} {π : Int → Nat} {D : zD} {m : Int} (hM : 0 ≤ I 9 2 ∧ I 9 2 ≤ 4) (hm : 0 ≤ m ∧ m < 16) : ∀ (n : Nat) (k : Int), 0 ≤ k → k + n = I 9 2 → zRuns 54 12 [(3, vi k), (2, vi (I 9 2)), (0, vr 9), (1, vi m)] [] ((zTBw I m k.toNat), zPp π, D, 137) none ((zTBw I m ((I 9 2).toNat)), zPp π, D, 137) := by
  intro n
  induction n with
  | zero =>
    intro k h0 hn
    refine z_n 2 (14, [(3, vi k), (2, vi (I 9 2)), (0, vr 9), (1, vi m)], [vi (I 9 2), vi k], ((zTBw I m k.toNat), zPp π, D, 137)) rfl trivial ?_
    refine z_br ((I 9 2) ≤ k) 51 17 [] rfl (fun hx1 => ?_) (fun h => absurd (show (I 9 2) ≤ k from by omega) h)
    exact z_ret rfl rfl (by rw [show k = I 9 2 by omega])
  | succ n ih =>
  intro k h0 hn
  have hbit : (¬ (Int32.ofInt m &&& Int32.ofInt (zsl1 k)).toInt = 0) ↔ zbt m k := by
    obtain ⟨c1, c2⟩ := zb_one h0 (show k < 4 by omega)
    rw [zb_and hm.1 hm.2 c1.1 c1.2]
    constructor
    · intro hq
      obtain ⟨j, j0, j1, j2, j3⟩ := Classical.byContradiction hq
      rw [(c2 j j0 j1).mp j3] at j2; exact j2
    · intro hq hz
      exact hz ⟨k, h0, by omega, hq, (c2 k h0 (by omega)).mpr rfl⟩
  have hbn : 0 ≤ zTBw I m k.toNat 9 2 ∧ zTBw I m k.toNat 9 2 ≤ k := by rw [zTBw_eq]; have := zTB_n (I := I) (m := m) k.toNat; omega
  refine z_n 2 (14, [(3, vi k), (2, vi (I 9 2)), (0, vr 9), (1, vi m)], [vi (I 9 2), vi k], ((zTBw I m k.toNat), zPp π, D, 137)) rfl trivial ?_
  refine z_br ((I 9 2) ≤ k) 51 17 [] rfl (fun h => absurd h (show ¬ ((I 9 2) ≤ k) from by omega)) (fun hx1 => ?_)
  refine z_n 5 (22, [(3, vi k), (2, vi (I 9 2)), (0, vr 9), (1, vi m)], [vi ((Int32.ofInt m &&& Int32.ofInt ((Int32.ofInt 1 <<< (Int32.ofInt k &&& 31)).toInt)).toInt)], ((zTBw I m k.toNat), zPp π, D, 137)) rfl trivial ?_
  refine z_br (¬ (((Int32.ofInt m &&& Int32.ofInt ((Int32.ofInt 1 <<< (Int32.ofInt k &&& 31)).toInt)).toInt) = 0)) 45 25 [] rfl (fun hx => ?_) (fun hx => ?_)
  · refine z_n 2 (12, [(3, vi (k + 1)), (2, vi (I 9 2)), (0, vr 9), (1, vi m)], [], ((zTBw I m k.toNat), zPp π, D, 137)) (G := (zr (k + 1)) ∧ True) rfl ⟨by omega, trivial⟩ ?_
    refine z_sub [(3, vi (k + 1)), (2, vi (I 9 2)), (0, vr 9), (1, vi m)] [0, 1, 2, 3] rfl ?_
    refine z_st (σ1 := (zTBw I m (k + 1).toNat, zPp π, D, 137)) (by rw [← zTBw_y h0 (hbit.mp hx)]) ?_
    exact ih (k + 1) (by omega) (by omega)
  · refine z_n 4 (31, [(3, vi k), (2, vi (I 9 2)), (0, vr 9), (1, vi m)], [vi k, vr 10, vr 9], ((zTBw I m k.toNat), zPp π, D, 137)) rfl trivial ?_
    refine z_ci 1 [vr 10, vi k] [vr 9] rfl (m_get (n := 4) ⟨rfl, rfl, rfl, rfl⟩ (by omega) (by omega)) ?_
    refine z_n 3 (39, [(3, vi k), (2, vi (I 9 2)), (0, vr 9), (1, vi m)], [vi k, vr 12, vi ((zTBw I m k.toNat) 11 k), vr 9], ((zTBw I m k.toNat), zPp π, D, 137)) rfl trivial ?_
    refine z_ci 1 [vr 12, vi k] [vi ((zTBw I m k.toNat) 11 k), vr 9] rfl (m_get (n := 4) ⟨rfl, rfl, rfl, rfl⟩ (by omega) (by omega)) ?_
    refine z_cv 52 [vr 9, vi ((zTBw I m k.toNat) 11 k), vi ((zTBw I m k.toNat) 13 k)] [] rfl (m_add9 (show 0 ≤ zTBw I m k.toNat 9 2 ∧ zTBw I m k.toNat 9 2 < 4 from by omega)) ?_
    refine z_n 2 (12, [(3, vi (k + 1)), (2, vi (I 9 2)), (0, vr 9), (1, vi m)], [], ((zup (zup (zup (zTBw I m k.toNat) 11 (zTBw I m k.toNat 9 2) ((zTBw I m k.toNat) 11 k)) 13 (zTBw I m k.toNat 9 2) ((zTBw I m k.toNat) 13 k)) 9 2 (zTBw I m k.toNat 9 2 + 1)), zPp π, D, 137)) (G := (zr (k + 1)) ∧ True) rfl ⟨by omega, trivial⟩ ?_
    refine z_sub [(3, vi (k + 1)), (2, vi (I 9 2)), (0, vr 9), (1, vi m)] [0, 1, 2, 3] rfl ?_
    refine z_st (σ1 := (zTBw I m (k + 1).toNat, zPp π, D, 137)) (by rw [← zTBw_n h0 (fun h => hx (hbit.mpr h))]) ?_
    exact ih (k + 1) (by omega) (by omega)
set_option maxRecDepth 20000 in
theorem m_tb {I : zI} {π : Int → Nat} {D : zD} {m : Int} (hM : 0 ≤ I 9 2 ∧ I 9 2 ≤ 4) (hm : 0 ≤ m ∧ m < 16) : zMet 54 [vr 9, vi m] (I, zPp π, D, 137) none ((zTBw I m ((I 9 2).toNat)), zPp π, D, 137) := by
  refine z_n 8 (12, [(3, vi 0), (2, vi (I 9 2)), (0, vr 9), (1, vi m)], [], ((zup I 9 2 0), zPp π, D, 137)) rfl trivial ?_
  refine z_sub [(3, vi 0), (2, vi (I 9 2)), (0, vr 9), (1, vi m)] [0, 1, 2, 3] rfl ?_
  refine z_st (σ1 := (zTBw I m (0 : Int).toNat, zPp π, D, 137)) (by rw [zTBw_eq]; rfl) ?_
  exact m_tb_l hM hm (I 9 2).toNat 0 (by omega) (by omega)
