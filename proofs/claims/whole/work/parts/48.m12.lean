theorem zb_sh0 : ∀ m : Fin 16, ∀ k : Fin 4, (Int32.ofInt (Int32.ofInt m.val >>> (Int32.ofInt k.val &&& 31)).toInt &&& Int32.ofInt 1).toInt = if zbt m.val k.val then 1 else 0 := by decide +kernel
theorem zb_sh {m k : Int} (h0 : 0 ≤ m ∧ m < 16) (k0 : 0 ≤ k ∧ k < 4) : (Int32.ofInt (Int32.ofInt m >>> (Int32.ofInt k &&& 31)).toInt &&& Int32.ofInt 1).toInt = if zbt m k then 1 else 0 := by
  have := zb_sh0 ⟨m.toNat, by omega⟩ ⟨k.toNat, by omega⟩
  simpa only [show ((m.toNat : Nat) : Int) = m by omega, show ((k.toNat : Nat) : Int) = k by omega] using this
theorem zb_o00 : ∀ m : Fin 16, (Int32.ofInt m.val ||| Int32.ofInt 0).toInt = m.val := by decide +kernel
theorem zb_o0 {m : Int} (h0 : 0 ≤ m ∧ m < 16) : (Int32.ofInt m ||| Int32.ofInt 0).toInt = m := by
  have := zb_o00 ⟨m.toNat, by omega⟩
  simpa only [show ((m.toNat : Nat) : Int) = m by omega] using this
/-- the bump k looked at against those before i -/
def zKr (nd : Int → Int → Prop) (g k i c : Int) : Prop := (0 ≤ c ∧ c < 16) ∧ ∀ j, 0 ≤ j → j < 4 → (zbt c j ↔ (zbt g j ∨ (j = k ∧ ∃ x, 0 ≤ x ∧ x < i ∧ zbt g x ∧ nd k x)))
theorem zKr_0 {nd : Int → Int → Prop} {g k : Int} (hg : 0 ≤ g ∧ g < 16) : zKr nd g k 0 g := ⟨hg, fun j j0 j1 => ⟨Or.inl, fun h => h.elim id (fun ⟨_, x, x0, x1, _⟩ => by omega)⟩⟩
theorem zKr_b {nd : Int → Int → Prop} {g k i c : Int} (h : zKr nd g k i c) (hi : 0 ≤ i ∧ i < k) (hk : k < 4) : zbt c i ↔ zbt g i := by
  rw [h.2 i hi.1 (by omega)]
  exact ⟨fun h => h.elim id (fun ⟨e, _⟩ => by omega), Or.inl⟩
theorem zKr_n {nd : Int → Int → Prop} {g k i c : Int} (h : zKr nd g k i c) (hn : ¬ (zbt g i ∧ nd k i)) : zKr nd g k (i + 1) c := by
  refine ⟨h.1, fun j j0 j1 => ?_⟩
  rw [h.2 j j0 j1]
  constructor
  · rintro (e | ⟨e, x, x0, x1, x2⟩)
    · exact Or.inl e
    · exact Or.inr ⟨e, x, x0, by omega, x2⟩
  · rintro (e | ⟨e, x, x0, x1, x2⟩)
    · exact Or.inl e
    · by_cases ex : x = i
      · subst ex; exact absurd x2 hn
      · exact Or.inr ⟨e, x, x0, by omega, x2⟩
theorem zKr_y {nd : Int → Int → Prop} {g k i c : Int} (h : zKr nd g k i c) (hi : 0 ≤ i) (hk : 0 ≤ k ∧ k < 4) (hn : zbt g i ∧ nd k i) : zKr nd g k (i + 1) (Int32.ofInt c ||| Int32.ofInt (zsl1 k)).toInt := by
  obtain ⟨a, b⟩ := zb_or h.1.1 h.1.2 hk.1 hk.2
  refine ⟨a, fun j j0 j1 => ?_⟩
  rw [b j j0 j1, h.2 j j0 j1]
  constructor
  · rintro ((e | ⟨e, x, x0, x1, x2⟩) | e)
    · exact Or.inl e
    · exact Or.inr ⟨e, x, x0, by omega, x2⟩
    · exact Or.inr ⟨e, i, hi, by omega, hn⟩
  · rintro (e | ⟨e, x, x0, x1, x2⟩)
    · exact Or.inl (Or.inl e)
    · exact Or.inr e
theorem zKr_Tk {nd : Int → Int → Prop} {g k b c : Int} (h : zKr nd g k k c) (ht : zTk nd b k g) (hb : 0 ≤ b ∧ b < k) (hk : k < 4) : zTk nd b (k + 1) c := by
  by_cases hx : ∃ x, 0 ≤ x ∧ x < k ∧ zbt g x ∧ nd k x
  · have e : c = (Int32.ofInt g ||| Int32.ofInt (zsl1 k)).toInt := by
      obtain ⟨a, b2⟩ := zb_or ht.1.1 ht.1.2 (show 0 ≤ k by omega) hk
      refine zmk_eq h.1.1 h.1.2 a.1 a.2 (fun j j0 j1 => ?_)
      rw [b2 j j0 j1, h.2 j j0 j1]
      exact ⟨fun h => h.elim Or.inl (fun h => Or.inr h.1), fun h => h.elim Or.inl (fun h => Or.inr ⟨h, hx⟩)⟩
    rw [e]
    exact zTk_yes ht hb.2 hb.1 hk hx
  · have e : c = g := by
      refine zmk_eq h.1.1 h.1.2 ht.1.1 ht.1.2 (fun j j0 j1 => ?_)
      rw [h.2 j j0 j1]
      exact ⟨fun h => h.elim id (fun h => absurd h.2 hx), Or.inl⟩
    rw [e]
    exact zTk_no ht hx
/-- the bumps left of the first n, seen from the chart -/
def zTBX (X : zI) (m : Int) : Nat → zI
  | 0 => zup X 7 2 0
  | n + 1 => if zbt m n then zTBX X m n else zup (zup (zup (zTBX X m n) 9 (zTBX X m n 7 2) (zTBX X m n 9 n)) 11 (zTBX X m n 7 2) (zTBX X m n 11 n)) 7 2 (zTBX X m n 7 2 + 1)
theorem zTBX_X {I : zI} {m : Int} : ∀ n : Nat, zX (zTB I m n) 2 = zTBX (zX I 2) m n
  | 0 => zX_up (b := 2) (k := 7)
  | n + 1 => by
    have ih := zTBX_X (I := I) (m := m) n
    unfold zTB zTBX
    by_cases h : zbt m n
    · rw [if_pos h, if_pos h, ih]
    · rw [if_neg h, if_neg h, ← ih, zX_up (b := 2) (k := 7), zX_up (b := 2) (k := 11), zX_up (b := 2) (k := 9)]
      rfl
theorem zTBX_y {X : zI} {m k : Int} (h : 0 ≤ k) (hb : zbt m k) : zTBX X m (k + 1).toNat = zTBX X m k.toNat := by
  obtain ⟨n, rfl⟩ : ∃ n : Nat, k = n := ⟨k.toNat, by omega⟩
  show (if zbt m n then _ else _) = _
  rw [if_pos hb]; rfl
theorem zTBX_n {X : zI} {m k : Int} (h : 0 ≤ k) (hb : ¬ zbt m k) : zTBX X m (k + 1).toNat = zup (zup (zup (zTBX X m k.toNat) 9 (zTBX X m k.toNat 7 2) (zTBX X m k.toNat 9 k)) 11 (zTBX X m k.toNat 7 2) (zTBX X m k.toNat 11 k)) 7 2 (zTBX X m k.toNat 7 2 + 1) := by
  obtain ⟨n, rfl⟩ : ∃ n : Nat, k = n := ⟨k.toNat, by omega⟩
  show (if zbt m n then _ else _) = _
  rw [if_neg hb]; rfl
theorem zTBX_o {X : zI} {m : Int} {r : Nat} (h : r ≠ 7 ∧ r ≠ 9 ∧ r ≠ 11) : ∀ n : Nat, zTBX X m n r = X r
  | 0 => zup_ne h.1
  | n + 1 => by
    unfold zTBX
    split
    · exact zTBX_o h n
    · rw [zup_ne h.1, zup_ne h.2.2, zup_ne h.2.1]; exact zTBX_o h n
/-- how many places of the first n the mask has -/
def zbs (m : Int) : Nat → Int
  | 0 => 0
  | n + 1 => zbs m n + (if zbt m n then 1 else 0)
theorem zTBX_c {X : zI} {m : Int} : ∀ n : Nat, (0 ≤ zTBX X m n 7 2 ∧ zTBX X m n 7 2 ≤ n) ∧ zTBX X m n 7 2 = n - zbs m n
  | 0 => by
    show (0 ≤ (0 : Int) ∧ (0 : Int) ≤ ((0 : Nat) : Int)) ∧ (0 : Int) = ((0 : Nat) : Int) - 0
    omega
  | n + 1 => by
    have ih := zTBX_c (X := X) (m := m) n
    unfold zTBX zbs
    by_cases h : zbt m n
    · rw [if_pos h, if_pos h]; omega
    · rw [if_neg h, if_neg h]
      show (0 ≤ zTBX X m n 7 2 + 1 ∧ zTBX X m n 7 2 + 1 ≤ ((n + 1 : Nat) : Int)) ∧ zTBX X m n 7 2 + 1 = ((n + 1 : Nat) : Int) - (zbs m n + 0)
      omega
theorem zbs_c0 : ∀ m : Fin 16, zbs m.val 4 = zbc m.val := by decide +kernel
theorem zbs_c {nd : Int → Int → Prop} {b g : Int} {n : Int} (hn : b < n ∧ n ≤ 4) (hb : 0 ≤ b) (h : zTk nd b n g) : zbs g n.toNat = zbc g := by
  have h4 : zbs g 4 = zbc g := by
    have := zbs_c0 ⟨g.toNat, by have := h.1; omega⟩
    simpa only [show ((g.toNat : Nat) : Int) = g by have := h.1; omega] using this
  have key : ∀ j : Nat, n ≤ (j : Int) → j ≤ 4 → zbs g j = zbs g n.toNat := by
    intro j
    induction j with
    | zero => intro j0 _; rw [show n.toNat = 0 by omega]
    | succ j ih =>
      intro j0 j1
      by_cases e : n = ((j + 1 : Nat) : Int)
      · rw [show n.toNat = j + 1 by omega]
      · show zbs g j + (if zbt g j then 1 else 0) = _
        rw [ih (by omega) (by omega), if_neg (fun hz => by
          rcases (h.2 j (by omega) (by omega)).mp hz with e2 | e2 <;> omega)]
        omega
  rw [← h4, key 4 (by omega) (by omega)]
theorem zTBX_D {X : zI} {m : Int} (hm : 0 ≤ X 7 2) (hd : zDis (X 0) (X 4) (X 7 2) (X 9) (X 11)) : ∀ n : Nat, (n : Int) ≤ X 7 2 → zDis (X 0) (X 4) (zTBX X m n 7 2) (zTBX X m n 9) (zTBX X m n 11) ∧ (∀ c, zOut (zTBX X m n 7 2) (zTBX X m n 9) (zTBX X m n 11) c → zOut n (X 9) (X 11) c) ∧ ∀ j, zTBX X m n 7 2 ≤ j → zTBX X m n 9 j = X 9 j ∧ zTBX X m n 11 j = X 11 j
  | 0, _ => by
    refine ⟨fun k k0 k1 => ?_, fun c hc => ?_, fun j _ => ⟨rfl, rfl⟩⟩
    · have k1' : k < 0 := k1
      omega
    · obtain ⟨k, k0, k1, _⟩ := hc
      have k1' : k < 0 := k1
      omega
  | n + 1, hn => by
    obtain ⟨i1, i2, i3⟩ := zTBX_D (m := m) hm hd n (by omega)
    have hc := zTBX_c (X := X) (m := m) n
    have hdn := hd n (by omega) (by omega)
    have out : ∀ c, zOut n (X 9) (X 11) c → zOut ((n + 1 : Nat) : Int) (X 9) (X 11) c := fun c ⟨k, k0, k1, k2⟩ => ⟨k, k0, by omega, k2⟩
    unfold zTBX
    by_cases h : zbt m n
    · rw [if_pos h]
      exact ⟨i1, fun c h => out c (i2 c h), i3⟩
    · rw [if_neg h]
      generalize zTBX X m n = T at i1 i2 i3 hc ⊢
      have en := i3 n hc.1.2
      have e7 : (zup (zup (zup T 9 (T 7 2) (T 9 n)) 11 (T 7 2) (T 11 n)) 7 2 (T 7 2 + 1)) 7 2 = T 7 2 + 1 := rfl
      have e9 : (zup (zup (zup T 9 (T 7 2) (T 9 n)) 11 (T 7 2) (T 11 n)) 7 2 (T 7 2 + 1)) 9 = zu1 (T 9) (T 7 2) (X 9 n) := by
        rw [zup_ne (by decide), zup_ne (by decide), zup_u, en.1]
      have e11 : (zup (zup (zup T 9 (T 7 2) (T 9 n)) 11 (T 7 2) (T 11 n)) 7 2 (T 7 2 + 1)) 11 = zu1 (T 11) (T 7 2) (X 11 n) := by
        rw [zup_ne (by decide), zup_u, zup_ne (by decide), en.2]
      rw [e7, e9, e11]
      refine ⟨zdis_push i1 ⟨hdn.1, hdn.2.1, fun h => hdn.2.2.2.1 (i2 _ h), fun h => hdn.2.2.2.2 (i2 _ h), hdn.2.2.1⟩, fun c hcc => ?_, fun j hj => ?_⟩
      · rcases (zOut_s hc.1.1).mp hcc with h9 | h9 | h9
        · exact out c (i2 c ((zOut_u (by omega)).mp h9))
        · unfold zu1 at h9
          rw [if_pos rfl] at h9
          exact ⟨n, by omega, by omega, Or.inl h9.symm⟩
        · unfold zu1 at h9
          rw [if_pos rfl] at h9
          exact ⟨n, by omega, by omega, Or.inr h9.symm⟩
      · unfold zu1
        rw [if_neg (by omega), if_neg (by omega)]
        exact i3 j (by omega)
theorem zTBX_I {X : zI} {m : Int} (ci : zCI X) : zCI (zTBX X m (X 7 2).toNat) := by
  have hm := ci.2.1
  have hd := zTBX_D (m := m) hm ci.2.2 (X 7 2).toNat (by omega)
  have hc := zTBX_c (X := X) (m := m) (X 7 2).toNat
  have e0 : zTBX X m (X 7 2).toNat 0 = X 0 := zTBX_o (by decide) _
  have e2 : zTBX X m (X 7 2).toNat 2 = X 2 := zTBX_o (by decide) _
  have e4 : zTBX X m (X 7 2).toNat 4 = X 4 := zTBX_o (by decide) _
  have e6 : zTBX X m (X 7 2).toNat 6 = X 6 := zTBX_o (by decide) _
  have e12 : zTBX X m (X 7 2).toNat 12 = X 12 := zTBX_o (by decide) _
  have e16 : zTBX X m (X 7 2).toNat 16 = X 16 := zTBX_o (by decide) _
  have e18 : zTBX X m (X 7 2).toNat 18 = X 18 := zTBX_o (by decide) _
  have e20 : zTBX X m (X 7 2).toNat 20 = X 20 := zTBX_o (by decide) _
  have e22 : zTBX X m (X 7 2).toNat 22 = X 22 := zTBX_o (by decide) _
  unfold zCI zCJ zLg zPA
  rw [e0, e2, e4, e6, e12, e16, e18, e20, e22]
  exact ⟨ci.1, hc.1.1, hd.1⟩
set_option maxRecDepth 20000 in
theorem m_rr_i {I : zI} {π : Int → Nat} {D : zD} {X : zI} {b g k : Int} {r : Option zV} {τ : zS} (e : zEq (I 138) X) (ci : zCI X) (hk4 : X 7 2 ≤ 4) (hk0 : 0 ≤ k ∧ k < X 7 2) (hk : ∀ c, zKr (zNeed (X 4) (X 9) (X 11)) g k k c → zRuns 119 89 [(3, vi k), (2, vi c), (0, vr 137), (1, vi b)] [] (I, zPp π, D, 147) r τ) : ∀ (N : Nat) (i c : Int), 0 ≤ i → i + N = k → zKr (zNeed (X 4) (X 9) (X 11)) g k i c → zRuns 119 47 [(4, vi i), (3, vi k), (2, vi c), (0, vr 137), (1, vi b)] [] (I, zPp π, D, 147) r τ := by
  intro N
  induction N with
  | zero =>
    intro i c h0 hN hv
    refine z_n 2 (50, [(4, vi i), (3, vi k), (2, vi c), (0, vr 137), (1, vi b)], [vi k, vi i], (I, zPp π, D, 147)) rfl trivial ?_
    refine z_br (k ≤ i) 89 53 [] rfl (fun hx1 => ?_) (fun h => absurd (show k ≤ i from by omega) h)
    refine z_sub [(3, vi k), (2, vi c), (0, vr 137), (1, vi b)] [1, 2, 3, 4] rfl ?_
    exact hk c (by rw [show i = k by omega] at hv; exact hv)
  | succ N ih =>
  intro i c h0 hN hv
  by_cases hz : zbt c i
  · by_cases hn : (zNeed (X 4) (X 9) (X 11)) k i
    · refine z_n 2 (50, [(4, vi i), (3, vi k), (2, vi c), (0, vr 137), (1, vi b)], [vi k, vi i], (I, zPp π, D, 147)) rfl trivial ?_
      refine z_br (k ≤ i) 89 53 [] rfl (fun h => absurd h (show ¬ (k ≤ i) from by omega)) (fun hx1 => ?_)
      refine z_n 6 (60, [(4, vi i), (3, vi k), (2, vi c), (0, vr 137), (1, vi b)], [vi ((Int32.ofInt ((Int32.ofInt c >>> (Int32.ofInt i &&& 31)).toInt) &&& Int32.ofInt 1).toInt), vi c], (I, zPp π, D, 147)) rfl trivial ?_
      refine z_top (b := 1) ((zb_sh hv.1 (by omega)).trans (if_pos hz)) ?_
      refine z_n 1 (61, [(4, vi i), (3, vi k), (2, vi c), (0, vr 137), (1, vi b)], [vi 1, vi 1, vi c], (I, zPp π, D, 147)) rfl trivial ?_
      refine z_br (¬ (1 : Int) = 1) 80 64 [vi c] rfl (fun h => absurd h (show ¬ (¬ (1 : Int) = 1) from by decide)) (fun hx2 => ?_)
      refine z_n 3 (68, [(4, vi i), (3, vi k), (2, vi c), (0, vr 137), (1, vi b)], [vi i, vi k, vr 137, vi c], (I, zPp π, D, 147)) rfl trivial ?_
      refine z_ci 118 [vr 137, vi k, vi i] [vi c] rfl (m_Rneed1 e ci (by omega) (by omega) hn) ?_
      refine z_br ((1 : Int) = 0) 80 74 [vi c] rfl (fun h => absurd h (show ¬ ((1 : Int) = 0) from by decide)) (fun hx3 => ?_)
      refine z_n 8 (47, [(4, vi (i + 1)), (2, vi ((Int32.ofInt c ||| Int32.ofInt ((Int32.ofInt 1 <<< (Int32.ofInt k &&& 31)).toInt)).toInt)), (3, vi k), (0, vr 137), (1, vi b)], [], (I, zPp π, D, 147)) (G := (zr (i + 1)) ∧ True) rfl ⟨by omega, trivial⟩ ?_
      refine z_sub [(4, vi (i + 1)), (3, vi k), (2, vi ((Int32.ofInt c ||| Int32.ofInt ((Int32.ofInt 1 <<< (Int32.ofInt k &&& 31)).toInt)).toInt)), (0, vr 137), (1, vi b)] [0, 2, 1, 3, 4] rfl ?_
      exact ih (i + 1) _ (by omega) (by omega) (zKr_y hv h0 (by omega) ⟨(zKr_b hv (by omega) (by omega)).mp hz, hn⟩)
    · refine z_n 2 (50, [(4, vi i), (3, vi k), (2, vi c), (0, vr 137), (1, vi b)], [vi k, vi i], (I, zPp π, D, 147)) rfl trivial ?_
      refine z_br (k ≤ i) 89 53 [] rfl (fun h => absurd h (show ¬ (k ≤ i) from by omega)) (fun hx1 => ?_)
      refine z_n 6 (60, [(4, vi i), (3, vi k), (2, vi c), (0, vr 137), (1, vi b)], [vi ((Int32.ofInt ((Int32.ofInt c >>> (Int32.ofInt i &&& 31)).toInt) &&& Int32.ofInt 1).toInt), vi c], (I, zPp π, D, 147)) rfl trivial ?_
      refine z_top (b := 1) ((zb_sh hv.1 (by omega)).trans (if_pos hz)) ?_
      refine z_n 1 (61, [(4, vi i), (3, vi k), (2, vi c), (0, vr 137), (1, vi b)], [vi 1, vi 1, vi c], (I, zPp π, D, 147)) rfl trivial ?_
      refine z_br (¬ (1 : Int) = 1) 80 64 [vi c] rfl (fun h => absurd h (show ¬ (¬ (1 : Int) = 1) from by decide)) (fun hx2 => ?_)
      refine z_n 3 (68, [(4, vi i), (3, vi k), (2, vi c), (0, vr 137), (1, vi b)], [vi i, vi k, vr 137, vi c], (I, zPp π, D, 147)) rfl trivial ?_
      refine z_ci 118 [vr 137, vi k, vi i] [vi c] rfl (m_Rneed0 e ci (by omega) (by omega) hn) ?_
      refine z_br ((0 : Int) = 0) 80 74 [vi c] rfl (fun hx3 => ?_) (fun h => absurd (show (0 : Int) = 0 from by decide) h)
      refine z_n 2 (82, [(4, vi i), (3, vi k), (2, vi c), (0, vr 137), (1, vi b)], [vi ((Int32.ofInt c ||| Int32.ofInt 0).toInt)], (I, zPp π, D, 147)) rfl trivial ?_
      refine z_top (b := c) (zb_o0 hv.1) ?_
      refine z_n 3 (47, [(4, vi (i + 1)), (2, vi c), (3, vi k), (0, vr 137), (1, vi b)], [], (I, zPp π, D, 147)) (G := (zr (i + 1)) ∧ True) rfl ⟨by omega, trivial⟩ ?_
      refine z_sub [(4, vi (i + 1)), (3, vi k), (2, vi c), (0, vr 137), (1, vi b)] [0, 2, 1, 3, 4] rfl ?_
      exact ih (i + 1) _ (by omega) (by omega) (zKr_n hv (fun h9 => hn h9.2))
  · refine z_n 2 (50, [(4, vi i), (3, vi k), (2, vi c), (0, vr 137), (1, vi b)], [vi k, vi i], (I, zPp π, D, 147)) rfl trivial ?_
    refine z_br (k ≤ i) 89 53 [] rfl (fun h => absurd h (show ¬ (k ≤ i) from by omega)) (fun hx1 => ?_)
    refine z_n 6 (60, [(4, vi i), (3, vi k), (2, vi c), (0, vr 137), (1, vi b)], [vi ((Int32.ofInt ((Int32.ofInt c >>> (Int32.ofInt i &&& 31)).toInt) &&& Int32.ofInt 1).toInt), vi c], (I, zPp π, D, 147)) rfl trivial ?_
    refine z_top (b := 0) ((zb_sh hv.1 (by omega)).trans (if_neg hz)) ?_
    refine z_n 1 (61, [(4, vi i), (3, vi k), (2, vi c), (0, vr 137), (1, vi b)], [vi 1, vi 0, vi c], (I, zPp π, D, 147)) rfl trivial ?_
    refine z_br (¬ (0 : Int) = 1) 80 64 [vi c] rfl (fun hx2 => ?_) (fun h => absurd (show ¬ (0 : Int) = 1 from by decide) h)
    refine z_n 2 (82, [(4, vi i), (3, vi k), (2, vi c), (0, vr 137), (1, vi b)], [vi ((Int32.ofInt c ||| Int32.ofInt 0).toInt)], (I, zPp π, D, 147)) rfl trivial ?_
    refine z_top (b := c) (zb_o0 hv.1) ?_
    refine z_n 3 (47, [(4, vi (i + 1)), (2, vi c), (3, vi k), (0, vr 137), (1, vi b)], [], (I, zPp π, D, 147)) (G := (zr (i + 1)) ∧ True) rfl ⟨by omega, trivial⟩ ?_
    refine z_sub [(4, vi (i + 1)), (3, vi k), (2, vi c), (0, vr 137), (1, vi b)] [0, 2, 1, 3, 4] rfl ?_
    exact ih (i + 1) _ (by omega) (by omega) (zKr_n hv (fun h9 => hz ((zKr_b hv (by omega) (by omega)).mpr h9.1)))
set_option maxRecDepth 20000 in
theorem m_rr_o {I : zI} {π : Int → Nat} {D : zD} {X : zI} {b : Int} {r : Option zV} {τ : zS} (e : zEq (I 138) X) (ci : zCI X) (hk4 : X 7 2 ≤ 4) (hb0 : 0 ≤ b) (hk : ∀ g, zTk (zNeed (X 4) (X 9) (X 11)) b (X 7 2) g → zRuns 119 95 [(2, vi g), (0, vr 137), (1, vi b)] [] (I, zPp π, D, 147) r τ) : ∀ (N : Nat) (k g : Int), b < k → k + N = X 7 2 → zTk (zNeed (X 4) (X 9) (X 11)) b k g → zRuns 119 33 [(3, vi k), (2, vi g), (0, vr 137), (1, vi b)] [] (I, zPp π, D, 147) r τ := by
  intro N
  induction N with
  | zero =>
    intro k g h0 hN ht
    refine z_n 5 (41, [(3, vi k), (2, vi g), (0, vr 137), (1, vi b)], [vi (I 138 55), vi k], (I, zPp π, D, 147)) (G := (0 ≤ 55 ∧ 55 < 585) ∧ True) rfl ⟨by omega, trivial⟩ ?_
    refine z_top (b := X 7 2) (e.2.2.1.1) ?_
    refine z_br ((X 7 2) ≤ k) 95 44 [] rfl (fun hx1 => ?_) (fun h => absurd (show (X 7 2) ≤ k from by omega) h)
    refine z_sub [(2, vi g), (0, vr 137), (1, vi b)] [1, 2, 3] rfl ?_
    exact hk g (by rw [show k = X 7 2 by omega] at ht; exact ht)
  | succ N ih =>
  intro k g h0 hN ht
  refine z_n 5 (41, [(3, vi k), (2, vi g), (0, vr 137), (1, vi b)], [vi (I 138 55), vi k], (I, zPp π, D, 147)) (G := (0 ≤ 55 ∧ 55 < 585) ∧ True) rfl ⟨by omega, trivial⟩ ?_
  refine z_top (b := X 7 2) (e.2.2.1.1) ?_
  refine z_br ((X 7 2) ≤ k) 95 44 [] rfl (fun h => absurd h (show ¬ ((X 7 2) ≤ k) from by omega)) (fun hx1 => ?_)
  refine z_n 2 (47, [(4, vi 0), (3, vi k), (2, vi g), (0, vr 137), (1, vi b)], [], (I, zPp π, D, 147)) rfl trivial ?_
  refine z_sub [(4, vi 0), (3, vi k), (2, vi g), (0, vr 137), (1, vi b)] [0, 1, 2, 3, 4] rfl ?_
  refine m_rr_i e ci hk4 (by omega) (fun c hc => ?_) k.toNat 0 g (by omega) (by omega) (zKr_0 ht.1)
  refine z_n 2 (33, [(3, vi (k + 1)), (2, vi c), (0, vr 137), (1, vi b)], [], (I, zPp π, D, 147)) (G := (zr (k + 1)) ∧ True) rfl ⟨by omega, trivial⟩ ?_
  refine z_sub [(3, vi (k + 1)), (2, vi c), (0, vr 137), (1, vi b)] [0, 1, 2, 3] rfl ?_
  exact ih (k + 1) c (by omega) (by omega) (zKr_Tk hc ht (by omega) (by omega))
set_option maxRecDepth 20000 in
theorem m_rr_c {X : zI} {π : Int → Nat} {D : zD} {b g : Int} (hk4 : 0 ≤ X 7 2 ∧ X 7 2 ≤ 4) (hg : 0 ≤ g ∧ g < 16) : ∀ (N : Nat) (k : Int) (I : zI), 0 ≤ k → k + N = X 7 2 → (∀ j, 0 ≤ j → j < X 7 2 → I 138 (56 + j) = (zTBX X g k.toNat) 9 j ∧ I 138 (68 + j) = (zTBX X g k.toNat) 11 j) → ∃ J, zRuns 119 109 [(5, vi k), (4, vi (X 7 2)), (3, vi ((zTBX X g k.toNat) 7 2)), (2, vi g), (0, vr 137), (1, vi b)] [] (I, zPp π, D, 147) (some (vi (X 7 2 - (zTBX X g (X 7 2).toNat) 7 2))) (J, zPp π, D, 147) ∧ (∀ r, r ≠ 138 → J r = I r) ∧ (∀ j, ¬ (55 ≤ j ∧ j < 80) → J 138 j = I 138 j) ∧ J 138 55 = (zTBX X g (X 7 2).toNat) 7 2 ∧ ∀ j, 0 ≤ j → j < X 7 2 → J 138 (56 + j) = (zTBX X g (X 7 2).toNat) 9 j ∧ J 138 (68 + j) = (zTBX X g (X 7 2).toNat) 11 j := by
  intro N
  induction N with
  | zero =>
    intro k I h0 hN hv
    have e9 : k = X 7 2 := by omega
    rw [e9] at hv ⊢
    have hc := zTBX_c (X := X) (m := g) (X 7 2).toNat
    refine ⟨zup I 138 55 ((zTBX X g (X 7 2).toNat) 7 2), ?_, fun r h => zup_ne h, fun j hj => ?_, ?_, fun j j0 j1 => ⟨?_, ?_⟩⟩
    · refine z_n 2 (113, [(5, vi (X 7 2)), (4, vi (X 7 2)), (3, vi ((zTBX X g (X 7 2).toNat) 7 2)), (2, vi g), (0, vr 137), (1, vi b)], [vi (X 7 2), vi (X 7 2)], (I, zPp π, D, 147)) rfl trivial ?_
      refine z_br ((X 7 2) ≤ (X 7 2)) 172 116 [] rfl (fun hx1 => ?_) (fun h => absurd (show (X 7 2) ≤ (X 7 2) from by omega) h)
      refine z_n 8 (184, [(5, vi (X 7 2)), (4, vi (X 7 2)), (3, vi ((zTBX X g (X 7 2).toNat) 7 2)), (2, vi g), (0, vr 137), (1, vi b)], [vi ((X 7 2) - ((zTBX X g (X 7 2).toNat) 7 2))], ((zup I 138 55 ((zTBX X g (X 7 2).toNat) 7 2)), zPp π, D, 147)) (G := (0 ≤ 55 ∧ 55 < 585) ∧ (zr ((X 7 2) - ((zTBX X g (X 7 2).toNat) 7 2))) ∧ True) rfl ⟨by omega, by omega, trivial⟩ ?_
      exact z_ret rfl rfl rfl
    · rw [zup_at, if_neg (by omega)]
    · rw [zup_at, if_pos rfl]
    · rw [zup_at, if_neg (by omega)]; exact (hv j j0 j1).1
    · rw [zup_at, if_neg (by omega)]; exact (hv j j0 j1).2
  | succ N ih =>
  intro k I h0 hN hv
  have hc := zTBX_c (X := X) (m := g) k.toNat
  have hvk := hv k h0 (by omega)
  by_cases hz : zbt g k
  · have et := zTBX_y (X := X) h0 hz
    obtain ⟨J, hrun, h1, h2, h3, h4⟩ := ih (k + 1) I (by omega) (by omega) (by rw [et]; exact hv)
    rw [et] at hrun
    refine ⟨J, ?_, h1, h2, h3, h4⟩
    refine z_n 2 (113, [(5, vi k), (4, vi (X 7 2)), (3, vi ((zTBX X g k.toNat) 7 2)), (2, vi g), (0, vr 137), (1, vi b)], [vi (X 7 2), vi k], (I, zPp π, D, 147)) rfl trivial ?_
    refine z_br ((X 7 2) ≤ k) 172 116 [] rfl (fun h => absurd h (show ¬ ((X 7 2) ≤ k) from by omega)) (fun hx1 => ?_)
    refine z_n 5 (122, [(5, vi k), (4, vi (X 7 2)), (3, vi ((zTBX X g k.toNat) 7 2)), (2, vi g), (0, vr 137), (1, vi b)], [vi ((Int32.ofInt ((Int32.ofInt g >>> (Int32.ofInt k &&& 31)).toInt) &&& Int32.ofInt 1).toInt)], (I, zPp π, D, 147)) rfl trivial ?_
    refine z_top (b := 1) ((zb_sh hg (by omega)).trans (if_pos hz)) ?_
    refine z_br (¬ (1 : Int) = 0) 166 125 [] rfl (fun hx2 => ?_) (fun h => absurd (show ¬ (1 : Int) = 0 from by decide) h)
    refine z_n 2 (109, [(5, vi (k + 1)), (4, vi (X 7 2)), (3, vi ((zTBX X g k.toNat) 7 2)), (2, vi g), (0, vr 137), (1, vi b)], [], (I, zPp π, D, 147)) (G := (zr (k + 1)) ∧ True) rfl ⟨by omega, trivial⟩ ?_
    refine z_sub [(5, vi (k + 1)), (4, vi (X 7 2)), (3, vi ((zTBX X g k.toNat) 7 2)), (2, vi g), (0, vr 137), (1, vi b)] [0, 1, 2, 3, 4, 5] rfl ?_
    exact hrun
  · have et := zTBX_n (X := X) h0 hz
    have e7 : zTBX X g (k + 1).toNat 7 2 = (zTBX X g k.toNat) 7 2 + 1 := by rw [et]; rfl
    have e9 : ∀ j, zTBX X g (k + 1).toNat 9 j = if j = (zTBX X g k.toNat) 7 2 then (zTBX X g k.toNat) 9 k else (zTBX X g k.toNat) 9 j := by intro j; rw [et, zup_ne (by decide), zup_ne (by decide), zup_at]
    have e11 : ∀ j, zTBX X g (k + 1).toNat 11 j = if j = (zTBX X g k.toNat) 7 2 then (zTBX X g k.toNat) 11 k else (zTBX X g k.toNat) 11 j := by intro j; rw [et, zup_ne (by decide), zup_at, zup_ne (by decide)]
    obtain ⟨J, hrun, h1, h2, h3, h4⟩ := ih (k + 1) (zup (zup I 138 (56 + (zTBX X g k.toNat) 7 2) (I 138 (56 + k))) 138 (68 + (zTBX X g k.toNat) 7 2) (I 138 (68 + k))) (by omega) (by omega) (fun j j0 j1 => by
      rw [e9, e11, zup_at, if_neg (by omega), zup_at, zup_at, zup_at]
      by_cases hj : j = (zTBX X g k.toNat) 7 2
      · rw [if_pos (by omega), if_pos hj, if_pos (by omega), if_pos hj]; exact hvk
      · rw [if_neg (by omega), if_neg hj, if_neg (by omega), if_neg (by omega), if_neg hj]; exact hv j j0 j1)
    rw [e7] at hrun
    refine ⟨J, ?_, fun r h => ?_, fun j hj => ?_, h3, h4⟩
    · refine z_n 2 (113, [(5, vi k), (4, vi (X 7 2)), (3, vi ((zTBX X g k.toNat) 7 2)), (2, vi g), (0, vr 137), (1, vi b)], [vi (X 7 2), vi k], (I, zPp π, D, 147)) rfl trivial ?_
      refine z_br ((X 7 2) ≤ k) 172 116 [] rfl (fun h => absurd h (show ¬ ((X 7 2) ≤ k) from by omega)) (fun hx1 => ?_)
      refine z_n 5 (122, [(5, vi k), (4, vi (X 7 2)), (3, vi ((zTBX X g k.toNat) 7 2)), (2, vi g), (0, vr 137), (1, vi b)], [vi ((Int32.ofInt ((Int32.ofInt g >>> (Int32.ofInt k &&& 31)).toInt) &&& Int32.ofInt 1).toInt)], (I, zPp π, D, 147)) rfl trivial ?_
      refine z_top (b := 0) ((zb_sh hg (by omega)).trans (if_neg hz)) ?_
      refine z_br (¬ (0 : Int) = 0) 166 125 [] rfl (fun h => absurd h (show ¬ (¬ (0 : Int) = 0) from by decide)) (fun hx2 => ?_)
      refine z_n 23 (162, [(5, vi k), (4, vi (X 7 2)), (3, vi ((zTBX X g k.toNat) 7 2)), (2, vi g), (0, vr 137), (1, vi b)], [vi ((zup I 138 (56 + ((zTBX X g k.toNat) 7 2)) (I 138 (56 + k))) 138 (68 + k)), vi (68 + ((zTBX X g k.toNat) 7 2)), vr 138], ((zup I 138 (56 + ((zTBX X g k.toNat) 7 2)) (I 138 (56 + k))), zPp π, D, 147)) (G := (zr (56 + ((zTBX X g k.toNat) 7 2))) ∧ (zr (56 + k)) ∧ (0 ≤ (56 + k) ∧ (56 + k) < 585) ∧ (0 ≤ (56 + ((zTBX X g k.toNat) 7 2)) ∧ (56 + ((zTBX X g k.toNat) 7 2)) < 585) ∧ (zr (68 + ((zTBX X g k.toNat) 7 2))) ∧ (zr (68 + k)) ∧ (0 ≤ (68 + k) ∧ (68 + k) < 585) ∧ True) rfl ⟨by omega, by omega, by omega, by omega, by omega, by omega, by omega, trivial⟩ ?_
      refine z_top (b := I 138 (68 + k)) (by rw [zup_at, if_neg (by omega)]) ?_
      refine z_n 4 (109, [(5, vi (k + 1)), (3, vi (((zTBX X g k.toNat) 7 2) + 1)), (4, vi (X 7 2)), (2, vi g), (0, vr 137), (1, vi b)], [], ((zup (zup I 138 (56 + ((zTBX X g k.toNat) 7 2)) (I 138 (56 + k))) 138 (68 + ((zTBX X g k.toNat) 7 2)) (I 138 (68 + k))), zPp π, D, 147)) (G := (0 ≤ (68 + ((zTBX X g k.toNat) 7 2)) ∧ (68 + ((zTBX X g k.toNat) 7 2)) < 585) ∧ (zr (((zTBX X g k.toNat) 7 2) + 1)) ∧ (zr (k + 1)) ∧ True) rfl ⟨by omega, by omega, by omega, trivial⟩ ?_
      refine z_sub [(5, vi (k + 1)), (4, vi (X 7 2)), (3, vi (((zTBX X g k.toNat) 7 2) + 1)), (2, vi g), (0, vr 137), (1, vi b)] [0, 2, 1, 3, 4, 5] rfl ?_
      exact hrun
    · rw [h1 r h, zup_ne h, zup_ne h]
    · rw [h2 j hj, zup_at, if_neg (by omega), zup_at, if_neg (by omega)]
set_option maxRecDepth 20000 in
theorem m_Rrerowx {I : zI} {π : Int → Nat} {D : zD} {X : zI} {b : Int} (e : zEq (I 138) X) (ci : zCI X) (hq : ¬ (0 ≤ b ∧ b < X 7 2)) : zMet 119 [vr 137, vi b] (I, zPp π, D, 147) (some (vi (-1001))) (I, zPp π, D, 147) := by
  obtain ⟨⟨m0, m1, m2, m3, m4, m5, m6⟩, mc, ⟨mb, mk⟩, ⟨ml, mg⟩, mt⟩ := id e
  obtain ⟨⟨w, v, hsp, ⟨⟨hl0, hl1⟩, hlg, hps⟩, hpt, hp0⟩, hm, hd⟩ := id ci
  have hzb := zns_b w
  have hm4 := zdis_le w v hd hm
  have hl2 := zlb_b w
  obtain ⟨⟨w1, w2⟩, ⟨w3, w4⟩, ⟨w5, w6⟩, ⟨w7, w8⟩, ⟨w9, w10⟩, w11, ⟨⟨w12, w12b⟩, w12c⟩, ⟨w13, w14⟩, ⟨w15, w16⟩⟩ := id w
  refine z_n 8 (11, [(0, vr 137), (1, vi b)], [vi ((I 138 55) - 1), vi 0, vi b], (I, zPp π, D, 147)) (G := (0 ≤ 55 ∧ 55 < 585) ∧ (zr ((I 138 55) - 1)) ∧ True) rfl ⟨by omega, by omega, trivial⟩ ?_
  refine z_ci 93 [vi b, vi 0, vi ((I 138 55) - 1)] [] rfl (m_in0 (by omega)) ?_
  refine z_br (¬ (0 : Int) = 0) 21 17 [] rfl (fun h => absurd h (show ¬ (¬ (0 : Int) = 0) from by decide)) (fun hx1 => ?_)
  refine z_n 1 (20, [(0, vr 137), (1, vi b)], [vi (-1001)], (I, zPp π, D, 147)) rfl trivial ?_
  first | exact z_ret rfl (zv1 (by omega)) rfl | (exfalso; omega)
set_option maxRecDepth 20000 in
theorem m_Rrerow1 {I : zI} {π : Int → Nat} {D : zD} {X : zI} {b g : Int}  (e : zEq (I 138) X) (ci : zCI X) (hs : 0 ≤ I 137 2 ∧ I 137 2 ≤ 4) (hq : 0 ≤ b ∧ b < X 7 2) (hg : zTk (zNeed (X 4) (X 9) (X 11)) b (X 7 2) g) : ∃ J K, zMet 119 [vr 137, vi b] (I, zPp π, D, 147) (some (vi (zbc g))) (K, zPp π, D, 147) ∧ zRcd J I ∧ (∀ r, r ≠ 138 → K r = J r) ∧ zEq (K 138) (zTBX X g (X 7 2).toNat) := by
  obtain ⟨⟨m0, m1, m2, m3, m4, m5, m6⟩, mc, ⟨mb, mk⟩, ⟨ml, mg⟩, mt⟩ := id e
  obtain ⟨⟨w, v, hsp, ⟨⟨hl0, hl1⟩, hlg, hps⟩, hpt, hp0⟩, hm, hd⟩ := id ci
  have hzb := zns_b w
  have hm4 := zdis_le w v hd hm
  have hl2 := zlb_b w
  obtain ⟨⟨w1, w2⟩, ⟨w3, w4⟩, ⟨w5, w6⟩, ⟨w7, w8⟩, ⟨w9, w10⟩, w11, ⟨⟨w12, w12b⟩, w12c⟩, ⟨w13, w14⟩, ⟨w15, w16⟩⟩ := id w
  obtain ⟨J, hJ, hR⟩ := m_rec (I := I) (π := π) (D := D) hs
  have e2 : zEq (J 138) X := by rw [hR.1 138 (by decide) (by decide)]; exact e
  obtain ⟨⟨j0, j1, j2, j3, j4, j5, j6⟩, jc, ⟨jb, jk⟩, ⟨jl, jg⟩, jt⟩ := id e2
  obtain ⟨K, hrun, h1, h2, h3, h4⟩ := m_rr_c (X := X) (π := π) (D := D) (b := b) (g := g) (by omega) hg.1 (X 7 2).toNat 0 J (by omega) (by omega) (fun j j0 j1 => jk j j0 j1)
  have hcc := zTBX_c (X := X) (m := g) (X 7 2).toNat
  have hbc := zbs_c (by omega) hq.1 hg
  rw [show X 7 2 - zTBX X g (X 7 2).toNat 7 2 = zbc g by omega] at hrun
  have e0 : zTBX X g (X 7 2).toNat 0 = X 0 := zTBX_o (by decide) _
  have e2_ : zTBX X g (X 7 2).toNat 2 = X 2 := zTBX_o (by decide) _
  have e4 : zTBX X g (X 7 2).toNat 4 = X 4 := zTBX_o (by decide) _
  have e12 : zTBX X g (X 7 2).toNat 12 = X 12 := zTBX_o (by decide) _
  have e14 : zTBX X g (X 7 2).toNat 14 = X 14 := zTBX_o (by decide) _
  have e16 : zTBX X g (X 7 2).toNat 16 = X 16 := zTBX_o (by decide) _
  have e18 : zTBX X g (X 7 2).toNat 18 = X 18 := zTBX_o (by decide) _
  have e22 : zTBX X g (X 7 2).toNat 22 = X 22 := zTBX_o (by decide) _
  refine ⟨J, K, ?_, hR, h1, ?_⟩
  · skip
    refine z_n 8 (11, [(0, vr 137), (1, vi b)], [vi ((I 138 55) - 1), vi 0, vi b], (I, zPp π, D, 147)) (G := (0 ≤ 55 ∧ 55 < 585) ∧ (zr ((I 138 55) - 1)) ∧ True) rfl ⟨by omega, by omega, trivial⟩ ?_
    refine z_ci 93 [vi b, vi 0, vi ((I 138 55) - 1)] [] rfl (m_in1 (by omega) (by omega)) ?_
    refine z_br (¬ (1 : Int) = 0) 21 17 [] rfl (fun hx1 => ?_) (fun h => absurd (show ¬ (1 : Int) = 0 from by decide) h)
    refine z_n 1 (22, [(0, vr 137), (1, vi b)], [vr 137], (I, zPp π, D, 147)) rfl trivial ?_
    refine z_cv 96 [vr 137] [] rfl (hJ) ?_
    refine z_n 8 (33, [(3, vi (b + 1)), (2, vi ((Int32.ofInt 1 <<< (Int32.ofInt b &&& 31)).toInt)), (0, vr 137), (1, vi b)], [], (J, zPp π, D, 147)) (G := (zr (b + 1)) ∧ True) rfl ⟨by omega, trivial⟩ ?_
    refine z_sub [(3, vi (b + 1)), (2, vi ((Int32.ofInt 1 <<< (Int32.ofInt b &&& 31)).toInt)), (0, vr 137), (1, vi b)] [0, 1, 2, 3] rfl ?_
    refine m_rr_o (I := J) e2 ci hm4.2 hq.1 (fun g2 hg2 => ?_) (X 7 2 - b - 1).toNat (b + 1) _ (by omega) (by omega) (zTk_0 hq.1 (by omega))
    have eg := zTk_un hg2 hg
    rw [eg]
    refine z_n 6 (104, [(3, vi 0), (2, vi g), (0, vr 137), (1, vi b)], [vi (J 138 55)], (J, zPp π, D, 147)) (G := (0 ≤ 55 ∧ 55 < 585) ∧ True) rfl ⟨by omega, trivial⟩ ?_
    refine z_top (b := X 7 2) (jb) ?_
    refine z_n 3 (109, [(5, vi 0), (4, vi (X 7 2)), (3, vi 0), (2, vi g), (0, vr 137), (1, vi b)], [], (J, zPp π, D, 147)) rfl trivial ?_
    refine z_sub [(5, vi 0), (4, vi (X 7 2)), (3, vi 0), (2, vi g), (0, vr 137), (1, vi b)] [0, 1, 2, 3, 4, 5] rfl ?_
    exact hrun
  · unfold zEq
    rw [e0, e2_, e4, e12, e14, e16, e18, e22]
    refine ⟨⟨(h2 0 (by omega)).trans j0, (h2 1 (by omega)).trans j1, (h2 2 (by omega)).trans j2, (h2 3 (by omega)).trans j3, (h2 4 (by omega)).trans j4, (h2 5 (by omega)).trans j5, (h2 6 (by omega)).trans j6⟩, fun c c0 c1 => ⟨(h2 (7 + c) (by omega)).trans (jc c c0 c1).1, (h2 (31 + c) (by omega)).trans (jc c c0 c1).2⟩, ⟨h3, fun k k0 k1 => h4 k k0 (by omega)⟩, ⟨(h2 80 (by omega)).trans jl, fun k k0 k1 => ?_⟩, fun t c t0 t1 c0 c1 => (h2 _ (by omega)).trans (jt t c t0 t1 c0 c1)⟩
    rw [h2 (81 + k) (by omega), h2 (193 + k) (by omega), h2 (305 + k) (by omega)]
    exact jg k k0 k1
