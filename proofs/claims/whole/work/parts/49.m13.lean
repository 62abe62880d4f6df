/-- a is the next that is not out behind b -/
def zNxt (f : Int → Int) (n b a : Int) : Prop := (b < a ∧ a ≤ n) ∧ (∀ x, b < x → x < a → ¬ f x = 0) ∧ (a = n ∨ (a < n ∧ f a = 0))
theorem zNxt_un {f : Int → Int} {n b a c : Int} (h : zNxt f n b a) (g : zNxt f n b c) : a = c := by
  obtain ⟨⟨h1, h2⟩, h3, h4⟩ := h
  obtain ⟨⟨g1, g2⟩, g3, g4⟩ := g
  rcases Int.lt_trichotomy a c with e | e | e
  · rcases h4 with h4 | h4
    · omega
    · exact absurd h4.2 (g3 a h1 e)
  · exact e
  · rcases g4 with g4 | g4
    · omega
    · exact absurd g4.2 (h3 c g1 e)
/-- the reference's search at b, the class's so far -/
def zQr (X : UInt64) (p o : Int) (l : UInt64) (q : zq4) : Prop :=
  (q.1 = -1 ∧ q.2.2.1 = X ∧ (p = -1 ∨ (0 ≤ p ∧ zdk X < zdk l ∧ FP.Core.val64 l ≠ .nan))) ∨ (¬ q.1 = -1 ∧ 0 ≤ p ∧ p = q.2.1 ∧ o = q.1 ∧ l = q.2.2.1 ∧ zdk l ≤ zdk X ∧ FP.Core.val64 l ≠ .nan)
theorem zsc_skip {s f : Int → Int} {g : Int} {X : UInt64} : ∀ (N : Nat) (k : Nat), (∀ x, (k : Int) ≤ x → x < k + N → ¬ f x = 0) → zsc s f g X (k + N) = zsc s f g X k
  | 0, k, _ => rfl
  | N + 1, k, h => by
    show zsc1 s f g ((k + N : Nat) : Int) (zsc s f g X (k + N)) = _
    unfold zsc1
    rw [if_neg (h _ (by omega) (by omega)), zsc_skip N k (fun x a b => h x a (by omega))]
theorem zsc_ah {s f : Int → Int} {g : Int} {X : UInt64} {k : Int} (h : 0 ≤ k) (hf : f k = 0) : (zsc s f g X (k + 1).toNat).2.2.2 = k := by
  rw [zsc_s h]
  unfold zsc1
  rw [if_pos hf]
  (repeat' split) <;> rfl
theorem zsc_o {s f : Int → Int} {g : Int} {X : UInt64} : ∀ n : Nat, ((zsc s f g X n).2.2.2 = -1 ∨ f (zsc s f g X n).2.2.2 = 0) ∧ ((zsc s f g X n).1 = -1 ∨ (f (zsc s f g X n).1 = 0 ∧ f (zsc s f g X n).2.1 = 0))
  | 0 => ⟨Or.inl rfl, Or.inl rfl⟩
  | n + 1 => by
    have ih := zsc_o (s := s) (f := f) (g := g) (X := X) n
    show ((zsc1 s f g n (zsc s f g X n)).2.2.2 = -1 ∨ f (zsc1 s f g n (zsc s f g X n)).2.2.2 = 0) ∧ ((zsc1 s f g n (zsc s f g X n)).1 = -1 ∨ (f (zsc1 s f g n (zsc s f g X n)).1 = 0 ∧ f (zsc1 s f g n (zsc s f g X n)).2.1 = 0))
    generalize zsc s f g X n = q at ih ⊢
    unfold zsc1
    by_cases h0 : f n = 0
    · rw [if_pos h0]
      by_cases h1 : ¬ q.2.2.2 = -1
      · rw [if_pos h1]
        have h2 := ih.1.resolve_left h1
        (repeat' split) <;> first | exact ⟨Or.inr h0, ih.2⟩ | exact ⟨Or.inr h0, Or.inr ⟨h0, h2⟩⟩
      · rw [if_neg h1]
        exact ⟨Or.inr h0, ih.2⟩
    · rw [if_neg h0]
      exact ih
/-- one pair looked at -/
def zm1 (s : Int → Int) (g b a p o : Int) (l : UInt64) : Int × (Int × UInt64) := if s b < s a ∧ (p = -1 ∨ zdk (ztm s g a b) < zdk l) then (b, a, ztm s g a b) else (p, o, l)
theorem zQr_s {s f : Int → Int} {g b a p o : Int} {l X : UInt64} {q : zq4} (hX : FP.Core.val64 X ≠ .nan) (h : zQr X p o l q) (hq : q.2.2.2 = b) (hb : 0 ≤ b ∧ b < a) (hf : f a = 0) (ht : s b < s a → FP.Core.val64 (ztm s g a b) ≠ .nan) : zQr X (zm1 s g b a p o l).1 (zm1 s g b a p o l).2.1 (zm1 s g b a p o l).2.2 (zsc1 s f g a q) := by
  unfold zsc1 zm1
  rw [if_pos hf, hq, if_pos (show ¬ b = -1 by omega)]
  by_cases hs : s b < s a
  · rw [if_neg (show ¬ s a - s b ≤ 0 by omega)]
    have ht' := ht hs
    generalize ztm s g a b = t at ht' ⊢
    rcases h with ⟨h1, h2, h3⟩ | ⟨h1, h2, h3, h4, h5, h6, h7⟩
    · have c1 := zc_cmp ht' hX .g
      have c2 := zc_cmp ht' hX .l
      rw [h2]
      rcases Int.lt_trichotomy (zdk t) (zdk X) with e | e | e
      · rw [if_pos (show (Op.cmpValue (FP.dcmp t X) .g).toInt < 0 from c1.1.mpr e), if_pos (show s b < s a ∧ (p = -1 ∨ zdk t < zdk l) from ⟨hs, by rcases h3 with h3 | h3; exact Or.inl h3; exact Or.inr (by have := h3.2.1; omega)⟩)]
        exact Or.inr ⟨by show ¬ a = -1; omega, hb.1, rfl, rfl, rfl, by show zdk t ≤ zdk X; omega, ht'⟩
      · rw [if_neg (show ¬ (Op.cmpValue (FP.dcmp t X) .g).toInt < 0 from fun h => by have := c1.1.mp h; omega), if_neg (show ¬ ¬ q.1 = -1 from fun h => h h1), if_neg (show ¬ ¬ (Op.cmpValue (FP.dcmp t X) .l).toInt = 0 from fun h => h (c2.2.mpr e)), if_pos (show s b < s a ∧ (p = -1 ∨ zdk t < zdk l) from ⟨hs, by rcases h3 with h3 | h3; exact Or.inl h3; exact Or.inr (by have := h3.2.1; omega)⟩)]
        exact Or.inr ⟨by show ¬ a = -1; omega, hb.1, rfl, rfl, rfl, by show zdk t ≤ zdk X; omega, ht'⟩
      · rw [if_neg (show ¬ (Op.cmpValue (FP.dcmp t X) .g).toInt < 0 from fun h => by have := c1.1.mp h; omega), if_neg (show ¬ ¬ q.1 = -1 from fun h => h h1), if_pos (show ¬ (Op.cmpValue (FP.dcmp t X) .l).toInt = 0 from fun h => by have := c2.2.mp h; omega)]
        refine Or.inl ⟨h1, rfl, ?_⟩
        split
        · exact Or.inr ⟨hb.1, e, ht'⟩
        · rename_i h9
          rcases h3 with h3 | h3
          · exact absurd ⟨hs, Or.inl h3⟩ h9
          · exact Or.inr h3
    · subst h5
      have c1 := zc_cmp ht' h7 .g
      by_cases e : zdk t < zdk q.2.2.1
      · rw [if_pos (show (Op.cmpValue (FP.dcmp t q.2.2.1) .g).toInt < 0 from c1.1.mpr e), if_pos (show s b < s a ∧ (p = -1 ∨ zdk t < zdk q.2.2.1) from ⟨hs, Or.inr e⟩)]
        exact Or.inr ⟨by show ¬ a = -1; omega, hb.1, rfl, rfl, rfl, by show zdk t ≤ zdk X; omega, ht'⟩
      · rw [if_neg (show ¬ (Op.cmpValue (FP.dcmp t q.2.2.1) .g).toInt < 0 from fun h => e (c1.1.mp h)), if_pos (show ¬ q.1 = -1 from h1), if_neg (show ¬ (s b < s a ∧ (p = -1 ∨ zdk t < zdk q.2.2.1)) from fun h => by rcases h.2 with h | h; omega; exact e h)]
        exact Or.inr ⟨h1, h2, h3, h4, rfl, h6, h7⟩
  · rw [if_pos (show s a - s b ≤ 0 by omega), if_neg (show ¬ (s b < s a ∧ _) from fun h => hs h.1)]
    exact h
/-- the reference's search before b -/
def zMR (s f : Int → Int) (g n : Int) (X : UInt64) (b p o : Int) (l : UInt64) : Prop := ∃ e, zNxt f n (b - 1) e ∧ zQr X p o l (zsc s f g X (if e < n then e + 1 else n).toNat)
theorem zMR_o {s f : Int → Int} {g n b p o : Int} {X l : UInt64} (h : zMR s f g n X b p o l) (hb : b < n) (hf : ¬ f b = 0) : zMR s f g n X (b + 1) p o l := by
  obtain ⟨e, ⟨⟨h1, h2⟩, h3, h4⟩, h5⟩ := h
  have hne : ¬ e = b := by
    intro h9
    rcases h4 with h4 | h4
    · omega
    · rw [h9] at h4; exact hf h4.2
  exact ⟨e, ⟨⟨by omega, h2⟩, fun x a c => h3 x (by omega) c, h4⟩, h5⟩
theorem zMR_i {s f : Int → Int} {g n b p o : Int} {X l : UInt64} (h : zMR s f g n X b p o l) (hb : b < n) (hf : f b = 0) : zQr X p o l (zsc s f g X (b + 1).toNat) := by
  obtain ⟨e, h1, h5⟩ := h
  have : e = b := zNxt_un h1 ⟨⟨by omega, by omega⟩, fun x a c => by omega, Or.inr ⟨hb, hf⟩⟩
  subst this
  rw [if_pos hb] at h5
  exact h5
theorem zMR_n {s f : Int → Int} {g n b p o : Int} {X l : UInt64} (h : zMR s f g n X b p o l) (h0 : 0 ≤ b) (hb : b < n) (hf : f b = 0) (hn : zNxt f n b n) : zMR s f g n X (b + 1) p o l := by
  have h2 := zMR_i h hb hf
  refine ⟨n, by rw [show b + 1 - 1 = b by omega]; exact hn, ?_⟩
  rw [if_neg (by omega)]
  have := zsc_skip (s := s) (f := f) (g := g) (X := X) (n - (b + 1)).toNat (b + 1).toNat (fun x a c => hn.2.1 x (by omega) (by omega))
  rw [show (b + 1).toNat + (n - (b + 1)).toNat = n.toNat by omega] at this
  rw [this]; exact h2
theorem zMR_p {s f : Int → Int} {g n b a p o : Int} {X l : UInt64} (hX : FP.Core.val64 X ≠ .nan) (h : zMR s f g n X b p o l) (h0 : 0 ≤ b) (hb : b < n) (hf : f b = 0) (hn : zNxt f n b a) (han : a < n) (ht : s b < s a → FP.Core.val64 (ztm s g a b) ≠ .nan) : zMR s f g n X (b + 1) (zm1 s g b a p o l).1 (zm1 s g b a p o l).2.1 (zm1 s g b a p o l).2.2 := by
  have h2 := zMR_i h hb hf
  have ha := zsc_ah (s := s) (g := g) (X := X) h0 hf
  have hfa : f a = 0 := by
    rcases hn.2.2 with h9 | h9
    · omega
    · exact h9.2
  refine ⟨a, by rw [show b + 1 - 1 = b by omega]; exact hn, ?_⟩
  have := zsc_skip (s := s) (f := f) (g := g) (X := X) (a - (b + 1)).toNat (b + 1).toNat (fun x c d => hn.2.1 x (by omega) (by omega))
  have hba := hn.1.1
  rw [show (b + 1).toNat + (a - (b + 1)).toNat = a.toNat by omega] at this
  rw [if_pos han, zsc_s (by omega), this]
  exact zQr_s hX h2 ha ⟨h0, hba⟩ hfa ht
theorem zMR_0 {s f : Int → Int} {g n o : Int} {X l : UInt64} (hn : 0 ≤ n) : zMR s f g n X 0 (-1) o l := by
  have key : ∀ (N : Nat) (k : Int), 0 ≤ k → k + N = n → (∀ x, 0 ≤ x → x < k → ¬ f x = 0) → ∃ e, zNxt f n (0 - 1) e := by
    intro N
    induction N with
    | zero => intro k h0 hk hx; exact ⟨n, ⟨by omega, by omega⟩, fun x a b => hx x (by omega) (by omega), Or.inl rfl⟩
    | succ N ih =>
      intro k h0 hk hx
      by_cases hf : f k = 0
      · exact ⟨k, ⟨by omega, by omega⟩, fun x a b => hx x (by omega) b, Or.inr ⟨by omega, hf⟩⟩
      · refine ih (k + 1) (by omega) (by omega) (fun x a b => ?_)
        by_cases e : x = k
        · rw [e]; exact hf
        · exact hx x a (by omega)
  obtain ⟨e, he⟩ := key n.toNat 0 (by omega) (by omega) (fun x a b => by omega)
  refine ⟨e, he, Or.inl ?_⟩
  have sk := zsc_skip (s := s) (f := f) (g := g) (X := X) e.toNat 0 (fun x c d => he.2.1 x (by omega) (by have := he.1; omega))
  rw [Nat.zero_add] at sk
  have he0 : 0 ≤ e := by have := he.1; omega
  by_cases h : e < n
  · rw [if_pos h, zsc_s he0, sk]
    unfold zsc1
    rw [if_pos (by rcases he.2.2 with h9 | h9; omega; exact h9.2), if_neg (fun h => h rfl)]
    exact ⟨rfl, rfl, Or.inl rfl⟩
  · rw [if_neg h, show n = e by have := he.1; omega, sk]
    exact ⟨rfl, rfl, Or.inl rfl⟩
theorem zMR_e {s f : Int → Int} {g n p o : Int} {X l : UInt64} (h : zMR s f g n X n p o l) : zQr X p o l (zsc s f g X n.toNat) := by
  obtain ⟨e, h1, h5⟩ := h
  rw [if_neg (by have := h1.1; omega)] at h5
  exact h5
/-- what the reference writes when it foretells -/
def zMS (I : zI) (f : Int → Int) (m : Int) (u d : Int → Int) : zI := fun r j => if r = 142 then f j else if r = 143 then u j else if r = 144 then d j else if r = 137 ∧ j = 15 then m else I r j
def zMD (D : zD) (t : Int → UInt64) : zD := fun r j => if r = 145 then t j else D r j
section
variable {I : zI} {m k v : Int} {f u d : Int → Int}
theorem zMS_142 : zup (zMS I f m u d) 142 k v = zMS I (zu1 f k v) m u d := by
  funext r j
  by_cases h : r = 142
  · subst h; simp [zup, zMS, zu1]
  · simp [zup, zMS, h]
theorem zMS_143 : zup (zMS I f m u d) 143 k v = zMS I f m (zu1 u k v) d := by
  funext r j
  by_cases h : r = 143
  · subst h; simp [zup, zMS, zu1]
  · simp [zup, zMS, h]
theorem zMS_144 : zup (zMS I f m u d) 144 k v = zMS I f m u (zu1 d k v) := by
  funext r j
  by_cases h : r = 144
  · subst h; simp [zup, zMS, zu1]
  · simp [zup, zMS, h]
theorem zMS_m : zup (zMS I f m u d) 137 15 v = zMS I f v u d := by
  funext r j
  by_cases h : r = 137
  · subst h
    by_cases h2 : j = 15
    · subst h2; simp [zup, zMS]
    · simp [zup, zMS, h2]
  · simp [zup, zMS, h]
theorem zMS_id : zMS I (I 142) (I 137 15) (I 143) (I 144) = I := by
  funext r j
  unfold zMS
  by_cases h1 : r = 142
  · subst h1; rfl
  · by_cases h2 : r = 143
    · subst h2; simp
    · by_cases h3 : r = 144
      · subst h3; simp
      · by_cases h4 : r = 137 ∧ j = 15
        · obtain ⟨h4, h5⟩ := h4; subst h4; subst h5; simp
        · simp [h1, h2, h3, h4]
theorem zMS_k : zMk (zMS I f m u d) I := by
  refine ⟨fun r hr => funext fun j => ?_, rfl, rfl, rfl, rfl, rfl⟩
  unfold zMS
  rw [if_neg (by omega), if_neg (by omega), if_neg (by omega), if_neg (by omega)]
end
theorem zMD_145 {D : zD} {t : Int → UInt64} {k : Int} {x : UInt64} : zupD (zMD D t) 145 k x = zMD D (zuD t k x) := by
  funext r j
  by_cases h : r = 145
  · subst h; simp [zupD, zMD, zuD]
  · simp [zupD, zMD, h]
theorem zMD_id {D : zD} : zMD D (D 145) = D := by
  funext r j
  unfold zMD
  split
  · next h => rw [h]
  · rfl
theorem zu1_c {f : Int → Int} {a b v : Int} : zu1 (zu1 f a v) b v = zu1 (zu1 f b v) a v := by
  funext j
  unfold zu1
  split <;> split <;> rfl
set_option maxRecDepth 20000 in
theorem m_ft_n {I : zI} {π : Int → Nat} {D : zD} {n m g : Int} {s f u d : Int → Int} {t : Int → UInt64} {r : Option zV} {τ : zS} {b o p : Int} {l : UInt64} (hn10 : I 137 10 = n) (hn : 0 ≤ n ∧ n ≤ 9) (hb : 0 ≤ b) (hk : ∀ a, zNxt f n b a → zRuns 122 88 [(7, vi a), (6, vi b), (4, vd l), (3, vi o), (2, vi p), (0, vr 137)] [] ((zMS I f m u d), zPp π, (zMD D t), 147) r τ) : ∀ (N : Nat) (a : Int), b < a → a + N = n → (∀ x, b < x → x < a → ¬ f x = 0) → zRuns 122 63 [(7, vi a), (6, vi b), (4, vd l), (3, vi o), (2, vi p), (0, vr 137)] [] ((zMS I f m u d), zPp π, (zMD D t), 147) r τ := by
  intro N
  induction N with
  | zero =>
    intro a h0 hN hx
    refine z_n 3 (69, [(7, vi a), (6, vi b), (4, vd l), (3, vi o), (2, vi p), (0, vr 137)], [vi (I 137 10), vi a], ((zMS I f m u d), zPp π, (zMD D t), 147)) rfl trivial ?_
    refine z_top (b := n) (hn10) ?_
    refine z_br (n ≤ a) 88 72 [] rfl (fun hx1 => ?_) (fun h => absurd (show n ≤ a from by omega) h)
    refine z_sub [(7, vi a), (6, vi b), (4, vd l), (3, vi o), (2, vi p), (0, vr 137)] [0, 1, 2, 3, 4, 5] rfl ?_
    exact hk a ⟨⟨by omega, by omega⟩, hx, Or.inl (by omega)⟩
  | succ N ih =>
  intro a h0 hN hx
  by_cases hf : f a = 0
  · refine z_n 3 (69, [(7, vi a), (6, vi b), (4, vd l), (3, vi o), (2, vi p), (0, vr 137)], [vi (I 137 10), vi a], ((zMS I f m u d), zPp π, (zMD D t), 147)) rfl trivial ?_
    refine z_top (b := n) (hn10) ?_
    refine z_br (n ≤ a) 88 72 [] rfl (fun h => absurd h (show ¬ (n ≤ a) from by omega)) (fun hx1 => ?_)
    refine z_n 4 (79, [(7, vi a), (6, vi b), (4, vd l), (3, vi o), (2, vi p), (0, vr 137)], [vi (f a)], ((zMS I f m u d), zPp π, (zMD D t), 147)) (G := (0 ≤ a ∧ a < 9) ∧ True) rfl ⟨by omega, trivial⟩ ?_
    refine z_br ((f a) = 0) 88 82 [] rfl (fun hx2 => ?_) (fun h => absurd (show (f a) = 0 from hf) h)
    refine z_sub [(7, vi a), (6, vi b), (4, vd l), (3, vi o), (2, vi p), (0, vr 137)] [0, 1, 2, 3, 4, 5] rfl ?_
    exact hk a ⟨⟨by omega, by omega⟩, hx, Or.inr ⟨by omega, hf⟩⟩
  · refine z_n 3 (69, [(7, vi a), (6, vi b), (4, vd l), (3, vi o), (2, vi p), (0, vr 137)], [vi (I 137 10), vi a], ((zMS I f m u d), zPp π, (zMD D t), 147)) rfl trivial ?_
    refine z_top (b := n) (hn10) ?_
    refine z_br (n ≤ a) 88 72 [] rfl (fun h => absurd h (show ¬ (n ≤ a) from by omega)) (fun hx1 => ?_)
    refine z_n 4 (79, [(7, vi a), (6, vi b), (4, vd l), (3, vi o), (2, vi p), (0, vr 137)], [vi (f a)], ((zMS I f m u d), zPp π, (zMD D t), 147)) (G := (0 ≤ a ∧ a < 9) ∧ True) rfl ⟨by omega, trivial⟩ ?_
    refine z_br ((f a) = 0) 88 82 [] rfl (fun h => absurd h (show ¬ ((f a) = 0) from hf)) (fun hx2 => ?_)
    refine z_n 2 (63, [(7, vi (a + 1)), (6, vi b), (4, vd l), (3, vi o), (2, vi p), (0, vr 137)], [], ((zMS I f m u d), zPp π, (zMD D t), 147)) (G := (zr (a + 1)) ∧ True) rfl ⟨by omega, trivial⟩ ?_
    refine z_sub [(7, vi (a + 1)), (6, vi b), (4, vd l), (3, vi o), (2, vi p), (0, vr 137)] [0, 1, 2, 3, 4, 5] rfl ?_
    exact ih (a + 1) (by omega) (by omega) (fun x x0 x1 => by by_cases e9 : x = a; rw [e9]; exact hf; exact hx x x0 (by omega))
set_option maxRecDepth 20000 in
theorem m_ft_wA {I : zI} {π : Int → Nat} {D : zD} {n m g : Int} {s f u d : Int → Int} {t : Int → UInt64} {r : Option zV} {τ : zS} {a b p o : Int} {l : UInt64} (hn10 : I 137 10 = n) (hn : 0 ≤ n ∧ n ≤ 9) (hg : I 138 5 = g) (hgb : 0 ≤ g ∧ g ≤ 5000) (hst : ∀ j, 0 ≤ j → j < n → (0 ≤ I 141 j ∧ I 141 j < 24) ∧ I 138 (7 + I 141 j) = s j) (hsb : ∀ j, 0 ≤ j → j < n → 0 ≤ s j ∧ s j ≤ 1000) (h0 : 0 ≤ b) (hb : b < n) (hf : f b = 0) (hba : b < a) (han : a < n) (hlt : s b < s a) (ht : FP.Core.val64 (ztm s g a b) ≠ .nan) (hp : p = -1) (hk : zRuns 122 48 [(6, vi (b + 1)), (4, vd (ztm s g a b)), (3, vi a), (2, vi b), (0, vr 137)] [] ((zMS I f m u d), zPp π, (zMD D t), 147) r τ) : zRuns 122 88 [(7, vi a), (6, vi b), (4, vd l), (3, vi o), (2, vi p), (0, vr 137)] [] ((zMS I f m u d), zPp π, (zMD D t), 147) r τ := by
  have sa := hst a (by omega) han
  have sb := hst b h0 hb
  have ba := hsb a (by omega) han
  have bb := hsb b h0 (by omega)
  have hmul := zmulb (a := a - b) (b := g) (A := 10) (B := 5000) (by omega) (by omega) hgb.1 hgb.2
  refine z_n 4 (95, [(7, vi a), (6, vi b), (4, vd l), (3, vi o), (2, vi p), (0, vr 137)], [vi (f b)], ((zMS I f m u d), zPp π, (zMD D t), 147)) (G := (0 ≤ b ∧ b < 9) ∧ True) rfl ⟨by omega, trivial⟩ ?_
  refine z_br (¬ (f b) = 0) 196 98 [] rfl (fun h => absurd h (show ¬ (¬ (f b) = 0) from fun h9 => h9 hf)) (fun hx1 => ?_)
  refine z_n 3 (104, [(7, vi a), (6, vi b), (4, vd l), (3, vi o), (2, vi p), (0, vr 137)], [vi (I 137 10), vi a], ((zMS I f m u d), zPp π, (zMD D t), 147)) rfl trivial ?_
  refine z_top (b := n) (hn10) ?_
  refine z_br (n ≤ a) 196 107 [] rfl (fun h => absurd h (show ¬ (n ≤ a) from by omega)) (fun hx2 => ?_)
  refine z_n 9 (122, [(7, vi a), (6, vi b), (4, vd l), (3, vi o), (2, vi p), (0, vr 137)], [vi (I 138 (7 + (I 141 a)))], ((zMS I f m u d), zPp π, (zMD D t), 147)) (G := (0 ≤ a ∧ a < 9) ∧ (zr (7 + (I 141 a))) ∧ (0 ≤ (7 + (I 141 a)) ∧ (7 + (I 141 a)) < 585) ∧ True) rfl ⟨by omega, by omega, by omega, trivial⟩ ?_
  refine z_top (b := s a) ((hst a (by omega) (by omega)).2) ?_
  refine z_n 9 (137, [(7, vi a), (6, vi b), (4, vd l), (3, vi o), (2, vi p), (0, vr 137)], [vi (I 138 (7 + (I 141 b))), vi (s a)], ((zMS I f m u d), zPp π, (zMD D t), 147)) (G := (0 ≤ b ∧ b < 9) ∧ (zr (7 + (I 141 b))) ∧ (0 ≤ (7 + (I 141 b)) ∧ (7 + (I 141 b)) < 585) ∧ True) rfl ⟨by omega, by omega, by omega, trivial⟩ ?_
  refine z_top (b := s b) ((hst b (by omega) (by omega)).2) ?_
  refine z_n 3 (142, [(8, vi ((s a) - (s b))), (7, vi a), (6, vi b), (4, vd l), (3, vi o), (2, vi p), (0, vr 137)], [vi ((s a) - (s b))], ((zMS I f m u d), zPp π, (zMD D t), 147)) (G := (zr ((s a) - (s b))) ∧ True) rfl ⟨by omega, trivial⟩ ?_
  refine z_br (((s a) - (s b)) ≤ 0) 165 145 [] rfl (fun h => absurd h (show ¬ (((s a) - (s b)) ≤ 0) from by omega)) (fun hx3 => ?_)
  refine z_n 7 (156, [(8, vi ((s a) - (s b))), (7, vi a), (6, vi b), (4, vd l), (3, vi o), (2, vi p), (0, vr 137)], [vi (I 138 5), vi (a - b)], ((zMS I f m u d), zPp π, (zMD D t), 147)) (G := (zr (a - b)) ∧ (0 ≤ 5 ∧ 5 < 585) ∧ True) rfl ⟨by omega, by omega, trivial⟩ ?_
  refine z_top (b := g) (hg) ?_
  refine z_n 8 (170, [(9, vd (FP.ddiv (FP.i2d (Int32.ofInt ((a - b) * g))) (FP.i2d (Int32.ofInt ((s a) - (s b)))))), (8, vi ((s a) - (s b))), (7, vi a), (6, vi b), (4, vd l), (3, vi o), (2, vi p), (0, vr 137)], [vi ((s a) - (s b))], ((zMS I f m u d), zPp π, (zMD D t), 147)) (G := (zr ((a - b) * g)) ∧ (vf_n64 (FP.ddiv (FP.i2d (Int32.ofInt ((a - b) * g))) (FP.i2d (Int32.ofInt ((s a) - (s b)))))) ∧ True) rfl ⟨by omega, vf64 ht, trivial⟩ ?_
  refine z_br (((s a) - (s b)) ≤ 0) 196 173 [] rfl (fun h => absurd h (show ¬ (((s a) - (s b)) ≤ 0) from by omega)) (fun hx4 => ?_)
  refine z_n 2 (175, [(9, vd (FP.ddiv (FP.i2d (Int32.ofInt ((a - b) * g))) (FP.i2d (Int32.ofInt ((s a) - (s b)))))), (8, vi ((s a) - (s b))), (7, vi a), (6, vi b), (4, vd l), (3, vi o), (2, vi p), (0, vr 137)], [vi (-1), vi p], ((zMS I f m u d), zPp π, (zMD D t), 147)) rfl trivial ?_
  refine z_br (p = (-1)) 186 178 [] rfl (fun hx5 => ?_) (fun h => absurd (show p = (-1) from hp) h)
  refine z_n 8 (48, [(6, vi (b + 1)), (4, vd (FP.ddiv (FP.i2d (Int32.ofInt ((a - b) * g))) (FP.i2d (Int32.ofInt ((s a) - (s b)))))), (3, vi a), (2, vi b), (9, vd (FP.ddiv (FP.i2d (Int32.ofInt ((a - b) * g))) (FP.i2d (Int32.ofInt ((s a) - (s b)))))), (8, vi ((s a) - (s b))), (7, vi a), (0, vr 137)], [], ((zMS I f m u d), zPp π, (zMD D t), 147)) (G := (zr (b + 1)) ∧ True) rfl ⟨by omega, trivial⟩ ?_
  refine z_sub [(6, vi (b + 1)), (4, vd (FP.ddiv (FP.i2d (Int32.ofInt ((a - b) * g))) (FP.i2d (Int32.ofInt ((s a) - (s b)))))), (3, vi a), (2, vi b), (0, vr 137)] [0, 1, 2, 3, 7] rfl ?_
  exact hk
set_option maxRecDepth 20000 in
theorem m_ft_wB {I : zI} {π : Int → Nat} {D : zD} {n m g : Int} {s f u d : Int → Int} {t : Int → UInt64} {r : Option zV} {τ : zS} {a b p o : Int} {l : UInt64} (hn10 : I 137 10 = n) (hn : 0 ≤ n ∧ n ≤ 9) (hg : I 138 5 = g) (hgb : 0 ≤ g ∧ g ≤ 5000) (hst : ∀ j, 0 ≤ j → j < n → (0 ≤ I 141 j ∧ I 141 j < 24) ∧ I 138 (7 + I 141 j) = s j) (hsb : ∀ j, 0 ≤ j → j < n → 0 ≤ s j ∧ s j ≤ 1000) (h0 : 0 ≤ b) (hb : b < n) (hf : f b = 0) (hba : b < a) (han : a < n) (hlt : s b < s a) (ht : FP.Core.val64 (ztm s g a b) ≠ .nan) (hp : ¬ p = -1) (hln : FP.Core.val64 l ≠ .nan) (hlt2 : zdk (ztm s g a b) < zdk l) (hk : zRuns 122 48 [(6, vi (b + 1)), (4, vd (ztm s g a b)), (3, vi a), (2, vi b), (0, vr 137)] [] ((zMS I f m u d), zPp π, (zMD D t), 147) r τ) : zRuns 122 88 [(7, vi a), (6, vi b), (4, vd l), (3, vi o), (2, vi p), (0, vr 137)] [] ((zMS I f m u d), zPp π, (zMD D t), 147) r τ := by
  have sa := hst a (by omega) han
  have sb := hst b h0 hb
  have ba := hsb a (by omega) han
  have bb := hsb b h0 (by omega)
  have hmul := zmulb (a := a - b) (b := g) (A := 10) (B := 5000) (by omega) (by omega) hgb.1 hgb.2
  refine z_n 4 (95, [(7, vi a), (6, vi b), (4, vd l), (3, vi o), (2, vi p), (0, vr 137)], [vi (f b)], ((zMS I f m u d), zPp π, (zMD D t), 147)) (G := (0 ≤ b ∧ b < 9) ∧ True) rfl ⟨by omega, trivial⟩ ?_
  refine z_br (¬ (f b) = 0) 196 98 [] rfl (fun h => absurd h (show ¬ (¬ (f b) = 0) from fun h9 => h9 hf)) (fun hx1 => ?_)
  refine z_n 3 (104, [(7, vi a), (6, vi b), (4, vd l), (3, vi o), (2, vi p), (0, vr 137)], [vi (I 137 10), vi a], ((zMS I f m u d), zPp π, (zMD D t), 147)) rfl trivial ?_
  refine z_top (b := n) (hn10) ?_
  refine z_br (n ≤ a) 196 107 [] rfl (fun h => absurd h (show ¬ (n ≤ a) from by omega)) (fun hx2 => ?_)
  refine z_n 9 (122, [(7, vi a), (6, vi b), (4, vd l), (3, vi o), (2, vi p), (0, vr 137)], [vi (I 138 (7 + (I 141 a)))], ((zMS I f m u d), zPp π, (zMD D t), 147)) (G := (0 ≤ a ∧ a < 9) ∧ (zr (7 + (I 141 a))) ∧ (0 ≤ (7 + (I 141 a)) ∧ (7 + (I 141 a)) < 585) ∧ True) rfl ⟨by omega, by omega, by omega, trivial⟩ ?_
  refine z_top (b := s a) ((hst a (by omega) (by omega)).2) ?_
  refine z_n 9 (137, [(7, vi a), (6, vi b), (4, vd l), (3, vi o), (2, vi p), (0, vr 137)], [vi (I 138 (7 + (I 141 b))), vi (s a)], ((zMS I f m u d), zPp π, (zMD D t), 147)) (G := (0 ≤ b ∧ b < 9) ∧ (zr (7 + (I 141 b))) ∧ (0 ≤ (7 + (I 141 b)) ∧ (7 + (I 141 b)) < 585) ∧ True) rfl ⟨by omega, by omega, by omega, trivial⟩ ?_
  refine z_top (b := s b) ((hst b (by omega) (by omega)).2) ?_
  refine z_n 3 (142, [(8, vi ((s a) - (s b))), (7, vi a), (6, vi b), (4, vd l), (3, vi o), (2, vi p), (0, vr 137)], [vi ((s a) - (s b))], ((zMS I f m u d), zPp π, (zMD D t), 147)) (G := (zr ((s a) - (s b))) ∧ True) rfl ⟨by omega, trivial⟩ ?_
  refine z_br (((s a) - (s b)) ≤ 0) 165 145 [] rfl (fun h => absurd h (show ¬ (((s a) - (s b)) ≤ 0) from by omega)) (fun hx3 => ?_)
  refine z_n 7 (156, [(8, vi ((s a) - (s b))), (7, vi a), (6, vi b), (4, vd l), (3, vi o), (2, vi p), (0, vr 137)], [vi (I 138 5), vi (a - b)], ((zMS I f m u d), zPp π, (zMD D t), 147)) (G := (zr (a - b)) ∧ (0 ≤ 5 ∧ 5 < 585) ∧ True) rfl ⟨by omega, by omega, trivial⟩ ?_
  refine z_top (b := g) (hg) ?_
  refine z_n 8 (170, [(9, vd (FP.ddiv (FP.i2d (Int32.ofInt ((a - b) * g))) (FP.i2d (Int32.ofInt ((s a) - (s b)))))), (8, vi ((s a) - (s b))), (7, vi a), (6, vi b), (4, vd l), (3, vi o), (2, vi p), (0, vr 137)], [vi ((s a) - (s b))], ((zMS I f m u d), zPp π, (zMD D t), 147)) (G := (zr ((a - b) * g)) ∧ (vf_n64 (FP.ddiv (FP.i2d (Int32.ofInt ((a - b) * g))) (FP.i2d (Int32.ofInt ((s a) - (s b)))))) ∧ True) rfl ⟨by omega, vf64 ht, trivial⟩ ?_
  refine z_br (((s a) - (s b)) ≤ 0) 196 173 [] rfl (fun h => absurd h (show ¬ (((s a) - (s b)) ≤ 0) from by omega)) (fun hx4 => ?_)
  refine z_n 2 (175, [(9, vd (FP.ddiv (FP.i2d (Int32.ofInt ((a - b) * g))) (FP.i2d (Int32.ofInt ((s a) - (s b)))))), (8, vi ((s a) - (s b))), (7, vi a), (6, vi b), (4, vd l), (3, vi o), (2, vi p), (0, vr 137)], [vi (-1), vi p], ((zMS I f m u d), zPp π, (zMD D t), 147)) rfl trivial ?_
  refine z_br (p = (-1)) 186 178 [] rfl (fun h => absurd h (show ¬ (p = (-1)) from hp)) (fun hx5 => ?_)
  refine z_n 3 (183, [(9, vd (FP.ddiv (FP.i2d (Int32.ofInt ((a - b) * g))) (FP.i2d (Int32.ofInt ((s a) - (s b)))))), (8, vi ((s a) - (s b))), (7, vi a), (6, vi b), (4, vd l), (3, vi o), (2, vi p), (0, vr 137)], [vi ((Op.cmpValue (FP.dcmp (FP.ddiv (FP.i2d (Int32.ofInt ((a - b) * g))) (FP.i2d (Int32.ofInt ((s a) - (s b))))) l) .g).toInt)], ((zMS I f m u d), zPp π, (zMD D t), 147)) rfl trivial ?_
  refine z_br (0 ≤ ((Op.cmpValue (FP.dcmp (FP.ddiv (FP.i2d (Int32.ofInt ((a - b) * g))) (FP.i2d (Int32.ofInt ((s a) - (s b))))) l) .g).toInt)) 196 186 [] rfl (fun h => absurd h (show ¬ (0 ≤ ((Op.cmpValue (FP.dcmp (FP.ddiv (FP.i2d (Int32.ofInt ((a - b) * g))) (FP.i2d (Int32.ofInt ((s a) - (s b))))) l) .g).toInt)) from Int.not_le.mpr ((zc_cmp ht hln .g).1.mpr hlt2))) (fun hx6 => ?_)
  refine z_n 8 (48, [(6, vi (b + 1)), (4, vd (FP.ddiv (FP.i2d (Int32.ofInt ((a - b) * g))) (FP.i2d (Int32.ofInt ((s a) - (s b)))))), (3, vi a), (2, vi b), (9, vd (FP.ddiv (FP.i2d (Int32.ofInt ((a - b) * g))) (FP.i2d (Int32.ofInt ((s a) - (s b)))))), (8, vi ((s a) - (s b))), (7, vi a), (0, vr 137)], [], ((zMS I f m u d), zPp π, (zMD D t), 147)) (G := (zr (b + 1)) ∧ True) rfl ⟨by omega, trivial⟩ ?_
  refine z_sub [(6, vi (b + 1)), (4, vd (FP.ddiv (FP.i2d (Int32.ofInt ((a - b) * g))) (FP.i2d (Int32.ofInt ((s a) - (s b)))))), (3, vi a), (2, vi b), (0, vr 137)] [0, 1, 2, 3, 7] rfl ?_
  exact hk
set_option maxRecDepth 20000 in
theorem m_ft_wC {I : zI} {π : Int → Nat} {D : zD} {n m g : Int} {s f u d : Int → Int} {t : Int → UInt64} {r : Option zV} {τ : zS} {a b p o : Int} {l : UInt64} (hn10 : I 137 10 = n) (hn : 0 ≤ n ∧ n ≤ 9) (hg : I 138 5 = g) (hgb : 0 ≤ g ∧ g ≤ 5000) (hst : ∀ j, 0 ≤ j → j < n → (0 ≤ I 141 j ∧ I 141 j < 24) ∧ I 138 (7 + I 141 j) = s j) (hsb : ∀ j, 0 ≤ j → j < n → 0 ≤ s j ∧ s j ≤ 1000) (h0 : 0 ≤ b) (hb : b < n) (hf : f b = 0) (hba : b < a) (han : a < n) (hlt : s b < s a) (ht : FP.Core.val64 (ztm s g a b) ≠ .nan) (hp : ¬ p = -1) (hln : FP.Core.val64 l ≠ .nan) (hlt2 : ¬ zdk (ztm s g a b) < zdk l) (hk : zRuns 122 48 [(6, vi (b + 1)), (4, vd l), (3, vi o), (2, vi p), (0, vr 137)] [] ((zMS I f m u d), zPp π, (zMD D t), 147) r τ) : zRuns 122 88 [(7, vi a), (6, vi b), (4, vd l), (3, vi o), (2, vi p), (0, vr 137)] [] ((zMS I f m u d), zPp π, (zMD D t), 147) r τ := by
  have sa := hst a (by omega) han
  have sb := hst b h0 hb
  have ba := hsb a (by omega) han
  have bb := hsb b h0 (by omega)
  have hmul := zmulb (a := a - b) (b := g) (A := 10) (B := 5000) (by omega) (by omega) hgb.1 hgb.2
  refine z_n 4 (95, [(7, vi a), (6, vi b), (4, vd l), (3, vi o), (2, vi p), (0, vr 137)], [vi (f b)], ((zMS I f m u d), zPp π, (zMD D t), 147)) (G := (0 ≤ b ∧ b < 9) ∧ True) rfl ⟨by omega, trivial⟩ ?_
  refine z_br (¬ (f b) = 0) 196 98 [] rfl (fun h => absurd h (show ¬ (¬ (f b) = 0) from fun h9 => h9 hf)) (fun hx1 => ?_)
  refine z_n 3 (104, [(7, vi a), (6, vi b), (4, vd l), (3, vi o), (2, vi p), (0, vr 137)], [vi (I 137 10), vi a], ((zMS I f m u d), zPp π, (zMD D t), 147)) rfl trivial ?_
  refine z_top (b := n) (hn10) ?_
  refine z_br (n ≤ a) 196 107 [] rfl (fun h => absurd h (show ¬ (n ≤ a) from by omega)) (fun hx2 => ?_)
  refine z_n 9 (122, [(7, vi a), (6, vi b), (4, vd l), (3, vi o), (2, vi p), (0, vr 137)], [vi (I 138 (7 + (I 141 a)))], ((zMS I f m u d), zPp π, (zMD D t), 147)) (G := (0 ≤ a ∧ a < 9) ∧ (zr (7 + (I 141 a))) ∧ (0 ≤ (7 + (I 141 a)) ∧ (7 + (I 141 a)) < 585) ∧ True) rfl ⟨by omega, by omega, by omega, trivial⟩ ?_
  refine z_top (b := s a) ((hst a (by omega) (by omega)).2) ?_
  refine z_n 9 (137, [(7, vi a), (6, vi b), (4, vd l), (3, vi o), (2, vi p), (0, vr 137)], [vi (I 138 (7 + (I 141 b))), vi (s a)], ((zMS I f m u d), zPp π, (zMD D t), 147)) (G := (0 ≤ b ∧ b < 9) ∧ (zr (7 + (I 141 b))) ∧ (0 ≤ (7 + (I 141 b)) ∧ (7 + (I 141 b)) < 585) ∧ True) rfl ⟨by omega, by omega, by omega, trivial⟩ ?_
  refine z_top (b := s b) ((hst b (by omega) (by omega)).2) ?_
  refine z_n 3 (142, [(8, vi ((s a) - (s b))), (7, vi a), (6, vi b), (4, vd l), (3, vi o), (2, vi p), (0, vr 137)], [vi ((s a) - (s b))], ((zMS I f m u d), zPp π, (zMD D t), 147)) (G := (zr ((s a) - (s b))) ∧ True) rfl ⟨by omega, trivial⟩ ?_
  refine z_br (((s a) - (s b)) ≤ 0) 165 145 [] rfl (fun h => absurd h (show ¬ (((s a) - (s b)) ≤ 0) from by omega)) (fun hx3 => ?_)
  refine z_n 7 (156, [(8, vi ((s a) - (s b))), (7, vi a), (6, vi b), (4, vd l), (3, vi o), (2, vi p), (0, vr 137)], [vi (I 138 5), vi (a - b)], ((zMS I f m u d), zPp π, (zMD D t), 147)) (G := (zr (a - b)) ∧ (0 ≤ 5 ∧ 5 < 585) ∧ True) rfl ⟨by omega, by omega, trivial⟩ ?_
  refine z_top (b := g) (hg) ?_
  refine z_n 8 (170, [(9, vd (FP.ddiv (FP.i2d (Int32.ofInt ((a - b) * g))) (FP.i2d (Int32.ofInt ((s a) - (s b)))))), (8, vi ((s a) - (s b))), (7, vi a), (6, vi b), (4, vd l), (3, vi o), (2, vi p), (0, vr 137)], [vi ((s a) - (s b))], ((zMS I f m u d), zPp π, (zMD D t), 147)) (G := (zr ((a - b) * g)) ∧ (vf_n64 (FP.ddiv (FP.i2d (Int32.ofInt ((a - b) * g))) (FP.i2d (Int32.ofInt ((s a) - (s b)))))) ∧ True) rfl ⟨by omega, vf64 ht, trivial⟩ ?_
  refine z_br (((s a) - (s b)) ≤ 0) 196 173 [] rfl (fun h => absurd h (show ¬ (((s a) - (s b)) ≤ 0) from by omega)) (fun hx4 => ?_)
  refine z_n 2 (175, [(9, vd (FP.ddiv (FP.i2d (Int32.ofInt ((a - b) * g))) (FP.i2d (Int32.ofInt ((s a) - (s b)))))), (8, vi ((s a) - (s b))), (7, vi a), (6, vi b), (4, vd l), (3, vi o), (2, vi p), (0, vr 137)], [vi (-1), vi p], ((zMS I f m u d), zPp π, (zMD D t), 147)) rfl trivial ?_
  refine z_br (p = (-1)) 186 178 [] rfl (fun h => absurd h (show ¬ (p = (-1)) from hp)) (fun hx5 => ?_)
  refine z_n 3 (183, [(9, vd (FP.ddiv (FP.i2d (Int32.ofInt ((a - b) * g))) (FP.i2d (Int32.ofInt ((s a) - (s b)))))), (8, vi ((s a) - (s b))), (7, vi a), (6, vi b), (4, vd l), (3, vi o), (2, vi p), (0, vr 137)], [vi ((Op.cmpValue (FP.dcmp (FP.ddiv (FP.i2d (Int32.ofInt ((a - b) * g))) (FP.i2d (Int32.ofInt ((s a) - (s b))))) l) .g).toInt)], ((zMS I f m u d), zPp π, (zMD D t), 147)) rfl trivial ?_
  refine z_br (0 ≤ ((Op.cmpValue (FP.dcmp (FP.ddiv (FP.i2d (Int32.ofInt ((a - b) * g))) (FP.i2d (Int32.ofInt ((s a) - (s b))))) l) .g).toInt)) 196 186 [] rfl (fun hx6 => ?_) (fun h => absurd (show 0 ≤ ((Op.cmpValue (FP.dcmp (FP.ddiv (FP.i2d (Int32.ofInt ((a - b) * g))) (FP.i2d (Int32.ofInt ((s a) - (s b))))) l) .g).toInt) from Int.not_lt.mp (fun h9 => hlt2 ((zc_cmp ht hln .g).1.mp h9))) h)
  refine z_n 2 (48, [(6, vi (b + 1)), (9, vd (FP.ddiv (FP.i2d (Int32.ofInt ((a - b) * g))) (FP.i2d (Int32.ofInt ((s a) - (s b)))))), (8, vi ((s a) - (s b))), (7, vi a), (4, vd l), (3, vi o), (2, vi p), (0, vr 137)], [], ((zMS I f m u d), zPp π, (zMD D t), 147)) (G := (zr (b + 1)) ∧ True) rfl ⟨by omega, trivial⟩ ?_
  refine z_sub [(6, vi (b + 1)), (4, vd l), (3, vi o), (2, vi p), (0, vr 137)] [0, 4, 5, 6, 7] rfl ?_
  exact hk
set_option maxRecDepth 20000 in
theorem m_ft_wD {I : zI} {π : Int → Nat} {D : zD} {n m g : Int} {s f u d : Int → Int} {t : Int → UInt64} {r : Option zV} {τ : zS} {a b p o : Int} {l : UInt64} (hn10 : I 137 10 = n) (hn : 0 ≤ n ∧ n ≤ 9) (hg : I 138 5 = g) (hgb : 0 ≤ g ∧ g ≤ 5000) (hst : ∀ j, 0 ≤ j → j < n → (0 ≤ I 141 j ∧ I 141 j < 24) ∧ I 138 (7 + I 141 j) = s j) (hsb : ∀ j, 0 ≤ j → j < n → 0 ≤ s j ∧ s j ≤ 1000) (h0 : 0 ≤ b) (hb : b < n) (hf : f b = 0) (hba : b < a) (han : a < n) (hlt : ¬ s b < s a) (hk : zRuns 122 48 [(6, vi (b + 1)), (4, vd l), (3, vi o), (2, vi p), (0, vr 137)] [] ((zMS I f m u d), zPp π, (zMD D t), 147) r τ) : zRuns 122 88 [(7, vi a), (6, vi b), (4, vd l), (3, vi o), (2, vi p), (0, vr 137)] [] ((zMS I f m u d), zPp π, (zMD D t), 147) r τ := by
  have sa := hst a (by omega) han
  have sb := hst b h0 hb
  have ba := hsb a (by omega) han
  have bb := hsb b h0 (by omega)
  have hmul := zmulb (a := a - b) (b := g) (A := 10) (B := 5000) (by omega) (by omega) hgb.1 hgb.2
  refine z_n 4 (95, [(7, vi a), (6, vi b), (4, vd l), (3, vi o), (2, vi p), (0, vr 137)], [vi (f b)], ((zMS I f m u d), zPp π, (zMD D t), 147)) (G := (0 ≤ b ∧ b < 9) ∧ True) rfl ⟨by omega, trivial⟩ ?_
  refine z_br (¬ (f b) = 0) 196 98 [] rfl (fun h => absurd h (show ¬ (¬ (f b) = 0) from fun h9 => h9 hf)) (fun hx1 => ?_)
  refine z_n 3 (104, [(7, vi a), (6, vi b), (4, vd l), (3, vi o), (2, vi p), (0, vr 137)], [vi (I 137 10), vi a], ((zMS I f m u d), zPp π, (zMD D t), 147)) rfl trivial ?_
  refine z_top (b := n) (hn10) ?_
  refine z_br (n ≤ a) 196 107 [] rfl (fun h => absurd h (show ¬ (n ≤ a) from by omega)) (fun hx2 => ?_)
  refine z_n 9 (122, [(7, vi a), (6, vi b), (4, vd l), (3, vi o), (2, vi p), (0, vr 137)], [vi (I 138 (7 + (I 141 a)))], ((zMS I f m u d), zPp π, (zMD D t), 147)) (G := (0 ≤ a ∧ a < 9) ∧ (zr (7 + (I 141 a))) ∧ (0 ≤ (7 + (I 141 a)) ∧ (7 + (I 141 a)) < 585) ∧ True) rfl ⟨by omega, by omega, by omega, trivial⟩ ?_
  refine z_top (b := s a) ((hst a (by omega) (by omega)).2) ?_
  refine z_n 9 (137, [(7, vi a), (6, vi b), (4, vd l), (3, vi o), (2, vi p), (0, vr 137)], [vi (I 138 (7 + (I 141 b))), vi (s a)], ((zMS I f m u d), zPp π, (zMD D t), 147)) (G := (0 ≤ b ∧ b < 9) ∧ (zr (7 + (I 141 b))) ∧ (0 ≤ (7 + (I 141 b)) ∧ (7 + (I 141 b)) < 585) ∧ True) rfl ⟨by omega, by omega, by omega, trivial⟩ ?_
  refine z_top (b := s b) ((hst b (by omega) (by omega)).2) ?_
  refine z_n 3 (142, [(8, vi ((s a) - (s b))), (7, vi a), (6, vi b), (4, vd l), (3, vi o), (2, vi p), (0, vr 137)], [vi ((s a) - (s b))], ((zMS I f m u d), zPp π, (zMD D t), 147)) (G := (zr ((s a) - (s b))) ∧ True) rfl ⟨by omega, trivial⟩ ?_
  refine z_br (((s a) - (s b)) ≤ 0) 165 145 [] rfl (fun hx3 => ?_) (fun h => absurd (show ((s a) - (s b)) ≤ 0 from by omega) h)
  refine z_n 3 (170, [(9, vd FP.dconst0), (8, vi ((s a) - (s b))), (7, vi a), (6, vi b), (4, vd l), (3, vi o), (2, vi p), (0, vr 137)], [vi ((s a) - (s b))], ((zMS I f m u d), zPp π, (zMD D t), 147)) rfl trivial ?_
  refine z_br (((s a) - (s b)) ≤ 0) 196 173 [] rfl (fun hx4 => ?_) (fun h => absurd (show ((s a) - (s b)) ≤ 0 from by omega) h)
  refine z_n 2 (48, [(6, vi (b + 1)), (9, vd FP.dconst0), (8, vi ((s a) - (s b))), (7, vi a), (4, vd l), (3, vi o), (2, vi p), (0, vr 137)], [], ((zMS I f m u d), zPp π, (zMD D t), 147)) (G := (zr (b + 1)) ∧ True) rfl ⟨by omega, trivial⟩ ?_
  refine z_sub [(6, vi (b + 1)), (4, vd l), (3, vi o), (2, vi p), (0, vr 137)] [0, 4, 5, 6, 7] rfl ?_
  exact hk
set_option maxRecDepth 20000 in
theorem m_ft_wN {I : zI} {π : Int → Nat} {D : zD} {n m g : Int} {s f u d : Int → Int} {t : Int → UInt64} {r : Option zV} {τ : zS} {a b p o : Int} {l : UInt64} (hn10 : I 137 10 = n) (hn : 0 ≤ n ∧ n ≤ 9) (hg : I 138 5 = g) (hgb : 0 ≤ g ∧ g ≤ 5000) (hst : ∀ j, 0 ≤ j → j < n → (0 ≤ I 141 j ∧ I 141 j < 24) ∧ I 138 (7 + I 141 j) = s j) (hsb : ∀ j, 0 ≤ j → j < n → 0 ≤ s j ∧ s j ≤ 1000) (h0 : 0 ≤ b) (hb : b < n) (hf : f b = 0) (han : ¬ a < n) (hk : zRuns 122 48 [(6, vi (b + 1)), (4, vd l), (3, vi o), (2, vi p), (0, vr 137)] [] ((zMS I f m u d), zPp π, (zMD D t), 147) r τ) : zRuns 122 88 [(7, vi a), (6, vi b), (4, vd l), (3, vi o), (2, vi p), (0, vr 137)] [] ((zMS I f m u d), zPp π, (zMD D t), 147) r τ := by
  refine z_n 4 (95, [(7, vi a), (6, vi b), (4, vd l), (3, vi o), (2, vi p), (0, vr 137)], [vi (f b)], ((zMS I f m u d), zPp π, (zMD D t), 147)) (G := (0 ≤ b ∧ b < 9) ∧ True) rfl ⟨by omega, trivial⟩ ?_
  refine z_br (¬ (f b) = 0) 196 98 [] rfl (fun h => absurd h (show ¬ (¬ (f b) = 0) from fun h9 => h9 hf)) (fun hx1 => ?_)
  refine z_n 3 (104, [(7, vi a), (6, vi b), (4, vd l), (3, vi o), (2, vi p), (0, vr 137)], [vi (I 137 10), vi a], ((zMS I f m u d), zPp π, (zMD D t), 147)) rfl trivial ?_
  refine z_top (b := n) (hn10) ?_
  refine z_br (n ≤ a) 196 107 [] rfl (fun hx2 => ?_) (fun h => absurd (show n ≤ a from by omega) h)
  refine z_n 2 (48, [(6, vi (b + 1)), (7, vi a), (4, vd l), (3, vi o), (2, vi p), (0, vr 137)], [], ((zMS I f m u d), zPp π, (zMD D t), 147)) (G := (zr (b + 1)) ∧ True) rfl ⟨by omega, trivial⟩ ?_
  refine z_sub [(6, vi (b + 1)), (4, vd l), (3, vi o), (2, vi p), (0, vr 137)] [0, 2, 3, 4, 5] rfl ?_
  exact hk
set_option maxRecDepth 20000 in
theorem m_ft_wO {I : zI} {π : Int → Nat} {D : zD} {n m g : Int} {s f u d : Int → Int} {t : Int → UInt64} {r : Option zV} {τ : zS} {a b p o : Int} {l : UInt64} (hn10 : I 137 10 = n) (hn : 0 ≤ n ∧ n ≤ 9) (hg : I 138 5 = g) (hgb : 0 ≤ g ∧ g ≤ 5000) (hst : ∀ j, 0 ≤ j → j < n → (0 ≤ I 141 j ∧ I 141 j < 24) ∧ I 138 (7 + I 141 j) = s j) (hsb : ∀ j, 0 ≤ j → j < n → 0 ≤ s j ∧ s j ≤ 1000) (h0 : 0 ≤ b) (hb : b < n) (hf : ¬ f b = 0) (hk : zRuns 122 48 [(6, vi (b + 1)), (4, vd l), (3, vi o), (2, vi p), (0, vr 137)] [] ((zMS I f m u d), zPp π, (zMD D t), 147) r τ) : zRuns 122 88 [(7, vi a), (6, vi b), (4, vd l), (3, vi o), (2, vi p), (0, vr 137)] [] ((zMS I f m u d), zPp π, (zMD D t), 147) r τ := by
  refine z_n 4 (95, [(7, vi a), (6, vi b), (4, vd l), (3, vi o), (2, vi p), (0, vr 137)], [vi (f b)], ((zMS I f m u d), zPp π, (zMD D t), 147)) (G := (0 ≤ b ∧ b < 9) ∧ True) rfl ⟨by omega, trivial⟩ ?_
  refine z_br (¬ (f b) = 0) 196 98 [] rfl (fun hx1 => ?_) (fun h => absurd (show ¬ (f b) = 0 from hf) h)
  refine z_n 2 (48, [(6, vi (b + 1)), (7, vi a), (4, vd l), (3, vi o), (2, vi p), (0, vr 137)], [], ((zMS I f m u d), zPp π, (zMD D t), 147)) (G := (zr (b + 1)) ∧ True) rfl ⟨by omega, trivial⟩ ?_
  refine z_sub [(6, vi (b + 1)), (4, vd l), (3, vi o), (2, vi p), (0, vr 137)] [0, 2, 3, 4, 5] rfl ?_
  exact hk
theorem zQr_nn {X l : UInt64} {p o : Int} {q : zq4} (h : zQr X p o l q) (hp : ¬ p = -1) : FP.Core.val64 l ≠ .nan := by
  rcases h with ⟨h1, h2, h3⟩ | ⟨h1, h2, h3, h4, h5, h6, h7⟩
  · rcases h3 with h3 | h3
    · exact absurd h3 hp
    · exact h3.2.2
  · exact h7
set_option maxRecDepth 20000 in
theorem m_ft_s {I : zI} {π : Int → Nat} {D : zD} {n m g : Int} {s f u d : Int → Int} {t : Int → UInt64} {r : Option zV} {τ : zS} {X : UInt64} (hn10 : I 137 10 = n) (hn : 0 ≤ n ∧ n ≤ 9) (hX : FP.Core.val64 X ≠ .nan) (hg : I 138 5 = g) (hgb : 0 ≤ g ∧ g ≤ 5000) (hst : ∀ j, 0 ≤ j → j < n → (0 ≤ I 141 j ∧ I 141 j < 24) ∧ I 138 (7 + I 141 j) = s j) (hsb : ∀ j, 0 ≤ j → j < n → 0 ≤ s j ∧ s j ≤ 1000) (hk : ∀ p o l, zQr X p o l (zsc s f g X n.toNat) → zRuns 122 202 [(4, vd l), (3, vi o), (2, vi p), (0, vr 137)] [] ((zMS I f m u d), zPp π, (zMD D t), 147) r τ) : ∀ (N : Nat) (b p o : Int) (l : UInt64), 0 ≤ b → b + N = n → zMR s f g n X b p o l → zRuns 122 48 [(6, vi b), (4, vd l), (3, vi o), (2, vi p), (0, vr 137)] [] ((zMS I f m u d), zPp π, (zMD D t), 147) r τ := by
  intro N
  induction N with
  | zero =>
    intro b p o l h0 hN hv
    refine z_n 3 (54, [(6, vi b), (4, vd l), (3, vi o), (2, vi p), (0, vr 137)], [vi (I 137 10), vi b], ((zMS I f m u d), zPp π, (zMD D t), 147)) rfl trivial ?_
    refine z_top (b := n) (hn10) ?_
    refine z_br (n ≤ b) 202 57 [] rfl (fun hx1 => ?_) (fun h => absurd (show n ≤ b from by omega) h)
    refine z_sub [(4, vd l), (3, vi o), (2, vi p), (0, vr 137)] [1, 2, 3, 4] rfl ?_
    exact hk p o l (zMR_e (by rw [show b = n by omega] at hv; exact hv))
  | succ N ih =>
  intro b p o l h0 hN hv
  have hbn : b < n := by omega
  have hln : ¬ p = -1 → FP.Core.val64 l ≠ .nan := fun hp => by obtain ⟨e, -, he⟩ := hv; exact zQr_nn he hp
  refine z_n 3 (54, [(6, vi b), (4, vd l), (3, vi o), (2, vi p), (0, vr 137)], [vi (I 137 10), vi b], ((zMS I f m u d), zPp π, (zMD D t), 147)) rfl trivial ?_
  refine z_top (b := n) (hn10) ?_
  refine z_br (n ≤ b) 202 57 [] rfl (fun h => absurd h (show ¬ (n ≤ b) from by omega)) (fun hx1 => ?_)
  refine z_n 4 (63, [(7, vi (b + 1)), (6, vi b), (4, vd l), (3, vi o), (2, vi p), (0, vr 137)], [], ((zMS I f m u d), zPp π, (zMD D t), 147)) (G := (zr (b + 1)) ∧ True) rfl ⟨by omega, trivial⟩ ?_
  refine z_sub [(7, vi (b + 1)), (6, vi b), (4, vd l), (3, vi o), (2, vi p), (0, vr 137)] [0, 1, 2, 3, 4, 5] rfl ?_
  refine m_ft_n (s := s) (g := g) hn10 hn h0 (fun a ha => ?_) (n - b - 1).toNat (b + 1) (by omega) (by omega) (fun x x0 x1 => by omega)
  have ha1 := ha.1.1
  by_cases hf : f b = 0
  · by_cases han : a < n
    · have ht : s b < s a → FP.Core.val64 (ztm s g a b) ≠ .nan := fun hlt => zfn (zdd (by have := hsb a (by omega) han; have := hsb b h0 hbn; omega) (by omega))
      have hq := zMR_p hX hv h0 hbn hf ha han ht
      unfold zm1 at hq
      by_cases hlt : s b < s a
      · by_cases hp : p = -1
        · refine m_ft_wA hn10 hn hg hgb hst hsb h0 hbn hf ha1 han hlt (ht hlt) hp (ih (b + 1) _ _ _ (by omega) (by omega) ?_)
          rw [if_pos ⟨hlt, Or.inl hp⟩] at hq; exact hq
        · by_cases hlt2 : zdk (ztm s g a b) < zdk l
          · refine m_ft_wB hn10 hn hg hgb hst hsb h0 hbn hf ha1 han hlt (ht hlt) hp (hln hp) hlt2 (ih (b + 1) _ _ _ (by omega) (by omega) ?_)
            rw [if_pos ⟨hlt, Or.inr hlt2⟩] at hq; exact hq
          · refine m_ft_wC hn10 hn hg hgb hst hsb h0 hbn hf ha1 han hlt (ht hlt) hp (hln hp) hlt2 (ih (b + 1) _ _ _ (by omega) (by omega) ?_)
            rw [if_neg (fun h9 => h9.2.elim hp hlt2)] at hq; exact hq
      · refine m_ft_wD hn10 hn hg hgb hst hsb h0 hbn hf ha1 han hlt (ih (b + 1) _ _ _ (by omega) (by omega) ?_)
        rw [if_neg (fun h9 => hlt h9.1)] at hq; exact hq
    · exact m_ft_wN hn10 hn hg hgb hst hsb h0 hbn hf han (ih (b + 1) _ _ _ (by omega) (by omega) (zMR_n hv h0 hbn hf (by rw [show a = n by have := ha.1; omega] at ha; exact ha)))
  · exact m_ft_wO hn10 hn hg hgb hst hsb h0 hbn hf (ih (b + 1) _ _ _ (by omega) (by omega) (zMR_o hv hbn hf))
set_option maxRecDepth 20000 in
theorem m_ft_y {I : zI} {π : Int → Nat} {D : zD} {M L : Int} {F U V : Int → Int} {W : Int → UInt64} {r : Option zV} {τ : zS} {p o : Int} {l : UInt64} (h6 : I 138 6 = L) (hM : 0 ≤ M ∧ M < 4) (hp : 0 ≤ p ∧ p < 9) (ho : 0 ≤ o ∧ o < 9) (hc : ¬ 0 < (Op.cmpValue (FP.dcmp l (FP.i2d (Int32.ofInt L))) .g).toInt) (hk : zRuns 122 34 [(1, vi 1), (0, vr 137)] [] ((zMS I (zu1 (zu1 F o 1) p 1) (M + 1) (zu1 U M o) (zu1 V M p)), zPp π, zMD D (zuD W M l), 147) r τ) : zRuns 122 202 [(4, vd l), (3, vi o), (2, vi p), (0, vr 137)] [] ((zMS I F M U V), zPp π, (zMD D W), 147) r τ := by
  refine z_n 2 (204, [(4, vd l), (3, vi o), (2, vi p), (0, vr 137)], [vi (-1), vi p], ((zMS I F M U V), zPp π, (zMD D W), 147)) rfl trivial ?_
  refine z_br (p = (-1)) 225 207 [] rfl (fun h => absurd h (show ¬ (p = (-1)) from by omega)) (fun hx1 => ?_)
  refine z_n 5 (216, [(4, vd l), (3, vi o), (2, vi p), (0, vr 137)], [vi (I 138 6), vd l], ((zMS I F M U V), zPp π, (zMD D W), 147)) (G := (0 ≤ 6 ∧ 6 < 585) ∧ True) rfl ⟨by omega, trivial⟩ ?_
  refine z_top (b := L) (h6) ?_
  refine z_n 2 (218, [(4, vd l), (3, vi o), (2, vi p), (0, vr 137)], [vi ((Op.cmpValue (FP.dcmp l (FP.i2d (Int32.ofInt L))) .g).toInt)], ((zMS I F M U V), zPp π, (zMD D W), 147)) rfl trivial ?_
  refine z_br (0 < ((Op.cmpValue (FP.dcmp l (FP.i2d (Int32.ofInt L))) .g).toInt)) 225 221 [] rfl (fun h => absurd h (show ¬ (0 < ((Op.cmpValue (FP.dcmp l (FP.i2d (Int32.ofInt L))) .g).toInt)) from hc)) (fun hx2 => ?_)
  refine z_n 4 (228, [(1, vi 1), (4, vd l), (3, vi o), (2, vi p), (0, vr 137)], [vi 1], ((zMS I F M U V), zPp π, (zMD D W), 147)) rfl trivial ?_
  refine z_br ((1 : Int) = 0) 286 231 [] rfl (fun h => absurd h (show ¬ ((1 : Int) = 0) from by decide)) (fun hx3 => ?_)
  refine z_n 4 (239, [(1, vi 1), (4, vd l), (3, vi o), (2, vi p), (0, vr 137)], [vi M, vr 143], ((zMS I F M U V), zPp π, (zMD D W), 147)) rfl trivial ?_
  refine z_top (b := M) (rfl) ?_
  refine z_n 6 (249, [(1, vi 1), (4, vd l), (3, vi o), (2, vi p), (0, vr 137)], [vi M, vr 144], ((zup (zMS I F M U V) 143 M o), zPp π, (zMD D W), 147)) (G := (0 ≤ M ∧ M < 4) ∧ True) rfl ⟨by omega, trivial⟩ ?_
  refine z_top (b := M) (rfl) ?_
  refine z_n 6 (259, [(1, vi 1), (4, vd l), (3, vi o), (2, vi p), (0, vr 137)], [vi M, vr 145], ((zup (zup (zMS I F M U V) 143 M o) 144 M p), zPp π, (zMD D W), 147)) (G := (0 ≤ M ∧ M < 4) ∧ True) rfl ⟨by omega, trivial⟩ ?_
  refine z_top (b := M) (rfl) ?_
  refine z_n 5 (267, [(1, vi 1), (4, vd l), (3, vi o), (2, vi p), (0, vr 137)], [vi M, vr 137], ((zup (zup (zMS I F M U V) 143 M o) 144 M p), zPp π, (zupD (zMD D W) 145 M l), 147)) (G := (0 ≤ M ∧ M < 4) ∧ True) rfl ⟨by omega, trivial⟩ ?_
  refine z_top (b := M) (rfl) ?_
  refine z_n 14 (34, [(1, vi 1), (4, vd l), (3, vi o), (2, vi p), (0, vr 137)], [], ((zup (zup (zup (zup (zup (zMS I F M U V) 143 M o) 144 M p) 137 15 (M + 1)) 142 p 1) 142 o 1), zPp π, (zupD (zMD D W) 145 M l), 147)) (G := (zr (M + 1)) ∧ ((0 ≤ p ∧ p < 9) ∧ (1 = 0 ∨ 1 = 1)) ∧ ((0 ≤ o ∧ o < 9) ∧ (1 = 0 ∨ 1 = 1)) ∧ True) rfl ⟨by omega, ⟨⟨by omega, by omega⟩, Or.inr rfl⟩, ⟨⟨by omega, by omega⟩, Or.inr rfl⟩, trivial⟩ ?_
  refine z_sub [(1, vi 1), (0, vr 137)] [0, 4] rfl ?_
  refine z_st (σ1 := ((zMS I (zu1 (zu1 F o 1) p 1) (M + 1) (zu1 U M o) (zu1 V M p)), zPp π, zMD D (zuD W M l), 147)) (by rw [zMS_143, zMS_144, zMS_m, zMS_142, zMS_142, zMD_145, zu1_c]) ?_
  exact hk
set_option maxRecDepth 20000 in
theorem m_ft_z1 {I : zI} {π : Int → Nat} {D : zD} {M : Int} {F U V : Int → Int} {W : Int → UInt64} {p o : Int} {l : UInt64} (hp : p = -1) : zRuns 122 202 [(4, vd l), (3, vi o), (2, vi p), (0, vr 137)] [] ((zMS I F M U V), zPp π, (zMD D W), 147) none ((zMS I F M U V), zPp π, (zMD D W), 147) := by
  refine z_n 2 (204, [(4, vd l), (3, vi o), (2, vi p), (0, vr 137)], [vi (-1), vi p], ((zMS I F M U V), zPp π, (zMD D W), 147)) rfl trivial ?_
  refine z_br (p = (-1)) 225 207 [] rfl (fun hx1 => ?_) (fun h => absurd (show p = (-1) from hp) h)
  refine z_n 3 (228, [(1, vi 0), (4, vd l), (3, vi o), (2, vi p), (0, vr 137)], [vi 0], ((zMS I F M U V), zPp π, (zMD D W), 147)) rfl trivial ?_
  refine z_br ((0 : Int) = 0) 286 231 [] rfl (fun hx2 => ?_) (fun h => absurd (show (0 : Int) = 0 from by decide) h)
  refine z_n 2 (35, [(1, vi 0), (4, vd l), (3, vi o), (2, vi p), (0, vr 137)], [vi 0], ((zMS I F M U V), zPp π, (zMD D W), 147)) rfl trivial ?_
  refine z_br ((0 : Int) = 0) 289 38 [] rfl (fun hx3 => ?_) (fun h => absurd (show (0 : Int) = 0 from by decide) h)
  exact z_ret rfl rfl rfl
set_option maxRecDepth 20000 in
theorem m_ft_z2 {I : zI} {π : Int → Nat} {D : zD} {M L : Int} {F U V : Int → Int} {W : Int → UInt64} {p o : Int} {l : UInt64} (h6 : I 138 6 = L) (hp : 0 ≤ p) (hc : 0 < (Op.cmpValue (FP.dcmp l (FP.i2d (Int32.ofInt L))) .g).toInt) : zRuns 122 202 [(4, vd l), (3, vi o), (2, vi p), (0, vr 137)] [] ((zMS I F M U V), zPp π, (zMD D W), 147) none ((zMS I F M U V), zPp π, (zMD D W), 147) := by
  refine z_n 2 (204, [(4, vd l), (3, vi o), (2, vi p), (0, vr 137)], [vi (-1), vi p], ((zMS I F M U V), zPp π, (zMD D W), 147)) rfl trivial ?_
  refine z_br (p = (-1)) 225 207 [] rfl (fun h => absurd h (show ¬ (p = (-1)) from by omega)) (fun hx1 => ?_)
  refine z_n 5 (216, [(4, vd l), (3, vi o), (2, vi p), (0, vr 137)], [vi (I 138 6), vd l], ((zMS I F M U V), zPp π, (zMD D W), 147)) (G := (0 ≤ 6 ∧ 6 < 585) ∧ True) rfl ⟨by omega, trivial⟩ ?_
  refine z_top (b := L) (h6) ?_
  refine z_n 2 (218, [(4, vd l), (3, vi o), (2, vi p), (0, vr 137)], [vi ((Op.cmpValue (FP.dcmp l (FP.i2d (Int32.ofInt L))) .g).toInt)], ((zMS I F M U V), zPp π, (zMD D W), 147)) rfl trivial ?_
  refine z_br (0 < ((Op.cmpValue (FP.dcmp l (FP.i2d (Int32.ofInt L))) .g).toInt)) 225 221 [] rfl (fun hx2 => ?_) (fun h => absurd (show 0 < ((Op.cmpValue (FP.dcmp l (FP.i2d (Int32.ofInt L))) .g).toInt) from hc) h)
  refine z_n 3 (228, [(1, vi 0), (4, vd l), (3, vi o), (2, vi p), (0, vr 137)], [vi 0], ((zMS I F M U V), zPp π, (zMD D W), 147)) rfl trivial ?_
  refine z_br ((0 : Int) = 0) 286 231 [] rfl (fun hx3 => ?_) (fun h => absurd (show (0 : Int) = 0 from by decide) h)
  refine z_n 2 (35, [(1, vi 0), (4, vd l), (3, vi o), (2, vi p), (0, vr 137)], [vi 0], ((zMS I F M U V), zPp π, (zMD D W), 147)) rfl trivial ?_
  refine z_br ((0 : Int) = 0) 289 38 [] rfl (fun hx4 => ?_) (fun h => absurd (show (0 : Int) = 0 from by decide) h)
  exact z_ret rfl rfl rfl
theorem zfi_cnt {n : Int} {s : Int → Int} {g : Int} {X : UInt64} {A0 : zFA} (hn : 0 ≤ n) (h0 : ∀ j, 0 ≤ j → j < n → A0.1 j = 0) (hm : A0.2.1 = 0) : ∀ k : Nat, (zfi n s g X A0 k).2.1 = k → zcpp (fun j => ¬ (zfi n s g X A0 k).1 j = 0) n.toNat = 2 * k
  | 0, _ => by
    have key : ∀ m : Nat, (m : Int) ≤ n → zcpp (fun j => ¬ A0.1 j = 0) m = 0 := by
      intro m
      induction m with
      | zero => intro _; rfl
      | succ m ih =>
        intro hmn
        show zcpp (fun j => ¬ A0.1 j = 0) m + @ite Int (¬ A0.1 m = 0) (Classical.propDecidable _) 1 0 = 0
        rw [ih (by omega), if_neg (fun h => h (h0 m (by omega) (by omega)))]
        rfl
    exact key n.toNat (by omega)
  | k + 1, hk => by
    have ihm := zfi_m (n := n) (s := s) (g := g) (X := X) hm k
    have hk' : (zf1 n s g X (zfi n s g X A0 k)).2.1 = ((k + 1 : Nat) : Int) := hk
    show zcpp (fun j => ¬ (zf1 n s g X (zfi n s g X A0 k)).1 j = 0) n.toNat = 2 * ((k + 1 : Nat) : Int)
    have ih := zfi_cnt (s := s) (g := g) (X := X) hn h0 hm k
    generalize zfi n s g X A0 k = B at ihm hk' ih ⊢
    unfold zf1 at hk' ⊢
    by_cases hq : (zsc s B.1 g X n.toNat).1 = -1
    · rw [if_pos hq] at hk'
      omega
    · rw [if_neg hq] at hk' ⊢
      have hk2 : B.2.1 + 1 = ((k + 1 : Nat) : Int) := hk'
      have hb := zsc_b (s := s) (f := B.1) (g := g) (X := X) n.toNat
      have ho := (zsc_o (s := s) (f := B.1) (g := g) (X := X) n.toNat).2.resolve_left hq
      have hb2 := hb.2.resolve_left hq
      have ih2 := ih (by omega)
      have e := zcpp_two (P := fun j => ¬ B.1 j = 0) (Q := fun j => ¬ zu1 (zu1 B.1 (zsc s B.1 g X n.toNat).1 1) (zsc s B.1 g X n.toNat).2.1 1 j = 0) (i := (zsc s B.1 g X n.toNat).1) (j := (zsc s B.1 g X n.toNat).2.1) (by omega) (fun h => h ho.1) (fun h => h ho.2) n.toNat (fun x x0 x1 => by
        unfold zu1
        by_cases e1 : x = (zsc s B.1 g X n.toNat).2.1
        · rw [if_pos e1]; exact ⟨fun _ => Or.inr (Or.inr e1), fun _ => by decide⟩
        · rw [if_neg e1]
          by_cases e2 : x = (zsc s B.1 g X n.toNat).1
          · rw [if_pos e2]; exact ⟨fun _ => Or.inr (Or.inl e2), fun _ => by decide⟩
          · rw [if_neg e2]; exact ⟨Or.inl, fun h => by rcases h with h | h | h; exact h; exact absurd h e2; exact absurd h e1⟩)
      show zcpp (fun j => ¬ zu1 (zu1 B.1 (zsc s B.1 g X n.toNat).1 1) (zsc s B.1 g X n.toNat).2.1 1 j = 0) n.toNat = _
      rw [e, ih2, if_pos (by omega), if_pos (by omega)]
      omega
set_option maxRecDepth 20000 in
theorem m_ft_o {I : zI} {π : Int → Nat} {D : zD} {n g L : Int} {s : Int → Int} (hn10 : I 137 10 = n) (hn : 0 ≤ n ∧ n ≤ 9) (hg : I 138 5 = g) (hgb : 0 ≤ g ∧ g ≤ 5000) (hst : ∀ j, 0 ≤ j → j < n → (0 ≤ I 141 j ∧ I 141 j < 24) ∧ I 138 (7 + I 141 j) = s j) (hsb : ∀ j, 0 ≤ j → j < n → 0 ≤ s j ∧ s j ≤ 1000) (hL : I 138 6 = L) {A0 : zFA} (h0 : ∀ j, 0 ≤ j → j < n → A0.1 j = 0) (hm0 : A0.2.1 = 0) : ∀ (N k : Nat), k + N = 4 → (zfi n s g (FP.i2d (Int32.ofInt L)) A0 k).2.1 = k → zRuns 122 34 [(1, vi 1), (0, vr 137)] [] ((zMS I (zfi n s g (FP.i2d (Int32.ofInt L)) A0 k).1 (zfi n s g (FP.i2d (Int32.ofInt L)) A0 k).2.1 (zfi n s g (FP.i2d (Int32.ofInt L)) A0 k).2.2.1 (zfi n s g (FP.i2d (Int32.ofInt L)) A0 k).2.2.2.1), zPp π, (zMD D (zfi n s g (FP.i2d (Int32.ofInt L)) A0 k).2.2.2.2), 147) none ((zMS I (zfi n s g (FP.i2d (Int32.ofInt L)) A0 4).1 (zfi n s g (FP.i2d (Int32.ofInt L)) A0 4).2.1 (zfi n s g (FP.i2d (Int32.ofInt L)) A0 4).2.2.1 (zfi n s g (FP.i2d (Int32.ofInt L)) A0 4).2.2.2.1), zPp π, (zMD D (zfi n s g (FP.i2d (Int32.ofInt L)) A0 4).2.2.2.2), 147) := by
  intro N
  induction N with
  | zero =>
    intro k hk hf
    have hX : FP.Core.val64 (FP.i2d (Int32.ofInt L)) ≠ .nan := zi2n
    have hcnt := zfi_cnt (s := s) (g := g) (X := (FP.i2d (Int32.ofInt L))) hn.1 h0 hm0 k hf
    have hrest : ∀ (p o : Int) (l : UInt64), zQr (FP.i2d (Int32.ofInt L)) p o l (zsc s (zfi n s g (FP.i2d (Int32.ofInt L)) A0 k).1 g (FP.i2d (Int32.ofInt L)) n.toNat) → zRuns 122 202 [(4, vd l), (3, vi o), (2, vi p), (0, vr 137)] [] ((zMS I (zfi n s g (FP.i2d (Int32.ofInt L)) A0 k).1 (zfi n s g (FP.i2d (Int32.ofInt L)) A0 k).2.1 (zfi n s g (FP.i2d (Int32.ofInt L)) A0 k).2.2.1 (zfi n s g (FP.i2d (Int32.ofInt L)) A0 k).2.2.2.1), zPp π, (zMD D (zfi n s g (FP.i2d (Int32.ofInt L)) A0 k).2.2.2.2), 147) none ((zMS I (zfi n s g (FP.i2d (Int32.ofInt L)) A0 4).1 (zfi n s g (FP.i2d (Int32.ofInt L)) A0 4).2.1 (zfi n s g (FP.i2d (Int32.ofInt L)) A0 4).2.2.1 (zfi n s g (FP.i2d (Int32.ofInt L)) A0 4).2.2.2.1), zPp π, (zMD D (zfi n s g (FP.i2d (Int32.ofInt L)) A0 4).2.2.2.2), 147) := by
      intro p o l hq
      have hzb := zsc_b (s := s) (f := (zfi n s g (FP.i2d (Int32.ofInt L)) A0 k).1) (g := g) (X := (FP.i2d (Int32.ofInt L))) n.toNat
      rcases hq with ⟨h1, h2, h3⟩ | ⟨h1, h2, h3, h4, h5, h6, h7⟩
      · have hfix := zfi_fix h1 (4 - k)
        rw [show k + (4 - k) = 4 by omega] at hfix
        rw [hfix]
        rcases h3 with h3 | ⟨h3, h4, h5⟩
        · exact m_ft_z1 h3
        · exact m_ft_z2 hL h3 (by have c := zc_cmp h5 hX .g; rcases Int.lt_trichotomy (Op.cmpValue (FP.dcmp l (FP.i2d (Int32.ofInt L))) .g).toInt 0 with e | e | e; exact absurd (c.1.mp e) (by omega); exact absurd (c.2.mp e) (by omega); exact e)
      · have hb2 := hzb.2.resolve_left h1
        subst h3
        subst h4
        subst h5
        have hA : zfi n s g (FP.i2d (Int32.ofInt L)) A0 (k + 1) = zf1 n s g (FP.i2d (Int32.ofInt L)) (zfi n s g (FP.i2d (Int32.ofInt L)) A0 k) := rfl
        unfold zf1 at hA
        rw [if_neg h1] at hA
        have hf1 : (zfi n s g (FP.i2d (Int32.ofInt L)) A0 (k + 1)).2.1 = ((k + 1 : Nat) : Int) := by rw [hA]; show (zfi n s g (FP.i2d (Int32.ofInt L)) A0 k).2.1 + 1 = _; omega
        have hcnt1 := zfi_cnt (s := s) (g := g) (X := (FP.i2d (Int32.ofInt L))) hn.1 h0 hm0 (k + 1) hf1
        have hcb := zcpp_b (P := fun j => ¬ (zfi n s g (FP.i2d (Int32.ofInt L)) A0 (k + 1)).1 j = 0) n.toNat
        have c := zc_cmp h7 hX .g
        exfalso; omega
    refine z_n 1 (35, [(1, vi 1), (0, vr 137)], [vi 1], ((zMS I (zfi n s g (FP.i2d (Int32.ofInt L)) A0 k).1 (zfi n s g (FP.i2d (Int32.ofInt L)) A0 k).2.1 (zfi n s g (FP.i2d (Int32.ofInt L)) A0 k).2.2.1 (zfi n s g (FP.i2d (Int32.ofInt L)) A0 k).2.2.2.1), zPp π, (zMD D (zfi n s g (FP.i2d (Int32.ofInt L)) A0 k).2.2.2.2), 147)) rfl trivial ?_
    refine z_br ((1 : Int) = 0) 289 38 [] rfl (fun h => absurd h (show ¬ ((1 : Int) = 0) from by decide)) (fun hx1 => ?_)
    refine z_n 8 (48, [(6, vi 0), (4, vd FP.dconst0), (3, vi (-1)), (2, vi (-1)), (1, vi 1), (0, vr 137)], [], ((zMS I (zfi n s g (FP.i2d (Int32.ofInt L)) A0 k).1 (zfi n s g (FP.i2d (Int32.ofInt L)) A0 k).2.1 (zfi n s g (FP.i2d (Int32.ofInt L)) A0 k).2.2.1 (zfi n s g (FP.i2d (Int32.ofInt L)) A0 k).2.2.2.1), zPp π, (zMD D (zfi n s g (FP.i2d (Int32.ofInt L)) A0 k).2.2.2.2), 147)) rfl trivial ?_
    refine z_sub [(6, vi 0), (4, vd FP.dconst0), (3, vi (-1)), (2, vi (-1)), (0, vr 137)] [0, 1, 2, 3, 5] rfl ?_
    refine m_ft_s hn10 hn hX hg hgb hst hsb (fun p o l hq => ?_) n.toNat 0 (-1) (-1) _ (by omega) (by omega) (zMR_0 hn.1)
    exact hrest p o l hq
  | succ N ih =>
  intro k hk hf
  have hX : FP.Core.val64 (FP.i2d (Int32.ofInt L)) ≠ .nan := zi2n
  have hcnt := zfi_cnt (s := s) (g := g) (X := (FP.i2d (Int32.ofInt L))) hn.1 h0 hm0 k hf
  have hrest : ∀ (p o : Int) (l : UInt64), zQr (FP.i2d (Int32.ofInt L)) p o l (zsc s (zfi n s g (FP.i2d (Int32.ofInt L)) A0 k).1 g (FP.i2d (Int32.ofInt L)) n.toNat) → zRuns 122 202 [(4, vd l), (3, vi o), (2, vi p), (0, vr 137)] [] ((zMS I (zfi n s g (FP.i2d (Int32.ofInt L)) A0 k).1 (zfi n s g (FP.i2d (Int32.ofInt L)) A0 k).2.1 (zfi n s g (FP.i2d (Int32.ofInt L)) A0 k).2.2.1 (zfi n s g (FP.i2d (Int32.ofInt L)) A0 k).2.2.2.1), zPp π, (zMD D (zfi n s g (FP.i2d (Int32.ofInt L)) A0 k).2.2.2.2), 147) none ((zMS I (zfi n s g (FP.i2d (Int32.ofInt L)) A0 4).1 (zfi n s g (FP.i2d (Int32.ofInt L)) A0 4).2.1 (zfi n s g (FP.i2d (Int32.ofInt L)) A0 4).2.2.1 (zfi n s g (FP.i2d (Int32.ofInt L)) A0 4).2.2.2.1), zPp π, (zMD D (zfi n s g (FP.i2d (Int32.ofInt L)) A0 4).2.2.2.2), 147) := by
    intro p o l hq
    have hzb := zsc_b (s := s) (f := (zfi n s g (FP.i2d (Int32.ofInt L)) A0 k).1) (g := g) (X := (FP.i2d (Int32.ofInt L))) n.toNat
    rcases hq with ⟨h1, h2, h3⟩ | ⟨h1, h2, h3, h4, h5, h6, h7⟩
    · have hfix := zfi_fix h1 (4 - k)
      rw [show k + (4 - k) = 4 by omega] at hfix
      rw [hfix]
      rcases h3 with h3 | ⟨h3, h4, h5⟩
      · exact m_ft_z1 h3
      · exact m_ft_z2 hL h3 (by have c := zc_cmp h5 hX .g; rcases Int.lt_trichotomy (Op.cmpValue (FP.dcmp l (FP.i2d (Int32.ofInt L))) .g).toInt 0 with e | e | e; exact absurd (c.1.mp e) (by omega); exact absurd (c.2.mp e) (by omega); exact e)
    · have hb2 := hzb.2.resolve_left h1
      subst h3
      subst h4
      subst h5
      have hA : zfi n s g (FP.i2d (Int32.ofInt L)) A0 (k + 1) = zf1 n s g (FP.i2d (Int32.ofInt L)) (zfi n s g (FP.i2d (Int32.ofInt L)) A0 k) := rfl
      unfold zf1 at hA
      rw [if_neg h1] at hA
      have hf1 : (zfi n s g (FP.i2d (Int32.ofInt L)) A0 (k + 1)).2.1 = ((k + 1 : Nat) : Int) := by rw [hA]; show (zfi n s g (FP.i2d (Int32.ofInt L)) A0 k).2.1 + 1 = _; omega
      have hcnt1 := zfi_cnt (s := s) (g := g) (X := (FP.i2d (Int32.ofInt L))) hn.1 h0 hm0 (k + 1) hf1
      have hcb := zcpp_b (P := fun j => ¬ (zfi n s g (FP.i2d (Int32.ofInt L)) A0 (k + 1)).1 j = 0) n.toNat
      have c := zc_cmp h7 hX .g
      refine m_ft_y hL (by omega) (by omega) (by omega) (fun h9 => by rcases Int.lt_or_eq_of_le h6 with e | e; exact absurd (c.1.mpr e) (by omega); exact absurd (c.2.mpr e) (by omega)) ?_
      have := ih (k + 1) (by omega) hf1
      rw [hA] at this
      exact this
  refine z_n 1 (35, [(1, vi 1), (0, vr 137)], [vi 1], ((zMS I (zfi n s g (FP.i2d (Int32.ofInt L)) A0 k).1 (zfi n s g (FP.i2d (Int32.ofInt L)) A0 k).2.1 (zfi n s g (FP.i2d (Int32.ofInt L)) A0 k).2.2.1 (zfi n s g (FP.i2d (Int32.ofInt L)) A0 k).2.2.2.1), zPp π, (zMD D (zfi n s g (FP.i2d (Int32.ofInt L)) A0 k).2.2.2.2), 147)) rfl trivial ?_
  refine z_br ((1 : Int) = 0) 289 38 [] rfl (fun h => absurd h (show ¬ ((1 : Int) = 0) from by decide)) (fun hx1 => ?_)
  refine z_n 8 (48, [(6, vi 0), (4, vd FP.dconst0), (3, vi (-1)), (2, vi (-1)), (1, vi 1), (0, vr 137)], [], ((zMS I (zfi n s g (FP.i2d (Int32.ofInt L)) A0 k).1 (zfi n s g (FP.i2d (Int32.ofInt L)) A0 k).2.1 (zfi n s g (FP.i2d (Int32.ofInt L)) A0 k).2.2.1 (zfi n s g (FP.i2d (Int32.ofInt L)) A0 k).2.2.2.1), zPp π, (zMD D (zfi n s g (FP.i2d (Int32.ofInt L)) A0 k).2.2.2.2), 147)) rfl trivial ?_
  refine z_sub [(6, vi 0), (4, vd FP.dconst0), (3, vi (-1)), (2, vi (-1)), (0, vr 137)] [0, 1, 2, 3, 5] rfl ?_
  refine m_ft_s hn10 hn hX hg hgb hst hsb (fun p o l hq => ?_) n.toNat 0 (-1) (-1) _ (by omega) (by omega) (zMR_0 hn.1)
  exact hrest p o l hq
set_option maxRecDepth 20000 in
theorem m_ft_6 {J : zI} {π : Int → Nat} {D : zD} {n : Int} {τ : zS} (hj10 : J 137 10 = n) (hn : 0 ≤ n ∧ n ≤ 9) (hk9 : zRuns 122 34 [(1, vi 1), (0, vr 137)] [] (zMS J (fun j => if 0 ≤ j ∧ j < n then 0 else J 142 j) 0 (J 143) (J 144), zPp π, zMD D (D 145), 147) none τ) : ∀ (N : Nat) (k : Int), 0 ≤ k → k + N = n → zRuns 122 6 [(1, vi k), (0, vr 137)] [] ((zMS J (fun j => if 0 ≤ j ∧ j < k then 0 else J 142 j) (J 137 15) (J 143) (J 144)), zPp π, D, 147) none τ := by
  intro N
  induction N with
  | zero =>
    intro k h0 hN
    rw [show n = k by omega] at hk9
    refine z_n 3 (11, [(1, vi k), (0, vr 137)], [vi (J 137 10), vi k], ((zMS J (fun j => if 0 ≤ j ∧ j < k then 0 else J 142 j) (J 137 15) (J 143) (J 144)), zPp π, D, 147)) rfl trivial ?_
    refine z_br ((J 137 10) ≤ k) 27 14 [] rfl (fun hx1 => ?_) (fun h => absurd (show (J 137 10) ≤ k from by omega) h)
    refine z_n 5 (34, [(1, vi 1), (0, vr 137)], [], ((zup (zMS J (fun j => if 0 ≤ j ∧ j < k then 0 else J 142 j) (J 137 15) (J 143) (J 144)) 137 15 0), zPp π, D, 147)) rfl trivial ?_
    refine z_sub [(1, vi 1), (0, vr 137)] [0, 1] rfl ?_
    refine z_st (σ1 := (zMS J (fun j => if 0 ≤ j ∧ j < k then 0 else J 142 j) 0 (J 143) (J 144), zPp π, zMD D (D 145), 147)) (by rw [zMS_m, zMD_id]) ?_
    exact hk9
  | succ N ih =>
  intro k h0 hN
  have hz : zu1 (fun j => if 0 ≤ j ∧ j < k then 0 else J 142 j) k 0 = (fun j => if 0 ≤ j ∧ j < k + 1 then 0 else J 142 j) := by
    funext j
    unfold zu1
    dsimp only
    by_cases h1 : j = k
    · rw [if_pos h1, if_pos (by omega)]
    · rw [if_neg h1]
      by_cases h2 : 0 ≤ j ∧ j < k
      · rw [if_pos h2, if_pos (by omega)]
      · rw [if_neg h2, if_neg (by omega)]
  refine z_n 3 (11, [(1, vi k), (0, vr 137)], [vi (J 137 10), vi k], ((zMS J (fun j => if 0 ≤ j ∧ j < k then 0 else J 142 j) (J 137 15) (J 143) (J 144)), zPp π, D, 147)) rfl trivial ?_
  refine z_br ((J 137 10) ≤ k) 27 14 [] rfl (fun h => absurd h (show ¬ ((J 137 10) ≤ k) from by omega)) (fun hx1 => ?_)
  refine z_n 7 (6, [(1, vi (k + 1)), (0, vr 137)], [], ((zup (zMS J (fun j => if 0 ≤ j ∧ j < k then 0 else J 142 j) (J 137 15) (J 143) (J 144)) 142 k 0), zPp π, D, 147)) (G := ((0 ≤ k ∧ k < 9) ∧ (0 = 0 ∨ 0 = 1)) ∧ (zr (k + 1)) ∧ True) rfl ⟨⟨⟨by omega, by omega⟩, Or.inl rfl⟩, by omega, trivial⟩ ?_
  refine z_sub [(1, vi (k + 1)), (0, vr 137)] [0, 1] rfl ?_
  refine z_st (σ1 := ((zMS J (fun j => if 0 ≤ j ∧ j < (k + 1) then 0 else J 142 j) (J 137 15) (J 143) (J 144)), zPp π, D, 147)) (by rw [zMS_142, hz]) ?_
  exact ih (k + 1) (by omega) (by omega)
set_option maxRecDepth 20000 in
theorem m_Rforetells {I : zI} {π : Int → Nat} {D : zD} {X : zI}  (e : zEq (I 138) X) (ci : zCI X) : ∃ J E, zMet 122 [vr 137] (I, zPp π, D, 147) none (J, zPp π, E, 147) ∧ zMk J I ∧ J 137 10 = zns (X 0) ∧ (∀ k, 0 ≤ k → k < zns (X 0) → J 141 k = X 6 (X 0 9 * X 0 6 + k)) ∧ J 137 15 = (zFo (zns (X 0)) (fun j => X 2 (X 6 (X 0 9 * X 0 6 + j))) (X 0 10) (FP.i2d (Int32.ofInt (X 0 11)))).2.1 ∧ ∀ j, 0 ≤ j → j < (zFo (zns (X 0)) (fun j => X 2 (X 6 (X 0 9 * X 0 6 + j))) (X 0 10) (FP.i2d (Int32.ofInt (X 0 11)))).2.1 → J 143 j = (zFo (zns (X 0)) (fun j => X 2 (X 6 (X 0 9 * X 0 6 + j))) (X 0 10) (FP.i2d (Int32.ofInt (X 0 11)))).2.2.1 j ∧ J 144 j = (zFo (zns (X 0)) (fun j => X 2 (X 6 (X 0 9 * X 0 6 + j))) (X 0 10) (FP.i2d (Int32.ofInt (X 0 11)))).2.2.2.1 j ∧ E 145 j = (zFo (zns (X 0)) (fun j => X 2 (X 6 (X 0 9 * X 0 6 + j))) (X 0 10) (FP.i2d (Int32.ofInt (X 0 11)))).2.2.2.2 j := by
  obtain ⟨⟨m0, m1, m2, m3, m4, m5, m6⟩, mc, ⟨mb, mk⟩, ⟨ml, mg⟩, mt⟩ := id e
  obtain ⟨⟨w, v, hsp, ⟨⟨hl0, hl1⟩, hlg, hps⟩, hpt, hp0⟩, hm, hd⟩ := id ci
  have hzb := zns_b w
  have hm4 := zdis_le w v hd hm
  have hl2 := zlb_b w
  obtain ⟨⟨w1, w2⟩, ⟨w3, w4⟩, ⟨w5, w6⟩, ⟨w7, w8⟩, ⟨w9, w10⟩, w11, ⟨⟨w12, w12b⟩, w12c⟩, ⟨w13, w14⟩, ⟨w15, w16⟩⟩ := id w
  obtain ⟨J, hJ, hln, hmk, e2⟩ := m_ln (π := π) (D := D) e ci
  obtain ⟨⟨j0, j1, j2, j3, j4, j5, j6⟩, jc, ⟨jb, jk⟩, ⟨jl, jg⟩, jt⟩ := id e2
  have hmk2 := hmk.2.2.2.2.1
  have hmk4 := hmk.2.2.2.2.2
  have hl10 := hln.1
  have hst : ∀ j, 0 ≤ j → j < zns (X 0) → (0 ≤ J 141 j ∧ J 141 j < 24) ∧ J 138 (7 + J 141 j) = (fun j => X 2 (X 6 (X 0 9 * X 0 6 + j))) j := fun j a b => by
    rw [hln.2.1 j a b]
    have vq := v.2.1 (X 0 9 * X 0 6 + j) (by omega) (by omega)
    exact ⟨by omega, (jc _ vq.1 vq.2.1).1⟩
  have hsb : ∀ j, 0 ≤ j → j < zns (X 0) → 0 ≤ (fun j => X 2 (X 6 (X 0 9 * X 0 6 + j))) j ∧ (fun j => X 2 (X 6 (X 0 9 * X 0 6 + j))) j ≤ 1000 := fun j a b => by
    have vq := v.2.1 (X 0 9 * X 0 6 + j) (by omega) (by omega)
    have := hsp _ vq.1 vq.2.1
    dsimp only
    omega
  have hrun := m_ft_o (I := J) (π := π) (D := D) (s := fun j => X 2 (X 6 (X 0 9 * X 0 6 + j))) hl10 hzb.1 j5 (by omega) hst hsb j6 (A0 := (fun j => if 0 ≤ j ∧ j < zns (X 0) then 0 else J 142 j, 0, J 143, J 144, D 145)) (fun j a b => if_pos ⟨a, b⟩) rfl 4 0 (by omega) rfl
  have hsam : zsam (zns (X 0)) (zfi (zns (X 0)) (fun j => X 2 (X 6 (X 0 9 * X 0 6 + j))) (X 0 10) (FP.i2d (Int32.ofInt (X 0 11))) (fun j => if 0 ≤ j ∧ j < zns (X 0) then 0 else J 142 j, 0, J 143, J 144, D 145) 4) (zFo (zns (X 0)) (fun j => X 2 (X 6 (X 0 9 * X 0 6 + j))) (X 0 10) (FP.i2d (Int32.ofInt (X 0 11)))) := by unfold zFo; exact zfi_cg (A := (fun j => if 0 ≤ j ∧ j < zns (X 0) then 0 else J 142 j, 0, J 143, J 144, D 145)) (B := (fun _ => 0, 0, fun _ => 0, fun _ => 0, fun _ => 0)) hzb.1.1 (fun _ _ _ => rfl) ⟨fun j a b => if_pos ⟨a, b⟩, rfl, Int.le_refl 0, fun j a b => absurd b (by show ¬ j < 0; omega)⟩ 4
  obtain ⟨A, eA⟩ : ∃ A : zFA, A = zfi (zns (X 0)) (fun j => X 2 (X 6 (X 0 9 * X 0 6 + j))) (X 0 10) (FP.i2d (Int32.ofInt (X 0 11))) (fun j => if 0 ≤ j ∧ j < zns (X 0) then 0 else J 142 j, 0, J 143, J 144, D 145) 4 := ⟨_, rfl⟩
  rw [← eA] at hrun hsam
  refine ⟨zMS J A.1 A.2.1 A.2.2.1 A.2.2.2.1, zMD D A.2.2.2.2, ?_, zMk_t zMS_k hmk, hl10, hln.2.1, hsam.2.1, fun j a b => ?_⟩
  · skip
    refine z_n 1 (1, [(0, vr 137)], [vr 137], (I, zPp π, D, 147)) rfl trivial ?_
    refine z_cv 100 [vr 137] [] rfl (hJ) ?_
    refine z_n 2 (6, [(1, vi 0), (0, vr 137)], [], (J, zPp π, D, 147)) rfl trivial ?_
    refine z_sub [(1, vi 0), (0, vr 137)] [0, 1] rfl ?_
    refine z_st (σ1 := ((zMS J (fun j => if 0 ≤ j ∧ j < (0 : Int) then 0 else J 142 j) (J 137 15) (J 143) (J 144)), zPp π, D, 147)) (by rw [show (fun j => if 0 ≤ j ∧ j < (0 : Int) then 0 else J 142 j) = J 142 from funext fun j => if_neg (by omega), zMS_id]) ?_
    exact m_ft_6 hl10 hzb.1 hrun (zns (X 0)).toNat 0 (by omega) (by omega)
  · rw [← hsam.2.1] at b
    exact hsam.2.2.2 j a b
