/-- two forecasts that say the same -/
def zsam (n : Int) (A B : zFA) : Prop := (∀ j, 0 ≤ j → j < n → A.1 j = B.1 j) ∧ A.2.1 = B.2.1 ∧ 0 ≤ A.2.1 ∧ ∀ j, 0 ≤ j → j < A.2.1 → A.2.2.1 j = B.2.2.1 j ∧ A.2.2.2.1 j = B.2.2.2.1 j ∧ A.2.2.2.2 j = B.2.2.2.2 j
theorem zsc_cg {s s2 f f2 : Int → Int} {g n : Int} {X : UInt64} (hs : ∀ j, 0 ≤ j → j < n → s j = s2 j) (hf : ∀ j, 0 ≤ j → j < n → f j = f2 j) : ∀ k : Nat, (k : Int) ≤ n → zscn s f g X k = zscn s2 f2 g X k
  | 0, _ => rfl
  | k + 1, hk => by
    have ih := zsc_cg (g := g) (X := X) hs hf k (by omega)
    have hb := zsc_b (s := s2) (f := f2) (g := g) (X := X) k
    show zsc1 s f g k (zscn s f g X k) = zsc1 s2 f2 g k (zscn s2 f2 g X k)
    rw [ih]
    generalize zscn s2 f2 g X k = q at hb ⊢
    unfold zsc1
    rw [hf k (by omega) (by omega)]
    by_cases e : q.2.2.2 = -1
    · have e2 : ¬ ¬ q.2.2.2 = -1 := fun h9 => h9 e
      rw [if_neg e2, if_neg e2]
    · unfold ztm
      rw [hs k (by omega) (by omega), hs q.2.2.2 (by omega) (by omega)]
theorem zf1_cg {s s2 : Int → Int} {g n : Int} {X : UInt64} {A B : zFA} (hn : 0 ≤ n) (hs : ∀ j, 0 ≤ j → j < n → s j = s2 j) (h : zsam n A B) : zsam n (zf1 n s g X A) (zf1 n s2 g X B) := by
  obtain ⟨h1, h2, h3, h4⟩ := h
  have e := zsc_cg (g := g) (X := X) hs h1 n.toNat (by omega)
  unfold zf1
  rw [e]
  by_cases hq : (zscn s2 B.1 g X n.toNat).1 = -1
  · rw [if_pos hq, if_pos hq]
    exact ⟨h1, h2, h3, h4⟩
  · rw [if_neg hq, if_neg hq]
    refine ⟨fun j a b => ?_, ?_, ?_, fun j a b => ?_⟩
    · show zu1 (zu1 A.1 _ 1) _ 1 j = zu1 (zu1 B.1 _ 1) _ 1 j
      unfold zu1
      rw [h1 j a b]
    · show A.2.1 + 1 = B.2.1 + 1
      rw [h2]
    · show 0 ≤ A.2.1 + 1
      omega
    · have b' : j < A.2.1 + 1 := b
      show zu1 A.2.2.1 A.2.1 _ j = zu1 B.2.2.1 B.2.1 _ j ∧ zu1 A.2.2.2.1 A.2.1 _ j = zu1 B.2.2.2.1 B.2.1 _ j ∧ zuD A.2.2.2.2 A.2.1 _ j = zuD B.2.2.2.2 B.2.1 _ j
      unfold zu1 zuD
      rw [← h2]
      by_cases ej : j = A.2.1
      · rw [if_pos ej, if_pos ej, if_pos ej, if_pos ej, if_pos ej, if_pos ej]
        exact ⟨rfl, rfl, rfl⟩
      · rw [if_neg ej, if_neg ej, if_neg ej, if_neg ej, if_neg ej, if_neg ej]
        exact h4 j a (by omega)
theorem zfi_cg {s s2 : Int → Int} {g n : Int} {X : UInt64} {A B : zFA} (hn : 0 ≤ n) (hs : ∀ j, 0 ≤ j → j < n → s j = s2 j) (h : zsam n A B) : ∀ k : Nat, zsam n (zfi n s g X A k) (zfi n s2 g X B k)
  | 0 => h
  | k + 1 => zf1_cg hn hs (zfi_cg hn hs h k)
/-- what is foretold: n starters with the speeds s, the gap g, the length X -/
def zFo (n : Int) (s : Int → Int) (g : Int) (X : UInt64) : zFA := zfi n s g X (fun _ => 0, 0, fun _ => 0, fun _ => 0, fun _ => 0) 4
theorem zFR_Fo {I : zI} {D : zD} {c v : Int} (w : zW1 (I 2)) : zsam (zns (I 2)) (zFR I D c v) (zFo (zns (I 2)) (zsp I c v) (I 2 10) (FP.i2d (Int32.ofInt (I 2 11)))) := by
  have hb := zns_b w
  unfold zFR zFo
  refine zfi_cg hb.1.1 (fun j a b => ?_) ⟨fun j a b => ?_, ?_, ?_, fun j a b => ?_⟩ 4
  · unfold zso; rw [if_pos ⟨a, b⟩]
  · show zoo I (zns (I 2)) j = 0
    unfold zoo; rw [if_pos ⟨a, b⟩]
  · rfl
  · show (0 : Int) ≤ 0
    omega
  · have : j < 0 := b
    omega
theorem zfi_in {s : Int → Int} {g n : Int} {X : UInt64} {A : zFA} (hn : 0 ≤ n) (h : A.2.1 = 0) : ∀ k : Nat, (0 ≤ (zfi n s g X A k).2.1 ∧ (zfi n s g X A k).2.1 ≤ k) ∧ ∀ j, 0 ≤ j → j < (zfi n s g X A k).2.1 → (0 ≤ (zfi n s g X A k).2.2.1 j ∧ (zfi n s g X A k).2.2.1 j < n) ∧ (0 ≤ (zfi n s g X A k).2.2.2.1 j ∧ (zfi n s g X A k).2.2.2.1 j < (zfi n s g X A k).2.2.1 j)
  | 0 => ⟨by show 0 ≤ A.2.1 ∧ A.2.1 ≤ ((0 : Nat) : Int); omega, fun j a b => by have : j < A.2.1 := b; omega⟩
  | k + 1 => by
    obtain ⟨i1, i2⟩ := zfi_in (s := s) (g := g) (X := X) hn h k
    have hb := zsc_b (s := s) (f := (zfi n s g X A k).1) (g := g) (X := X) n.toNat
    show (0 ≤ (zf1 n s g X (zfi n s g X A k)).2.1 ∧ (zf1 n s g X (zfi n s g X A k)).2.1 ≤ ((k + 1 : Nat) : Int)) ∧ ∀ j, 0 ≤ j → j < (zf1 n s g X (zfi n s g X A k)).2.1 → (0 ≤ (zf1 n s g X (zfi n s g X A k)).2.2.1 j ∧ (zf1 n s g X (zfi n s g X A k)).2.2.1 j < n) ∧ (0 ≤ (zf1 n s g X (zfi n s g X A k)).2.2.2.1 j ∧ (zf1 n s g X (zfi n s g X A k)).2.2.2.1 j < (zf1 n s g X (zfi n s g X A k)).2.2.1 j)
    generalize zfi n s g X A k = B at i1 i2 hb ⊢
    unfold zf1
    by_cases hq : (zscn s B.1 g X n.toNat).1 = -1
    · rw [if_pos hq]
      exact ⟨by omega, i2⟩
    · rw [if_neg hq]
      refine ⟨by show 0 ≤ B.2.1 + 1 ∧ B.2.1 + 1 ≤ ((k + 1 : Nat) : Int); omega, fun j a b => ?_⟩
      have b' : j < B.2.1 + 1 := b
      show (0 ≤ zu1 B.2.2.1 B.2.1 _ j ∧ zu1 B.2.2.1 B.2.1 _ j < n) ∧ (0 ≤ zu1 B.2.2.2.1 B.2.1 _ j ∧ zu1 B.2.2.2.1 B.2.1 _ j < zu1 B.2.2.1 B.2.1 _ j)
      unfold zu1
      by_cases ej : j = B.2.1
      · rw [if_pos ej, if_pos ej]
        omega
      · rw [if_neg ej, if_neg ej]
        exact i2 j a (by omega)
theorem zFR_in {I : zI} {D : zD} {c v : Int} (w : zW1 (I 2)) : (0 ≤ (zFR I D c v).2.1 ∧ (zFR I D c v).2.1 ≤ 4) ∧ ∀ j, 0 ≤ j → j < (zFR I D c v).2.1 → (0 ≤ (zFR I D c v).2.2.1 j ∧ (zFR I D c v).2.2.1 j < zns (I 2)) ∧ (0 ≤ (zFR I D c v).2.2.2.1 j ∧ (zFR I D c v).2.2.2.1 j < (zFR I D c v).2.2.1 j) :=
  zfi_in (A := zFA0 I D) (zns_b w).1.1 rfl 4
theorem z_lks {y pc t len a b : Nat} {L : zL} {st : List zV} {σ τ : zS} {r : Option zV} {d : Int} {ps : Array (Int × Int)} {x : Int} (hi' : zi y pc = some (.lookupswitch d ps, len, a, b)) (e : pc + (Op.lookupswitch.offset ps.toList d x).toNat = t) (kk : zRuns y t L st σ r τ) : zRuns y pc L (vi x :: st) σ r τ := by
  subst e
  refine z_s (g := none) (σ1 := σ) (L1 := L) (pc1 := pc + (Op.lookupswitch.offset ps.toList d x).toNat) (st1 := st) ?_ (fun P hP => by cases hP) kk
  simp only [zst, hi', zx]
