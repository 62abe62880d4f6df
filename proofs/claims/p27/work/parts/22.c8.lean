theorem zmulb {a b A B : Int} (h0 : 0 ≤ a) (h1 : a ≤ A) (h2 : 0 ≤ b) (h3 : b ≤ B) : 0 ≤ a * b ∧ a * b ≤ A * B := ⟨Int.mul_nonneg h0 h2, Int.mul_le_mul h1 h3 h2 (by omega)⟩
def zu1 (f : Int → Int) (k v : Int) : Int → Int := fun j => if j = k then v else f j
def zuD (f : Int → UInt64) (k : Int) (v : UInt64) : Int → UInt64 := fun j => if j = k then v else f j
/-- what the forecast has written -/
def zFS (I : zI) (n : Int) (s f : Int → Int) (m : Int) (u d : Int → Int) : zI := fun r j => if r = 126 then s j else if r = 128 then f j else if r = 121 then u j else if r = 123 then d j else if r = 119 ∧ j = 2 then m else if r = 119 ∧ j = 6 then n else I r j
def zFD (D : zD) (t : Int → UInt64) : zD := fun r j => if r = 124 then t j else D r j
section
variable {I : zI} {n m k v : Int} {s f u d : Int → Int}
theorem zFS_126 : zup (zFS I n s f m u d) 126 k v = zFS I n (zu1 s k v) f m u d := by
  funext r j
  by_cases h : r = 126
  · subst h; simp [zup, zFS, zu1]
  · simp [zup, zFS, h]
theorem zFS_128 : zup (zFS I n s f m u d) 128 k v = zFS I n s (zu1 f k v) m u d := by
  funext r j
  by_cases h : r = 128
  · subst h; simp [zup, zFS, zu1]
  · simp [zup, zFS, h]
theorem zFS_121 : zup (zFS I n s f m u d) 121 k v = zFS I n s f m (zu1 u k v) d := by
  funext r j
  by_cases h : r = 121
  · subst h; simp [zup, zFS, zu1]
  · simp [zup, zFS, h]
theorem zFS_123 : zup (zFS I n s f m u d) 123 k v = zFS I n s f m u (zu1 d k v) := by
  funext r j
  by_cases h : r = 123
  · subst h; simp [zup, zFS, zu1]
  · simp [zup, zFS, h]
theorem zFS_m : zup (zFS I n s f m u d) 119 2 v = zFS I n s f v u d := by
  funext r j
  by_cases h : r = 119
  · subst h
    by_cases h2 : j = 2
    · subst h2; simp [zup, zFS]
    · simp [zup, zFS, h2]
  · simp [zup, zFS, h]
theorem zFS_n : zup I 119 6 v = zFS I v (I 126) (I 128) (I 119 2) (I 121) (I 123) := by
  funext r j
  unfold zup zFS
  by_cases h1 : r = 126
  · subst h1; simp
  · by_cases h2 : r = 128
    · subst h2; simp
    · by_cases h3 : r = 121
      · subst h3; simp
      · by_cases h4 : r = 123
        · subst h4; simp
        · by_cases h5 : r = 119
          · subst h5
            by_cases h6 : j = 2
            · subst h6; simp
            · simp [h6]
          · simp [h1, h2, h3, h4, h5]
end
theorem zFD_124 {D : zD} {t : Int → UInt64} {k : Int} {x : UInt64} : zupD (zFD D t) 124 k x = zFD D (zuD t k x) := by
  funext r j
  by_cases h : r = 124
  · subst h; simp [zupD, zFD, zuD]
  · simp [zupD, zFD, h]
theorem zFD_id {D : zD} : zFD D (D 124) = D := by
  funext r j
  unfold zFD
  split
  · next h => rw [h]
  · rfl
abbrev zq4 : Type := Int × (Int × (UInt64 × Int))
abbrev ztm (s : Int → Int) (g k a : Int) : UInt64 := FP.ddiv (FP.i2d (Int32.ofInt ((k - a) * g))) (FP.i2d (Int32.ofInt (s k - s a)))
/-- one starter looked at -/
def zsc1 (s f : Int → Int) (g k : Int) (q : zq4) : zq4 :=
  if f k = 0 then
    if ¬ q.2.2.2 = -1 then
      if s k - s q.2.2.2 ≤ 0 then (q.1, q.2.1, q.2.2.1, k)
      else if (Op.cmpValue (FP.dcmp (ztm s g k q.2.2.2) q.2.2.1) .g).toInt < 0 then (k, q.2.2.2, ztm s g k q.2.2.2, k)
      else if ¬ q.1 = -1 then (q.1, q.2.1, q.2.2.1, k)
      else if ¬ (Op.cmpValue (FP.dcmp (ztm s g k q.2.2.2) q.2.2.1) .l).toInt = 0 then (q.1, q.2.1, q.2.2.1, k)
      else (k, q.2.2.2, ztm s g k q.2.2.2, k)
    else (q.1, q.2.1, q.2.2.1, k)
  else q
def zscn (s f : Int → Int) (g : Int) (X : UInt64) : Nat → zq4
  | 0 => (-1, -1, X, -1)
  | n + 1 => zsc1 s f g n (zscn s f g X n)
theorem zsc_s {s f : Int → Int} {g : Int} {X : UInt64} {k : Int} (h : 0 ≤ k) : zscn s f g X (k + 1).toNat = zsc1 s f g k (zscn s f g X k.toNat) := by
  obtain ⟨j, rfl⟩ : ∃ j : Nat, k = j := ⟨k.toNat, by omega⟩
  rfl
theorem zsc_b {s f : Int → Int} {g : Int} {X : UInt64} : ∀ n : Nat, (-1 ≤ (zscn s f g X n).2.2.2 ∧ (zscn s f g X n).2.2.2 < n) ∧ ((zscn s f g X n).1 = -1 ∨ ((0 ≤ (zscn s f g X n).1 ∧ (zscn s f g X n).1 < n) ∧ (0 ≤ (zscn s f g X n).2.1 ∧ (zscn s f g X n).2.1 < (zscn s f g X n).1)))
  | 0 => by simp [zscn]
  | n + 1 => by
    have ih := zsc_b (s := s) (f := f) (g := g) (X := X) n
    show (-1 ≤ (zsc1 s f g n (zscn s f g X n)).2.2.2 ∧ (zsc1 s f g n (zscn s f g X n)).2.2.2 < ((n + 1 : Nat) : Int)) ∧ ((zsc1 s f g n (zscn s f g X n)).1 = -1 ∨ ((0 ≤ (zsc1 s f g n (zscn s f g X n)).1 ∧ (zsc1 s f g n (zscn s f g X n)).1 < ((n + 1 : Nat) : Int)) ∧ (0 ≤ (zsc1 s f g n (zscn s f g X n)).2.1 ∧ (zsc1 s f g n (zscn s f g X n)).2.1 < (zsc1 s f g n (zscn s f g X n)).1)))
    generalize zscn s f g X n = q at ih ⊢
    unfold zsc1
    repeat' split
    all_goals ((try simp only []); omega)
/-- outs, found, who, whom, when -/
abbrev zFA : Type := (Int → Int) × (Int × ((Int → Int) × ((Int → Int) × (Int → UInt64))))
def zf1 (n : Int) (s : Int → Int) (g : Int) (X : UInt64) (A : zFA) : zFA :=
  if (zscn s A.1 g X n.toNat).1 = -1 then A
  else (zu1 (zu1 A.1 (zscn s A.1 g X n.toNat).1 1) (zscn s A.1 g X n.toNat).2.1 1, A.2.1 + 1, zu1 A.2.2.1 A.2.1 (zscn s A.1 g X n.toNat).1, zu1 A.2.2.2.1 A.2.1 (zscn s A.1 g X n.toNat).2.1, zuD A.2.2.2.2 A.2.1 (zscn s A.1 g X n.toNat).2.2.1)
def zfi (n : Int) (s : Int → Int) (g : Int) (X : UInt64) (A : zFA) : Nat → zFA
  | 0 => A
  | k + 1 => zf1 n s g X (zfi n s g X A k)
section
variable {n : Int} {s : Int → Int} {g : Int} {X : UInt64} {A : zFA}
theorem zfi_s {k : Int} (h : 0 ≤ k) : zfi n s g X A (k + 1).toNat = zf1 n s g X (zfi n s g X A k.toNat) := by
  obtain ⟨j, rfl⟩ : ∃ j : Nat, k = j := ⟨k.toNat, by omega⟩
  rfl
theorem zfi_fix {k : Nat} (h : (zscn s (zfi n s g X A k).1 g X n.toNat).1 = -1) : ∀ j : Nat, zfi n s g X A (k + j) = zfi n s g X A k
  | 0 => rfl
  | j + 1 => by
    show zf1 n s g X (zfi n s g X A (k + j)) = _
    rw [zfi_fix h j]
    unfold zf1
    rw [if_pos h]
theorem zfi_m (h : A.2.1 = 0) : ∀ k : Nat, 0 ≤ (zfi n s g X A k).2.1 ∧ (zfi n s g X A k).2.1 ≤ k
  | 0 => by unfold zfi; omega
  | k + 1 => by
    have ih := zfi_m h k
    show 0 ≤ (zf1 n s g X (zfi n s g X A k)).2.1 ∧ (zf1 n s g X (zfi n s g X A k)).2.1 ≤ ((k + 1 : Nat) : Int)
    unfold zf1
    split <;> ((try simp only []); omega)
end
set_option maxRecDepth 20000 in
theorem m_fadd {I : zI} {π : Int → Nat} {D : zD} {n m : Int} {s f u d : Int → Int} {t : Int → UInt64} {a b : Int} {X : UInt64} (hm : 0 ≤ m ∧ m < 4) (ha : 0 ≤ a ∧ a < 9) (hb : 0 ≤ b ∧ b < 9) : zMet 35 [vr 119, vi a, vi b, vd X] ((zFS I n s f m u d), zPp π, (zFD D t), 137) none (zFS I n s (zu1 (zu1 f a 1) b 1) (m + 1) (zu1 u m a) (zu1 d m b), zPp π, zFD D (zuD t m X), 137) := by
  refine z_n 2 (4, [(0, vr 119), (1, vi a), (2, vi b), (3, vd X)], [vi m], ((zFS I n s f m u d), zPp π, (zFD D t), 137)) rfl trivial ?_
  refine z_br (m < 0) 63 7 [] rfl (fun h => absurd h (show ¬ (m < 0) from by omega)) (fun hx1 => ?_)
  refine z_n 5 (16, [(0, vr 119), (1, vi a), (2, vi b), (3, vd X)], [vi 4, vi m], ((zFS I n s f m u d), zPp π, (zFD D t), 137)) rfl trivial ?_
  refine z_br (4 ≤ m) 63 19 [] rfl (fun h => absurd h (show ¬ (4 ≤ m) from by omega)) (fun hx2 => ?_)
  refine z_n 5 (28, [(0, vr 119), (1, vi a), (2, vi b), (3, vd X)], [vi a, vi m, vr 120], ((zFS I n s f m u d), zPp π, (zFD D t), 137)) rfl trivial ?_
  refine z_cv 2 [vr 120, vi m, vi a] [] rfl (m_put (n := 4) ⟨rfl, rfl, rfl, rfl⟩ (by omega) (by omega)) ?_
  refine z_n 5 (40, [(0, vr 119), (1, vi a), (2, vi b), (3, vd X)], [vi b, vi m, vr 122], ((zup (zFS I n s f m u d) 121 m a), zPp π, (zFD D t), 137)) rfl trivial ?_
  refine z_cv 2 [vr 122, vi m, vi b] [] rfl (m_put (n := 4) ⟨rfl, rfl, rfl, rfl⟩ (by omega) (by omega)) ?_
  refine z_n 16 (69, [(0, vr 119), (1, vi a), (2, vi b), (3, vd X)], [vi 1, vi a, vr 127], ((zup (zup (zup (zFS I n s f m u d) 121 m a) 123 m b) 119 2 (m + 1)), zPp π, (zupD (zFD D t) 124 m X), 137)) (G := (0 ≤ m ∧ m < 4) ∧ (zr (m + 1)) ∧ True) rfl ⟨by omega, by omega, trivial⟩ ?_
  refine z_cv 2 [vr 127, vi a, vi 1] [] rfl (m_put (n := 9) ⟨rfl, rfl, rfl, rfl⟩ (by omega) (by omega)) ?_
  refine z_n 4 (78, [(0, vr 119), (1, vi a), (2, vi b), (3, vd X)], [vi 1, vi b, vr 127], ((zup (zup (zup (zup (zFS I n s f m u d) 121 m a) 123 m b) 119 2 (m + 1)) 128 a 1), zPp π, (zupD (zFD D t) 124 m X), 137)) rfl trivial ?_
  refine z_cv 2 [vr 127, vi b, vi 1] [] rfl (m_put (n := 9) ⟨rfl, rfl, rfl, rfl⟩ (by omega) (by omega)) ?_
  exact z_ret rfl rfl (by rw [zFS_121, zFS_123, zFS_m, zFS_128, zFS_128, zFD_124])
set_option maxRecDepth 20000 in
theorem m_fn0_l {I : zI} {π : Int → Nat} {D : zD} {n m : Int} {s f u d : Int → Int} {t : Int → UInt64} {g : Int} {X : UInt64} (hn : 0 ≤ n ∧ n ≤ 9) (hm : 0 ≤ m ∧ m < 4) (hg : 0 ≤ g ∧ g ≤ 5000) (hs : ∀ j, 0 ≤ j → j < n → 0 ≤ s j ∧ s j ≤ 1000) (hq : (zscn s f g X n.toNat).1 = -1) : ∀ (N : Nat) (k : Int), 0 ≤ k → k + N = n → zRuns 34 15 [(9, vi k), (8, vi ((zscn s f g X k.toNat).2.2.2)), (6, vd ((zscn s f g X k.toNat).2.2.1)), (5, vi ((zscn s f g X k.toNat).2.1)), (4, vi ((zscn s f g X k.toNat).1)), (0, vr 119), (1, vi g)] [] ((zFS I n s f m u d), zPp π, (zFD D t), 137) (some (vi 0)) ((zFS I n s f m u d), zPp π, (zFD D t), 137) := by
  intro N
  induction N with
  | zero =>
    intro k h0 hN
    have e9 : k = n := by omega
    subst e9
    refine z_n 3 (21, [(9, vi k), (8, vi ((zscn s f g X k.toNat).2.2.2)), (6, vd ((zscn s f g X k.toNat).2.2.1)), (5, vi ((zscn s f g X k.toNat).2.1)), (4, vi ((zscn s f g X k.toNat).1)), (0, vr 119), (1, vi g)], [vi k, vi k], ((zFS I k s f m u d), zPp π, (zFD D t), 137)) rfl trivial ?_
    refine z_br (k ≤ k) 133 24 [] rfl (fun hx1 => ?_) (fun h => absurd (show k ≤ k from by omega) h)
    refine z_n 2 (136, [(9, vi k), (8, vi ((zscn s f g X k.toNat).2.2.2)), (6, vd ((zscn s f g X k.toNat).2.2.1)), (5, vi ((zscn s f g X k.toNat).2.1)), (4, vi ((zscn s f g X k.toNat).1)), (0, vr 119), (1, vi g)], [vi (-1), vi ((zscn s f g X k.toNat).1)], ((zFS I k s f m u d), zPp π, (zFD D t), 137)) rfl trivial ?_
    refine z_br (¬ ((zscn s f g X k.toNat).1) = (-1)) 141 139 [] rfl (fun h => absurd h (show ¬ (¬ ((zscn s f g X k.toNat).1) = (-1)) from fun h9 => h9 hq)) (fun hx2 => ?_)
    refine z_n 1 (140, [(9, vi k), (8, vi ((zscn s f g X k.toNat).2.2.2)), (6, vd ((zscn s f g X k.toNat).2.2.1)), (5, vi ((zscn s f g X k.toNat).2.1)), (4, vi ((zscn s f g X k.toNat).1)), (0, vr 119), (1, vi g)], [vi 0], ((zFS I k s f m u d), zPp π, (zFD D t), 137)) rfl trivial ?_
    first | exact z_ret rfl rfl rfl | exact z_ret rfl (zv1 (by omega)) rfl | (exfalso; omega)
  | succ N ih =>
  intro k h0 hN
  have hb := zsc_b (s := s) (f := f) (g := g) (X := X) k.toNat
  have hs1 := hs k h0 (by omega)
  have hs2 := hs (zscn s f g X k.toNat).2.2.2
  have hmul := zmulb (a := k - (zscn s f g X k.toNat).2.2.2) (b := g) (A := 10) (B := 5000) (by omega) (by omega) hg.1 hg.2
  refine z_n 3 (21, [(9, vi k), (8, vi ((zscn s f g X k.toNat).2.2.2)), (6, vd ((zscn s f g X k.toNat).2.2.1)), (5, vi ((zscn s f g X k.toNat).2.1)), (4, vi ((zscn s f g X k.toNat).1)), (0, vr 119), (1, vi g)], [vi n, vi k], ((zFS I n s f m u d), zPp π, (zFD D t), 137)) rfl trivial ?_
  refine z_br (n ≤ k) 133 24 [] rfl (fun h => absurd h (show ¬ (n ≤ k) from by omega)) (fun hx1 => ?_)
  refine z_n 3 (30, [(9, vi k), (8, vi ((zscn s f g X k.toNat).2.2.2)), (6, vd ((zscn s f g X k.toNat).2.2.1)), (5, vi ((zscn s f g X k.toNat).2.1)), (4, vi ((zscn s f g X k.toNat).1)), (0, vr 119), (1, vi g)], [vi k, vr 127], ((zFS I n s f m u d), zPp π, (zFD D t), 137)) rfl trivial ?_
  refine z_ci 1 [vr 127, vi k] [] rfl (m_get (n := 9) ⟨rfl, rfl, rfl, rfl⟩ (by omega) (by omega)) ?_
  refine z_br ((f k) = 0) 39 36 [] rfl (fun hx2 => ?_) (fun hx2 => ?_)
  · refine z_n 2 (42, [(9, vi k), (8, vi ((zscn s f g X k.toNat).2.2.2)), (6, vd ((zscn s f g X k.toNat).2.2.1)), (5, vi ((zscn s f g X k.toNat).2.1)), (4, vi ((zscn s f g X k.toNat).1)), (0, vr 119), (1, vi g)], [vi (-1), vi ((zscn s f g X k.toNat).2.2.2)], ((zFS I n s f m u d), zPp π, (zFD D t), 137)) rfl trivial ?_
    refine z_br (¬ ((zscn s f g X k.toNat).2.2.2) = (-1)) 49 45 [] rfl (fun hx3 => ?_) (fun hx3 => ?_)
    · refine z_n 3 (55, [(9, vi k), (8, vi ((zscn s f g X k.toNat).2.2.2)), (6, vd ((zscn s f g X k.toNat).2.2.1)), (5, vi ((zscn s f g X k.toNat).2.1)), (4, vi ((zscn s f g X k.toNat).1)), (0, vr 119), (1, vi g)], [vi k, vr 125], ((zFS I n s f m u d), zPp π, (zFD D t), 137)) rfl trivial ?_
      refine z_ci 1 [vr 125, vi k] [] rfl (m_get (n := 9) ⟨rfl, rfl, rfl, rfl⟩ (by omega) (by omega)) ?_
      refine z_n 3 (64, [(9, vi k), (8, vi ((zscn s f g X k.toNat).2.2.2)), (6, vd ((zscn s f g X k.toNat).2.2.1)), (5, vi ((zscn s f g X k.toNat).2.1)), (4, vi ((zscn s f g X k.toNat).1)), (0, vr 119), (1, vi g)], [vi ((zscn s f g X k.toNat).2.2.2), vr 125, vi (s k)], ((zFS I n s f m u d), zPp π, (zFD D t), 137)) rfl trivial ?_
      refine z_ci 1 [vr 125, vi ((zscn s f g X k.toNat).2.2.2)] [vi (s k)] rfl (m_get (n := 9) ⟨rfl, rfl, rfl, rfl⟩ (by omega) (by omega)) ?_
      refine z_n 3 (72, [(10, vi ((s k) - (s ((zscn s f g X k.toNat).2.2.2)))), (9, vi k), (8, vi ((zscn s f g X k.toNat).2.2.2)), (6, vd ((zscn s f g X k.toNat).2.2.1)), (5, vi ((zscn s f g X k.toNat).2.1)), (4, vi ((zscn s f g X k.toNat).1)), (0, vr 119), (1, vi g)], [vi ((s k) - (s ((zscn s f g X k.toNat).2.2.2)))], ((zFS I n s f m u d), zPp π, (zFD D t), 137)) (G := (zr ((s k) - (s ((zscn s f g X k.toNat).2.2.2)))) ∧ True) rfl ⟨by omega, trivial⟩ ?_
      refine z_br (((s k) - (s ((zscn s f g X k.toNat).2.2.2))) ≤ 0) 123 75 [] rfl (fun hx4 => ?_) (fun hx4 => ?_)
      · refine z_n 4 (15, [(9, vi (k + 1)), (8, vi k), (10, vi ((s k) - (s ((zscn s f g X k.toNat).2.2.2)))), (6, vd ((zscn s f g X k.toNat).2.2.1)), (5, vi ((zscn s f g X k.toNat).2.1)), (4, vi ((zscn s f g X k.toNat).1)), (0, vr 119), (1, vi g)], [], ((zFS I n s f m u d), zPp π, (zFD D t), 137)) (G := (zr (k + 1)) ∧ True) rfl ⟨by omega, trivial⟩ ?_
        refine z_sub [(9, vi (k + 1)), (8, vi k), (6, vd ((zscn s f g X k.toNat).2.2.1)), (5, vi ((zscn s f g X k.toNat).2.1)), (4, vi ((zscn s f g X k.toNat).1)), (0, vr 119), (1, vi g)] [0, 1, 3, 4, 5, 6, 7] rfl ?_
        refine z_lk (L1 := [(9, vi (k + 1)), (8, vi ((zscn s f g X (k + 1).toNat).2.2.2)), (6, vd ((zscn s f g X (k + 1).toNat).2.2.1)), (5, vi ((zscn s f g X (k + 1).toNat).2.1)), (4, vi ((zscn s f g X (k + 1).toNat).1)), (0, vr 119), (1, vi g)]) (by rw [zsc_s h0]; unfold zsc1; repeat (first | rw [if_pos (by assumption)] | rw [if_neg (by assumption)])) ?_
        exact ih (k + 1) (by omega) (by omega)
      · refine z_n 13 (94, [(11, vd (FP.ddiv (FP.i2d (Int32.ofInt ((k - ((zscn s f g X k.toNat).2.2.2)) * g))) (FP.i2d (Int32.ofInt ((s k) - (s ((zscn s f g X k.toNat).2.2.2))))))), (10, vi ((s k) - (s ((zscn s f g X k.toNat).2.2.2)))), (9, vi k), (8, vi ((zscn s f g X k.toNat).2.2.2)), (6, vd ((zscn s f g X k.toNat).2.2.1)), (5, vi ((zscn s f g X k.toNat).2.1)), (4, vi ((zscn s f g X k.toNat).1)), (0, vr 119), (1, vi g)], [vi ((Op.cmpValue (FP.dcmp (FP.ddiv (FP.i2d (Int32.ofInt ((k - ((zscn s f g X k.toNat).2.2.2)) * g))) (FP.i2d (Int32.ofInt ((s k) - (s ((zscn s f g X k.toNat).2.2.2)))))) ((zscn s f g X k.toNat).2.2.1)) .g).toInt)], ((zFS I n s f m u d), zPp π, (zFD D t), 137)) (G := (zr (k - ((zscn s f g X k.toNat).2.2.2))) ∧ (zr ((k - ((zscn s f g X k.toNat).2.2.2)) * g)) ∧ (vf_n64 (FP.ddiv (FP.i2d (Int32.ofInt ((k - ((zscn s f g X k.toNat).2.2.2)) * g))) (FP.i2d (Int32.ofInt ((s k) - (s ((zscn s f g X k.toNat).2.2.2))))))) ∧ True) rfl ⟨by omega, by omega, vf64 (zfn (zdd (by omega) (by omega))), trivial⟩ ?_
        refine z_br (((Op.cmpValue (FP.dcmp (FP.ddiv (FP.i2d (Int32.ofInt ((k - ((zscn s f g X k.toNat).2.2.2)) * g))) (FP.i2d (Int32.ofInt ((s k) - (s ((zscn s f g X k.toNat).2.2.2)))))) ((zscn s f g X k.toNat).2.2.1)) .g).toInt) < 0) 111 97 [] rfl (fun hx5 => ?_) (fun hx5 => ?_)
        · refine z_n 10 (15, [(9, vi (k + 1)), (8, vi k), (6, vd (FP.ddiv (FP.i2d (Int32.ofInt ((k - ((zscn s f g X k.toNat).2.2.2)) * g))) (FP.i2d (Int32.ofInt ((s k) - (s ((zscn s f g X k.toNat).2.2.2))))))), (5, vi ((zscn s f g X k.toNat).2.2.2)), (4, vi k), (11, vd (FP.ddiv (FP.i2d (Int32.ofInt ((k - ((zscn s f g X k.toNat).2.2.2)) * g))) (FP.i2d (Int32.ofInt ((s k) - (s ((zscn s f g X k.toNat).2.2.2))))))), (10, vi ((s k) - (s ((zscn s f g X k.toNat).2.2.2)))), (0, vr 119), (1, vi g)], [], ((zFS I n s f m u d), zPp π, (zFD D t), 137)) (G := (zr (k + 1)) ∧ True) rfl ⟨by omega, trivial⟩ ?_
          refine z_sub [(9, vi (k + 1)), (8, vi k), (6, vd (FP.ddiv (FP.i2d (Int32.ofInt ((k - ((zscn s f g X k.toNat).2.2.2)) * g))) (FP.i2d (Int32.ofInt ((s k) - (s ((zscn s f g X k.toNat).2.2.2))))))), (5, vi ((zscn s f g X k.toNat).2.2.2)), (4, vi k), (0, vr 119), (1, vi g)] [0, 1, 2, 3, 4, 7, 8] rfl ?_
          refine z_lk (L1 := [(9, vi (k + 1)), (8, vi ((zscn s f g X (k + 1).toNat).2.2.2)), (6, vd ((zscn s f g X (k + 1).toNat).2.2.1)), (5, vi ((zscn s f g X (k + 1).toNat).2.1)), (4, vi ((zscn s f g X (k + 1).toNat).1)), (0, vr 119), (1, vi g)]) (by rw [zsc_s h0]; unfold zsc1; repeat (first | rw [if_pos (by assumption)] | rw [if_neg (by assumption)])) ?_
          exact ih (k + 1) (by omega) (by omega)
        · refine z_n 2 (100, [(11, vd (FP.ddiv (FP.i2d (Int32.ofInt ((k - ((zscn s f g X k.toNat).2.2.2)) * g))) (FP.i2d (Int32.ofInt ((s k) - (s ((zscn s f g X k.toNat).2.2.2))))))), (10, vi ((s k) - (s ((zscn s f g X k.toNat).2.2.2)))), (9, vi k), (8, vi ((zscn s f g X k.toNat).2.2.2)), (6, vd ((zscn s f g X k.toNat).2.2.1)), (5, vi ((zscn s f g X k.toNat).2.1)), (4, vi ((zscn s f g X k.toNat).1)), (0, vr 119), (1, vi g)], [vi (-1), vi ((zscn s f g X k.toNat).1)], ((zFS I n s f m u d), zPp π, (zFD D t), 137)) rfl trivial ?_
          refine z_br (¬ ((zscn s f g X k.toNat).1) = (-1)) 123 103 [] rfl (fun hx6 => ?_) (fun hx6 => ?_)
          · refine z_n 4 (15, [(9, vi (k + 1)), (8, vi k), (11, vd (FP.ddiv (FP.i2d (Int32.ofInt ((k - ((zscn s f g X k.toNat).2.2.2)) * g))) (FP.i2d (Int32.ofInt ((s k) - (s ((zscn s f g X k.toNat).2.2.2))))))), (10, vi ((s k) - (s ((zscn s f g X k.toNat).2.2.2)))), (6, vd ((zscn s f g X k.toNat).2.2.1)), (5, vi ((zscn s f g X k.toNat).2.1)), (4, vi ((zscn s f g X k.toNat).1)), (0, vr 119), (1, vi g)], [], ((zFS I n s f m u d), zPp π, (zFD D t), 137)) (G := (zr (k + 1)) ∧ True) rfl ⟨by omega, trivial⟩ ?_
            refine z_sub [(9, vi (k + 1)), (8, vi k), (6, vd ((zscn s f g X k.toNat).2.2.1)), (5, vi ((zscn s f g X k.toNat).2.1)), (4, vi ((zscn s f g X k.toNat).1)), (0, vr 119), (1, vi g)] [0, 1, 4, 5, 6, 7, 8] rfl ?_
            refine z_lk (L1 := [(9, vi (k + 1)), (8, vi ((zscn s f g X (k + 1).toNat).2.2.2)), (6, vd ((zscn s f g X (k + 1).toNat).2.2.1)), (5, vi ((zscn s f g X (k + 1).toNat).2.1)), (4, vi ((zscn s f g X (k + 1).toNat).1)), (0, vr 119), (1, vi g)]) (by rw [zsc_s h0]; unfold zsc1; repeat (first | rw [if_pos (by assumption)] | rw [if_neg (by assumption)])) ?_
            exact ih (k + 1) (by omega) (by omega)
          · refine z_n 3 (108, [(11, vd (FP.ddiv (FP.i2d (Int32.ofInt ((k - ((zscn s f g X k.toNat).2.2.2)) * g))) (FP.i2d (Int32.ofInt ((s k) - (s ((zscn s f g X k.toNat).2.2.2))))))), (10, vi ((s k) - (s ((zscn s f g X k.toNat).2.2.2)))), (9, vi k), (8, vi ((zscn s f g X k.toNat).2.2.2)), (6, vd ((zscn s f g X k.toNat).2.2.1)), (5, vi ((zscn s f g X k.toNat).2.1)), (4, vi ((zscn s f g X k.toNat).1)), (0, vr 119), (1, vi g)], [vi ((Op.cmpValue (FP.dcmp (FP.ddiv (FP.i2d (Int32.ofInt ((k - ((zscn s f g X k.toNat).2.2.2)) * g))) (FP.i2d (Int32.ofInt ((s k) - (s ((zscn s f g X k.toNat).2.2.2)))))) ((zscn s f g X k.toNat).2.2.1)) .l).toInt)], ((zFS I n s f m u d), zPp π, (zFD D t), 137)) rfl trivial ?_
            refine z_br (¬ ((Op.cmpValue (FP.dcmp (FP.ddiv (FP.i2d (Int32.ofInt ((k - ((zscn s f g X k.toNat).2.2.2)) * g))) (FP.i2d (Int32.ofInt ((s k) - (s ((zscn s f g X k.toNat).2.2.2)))))) ((zscn s f g X k.toNat).2.2.1)) .l).toInt) = 0) 123 111 [] rfl (fun hx7 => ?_) (fun hx7 => ?_)
            · refine z_n 4 (15, [(9, vi (k + 1)), (8, vi k), (11, vd (FP.ddiv (FP.i2d (Int32.ofInt ((k - ((zscn s f g X k.toNat).2.2.2)) * g))) (FP.i2d (Int32.ofInt ((s k) - (s ((zscn s f g X k.toNat).2.2.2))))))), (10, vi ((s k) - (s ((zscn s f g X k.toNat).2.2.2)))), (6, vd ((zscn s f g X k.toNat).2.2.1)), (5, vi ((zscn s f g X k.toNat).2.1)), (4, vi ((zscn s f g X k.toNat).1)), (0, vr 119), (1, vi g)], [], ((zFS I n s f m u d), zPp π, (zFD D t), 137)) (G := (zr (k + 1)) ∧ True) rfl ⟨by omega, trivial⟩ ?_
              refine z_sub [(9, vi (k + 1)), (8, vi k), (6, vd ((zscn s f g X k.toNat).2.2.1)), (5, vi ((zscn s f g X k.toNat).2.1)), (4, vi ((zscn s f g X k.toNat).1)), (0, vr 119), (1, vi g)] [0, 1, 4, 5, 6, 7, 8] rfl ?_
              refine z_lk (L1 := [(9, vi (k + 1)), (8, vi ((zscn s f g X (k + 1).toNat).2.2.2)), (6, vd ((zscn s f g X (k + 1).toNat).2.2.1)), (5, vi ((zscn s f g X (k + 1).toNat).2.1)), (4, vi ((zscn s f g X (k + 1).toNat).1)), (0, vr 119), (1, vi g)]) (by rw [zsc_s h0]; unfold zsc1; repeat (first | rw [if_pos (by assumption)] | rw [if_neg (by assumption)])) ?_
              exact ih (k + 1) (by omega) (by omega)
            · refine z_n 10 (15, [(9, vi (k + 1)), (8, vi k), (6, vd (FP.ddiv (FP.i2d (Int32.ofInt ((k - ((zscn s f g X k.toNat).2.2.2)) * g))) (FP.i2d (Int32.ofInt ((s k) - (s ((zscn s f g X k.toNat).2.2.2))))))), (5, vi ((zscn s f g X k.toNat).2.2.2)), (4, vi k), (11, vd (FP.ddiv (FP.i2d (Int32.ofInt ((k - ((zscn s f g X k.toNat).2.2.2)) * g))) (FP.i2d (Int32.ofInt ((s k) - (s ((zscn s f g X k.toNat).2.2.2))))))), (10, vi ((s k) - (s ((zscn s f g X k.toNat).2.2.2)))), (0, vr 119), (1, vi g)], [], ((zFS I n s f m u d), zPp π, (zFD D t), 137)) (G := (zr (k + 1)) ∧ True) rfl ⟨by omega, trivial⟩ ?_
              refine z_sub [(9, vi (k + 1)), (8, vi k), (6, vd (FP.ddiv (FP.i2d (Int32.ofInt ((k - ((zscn s f g X k.toNat).2.2.2)) * g))) (FP.i2d (Int32.ofInt ((s k) - (s ((zscn s f g X k.toNat).2.2.2))))))), (5, vi ((zscn s f g X k.toNat).2.2.2)), (4, vi k), (0, vr 119), (1, vi g)] [0, 1, 2, 3, 4, 7, 8] rfl ?_
              refine z_lk (L1 := [(9, vi (k + 1)), (8, vi ((zscn s f g X (k + 1).toNat).2.2.2)), (6, vd ((zscn s f g X (k + 1).toNat).2.2.1)), (5, vi ((zscn s f g X (k + 1).toNat).2.1)), (4, vi ((zscn s f g X (k + 1).toNat).1)), (0, vr 119), (1, vi g)]) (by rw [zsc_s h0]; unfold zsc1; repeat (first | rw [if_pos (by assumption)] | rw [if_neg (by assumption)])) ?_
              exact ih (k + 1) (by omega) (by omega)
    · refine z_n 4 (72, [(10, vi 0), (9, vi k), (8, vi ((zscn s f g X k.toNat).2.2.2)), (6, vd ((zscn s f g X k.toNat).2.2.1)), (5, vi ((zscn s f g X k.toNat).2.1)), (4, vi ((zscn s f g X k.toNat).1)), (0, vr 119), (1, vi g)], [vi 0], ((zFS I n s f m u d), zPp π, (zFD D t), 137)) rfl trivial ?_
      refine z_br ((0 : Int) ≤ 0) 123 75 [] rfl (fun hx8 => ?_) (fun h => absurd (show (0 : Int) ≤ 0 from by decide) h)
      refine z_n 4 (15, [(9, vi (k + 1)), (8, vi k), (10, vi 0), (6, vd ((zscn s f g X k.toNat).2.2.1)), (5, vi ((zscn s f g X k.toNat).2.1)), (4, vi ((zscn s f g X k.toNat).1)), (0, vr 119), (1, vi g)], [], ((zFS I n s f m u d), zPp π, (zFD D t), 137)) (G := (zr (k + 1)) ∧ True) rfl ⟨by omega, trivial⟩ ?_
      refine z_sub [(9, vi (k + 1)), (8, vi k), (6, vd ((zscn s f g X k.toNat).2.2.1)), (5, vi ((zscn s f g X k.toNat).2.1)), (4, vi ((zscn s f g X k.toNat).1)), (0, vr 119), (1, vi g)] [0, 1, 3, 4, 5, 6, 7] rfl ?_
      refine z_lk (L1 := [(9, vi (k + 1)), (8, vi ((zscn s f g X (k + 1).toNat).2.2.2)), (6, vd ((zscn s f g X (k + 1).toNat).2.2.1)), (5, vi ((zscn s f g X (k + 1).toNat).2.1)), (4, vi ((zscn s f g X (k + 1).toNat).1)), (0, vr 119), (1, vi g)]) (by rw [zsc_s h0]; unfold zsc1; repeat (first | rw [if_pos (by assumption)] | rw [if_neg (by assumption)])) ?_
      exact ih (k + 1) (by omega) (by omega)
  · refine z_n 3 (15, [(9, vi (k + 1)), (8, vi ((zscn s f g X k.toNat).2.2.2)), (6, vd ((zscn s f g X k.toNat).2.2.1)), (5, vi ((zscn s f g X k.toNat).2.1)), (4, vi ((zscn s f g X k.toNat).1)), (0, vr 119), (1, vi g)], [], ((zFS I n s f m u d), zPp π, (zFD D t), 137)) (G := (zr (k + 1)) ∧ True) rfl ⟨by omega, trivial⟩ ?_
    refine z_sub [(9, vi (k + 1)), (8, vi ((zscn s f g X k.toNat).2.2.2)), (6, vd ((zscn s f g X k.toNat).2.2.1)), (5, vi ((zscn s f g X k.toNat).2.1)), (4, vi ((zscn s f g X k.toNat).1)), (0, vr 119), (1, vi g)] [0, 1, 2, 3, 4, 5, 6] rfl ?_
    refine z_lk (L1 := [(9, vi (k + 1)), (8, vi ((zscn s f g X (k + 1).toNat).2.2.2)), (6, vd ((zscn s f g X (k + 1).toNat).2.2.1)), (5, vi ((zscn s f g X (k + 1).toNat).2.1)), (4, vi ((zscn s f g X (k + 1).toNat).1)), (0, vr 119), (1, vi g)]) (by rw [zsc_s h0]; unfold zsc1; repeat (first | rw [if_pos (by assumption)] | rw [if_neg (by assumption)])) ?_
    exact ih (k + 1) (by omega) (by omega)
set_option maxRecDepth 20000 in
theorem m_fn0 {I : zI} {π : Int → Nat} {D : zD} {n m : Int} {s f u d : Int → Int} {t : Int → UInt64} {g : Int} {X : UInt64} (hn : 0 ≤ n ∧ n ≤ 9) (hm : 0 ≤ m ∧ m < 4) (hg : 0 ≤ g ∧ g ≤ 5000) (hs : ∀ j, 0 ≤ j → j < n → 0 ≤ s j ∧ s j ≤ 1000) (hq : (zscn s f g X n.toNat).1 = -1) : zMet 34 [vr 119, vi g, vd X] ((zFS I n s f m u d), zPp π, (zFD D t), 137) (some (vi 0)) ((zFS I n s f m u d), zPp π, (zFD D t), 137) := by
  refine z_n 10 (15, [(9, vi 0), (8, vi (-1)), (6, vd X), (5, vi (-1)), (4, vi (-1)), (0, vr 119), (1, vi g), (2, vd X)], [], ((zFS I n s f m u d), zPp π, (zFD D t), 137)) rfl trivial ?_
  refine z_sub [(9, vi 0), (8, vi (-1)), (6, vd X), (5, vi (-1)), (4, vi (-1)), (0, vr 119), (1, vi g)] [0, 1, 2, 3, 4, 5, 6] rfl ?_
  refine z_lk (L1 := [(9, vi 0), (8, vi ((zscn s f g X (0 : Int).toNat).2.2.2)), (6, vd ((zscn s f g X (0 : Int).toNat).2.2.1)), (5, vi ((zscn s f g X (0 : Int).toNat).2.1)), (4, vi ((zscn s f g X (0 : Int).toNat).1)), (0, vr 119), (1, vi g)]) (by rfl) ?_
  exact m_fn0_l hn hm hg hs hq n.toNat 0 (by omega) (by omega)
set_option maxRecDepth 20000 in
theorem m_fn1_l {I : zI} {π : Int → Nat} {D : zD} {n m : Int} {s f u d : Int → Int} {t : Int → UInt64} {g : Int} {X : UInt64} (hn : 0 ≤ n ∧ n ≤ 9) (hm : 0 ≤ m ∧ m < 4) (hg : 0 ≤ g ∧ g ≤ 5000) (hs : ∀ j, 0 ≤ j → j < n → 0 ≤ s j ∧ s j ≤ 1000) (hq : ¬ (zscn s f g X n.toNat).1 = -1) : ∀ (N : Nat) (k : Int), 0 ≤ k → k + N = n → zRuns 34 15 [(9, vi k), (8, vi ((zscn s f g X k.toNat).2.2.2)), (6, vd ((zscn s f g X k.toNat).2.2.1)), (5, vi ((zscn s f g X k.toNat).2.1)), (4, vi ((zscn s f g X k.toNat).1)), (0, vr 119), (1, vi g)] [] ((zFS I n s f m u d), zPp π, (zFD D t), 137) (some (vi 1)) (zFS I n s (zu1 (zu1 f (zscn s f g X n.toNat).1 1) (zscn s f g X n.toNat).2.1 1) (m + 1) (zu1 u m (zscn s f g X n.toNat).1) (zu1 d m (zscn s f g X n.toNat).2.1), zPp π, zFD D (zuD t m (zscn s f g X n.toNat).2.2.1), 137) := by
  intro N
  induction N with
  | zero =>
    intro k h0 hN
    have e9 : k = n := by omega
    subst e9
    have hbn := zsc_b (s := s) (f := f) (g := g) (X := X) k.toNat
    have hb1 : 0 ≤ (zscn s f g X k.toNat).1 ∧ (zscn s f g X k.toNat).1 < 9 := by omega
    have hb2 : 0 ≤ (zscn s f g X k.toNat).2.1 ∧ (zscn s f g X k.toNat).2.1 < 9 := by omega
    refine z_n 3 (21, [(9, vi k), (8, vi ((zscn s f g X k.toNat).2.2.2)), (6, vd ((zscn s f g X k.toNat).2.2.1)), (5, vi ((zscn s f g X k.toNat).2.1)), (4, vi ((zscn s f g X k.toNat).1)), (0, vr 119), (1, vi g)], [vi k, vi k], ((zFS I k s f m u d), zPp π, (zFD D t), 137)) rfl trivial ?_
    refine z_br (k ≤ k) 133 24 [] rfl (fun hx1 => ?_) (fun h => absurd (show k ≤ k from by omega) h)
    refine z_n 2 (136, [(9, vi k), (8, vi ((zscn s f g X k.toNat).2.2.2)), (6, vd ((zscn s f g X k.toNat).2.2.1)), (5, vi ((zscn s f g X k.toNat).2.1)), (4, vi ((zscn s f g X k.toNat).1)), (0, vr 119), (1, vi g)], [vi (-1), vi ((zscn s f g X k.toNat).1)], ((zFS I k s f m u d), zPp π, (zFD D t), 137)) rfl trivial ?_
    refine z_br (¬ ((zscn s f g X k.toNat).1) = (-1)) 141 139 [] rfl (fun hx2 => ?_) (fun h => absurd (show ¬ ((zscn s f g X k.toNat).1) = (-1) from hq) h)
    refine z_n 4 (148, [(9, vi k), (8, vi ((zscn s f g X k.toNat).2.2.2)), (6, vd ((zscn s f g X k.toNat).2.2.1)), (5, vi ((zscn s f g X k.toNat).2.1)), (4, vi ((zscn s f g X k.toNat).1)), (0, vr 119), (1, vi g)], [vd ((zscn s f g X k.toNat).2.2.1), vi ((zscn s f g X k.toNat).2.1), vi ((zscn s f g X k.toNat).1), vr 119], ((zFS I k s f m u d), zPp π, (zFD D t), 137)) rfl trivial ?_
    refine z_cv 35 [vr 119, vi ((zscn s f g X k.toNat).1), vi ((zscn s f g X k.toNat).2.1), vd ((zscn s f g X k.toNat).2.2.1)] [] rfl (m_fadd hm hb1 hb2) ?_
    refine z_n 1 (152, [(9, vi k), (8, vi ((zscn s f g X k.toNat).2.2.2)), (6, vd ((zscn s f g X k.toNat).2.2.1)), (5, vi ((zscn s f g X k.toNat).2.1)), (4, vi ((zscn s f g X k.toNat).1)), (0, vr 119), (1, vi g)], [vi 1], (zFS I k s (zu1 (zu1 f (zscn s f g X k.toNat).1 1) (zscn s f g X k.toNat).2.1 1) (m + 1) (zu1 u m (zscn s f g X k.toNat).1) (zu1 d m (zscn s f g X k.toNat).2.1), zPp π, (zFD D (zuD t m (zscn s f g X k.toNat).2.2.1)), 137)) rfl trivial ?_
    first | exact z_ret rfl rfl rfl | exact z_ret rfl (zv1 (by omega)) rfl | (exfalso; omega)
  | succ N ih =>
  intro k h0 hN
  have hb := zsc_b (s := s) (f := f) (g := g) (X := X) k.toNat
  have hs1 := hs k h0 (by omega)
  have hs2 := hs (zscn s f g X k.toNat).2.2.2
  have hmul := zmulb (a := k - (zscn s f g X k.toNat).2.2.2) (b := g) (A := 10) (B := 5000) (by omega) (by omega) hg.1 hg.2
  refine z_n 3 (21, [(9, vi k), (8, vi ((zscn s f g X k.toNat).2.2.2)), (6, vd ((zscn s f g X k.toNat).2.2.1)), (5, vi ((zscn s f g X k.toNat).2.1)), (4, vi ((zscn s f g X k.toNat).1)), (0, vr 119), (1, vi g)], [vi n, vi k], ((zFS I n s f m u d), zPp π, (zFD D t), 137)) rfl trivial ?_
  refine z_br (n ≤ k) 133 24 [] rfl (fun h => absurd h (show ¬ (n ≤ k) from by omega)) (fun hx1 => ?_)
  refine z_n 3 (30, [(9, vi k), (8, vi ((zscn s f g X k.toNat).2.2.2)), (6, vd ((zscn s f g X k.toNat).2.2.1)), (5, vi ((zscn s f g X k.toNat).2.1)), (4, vi ((zscn s f g X k.toNat).1)), (0, vr 119), (1, vi g)], [vi k, vr 127], ((zFS I n s f m u d), zPp π, (zFD D t), 137)) rfl trivial ?_
  refine z_ci 1 [vr 127, vi k] [] rfl (m_get (n := 9) ⟨rfl, rfl, rfl, rfl⟩ (by omega) (by omega)) ?_
  refine z_br ((f k) = 0) 39 36 [] rfl (fun hx2 => ?_) (fun hx2 => ?_)
  · refine z_n 2 (42, [(9, vi k), (8, vi ((zscn s f g X k.toNat).2.2.2)), (6, vd ((zscn s f g X k.toNat).2.2.1)), (5, vi ((zscn s f g X k.toNat).2.1)), (4, vi ((zscn s f g X k.toNat).1)), (0, vr 119), (1, vi g)], [vi (-1), vi ((zscn s f g X k.toNat).2.2.2)], ((zFS I n s f m u d), zPp π, (zFD D t), 137)) rfl trivial ?_
    refine z_br (¬ ((zscn s f g X k.toNat).2.2.2) = (-1)) 49 45 [] rfl (fun hx3 => ?_) (fun hx3 => ?_)
    · refine z_n 3 (55, [(9, vi k), (8, vi ((zscn s f g X k.toNat).2.2.2)), (6, vd ((zscn s f g X k.toNat).2.2.1)), (5, vi ((zscn s f g X k.toNat).2.1)), (4, vi ((zscn s f g X k.toNat).1)), (0, vr 119), (1, vi g)], [vi k, vr 125], ((zFS I n s f m u d), zPp π, (zFD D t), 137)) rfl trivial ?_
      refine z_ci 1 [vr 125, vi k] [] rfl (m_get (n := 9) ⟨rfl, rfl, rfl, rfl⟩ (by omega) (by omega)) ?_
      refine z_n 3 (64, [(9, vi k), (8, vi ((zscn s f g X k.toNat).2.2.2)), (6, vd ((zscn s f g X k.toNat).2.2.1)), (5, vi ((zscn s f g X k.toNat).2.1)), (4, vi ((zscn s f g X k.toNat).1)), (0, vr 119), (1, vi g)], [vi ((zscn s f g X k.toNat).2.2.2), vr 125, vi (s k)], ((zFS I n s f m u d), zPp π, (zFD D t), 137)) rfl trivial ?_
      refine z_ci 1 [vr 125, vi ((zscn s f g X k.toNat).2.2.2)] [vi (s k)] rfl (m_get (n := 9) ⟨rfl, rfl, rfl, rfl⟩ (by omega) (by omega)) ?_
      refine z_n 3 (72, [(10, vi ((s k) - (s ((zscn s f g X k.toNat).2.2.2)))), (9, vi k), (8, vi ((zscn s f g X k.toNat).2.2.2)), (6, vd ((zscn s f g X k.toNat).2.2.1)), (5, vi ((zscn s f g X k.toNat).2.1)), (4, vi ((zscn s f g X k.toNat).1)), (0, vr 119), (1, vi g)], [vi ((s k) - (s ((zscn s f g X k.toNat).2.2.2)))], ((zFS I n s f m u d), zPp π, (zFD D t), 137)) (G := (zr ((s k) - (s ((zscn s f g X k.toNat).2.2.2)))) ∧ True) rfl ⟨by omega, trivial⟩ ?_
      refine z_br (((s k) - (s ((zscn s f g X k.toNat).2.2.2))) ≤ 0) 123 75 [] rfl (fun hx4 => ?_) (fun hx4 => ?_)
      · refine z_n 4 (15, [(9, vi (k + 1)), (8, vi k), (10, vi ((s k) - (s ((zscn s f g X k.toNat).2.2.2)))), (6, vd ((zscn s f g X k.toNat).2.2.1)), (5, vi ((zscn s f g X k.toNat).2.1)), (4, vi ((zscn s f g X k.toNat).1)), (0, vr 119), (1, vi g)], [], ((zFS I n s f m u d), zPp π, (zFD D t), 137)) (G := (zr (k + 1)) ∧ True) rfl ⟨by omega, trivial⟩ ?_
        refine z_sub [(9, vi (k + 1)), (8, vi k), (6, vd ((zscn s f g X k.toNat).2.2.1)), (5, vi ((zscn s f g X k.toNat).2.1)), (4, vi ((zscn s f g X k.toNat).1)), (0, vr 119), (1, vi g)] [0, 1, 3, 4, 5, 6, 7] rfl ?_
        refine z_lk (L1 := [(9, vi (k + 1)), (8, vi ((zscn s f g X (k + 1).toNat).2.2.2)), (6, vd ((zscn s f g X (k + 1).toNat).2.2.1)), (5, vi ((zscn s f g X (k + 1).toNat).2.1)), (4, vi ((zscn s f g X (k + 1).toNat).1)), (0, vr 119), (1, vi g)]) (by rw [zsc_s h0]; unfold zsc1; repeat (first | rw [if_pos (by assumption)] | rw [if_neg (by assumption)])) ?_
        exact ih (k + 1) (by omega) (by omega)
      · refine z_n 13 (94, [(11, vd (FP.ddiv (FP.i2d (Int32.ofInt ((k - ((zscn s f g X k.toNat).2.2.2)) * g))) (FP.i2d (Int32.ofInt ((s k) - (s ((zscn s f g X k.toNat).2.2.2))))))), (10, vi ((s k) - (s ((zscn s f g X k.toNat).2.2.2)))), (9, vi k), (8, vi ((zscn s f g X k.toNat).2.2.2)), (6, vd ((zscn s f g X k.toNat).2.2.1)), (5, vi ((zscn s f g X k.toNat).2.1)), (4, vi ((zscn s f g X k.toNat).1)), (0, vr 119), (1, vi g)], [vi ((Op.cmpValue (FP.dcmp (FP.ddiv (FP.i2d (Int32.ofInt ((k - ((zscn s f g X k.toNat).2.2.2)) * g))) (FP.i2d (Int32.ofInt ((s k) - (s ((zscn s f g X k.toNat).2.2.2)))))) ((zscn s f g X k.toNat).2.2.1)) .g).toInt)], ((zFS I n s f m u d), zPp π, (zFD D t), 137)) (G := (zr (k - ((zscn s f g X k.toNat).2.2.2))) ∧ (zr ((k - ((zscn s f g X k.toNat).2.2.2)) * g)) ∧ (vf_n64 (FP.ddiv (FP.i2d (Int32.ofInt ((k - ((zscn s f g X k.toNat).2.2.2)) * g))) (FP.i2d (Int32.ofInt ((s k) - (s ((zscn s f g X k.toNat).2.2.2))))))) ∧ True) rfl ⟨by omega, by omega, vf64 (zfn (zdd (by omega) (by omega))), trivial⟩ ?_
        refine z_br (((Op.cmpValue (FP.dcmp (FP.ddiv (FP.i2d (Int32.ofInt ((k - ((zscn s f g X k.toNat).2.2.2)) * g))) (FP.i2d (Int32.ofInt ((s k) - (s ((zscn s f g X k.toNat).2.2.2)))))) ((zscn s f g X k.toNat).2.2.1)) .g).toInt) < 0) 111 97 [] rfl (fun hx5 => ?_) (fun hx5 => ?_)
        · refine z_n 10 (15, [(9, vi (k + 1)), (8, vi k), (6, vd (FP.ddiv (FP.i2d (Int32.ofInt ((k - ((zscn s f g X k.toNat).2.2.2)) * g))) (FP.i2d (Int32.ofInt ((s k) - (s ((zscn s f g X k.toNat).2.2.2))))))), (5, vi ((zscn s f g X k.toNat).2.2.2)), (4, vi k), (11, vd (FP.ddiv (FP.i2d (Int32.ofInt ((k - ((zscn s f g X k.toNat).2.2.2)) * g))) (FP.i2d (Int32.ofInt ((s k) - (s ((zscn s f g X k.toNat).2.2.2))))))), (10, vi ((s k) - (s ((zscn s f g X k.toNat).2.2.2)))), (0, vr 119), (1, vi g)], [], ((zFS I n s f m u d), zPp π, (zFD D t), 137)) (G := (zr (k + 1)) ∧ True) rfl ⟨by omega, trivial⟩ ?_
          refine z_sub [(9, vi (k + 1)), (8, vi k), (6, vd (FP.ddiv (FP.i2d (Int32.ofInt ((k - ((zscn s f g X k.toNat).2.2.2)) * g))) (FP.i2d (Int32.ofInt ((s k) - (s ((zscn s f g X k.toNat).2.2.2))))))), (5, vi ((zscn s f g X k.toNat).2.2.2)), (4, vi k), (0, vr 119), (1, vi g)] [0, 1, 2, 3, 4, 7, 8] rfl ?_
          refine z_lk (L1 := [(9, vi (k + 1)), (8, vi ((zscn s f g X (k + 1).toNat).2.2.2)), (6, vd ((zscn s f g X (k + 1).toNat).2.2.1)), (5, vi ((zscn s f g X (k + 1).toNat).2.1)), (4, vi ((zscn s f g X (k + 1).toNat).1)), (0, vr 119), (1, vi g)]) (by rw [zsc_s h0]; unfold zsc1; repeat (first | rw [if_pos (by assumption)] | rw [if_neg (by assumption)])) ?_
          exact ih (k + 1) (by omega) (by omega)
        · refine z_n 2 (100, [(11, vd (FP.ddiv (FP.i2d (Int32.ofInt ((k - ((zscn s f g X k.toNat).2.2.2)) * g))) (FP.i2d (Int32.ofInt ((s k) - (s ((zscn s f g X k.toNat).2.2.2))))))), (10, vi ((s k) - (s ((zscn s f g X k.toNat).2.2.2)))), (9, vi k), (8, vi ((zscn s f g X k.toNat).2.2.2)), (6, vd ((zscn s f g X k.toNat).2.2.1)), (5, vi ((zscn s f g X k.toNat).2.1)), (4, vi ((zscn s f g X k.toNat).1)), (0, vr 119), (1, vi g)], [vi (-1), vi ((zscn s f g X k.toNat).1)], ((zFS I n s f m u d), zPp π, (zFD D t), 137)) rfl trivial ?_
          refine z_br (¬ ((zscn s f g X k.toNat).1) = (-1)) 123 103 [] rfl (fun hx6 => ?_) (fun hx6 => ?_)
          · refine z_n 4 (15, [(9, vi (k + 1)), (8, vi k), (11, vd (FP.ddiv (FP.i2d (Int32.ofInt ((k - ((zscn s f g X k.toNat).2.2.2)) * g))) (FP.i2d (Int32.ofInt ((s k) - (s ((zscn s f g X k.toNat).2.2.2))))))), (10, vi ((s k) - (s ((zscn s f g X k.toNat).2.2.2)))), (6, vd ((zscn s f g X k.toNat).2.2.1)), (5, vi ((zscn s f g X k.toNat).2.1)), (4, vi ((zscn s f g X k.toNat).1)), (0, vr 119), (1, vi g)], [], ((zFS I n s f m u d), zPp π, (zFD D t), 137)) (G := (zr (k + 1)) ∧ True) rfl ⟨by omega, trivial⟩ ?_
            refine z_sub [(9, vi (k + 1)), (8, vi k), (6, vd ((zscn s f g X k.toNat).2.2.1)), (5, vi ((zscn s f g X k.toNat).2.1)), (4, vi ((zscn s f g X k.toNat).1)), (0, vr 119), (1, vi g)] [0, 1, 4, 5, 6, 7, 8] rfl ?_
            refine z_lk (L1 := [(9, vi (k + 1)), (8, vi ((zscn s f g X (k + 1).toNat).2.2.2)), (6, vd ((zscn s f g X (k + 1).toNat).2.2.1)), (5, vi ((zscn s f g X (k + 1).toNat).2.1)), (4, vi ((zscn s f g X (k + 1).toNat).1)), (0, vr 119), (1, vi g)]) (by rw [zsc_s h0]; unfold zsc1; repeat (first | rw [if_pos (by assumption)] | rw [if_neg (by assumption)])) ?_
            exact ih (k + 1) (by omega) (by omega)
          · refine z_n 3 (108, [(11, vd (FP.ddiv (FP.i2d (Int32.ofInt ((k - ((zscn s f g X k.toNat).2.2.2)) * g))) (FP.i2d (Int32.ofInt ((s k) - (s ((zscn s f g X k.toNat).2.2.2))))))), (10, vi ((s k) - (s ((zscn s f g X k.toNat).2.2.2)))), (9, vi k), (8, vi ((zscn s f g X k.toNat).2.2.2)), (6, vd ((zscn s f g X k.toNat).2.2.1)), (5, vi ((zscn s f g X k.toNat).2.1)), (4, vi ((zscn s f g X k.toNat).1)), (0, vr 119), (1, vi g)], [vi ((Op.cmpValue (FP.dcmp (FP.ddiv (FP.i2d (Int32.ofInt ((k - ((zscn s f g X k.toNat).2.2.2)) * g))) (FP.i2d (Int32.ofInt ((s k) - (s ((zscn s f g X k.toNat).2.2.2)))))) ((zscn s f g X k.toNat).2.2.1)) .l).toInt)], ((zFS I n s f m u d), zPp π, (zFD D t), 137)) rfl trivial ?_
            refine z_br (¬ ((Op.cmpValue (FP.dcmp (FP.ddiv (FP.i2d (Int32.ofInt ((k - ((zscn s f g X k.toNat).2.2.2)) * g))) (FP.i2d (Int32.ofInt ((s k) - (s ((zscn s f g X k.toNat).2.2.2)))))) ((zscn s f g X k.toNat).2.2.1)) .l).toInt) = 0) 123 111 [] rfl (fun hx7 => ?_) (fun hx7 => ?_)
            · refine z_n 4 (15, [(9, vi (k + 1)), (8, vi k), (11, vd (FP.ddiv (FP.i2d (Int32.ofInt ((k - ((zscn s f g X k.toNat).2.2.2)) * g))) (FP.i2d (Int32.ofInt ((s k) - (s ((zscn s f g X k.toNat).2.2.2))))))), (10, vi ((s k) - (s ((zscn s f g X k.toNat).2.2.2)))), (6, vd ((zscn s f g X k.toNat).2.2.1)), (5, vi ((zscn s f g X k.toNat).2.1)), (4, vi ((zscn s f g X k.toNat).1)), (0, vr 119), (1, vi g)], [], ((zFS I n s f m u d), zPp π, (zFD D t), 137)) (G := (zr (k + 1)) ∧ True) rfl ⟨by omega, trivial⟩ ?_
              refine z_sub [(9, vi (k + 1)), (8, vi k), (6, vd ((zscn s f g X k.toNat).2.2.1)), (5, vi ((zscn s f g X k.toNat).2.1)), (4, vi ((zscn s f g X k.toNat).1)), (0, vr 119), (1, vi g)] [0, 1, 4, 5, 6, 7, 8] rfl ?_
              refine z_lk (L1 := [(9, vi (k + 1)), (8, vi ((zscn s f g X (k + 1).toNat).2.2.2)), (6, vd ((zscn s f g X (k + 1).toNat).2.2.1)), (5, vi ((zscn s f g X (k + 1).toNat).2.1)), (4, vi ((zscn s f g X (k + 1).toNat).1)), (0, vr 119), (1, vi g)]) (by rw [zsc_s h0]; unfold zsc1; repeat (first | rw [if_pos (by assumption)] | rw [if_neg (by assumption)])) ?_
              exact ih (k + 1) (by omega) (by omega)
            · refine z_n 10 (15, [(9, vi (k + 1)), (8, vi k), (6, vd (FP.ddiv (FP.i2d (Int32.ofInt ((k - ((zscn s f g X k.toNat).2.2.2)) * g))) (FP.i2d (Int32.ofInt ((s k) - (s ((zscn s f g X k.toNat).2.2.2))))))), (5, vi ((zscn s f g X k.toNat).2.2.2)), (4, vi k), (11, vd (FP.ddiv (FP.i2d (Int32.ofInt ((k - ((zscn s f g X k.toNat).2.2.2)) * g))) (FP.i2d (Int32.ofInt ((s k) - (s ((zscn s f g X k.toNat).2.2.2))))))), (10, vi ((s k) - (s ((zscn s f g X k.toNat).2.2.2)))), (0, vr 119), (1, vi g)], [], ((zFS I n s f m u d), zPp π, (zFD D t), 137)) (G := (zr (k + 1)) ∧ True) rfl ⟨by omega, trivial⟩ ?_
              refine z_sub [(9, vi (k + 1)), (8, vi k), (6, vd (FP.ddiv (FP.i2d (Int32.ofInt ((k - ((zscn s f g X k.toNat).2.2.2)) * g))) (FP.i2d (Int32.ofInt ((s k) - (s ((zscn s f g X k.toNat).2.2.2))))))), (5, vi ((zscn s f g X k.toNat).2.2.2)), (4, vi k), (0, vr 119), (1, vi g)] [0, 1, 2, 3, 4, 7, 8] rfl ?_
              refine z_lk (L1 := [(9, vi (k + 1)), (8, vi ((zscn s f g X (k + 1).toNat).2.2.2)), (6, vd ((zscn s f g X (k + 1).toNat).2.2.1)), (5, vi ((zscn s f g X (k + 1).toNat).2.1)), (4, vi ((zscn s f g X (k + 1).toNat).1)), (0, vr 119), (1, vi g)]) (by rw [zsc_s h0]; unfold zsc1; repeat (first | rw [if_pos (by assumption)] | rw [if_neg (by assumption)])) ?_
              exact ih (k + 1) (by omega) (by omega)
    · refine z_n 4 (72, [(10, vi 0), (9, vi k), (8, vi ((zscn s f g X k.toNat).2.2.2)), (6, vd ((zscn s f g X k.toNat).2.2.1)), (5, vi ((zscn s f g X k.toNat).2.1)), (4, vi ((zscn s f g X k.toNat).1)), (0, vr 119), (1, vi g)], [vi 0], ((zFS I n s f m u d), zPp π, (zFD D t), 137)) rfl trivial ?_
      refine z_br ((0 : Int) ≤ 0) 123 75 [] rfl (fun hx8 => ?_) (fun h => absurd (show (0 : Int) ≤ 0 from by decide) h)
      refine z_n 4 (15, [(9, vi (k + 1)), (8, vi k), (10, vi 0), (6, vd ((zscn s f g X k.toNat).2.2.1)), (5, vi ((zscn s f g X k.toNat).2.1)), (4, vi ((zscn s f g X k.toNat).1)), (0, vr 119), (1, vi g)], [], ((zFS I n s f m u d), zPp π, (zFD D t), 137)) (G := (zr (k + 1)) ∧ True) rfl ⟨by omega, trivial⟩ ?_
      refine z_sub [(9, vi (k + 1)), (8, vi k), (6, vd ((zscn s f g X k.toNat).2.2.1)), (5, vi ((zscn s f g X k.toNat).2.1)), (4, vi ((zscn s f g X k.toNat).1)), (0, vr 119), (1, vi g)] [0, 1, 3, 4, 5, 6, 7] rfl ?_
      refine z_lk (L1 := [(9, vi (k + 1)), (8, vi ((zscn s f g X (k + 1).toNat).2.2.2)), (6, vd ((zscn s f g X (k + 1).toNat).2.2.1)), (5, vi ((zscn s f g X (k + 1).toNat).2.1)), (4, vi ((zscn s f g X (k + 1).toNat).1)), (0, vr 119), (1, vi g)]) (by rw [zsc_s h0]; unfold zsc1; repeat (first | rw [if_pos (by assumption)] | rw [if_neg (by assumption)])) ?_
      exact ih (k + 1) (by omega) (by omega)
  · refine z_n 3 (15, [(9, vi (k + 1)), (8, vi ((zscn s f g X k.toNat).2.2.2)), (6, vd ((zscn s f g X k.toNat).2.2.1)), (5, vi ((zscn s f g X k.toNat).2.1)), (4, vi ((zscn s f g X k.toNat).1)), (0, vr 119), (1, vi g)], [], ((zFS I n s f m u d), zPp π, (zFD D t), 137)) (G := (zr (k + 1)) ∧ True) rfl ⟨by omega, trivial⟩ ?_
    refine z_sub [(9, vi (k + 1)), (8, vi ((zscn s f g X k.toNat).2.2.2)), (6, vd ((zscn s f g X k.toNat).2.2.1)), (5, vi ((zscn s f g X k.toNat).2.1)), (4, vi ((zscn s f g X k.toNat).1)), (0, vr 119), (1, vi g)] [0, 1, 2, 3, 4, 5, 6] rfl ?_
    refine z_lk (L1 := [(9, vi (k + 1)), (8, vi ((zscn s f g X (k + 1).toNat).2.2.2)), (6, vd ((zscn s f g X (k + 1).toNat).2.2.1)), (5, vi ((zscn s f g X (k + 1).toNat).2.1)), (4, vi ((zscn s f g X (k + 1).toNat).1)), (0, vr 119), (1, vi g)]) (by rw [zsc_s h0]; unfold zsc1; repeat (first | rw [if_pos (by assumption)] | rw [if_neg (by assumption)])) ?_
    exact ih (k + 1) (by omega) (by omega)
set_option maxRecDepth 20000 in
theorem m_fn1 {I : zI} {π : Int → Nat} {D : zD} {n m : Int} {s f u d : Int → Int} {t : Int → UInt64} {g : Int} {X : UInt64} (hn : 0 ≤ n ∧ n ≤ 9) (hm : 0 ≤ m ∧ m < 4) (hg : 0 ≤ g ∧ g ≤ 5000) (hs : ∀ j, 0 ≤ j → j < n → 0 ≤ s j ∧ s j ≤ 1000) (hq : ¬ (zscn s f g X n.toNat).1 = -1) : zMet 34 [vr 119, vi g, vd X] ((zFS I n s f m u d), zPp π, (zFD D t), 137) (some (vi 1)) (zFS I n s (zu1 (zu1 f (zscn s f g X n.toNat).1 1) (zscn s f g X n.toNat).2.1 1) (m + 1) (zu1 u m (zscn s f g X n.toNat).1) (zu1 d m (zscn s f g X n.toNat).2.1), zPp π, zFD D (zuD t m (zscn s f g X n.toNat).2.2.1), 137) := by
  refine z_n 10 (15, [(9, vi 0), (8, vi (-1)), (6, vd X), (5, vi (-1)), (4, vi (-1)), (0, vr 119), (1, vi g), (2, vd X)], [], ((zFS I n s f m u d), zPp π, (zFD D t), 137)) rfl trivial ?_
  refine z_sub [(9, vi 0), (8, vi (-1)), (6, vd X), (5, vi (-1)), (4, vi (-1)), (0, vr 119), (1, vi g)] [0, 1, 2, 3, 4, 5, 6] rfl ?_
  refine z_lk (L1 := [(9, vi 0), (8, vi ((zscn s f g X (0 : Int).toNat).2.2.2)), (6, vd ((zscn s f g X (0 : Int).toNat).2.2.1)), (5, vi ((zscn s f g X (0 : Int).toNat).2.1)), (4, vi ((zscn s f g X (0 : Int).toNat).1)), (0, vr 119), (1, vi g)]) (by rfl) ?_
  exact m_fn1_l hn hm hg hs hq n.toNat 0 (by omega) (by omega)
