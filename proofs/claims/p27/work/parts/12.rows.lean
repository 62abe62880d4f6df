/-! ===== rows of the pure machine ===== -/
theorem zRuns_cl : zCl zRuns := by
  refine ⟨?_, ?_, ?_, ?_, ?_, ?_⟩
  · intro y pc L st σ g pc1 L1 st1 σ1 r τ h hg k X hX
    exact hX.1 y pc L st σ g pc1 L1 st1 σ1 r τ h hg (k X hX)
  · intro y pc L st σ c t f st1 r τ h k1 k2 X hX
    exact hX.2.1 y pc L st σ c t f st1 r τ h (fun q => k1 q X hX) (fun q => k2 q X hX)
  · intro y pc L st σ a As rest v σ1 r τ h k1 k2 X hX
    exact hX.2.2.1 y pc L st σ a As rest v σ1 r τ h (k1 X hX) (k2 X hX)
  · intro y pc L st σ r h X hX
    exact hX.2.2.2.1 y pc L st σ r h
  · intro y pc L L1 st σ r τ h k X hX
    exact hX.2.2.2.2.1 y pc L L1 st σ r τ h (k X hX)
  · intro y pc L st σ σ1 r τ h k X hX
    exact hX.2.2.2.2.2 y pc L st σ σ1 r τ h (k X hX)
section ZR
variable {y pc : Nat} {L : zL} {st : List zV} {σ τ : zS} {r : Option zV}
theorem z_s {g : Option Prop} {pc1 : Nat} {L1 : zL} {st1 : List zV} {σ1 : zS} (h : zst y pc L st σ = some (g, pc1, L1, st1, σ1)) (hg : ∀ P, g = some P → P) (kk : zRuns y pc1 L1 st1 σ1 r τ) : zRuns y pc L st σ r τ := zRuns_cl.1 y pc L st σ g pc1 L1 st1 σ1 r τ h hg kk
abbrev zQ : Type := Nat × (zL × (List zV × zS))
/-- several steps at once; what must hold on the way -/
def zmul (y : Nat) : Nat → zQ → Option (Prop × zQ)
  | 0, q => some (True, q)
  | k + 1, q => match zst y q.1 q.2.1 q.2.2.1 q.2.2.2 with
    | none => none
    | some (none, q1) => zmul y k q1
    | some (some P, q1) => match zmul y k q1 with
      | none => none
      | some (G, q2) => some (P ∧ G, q2)
theorem zmul_ok : ∀ (k : Nat) (q q2 : zQ) (G : Prop), zmul y k q = some (G, q2) → G → zRuns y q2.1 q2.2.1 q2.2.2.1 q2.2.2.2 r τ → zRuns y q.1 q.2.1 q.2.2.1 q.2.2.2 r τ
  | 0, q, q2, G, h, hG, kk => by
    simp only [zmul, Option.some.injEq, Prod.mk.injEq] at h
    rw [← h.2] at kk
    exact kk
  | k + 1, q, q2, G, h, hG, kk => by
    unfold zmul at h
    split at h
    · cases h
    · next q1 hq => exact z_s hq (fun P hP => by cases hP) (zmul_ok k q1 q2 G h hG kk)
    · next P q1 hq =>
      split at h
      · cases h
      · next G1 q3 h3 =>
        simp only [Option.some.injEq, Prod.mk.injEq] at h
        obtain ⟨rfl, rfl⟩ := h
        exact z_s hq (fun P' hP => by cases hP; exact hG.1) (zmul_ok k q1 q3 G1 h3 hG.2 kk)
/-- k steps, to the frame q -/
theorem z_n (k : Nat) (q : zQ) {G : Prop} (h : zmul y k (pc, L, st, σ) = some (G, q)) (hG : G) (kk : zRuns y q.1 q.2.1 q.2.2.1 q.2.2.2 r τ) : zRuns y pc L st σ r τ := zmul_ok k (pc, L, st, σ) q G h hG kk
theorem z_br (c : Prop) (t f : Nat) (st1 : List zV) (h : zbr y pc st = some (c, t, f, st1)) (kt : c → zRuns y t L st1 σ r τ) (kf : ¬ c → zRuns y f L st1 σ r τ) : zRuns y pc L st σ r τ := zRuns_cl.2.1 y pc L st σ c t f st1 r τ h kt kf
theorem z_ci (a : Nat) (As rest : List zV) {v : zV} {σ1 : zS} (h : zcl y pc st σ = some (a, As, rest)) (hm : zMet a As σ (some v) σ1) (kk : zRuns y (pc + 3) L (v :: rest) σ1 r τ) : zRuns y pc L st σ r τ := zRuns_cl.2.2.1 y pc L st σ a As rest (some v) σ1 r τ h hm kk
theorem z_cv (a : Nat) (As rest : List zV) {σ1 : zS} (h : zcl y pc st σ = some (a, As, rest)) (hm : zMet a As σ none σ1) (kk : zRuns y (pc + 3) L rest σ1 r τ) : zRuns y pc L st σ r τ := zRuns_cl.2.2.1 y pc L st σ a As rest none σ1 r τ h hm kk
theorem z_ret {r' : Option zV} (h : zre y pc st = some r') (h1 : r' = r) (h2 : σ = τ) : zRuns y pc L st σ r τ := by
  subst h1; subst h2
  exact zRuns_cl.2.2.2.1 y pc L st σ r' h
theorem zpk {L1 : zL} (ks : List Nat) (h : ks.filterMap (fun k => L[k]?) = L1) : ∀ q ∈ L1, q ∈ L := by
  intro q hq
  rw [← h] at hq
  obtain ⟨k, -, hk⟩ := List.mem_filterMap.mp hq
  exact List.mem_of_getElem? hk
theorem z_sub (L1 : zL) (ks : List Nat) (h : ks.filterMap (fun k => L[k]?) = L1) (kk : zRuns y pc L1 st σ r τ) : zRuns y pc L st σ r τ := zRuns_cl.2.2.2.2.1 y pc L L1 st σ r τ (zpk ks h) kk
theorem z_eqs {σ1 : zS} (h : zeq σ σ1) (kk : zRuns y pc L st σ1 r τ) : zRuns y pc L st σ r τ := zRuns_cl.2.2.2.2.2 y pc L st σ σ1 r τ h kk
/-- the same state, written otherwise -/
theorem z_st {σ1 : zS} (h : σ = σ1) (kk : zRuns y pc L st σ1 r τ) : zRuns y pc L st σ r τ := by subst h; exact kk
theorem z_sk {st1 : List zV} (h : st = st1) (kk : zRuns y pc L st1 σ r τ) : zRuns y pc L st σ r τ := by subst h; exact kk
theorem z_lk {L1 : zL} (h : L = L1) (kk : zRuns y pc L1 st σ r τ) : zRuns y pc L st σ r τ := by subst h; exact kk
theorem zv1 {a b : Int} (h : a = b) : (some (vi a) : Option zV) = some (vi b) := by rw [h]
/-! objects whose number is a variable -/
theorem z_getr {k a b q w : Nat} (hi : zi y pc = some (.getfield k, 3, a, b)) (ho : zob q a σ.2.2.2 = true) (hf : zfr a b = true) (hw : σ.2.1 q b = w) (kk : zRuns y (pc + 3) L (vr w :: st) σ r τ) : zRuns y pc L (vr q :: st) σ r τ := by
  refine z_s (g := none) (σ1 := σ) (L1 := L) (pc1 := pc + 3) (st1 := vr w :: st) ?_ (fun P hP => by cases hP) kk
  simp only [zst, hi, zx, ho, hf, cond_true, hw]
theorem z_geti {k a b q : Nat} {w : Int} (hi : zi y pc = some (.getfield k, 3, a, b)) (ho : zob q a σ.2.2.2 = true) (hf : zfr a b = false) (hw : σ.1 q b = w) (kk : zRuns y (pc + 3) L (vi w :: st) σ r τ) : zRuns y pc L (vr q :: st) σ r τ := by
  refine z_s (g := none) (σ1 := σ) (L1 := L) (pc1 := pc + 3) (st1 := vi w :: st) ?_ (fun P hP => by cases hP) kk
  simp only [zst, hi, zx, ho, hf, cond_true, cond_false, hw]
theorem z_len {a b q n : Nat} (hy : Nat.beq y zsc = false) (hi : zi y pc = some (.arraylength, 1, a, b)) (ho : zob q 10 σ.2.2.2 = true) (hn : (zsh q).2 = n) (kk : zRuns y (pc + 1) L (vi (n : Nat) :: st) σ r τ) : zRuns y pc L (vr q :: st) σ r τ := by
  refine z_s (g := none) (σ1 := σ) (L1 := L) (pc1 := pc + 1) (st1 := vi (n : Nat) :: st) ?_ (fun P hP => by cases hP) kk
  obtain ⟨e1, e2, -, -⟩ := zob_spec ho (by decide)
  have e3 : Nat.blt q σ.2.2.2 = true := by simpa using e2
  have h1 : Nat.ble 10 (zsh q).1 = true := by rw [e1]; rfl
  have h2 : Nat.ble (zsh q).1 14 = true := by rw [e1]; rfl
  simp only [zst, hi, zx, hy, Bool.and_false, cond_false, h1, h2, e3, Bool.and_self, cond_true, hn]
theorem z_ild {a b q n : Nat} {j : Int} (hy : Nat.beq y zsc = false) (hi : zi y pc = some (.iaload, 1, a, b)) (ho : zob q 10 σ.2.2.2 = true) (hn : (zsh q).2 = n) (h0 : 0 ≤ j) (h1 : j < n) (kk : zRuns y (pc + 1) L (vi (σ.1 q j) :: st) σ r τ) : zRuns y pc L (vi j :: vr q :: st) σ r τ := by
  refine z_s (g := some (0 ≤ j ∧ j < ((zsh q).2 : Nat))) (σ1 := σ) (L1 := L) (pc1 := pc + 1) (st1 := vi (σ.1 q j) :: st) ?_ (fun P hP => by cases hP; rw [hn]; exact ⟨h0, h1⟩) kk
  simp only [zst, hi, zx, hy, Bool.and_false, cond_false, ho, cond_true]
theorem z_ist {a b q n : Nat} {j x : Int} (hi : zi y pc = some (.iastore, 1, a, b)) (ho : zob q 10 σ.2.2.2 = true) (hn : (zsh q).2 = n) (h0 : 0 ≤ j) (h1 : j < n) (kk : zRuns y (pc + 1) L st (zup σ.1 q j x, σ.2) r τ) : zRuns y pc L (vi x :: vi j :: vr q :: st) σ r τ := by
  refine z_s (g := some (0 ≤ j ∧ j < ((zsh q).2 : Nat))) (σ1 := (zup σ.1 q j x, σ.2)) (L1 := L) (pc1 := pc + 1) (st1 := st) ?_ (fun P hP => by cases hP; rw [hn]; exact ⟨h0, h1⟩) kk
  simp only [zst, hi, zx, ho, cond_true]
end ZR
/-- a Cells object with its row of n numbers -/
abbrev zCel (P : zP) (c r n : Nat) : Prop := zob r 0 c = true ∧ zob (r + 1) 10 c = true ∧ (zsh (r + 1)).2 = n ∧ P r 0 = r + 1
theorem m_get {I : zI} {P : zP} {D : zD} {c r n : Nat} (h : zCel P c r n) {i : Int} (h0 : 0 ≤ i) (h1 : i < n) : zMet 1 [vr r, vi i] (I, P, D, c) (some (vi (I (r + 1) i))) (I, P, D, c) := by
  obtain ⟨a1, a2, a3, a4⟩ := h
  refine z_n 1 (1, [(0, vr r), (1, vi i)], [vi i], (I, P, D, c)) rfl trivial ?_
  refine z_br (i < 0) 22 4 [] rfl (fun h => absurd h0 (by omega)) (fun _ => ?_)
  refine z_n 2 (6, [(0, vr r), (1, vi i)], [vr r, vi i], (I, P, D, c)) rfl trivial ?_
  refine z_getr rfl a1 rfl a4 ?_
  refine z_len rfl rfl a2 a3 ?_
  refine z_br ((n : Int) ≤ i) 22 13 [] rfl (fun h => absurd h1 (by omega)) (fun _ => ?_)
  refine z_n 1 (14, [(0, vr r), (1, vi i)], [vr r], (I, P, D, c)) rfl trivial ?_
  refine z_getr rfl a1 rfl a4 ?_
  refine z_n 1 (18, [(0, vr r), (1, vi i)], [vi i, vr (r + 1)], (I, P, D, c)) rfl trivial ?_
  refine z_ild rfl rfl a2 a3 h0 h1 ?_
  refine z_n 1 (23, [(0, vr r), (1, vi i)], [vi (I (r + 1) i)], (I, P, D, c)) rfl trivial ?_
  exact z_ret rfl rfl rfl
theorem m_get0 {I : zI} {P : zP} {D : zD} {c r n : Nat} (h : zCel P c r n) {i : Int} (h1 : i < 0 ∨ n ≤ i) : zMet 1 [vr r, vi i] (I, P, D, c) (some (vi 0)) (I, P, D, c) := by
  obtain ⟨a1, a2, a3, a4⟩ := h
  refine z_n 1 (1, [(0, vr r), (1, vi i)], [vi i], (I, P, D, c)) rfl trivial ?_
  refine z_br (i < 0) 22 4 [] rfl (fun h => ?_) (fun _ => ?_)
  · exact z_n 1 (23, [(0, vr r), (1, vi i)], [vi 0], (I, P, D, c)) rfl trivial (z_ret rfl rfl rfl)
  refine z_n 2 (6, [(0, vr r), (1, vi i)], [vr r, vi i], (I, P, D, c)) rfl trivial ?_
  refine z_getr rfl a1 rfl a4 ?_
  refine z_len rfl rfl a2 a3 ?_
  refine z_br ((n : Int) ≤ i) 22 13 [] rfl (fun _ => ?_) (fun h => absurd h (by omega))
  exact z_n 1 (23, [(0, vr r), (1, vi i)], [vi 0], (I, P, D, c)) rfl trivial (z_ret rfl rfl rfl)
theorem m_put {I : zI} {P : zP} {D : zD} {c r n : Nat} (h : zCel P c r n) {i x : Int} (h0 : 0 ≤ i) (h1 : i < n) : zMet 2 [vr r, vi i, vi x] (I, P, D, c) none (zup I (r + 1) i x, P, D, c) := by
  obtain ⟨a1, a2, a3, a4⟩ := h
  refine z_n 1 (1, [(0, vr r), (1, vi i), (2, vi x)], [vi i], (I, P, D, c)) rfl trivial ?_
  refine z_br (i < 0) 20 4 [] rfl (fun h => absurd h0 (by omega)) (fun _ => ?_)
  refine z_n 2 (6, [(0, vr r), (1, vi i), (2, vi x)], [vr r, vi i], (I, P, D, c)) rfl trivial ?_
  refine z_getr rfl a1 rfl a4 ?_
  refine z_len rfl rfl a2 a3 ?_
  refine z_br ((n : Int) ≤ i) 20 13 [] rfl (fun h => absurd h1 (by omega)) (fun _ => ?_)
  refine z_n 1 (14, [(0, vr r), (1, vi i), (2, vi x)], [vr r], (I, P, D, c)) rfl trivial ?_
  refine z_getr rfl a1 rfl a4 ?_
  refine z_n 2 (19, [(0, vr r), (1, vi i), (2, vi x)], [vi x, vi i, vr (r + 1)], (I, P, D, c)) rfl trivial ?_
  refine z_ist rfl a2 a3 h0 h1 ?_
  exact z_ret rfl rfl rfl
theorem m_min {σ : zS} {a b : Int} : zMet 78 [vi a, vi b] σ (some (vi (if a ≤ b then a else b))) σ := by
  refine z_n 2 (2, [(0, vi a), (1, vi b)], [vi b, vi a], σ) rfl trivial ?_
  refine z_br (b < a) 9 5 [] rfl (fun h => ?_) (fun h => ?_)
  · exact z_n 1 (10, [(0, vi a), (1, vi b)], [vi b], σ) rfl trivial (z_ret rfl (zv1 (by omega)) rfl)
  · exact z_n 2 (10, [(0, vi a), (1, vi b)], [vi a], σ) rfl trivial (z_ret rfl (zv1 (by omega)) rfl)
