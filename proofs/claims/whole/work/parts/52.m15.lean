theorem zfi_D {s : Int → Int} {g n : Int} {X : UInt64} {A : zFA} (hn : 0 ≤ n) (h : A.2.1 = 0) (h0 : ∀ j, 0 ≤ j → j < n → A.1 j = 0) : ∀ k : Nat, (∀ x, 0 ≤ x → x < n → (zOut (zfi n s g X A k).2.1 (zfi n s g X A k).2.2.1 (zfi n s g X A k).2.2.2.1 x → ¬ (zfi n s g X A k).1 x = 0)) ∧ ∀ j, 0 ≤ j → j < (zfi n s g X A k).2.1 → ¬ zOut j (zfi n s g X A k).2.2.1 (zfi n s g X A k).2.2.2.1 ((zfi n s g X A k).2.2.1 j) ∧ ¬ zOut j (zfi n s g X A k).2.2.1 (zfi n s g X A k).2.2.2.1 ((zfi n s g X A k).2.2.2.1 j)
  | 0 => ⟨fun x a b ⟨k, k0, k1, _⟩ => by have : k < A.2.1 := k1; omega, fun j a b => by have : j < A.2.1 := b; omega⟩
  | k + 1 => by
    obtain ⟨i1, i2⟩ := zfi_D (s := s) (g := g) (X := X) hn h h0 k
    have hm := zfi_m (n := n) (s := s) (g := g) (X := X) h k
    have hb := zsc_b (s := s) (f := (zfi n s g X A k).1) (g := g) (X := X) n.toNat
    have ho := (zsc_o (s := s) (f := (zfi n s g X A k).1) (g := g) (X := X) n.toNat).2
    show (∀ x, 0 ≤ x → x < n → (zOut (zf1 n s g X (zfi n s g X A k)).2.1 (zf1 n s g X (zfi n s g X A k)).2.2.1 (zf1 n s g X (zfi n s g X A k)).2.2.2.1 x → ¬ (zf1 n s g X (zfi n s g X A k)).1 x = 0)) ∧ ∀ j, 0 ≤ j → j < (zf1 n s g X (zfi n s g X A k)).2.1 → ¬ zOut j (zf1 n s g X (zfi n s g X A k)).2.2.1 (zf1 n s g X (zfi n s g X A k)).2.2.2.1 ((zf1 n s g X (zfi n s g X A k)).2.2.1 j) ∧ ¬ zOut j (zf1 n s g X (zfi n s g X A k)).2.2.1 (zf1 n s g X (zfi n s g X A k)).2.2.2.1 ((zf1 n s g X (zfi n s g X A k)).2.2.2.1 j)
    generalize zfi n s g X A k = B at i1 i2 hm hb ho ⊢
    unfold zf1
    by_cases hq : (zsc s B.1 g X n.toNat).1 = -1
    · rw [if_pos hq]
      exact ⟨i1, i2⟩
    · rw [if_neg hq]
      have hb2 := hb.2.resolve_left hq
      have ho2 := ho.resolve_left hq
      generalize zsc s B.1 g X n.toNat = q at hb2 ho2 ⊢
      refine ⟨fun x a b hx => ?_, fun j a b => ?_⟩
      · show ¬ zu1 (zu1 B.1 q.1 1) q.2.1 1 x = 0
        unfold zu1
        rcases (zOut_s hm.1).mp hx with h9 | h9 | h9
        · have := i1 x a b ((zOut_u (Int.le_refl _)).mp h9)
          split
          · decide
          · split
            · decide
            · exact this
        · have h8 : x = zu1 B.2.2.1 B.2.1 q.1 B.2.1 := h9
          unfold zu1 at h8
          rw [if_pos rfl] at h8
          rw [if_pos h8]
          split <;> decide
        · have h8 : x = zu1 B.2.2.2.1 B.2.1 q.2.1 B.2.1 := h9
          unfold zu1 at h8
          rw [if_pos rfl] at h8
          rw [if_pos h8]; decide
      · have b' : j < B.2.1 + 1 := b
        show ¬ zOut j (zu1 B.2.2.1 B.2.1 q.1) (zu1 B.2.2.2.1 B.2.1 q.2.1) (zu1 B.2.2.1 B.2.1 q.1 j) ∧ ¬ zOut j (zu1 B.2.2.1 B.2.1 q.1) (zu1 B.2.2.2.1 B.2.1 q.2.1) (zu1 B.2.2.2.1 B.2.1 q.2.1 j)
        rw [zOut_u (by omega), zOut_u (by omega)]
        by_cases ej : j = B.2.1
        · subst ej
          unfold zu1
          rw [if_pos rfl, if_pos rfl]
          exact ⟨fun h => i1 q.1 (by omega) (by omega) h ho2.1, fun h => i1 q.2.1 (by omega) (by omega) h ho2.2⟩
        · unfold zu1
          rw [if_neg ej, if_neg ej]
          exact i2 j a (by omega)
/-- the first k of the foretold bumps made, seen from the chart -/
def zRwX (X : zI) (k : Int) : zI := fun r j => if r = 7 ∧ j = 2 then k else if r = 9 ∧ 0 ≤ j ∧ j < k then X 6 (X 0 9 * X 0 6 + (zFX X).2.2.1 j) else if r = 11 ∧ 0 ≤ j ∧ j < k then X 6 (X 0 9 * X 0 6 + (zFX X).2.2.2.1 j) else X r j
theorem zRwX_o {X : zI} {k : Int} {r : Nat} (h : r ≠ 7 ∧ r ≠ 9 ∧ r ≠ 11) : zRwX X k r = X r := by
  funext j
  unfold zRwX
  rw [if_neg (fun h9 => h.1 h9.1), if_neg (fun h9 => h.2.1 h9.1), if_neg (fun h9 => h.2.2 h9.1)]
theorem zRwX_I {X : zI} (ci : zCI X) : zCI (zRwX X (zFX X).2.1) := by
  have hin := zFX_in ci.1.1
  have hzb := zns_b ci.1.1
  have w := ci.1.1
  have v := ci.1.2.1
  have hD := (zfi_D (s := fun j => X 2 (X 6 (X 0 9 * X 0 6 + j))) (g := X 0 10) (X := FP.i2d (Int32.ofInt (X 0 11))) (A := (fun _ => 0, 0, fun _ => 0, fun _ => 0, fun _ => 0)) hzb.1.1 rfl (fun _ _ _ => rfl) 4).2
  change ∀ j, 0 ≤ j → j < (zFX X).2.1 → ¬ zOut j (zFX X).2.2.1 (zFX X).2.2.2.1 ((zFX X).2.2.1 j) ∧ ¬ zOut j (zFX X).2.2.1 (zFX X).2.2.2.1 ((zFX X).2.2.2.1 j) at hD
  have e9 : ∀ j, 0 ≤ j → j < (zFX X).2.1 → zRwX X (zFX X).2.1 9 j = X 6 (X 0 9 * X 0 6 + (zFX X).2.2.1 j) := fun j a b => by
    unfold zRwX
    rw [if_neg (by omega), if_pos ⟨rfl, a, b⟩]
  have e11 : ∀ j, 0 ≤ j → j < (zFX X).2.1 → zRwX X (zFX X).2.1 11 j = X 6 (X 0 9 * X 0 6 + (zFX X).2.2.2.1 j) := fun j a b => by
    unfold zRwX
    rw [if_neg (by omega), if_neg (by omega), if_pos ⟨rfl, a, b⟩]
  have e7 : zRwX X (zFX X).2.1 7 2 = (zFX X).2.1 := rfl
  unfold zCI zCJ zLg zPA
  rw [zRwX_o (r := 0) (by decide), zRwX_o (r := 2) (by decide), zRwX_o (r := 4) (by decide), zRwX_o (r := 6) (by decide), zRwX_o (r := 12) (by decide), zRwX_o (r := 16) (by decide), zRwX_o (r := 18) (by decide), zRwX_o (r := 20) (by decide), zRwX_o (r := 22) (by decide), e7]
  refine ⟨ci.1, hin.1.1, fun k k0 k1 => ?_⟩
  have ik := hin.2 k k0 k1
  have dk := hD k k0 k1
  have q1 := v.2.1 (X 0 9 * X 0 6 + (zFX X).2.2.1 k) (by omega) (by omega)
  have q2 := v.2.1 (X 0 9 * X 0 6 + (zFX X).2.2.2.1 k) (by omega) (by omega)
  have inj : ∀ a b, 0 ≤ a → a < zns (X 0) → 0 ≤ b → b < zns (X 0) → X 6 (X 0 9 * X 0 6 + a) = X 6 (X 0 9 * X 0 6 + b) → a = b := by
    intro a b a0 a1 b0 b1 h
    have p1 := v.2.1 (X 0 9 * X 0 6 + a) (by omega) (by omega)
    have p2 := v.2.1 (X 0 9 * X 0 6 + b) (by omega) (by omega)
    rw [h] at p1
    omega
  have out : ∀ x, 0 ≤ x → x < zns (X 0) → zOut k (zRwX X (zFX X).2.1 9) (zRwX X (zFX X).2.1 11) (X 6 (X 0 9 * X 0 6 + x)) → zOut k (zFX X).2.2.1 (zFX X).2.2.2.1 x := by
    rintro x x0 x1 ⟨j, j0, j1, j2⟩
    have ij := hin.2 j j0 (by omega)
    rw [e9 j j0 (by omega), e11 j j0 (by omega)] at j2
    exact ⟨j, j0, j1, j2.elim (fun h => Or.inl (inj _ _ (by omega) (by omega) x0 x1 h)) (fun h => Or.inr (inj _ _ (by omega) (by omega) x0 x1 h))⟩
  rw [e9 k k0 k1, e11 k k0 k1]
  exact ⟨⟨⟨q1.1, q1.2.1⟩, by omega, by omega⟩, ⟨⟨q2.1, q2.2.1⟩, by omega, by omega⟩, by omega, fun h => dk.1 (out _ (by omega) (by omega) h), fun h => dk.2 (out _ (by omega) (by omega) h)⟩
theorem zEq_rw {m : Int → Int} {X : zI} {k : Int} (e : zEq m (zRwX X k)) (h : 0 ≤ k ∧ k < 4) (hN : X 0 5 ≤ 24) : zEq (zu1 (zu1 (zu1 m (56 + k) (X 6 (X 0 9 * X 0 6 + (zFX X).2.2.1 k))) (68 + k) (X 6 (X 0 9 * X 0 6 + (zFX X).2.2.2.1 k))) 55 (k + 1)) (zRwX X (k + 1)) := by
  obtain ⟨⟨m0, m1, m2, m3, m4, m5, m6⟩, mc, ⟨mb, mk⟩, ⟨ml, mg⟩, mt⟩ := e
  have z : ∀ j, j ≠ 56 + k → j ≠ 68 + k → j ≠ 55 → (zu1 (zu1 (zu1 m (56 + k) (X 6 (X 0 9 * X 0 6 + (zFX X).2.2.1 k))) (68 + k) (X 6 (X 0 9 * X 0 6 + (zFX X).2.2.2.1 k))) 55 (k + 1)) j = m j := by
    intro j h1 h2 h3
    unfold zu1
    rw [if_neg h3, if_neg h2, if_neg h1]
  unfold zEq
  rw [zRwX_o (r := 0) (by decide)] at m0 m1 m2 m3 m4 m5 m6 mc mt
  rw [zRwX_o (r := 2) (by decide), zRwX_o (r := 4) (by decide)] at mc
  rw [zRwX_o (r := 12) (by decide)] at ml mg
  rw [zRwX_o (r := 14) (by decide), zRwX_o (r := 16) (by decide), zRwX_o (r := 18) (by decide)] at mg
  rw [zRwX_o (r := 22) (by decide)] at mt
  rw [zRwX_o (r := 0) (by decide), zRwX_o (r := 2) (by decide), zRwX_o (r := 4) (by decide), zRwX_o (r := 12) (by decide), zRwX_o (r := 14) (by decide), zRwX_o (r := 16) (by decide), zRwX_o (r := 18) (by decide), zRwX_o (r := 22) (by decide)]
  refine ⟨⟨(z 0 (by omega) (by omega) (by omega)).trans m0, (z 1 (by omega) (by omega) (by omega)).trans m1, (z 2 (by omega) (by omega) (by omega)).trans m2, (z 3 (by omega) (by omega) (by omega)).trans m3, (z 4 (by omega) (by omega) (by omega)).trans m4, (z 5 (by omega) (by omega) (by omega)).trans m5, (z 6 (by omega) (by omega) (by omega)).trans m6⟩, fun c c0 c1 => ?_, ⟨?_, fun j j0 j1 => ?_⟩, ⟨(z 80 (by omega) (by omega) (by omega)).trans ml, fun j j0 j1 => ?_⟩, fun t c t0 t1 c0 c1 => ?_⟩
  · rw [z _ (by omega) (by omega) (by omega), z _ (by omega) (by omega) (by omega)]; exact mc c c0 c1
  · unfold zu1; rw [if_pos rfl]; rfl
  · have j1' : j < k + 1 := j1
    have r9 : zRwX X (k + 1) 9 j = X 6 (X 0 9 * X 0 6 + (zFX X).2.2.1 j) := by
      unfold zRwX
      rw [if_neg (by omega), if_pos ⟨rfl, j0, j1'⟩]
    have r11 : zRwX X (k + 1) 11 j = X 6 (X 0 9 * X 0 6 + (zFX X).2.2.2.1 j) := by
      unfold zRwX
      rw [if_neg (by omega), if_neg (by omega), if_pos ⟨rfl, j0, j1'⟩]
    rw [r9, r11]
    by_cases hj : j = k
    · subst hj
      unfold zu1
      rw [if_neg (by omega), if_neg (by omega), if_pos rfl, if_neg (by omega), if_pos rfl]
      exact ⟨rfl, rfl⟩
    · have hjk : j < k := by omega
      have := mk j j0 hjk
      have q9 : zRwX X k 9 j = X 6 (X 0 9 * X 0 6 + (zFX X).2.2.1 j) := by
        unfold zRwX
        rw [if_neg (by omega), if_pos ⟨rfl, j0, hjk⟩]
      have q11 : zRwX X k 11 j = X 6 (X 0 9 * X 0 6 + (zFX X).2.2.2.1 j) := by
        unfold zRwX
        rw [if_neg (by omega), if_neg (by omega), if_pos ⟨rfl, j0, hjk⟩]
      rw [q9, q11] at this
      rw [z _ (by omega) (by omega) (by omega), z _ (by omega) (by omega) (by omega)]
      exact this
  · rw [z _ (by omega) (by omega) (by omega), z _ (by omega) (by omega) (by omega), z _ (by omega) (by omega) (by omega)]; exact mg j j0 j1
  · rw [z _ (by omega) (by omega) (by omega)]; exact mt t c t0 t1 c0 c1
theorem zEq_rw0 {m : Int → Int} {X : zI} (e : zEq m X) (h : X 7 2 = 0) : zEq m (zRwX X 0) := by
  have : zRwX X 0 = X := by
    funext r j
    unfold zRwX
    split
    · next h9 => rw [h9.1, h9.2, h]
    · rw [if_neg (by omega), if_neg (by omega)]
  rw [this]; exact e
set_option maxRecDepth 20000 in
theorem m_Rrow0 {I : zI} {π : Int → Nat} {D : zD}  (mb : 0 ≤ I 138 55) (hq : ¬ (¬ I 138 4 = -1 ∧ I 138 55 = 0)) : zMet 124 [vr 137] (I, zPp π, D, 147) (some (vi (-1002))) (I, zPp π, D, 147) := by
  refine z_n 5 (7, [(0, vr 137)], [vi (-1), vi (I 138 4)], (I, zPp π, D, 147)) (G := (0 ≤ 4 ∧ 4 < 585) ∧ True) rfl ⟨by omega, trivial⟩ ?_
  refine z_br ((I 138 4) = (-1)) 20 10 [] rfl (fun hx1 => ?_) (fun hx1 => ?_)
  · refine z_n 1 (23, [(0, vr 137)], [vi (-1002)], (I, zPp π, D, 147)) rfl trivial ?_
    first | exact z_ret rfl (zv1 (by omega)) rfl | (exfalso; omega)
  · refine z_n 4 (17, [(0, vr 137)], [vi (I 138 55)], (I, zPp π, D, 147)) (G := (0 ≤ 55 ∧ 55 < 585) ∧ True) rfl ⟨by omega, trivial⟩ ?_
    refine z_br ((I 138 55) ≤ 0) 24 20 [] rfl (fun hx2 => ?_) (fun hx2 => ?_)
    · exfalso; omega
    · refine z_n 1 (23, [(0, vr 137)], [vi (-1002)], (I, zPp π, D, 147)) rfl trivial ?_
      first | exact z_ret rfl (zv1 (by omega)) rfl | (exfalso; omega)
set_option maxRecDepth 20000 in
theorem m_Rrow_l {J X : zI} {π : Int → Nat} {D : zD} (ci : zCI X) (hr : ¬ X 0 9 = -1) (h15 : J 137 15 = (zFX X).2.1) (h141 : ∀ k, 0 ≤ k → k < zns (X 0) → J 141 k = X 6 (X 0 9 * X 0 6 + k)) (hA : ∀ j, 0 ≤ j → j < (zFX X).2.1 → J 143 j = (zFX X).2.2.1 j ∧ J 144 j = (zFX X).2.2.2.1 j) : ∀ (N : Nat) (k : Int) (I : zI), 0 ≤ k → k + N = (zFX X).2.1 → zEq (I 138) (zRwX X k) → (∀ r, r ≠ 138 → I r = J r) → ∃ K, zRuns 124 34 [(1, vi k), (0, vr 137)] [] (I, zPp π, D, 147) (some (vi (zFX X).2.1)) (K, zPp π, D, 147) ∧ (∀ r, r ≠ 138 → K r = I r) ∧ zEq (K 138) (zFnX (zERX (zRwX X (zFX X).2.1) (zFX X).2.1.toNat)) := by
  intro N
  induction N with
  | zero =>
    intro k I h0 hN e hr9
    have hk9 : k = (zFX X).2.1 := by omega
    rw [hk9] at e
    obtain ⟨K, hK, hKr, hKe⟩ := m_Rfinishes (π := π) (D := D) e (zRwX_I ci) (by rw [zRwX_o (by decide)]; exact hr)
    refine ⟨K, ?_, hKr, hKe⟩
    refine z_n 3 (39, [(1, vi k), (0, vr 137)], [vi (I 137 15), vi k], (I, zPp π, D, 147)) rfl trivial ?_
    refine z_top (b := (zFX X).2.1) ((by rw [hr9 137 (by decide)]; exact h15)) ?_
    refine z_br (((zFX X).2.1) ≤ k) 75 42 [] rfl (fun hx1 => ?_) (fun h => absurd (show ((zFX X).2.1) ≤ k from by omega) h)
    refine z_n 1 (76, [(1, vi k), (0, vr 137)], [vr 137], (I, zPp π, D, 147)) rfl trivial ?_
    refine z_ci 105 [vr 137] [] rfl (hK) ?_
    exact z_ret rfl rfl rfl
  | succ N ih =>
  intro k I h0 hN e hr9
  have hin := zFX_in ci.1.1
  have hzb := zns_b ci.1.1
  have hik := hin.2 k h0 (by omega)
  have hb7 : I 138 55 = k := e.2.2.1.1
  have e2 := zEq_rw e (by omega) (by have := ci.1.1.1; omega)
  obtain ⟨K, hrun, hKr, hKe⟩ := ih (k + 1) (zup (zup (zup I 138 (56 + k) (X 6 (X 0 9 * X 0 6 + (zFX X).2.2.1 k))) 138 (68 + k) (X 6 (X 0 9 * X 0 6 + (zFX X).2.2.2.1 k))) 138 55 (k + 1)) (by omega) (by omega) (by rw [zup_u, zup_u, zup_u]; exact e2) (fun r h => by rw [zup_ne h, zup_ne h, zup_ne h]; exact hr9 r h)
  refine ⟨K, ?_, fun r h => by rw [hKr r h, zup_ne h, zup_ne h, zup_ne h], hKe⟩
  refine z_n 3 (39, [(1, vi k), (0, vr 137)], [vi (I 137 15), vi k], (I, zPp π, D, 147)) rfl trivial ?_
  refine z_top (b := (zFX X).2.1) ((by rw [hr9 137 (by decide)]; exact h15)) ?_
  refine z_br (((zFX X).2.1) ≤ k) 75 42 [] rfl (fun h => absurd h (show ¬ (((zFX X).2.1) ≤ k) from by omega)) (fun hx1 => ?_)
  refine z_n 7 (53, [(1, vi k), (0, vr 137)], [vi (I 143 k), vr 141, vr 137], (I, zPp π, D, 147)) (G := (0 ≤ k ∧ k < 4) ∧ True) rfl ⟨by omega, trivial⟩ ?_
  refine z_top (b := (zFX X).2.2.1 k) ((by rw [hr9 143 (by decide)]; exact (hA k h0 (by omega)).1)) ?_
  refine z_n 1 (54, [(1, vi k), (0, vr 137)], [vi (I 141 ((zFX X).2.2.1 k)), vr 137], (I, zPp π, D, 147)) (G := (0 ≤ ((zFX X).2.2.1 k) ∧ ((zFX X).2.2.1 k) < 9) ∧ True) rfl ⟨by omega, trivial⟩ ?_
  refine z_top (b := X 6 (X 0 9 * X 0 6 + (zFX X).2.2.1 k)) ((by rw [hr9 141 (by decide)]; exact h141 _ (by omega) (by omega))) ?_
  refine z_n 6 (64, [(1, vi k), (0, vr 137)], [vi (I 144 k), vr 141, vi (X 6 (X 0 9 * X 0 6 + (zFX X).2.2.1 k)), vr 137], (I, zPp π, D, 147)) (G := (0 ≤ k ∧ k < 4) ∧ True) rfl ⟨by omega, trivial⟩ ?_
  refine z_top (b := (zFX X).2.2.2.1 k) ((by rw [hr9 144 (by decide)]; exact (hA k h0 (by omega)).2)) ?_
  refine z_n 1 (65, [(1, vi k), (0, vr 137)], [vi (I 141 ((zFX X).2.2.2.1 k)), vi (X 6 (X 0 9 * X 0 6 + (zFX X).2.2.1 k)), vr 137], (I, zPp π, D, 147)) (G := (0 ≤ ((zFX X).2.2.2.1 k) ∧ ((zFX X).2.2.2.1 k) < 9) ∧ True) rfl ⟨by omega, trivial⟩ ?_
  refine z_top (b := X 6 (X 0 9 * X 0 6 + (zFX X).2.2.2.1 k)) ((by rw [hr9 141 (by decide)]; exact h141 _ (by omega) (by omega))) ?_
  refine z_ci 104 [vr 137, vi (X 6 (X 0 9 * X 0 6 + (zFX X).2.2.1 k)), vi (X 6 (X 0 9 * X 0 6 + (zFX X).2.2.2.1 k))] [] rfl (m_puts (m := k) hb7 (by omega)) ?_
  refine z_n 3 (34, [(1, vi (k + 1)), (0, vr 137)], [], ((zup (zup (zup I 138 (56 + k) (X 6 (X 0 9 * X 0 6 + (zFX X).2.2.1 k))) 138 (68 + k) (X 6 (X 0 9 * X 0 6 + (zFX X).2.2.2.1 k))) 138 55 (k + 1)), zPp π, D, 147)) (G := (zr (k + 1)) ∧ True) rfl ⟨by omega, trivial⟩ ?_
  refine z_sub [(1, vi (k + 1)), (0, vr 137)] [0, 1] rfl ?_
  exact hrun
set_option maxRecDepth 20000 in
theorem m_Rrow1 {I : zI} {π : Int → Nat} {D : zD} {X : zI}  (e : zEq (I 138) X) (ci : zCI X) (hs : 0 ≤ I 137 2 ∧ I 137 2 ≤ 4) (hq : ¬ X 0 9 = -1 ∧ X 7 2 = 0) : ∃ J K E, zMet 124 [vr 137] (I, zPp π, D, 147) (some (vi ((zFX X).2.1))) (K, zPp π, E, 147) ∧ zRcd J I ∧ ((∀ r, r < 137 → K r = J r) ∧ K 139 = J 139 ∧ K 140 = J 140 ∧ K 137 2 = J 137 2 ∧ K 137 4 = J 137 4) ∧ zEq (K 138) (zFnX (zERX (zRwX X (zFX X).2.1) (zFX X).2.1.toNat)) := by
  obtain ⟨⟨m0, m1, m2, m3, m4, m5, m6⟩, mc, ⟨mb, mk⟩, ⟨ml, mg⟩, mt⟩ := id e
  obtain ⟨⟨w, v, hsp, ⟨⟨hl0, hl1⟩, hlg, hps⟩, hpt, hp0⟩, hm, hd⟩ := id ci
  have hzb := zns_b w
  have hm4 := zdis_le w v hd hm
  have hl2 := zlb_b w
  obtain ⟨⟨w1, w2⟩, ⟨w3, w4⟩, ⟨w5, w6⟩, ⟨w7, w8⟩, ⟨w9, w10⟩, w11, ⟨⟨w12, w12b⟩, w12c⟩, ⟨w13, w14⟩, ⟨w15, w16⟩⟩ := id w
  obtain ⟨J, hJ, hR⟩ := m_rec (I := I) (π := π) (D := D) hs
  have e2 : zEq (J 138) X := by rw [hR.1 138 (by decide) (by decide)]; exact e
  obtain ⟨⟨j0, j1, j2, j3, j4, j5, j6⟩, jc, ⟨jb, jk⟩, ⟨jl, jg⟩, jt⟩ := id e2
  obtain ⟨J2, E, hF, hmk, hl10, h141, h15, hA⟩ := m_Rforetells (π := π) (D := D) e2 ci
  have e3 : zEq (J2 138) X := by rw [hmk.2.1]; exact e2
  obtain ⟨K, hrun, hKr, hKe⟩ := m_Rrow_l (π := π) (D := E) (J := J2) ci hq.1 h15 h141 (fun j a b => ⟨(hA j a b).1, (hA j a b).2.1⟩) (zFX X).2.1.toNat 0 J2 (by omega) (by have := zFX_in w; omega) (zEq_rw0 e3 hq.2) (fun _ _ => rfl)
  refine ⟨J, K, E, ?_, hR, ⟨fun r hr => ?_, ?_, ?_, ?_, ?_⟩, hKe⟩
  · skip
    refine z_n 5 (7, [(0, vr 137)], [vi (-1), vi (I 138 4)], (I, zPp π, D, 147)) (G := (0 ≤ 4 ∧ 4 < 585) ∧ True) rfl ⟨by omega, trivial⟩ ?_
    refine z_br ((I 138 4) = (-1)) 20 10 [] rfl (fun h => absurd h (show ¬ ((I 138 4) = (-1)) from by omega)) (fun hx1 => ?_)
    refine z_n 4 (17, [(0, vr 137)], [vi (I 138 55)], (I, zPp π, D, 147)) (G := (0 ≤ 55 ∧ 55 < 585) ∧ True) rfl ⟨by omega, trivial⟩ ?_
    refine z_br ((I 138 55) ≤ 0) 24 20 [] rfl (fun hx2 => ?_) (fun h => absurd (show (I 138 55) ≤ 0 from by omega) h)
    refine z_n 1 (25, [(0, vr 137)], [vr 137], (I, zPp π, D, 147)) rfl trivial ?_
    refine z_cv 96 [vr 137] [] rfl (hJ) ?_
    refine z_n 1 (29, [(0, vr 137)], [vr 137], (J, zPp π, D, 147)) rfl trivial ?_
    refine z_cv 122 [vr 137] [] rfl (hF) ?_
    refine z_n 2 (34, [(1, vi 0), (0, vr 137)], [], (J2, zPp π, E, 147)) rfl trivial ?_
    refine z_sub [(1, vi 0), (0, vr 137)] [0, 1] rfl ?_
    exact hrun
  · rw [hKr r (by omega)]; exact hmk.1 r hr
  · rw [hKr 139 (by decide)]; exact hmk.2.2.1
  · rw [hKr 140 (by decide)]; exact hmk.2.2.2.1
  · rw [hKr 137 (by decide)]; exact hmk.2.2.2.2.1
  · rw [hKr 137 (by decide)]; exact hmk.2.2.2.2.2
