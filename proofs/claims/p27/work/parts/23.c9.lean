theorem zns_b {F : Int → Int} (w : zW1 F) : (0 ≤ zns F ∧ zns F ≤ 9) ∧ (zns F = 0 ∨ ((0 ≤ F 9 * F 6 ∧ F 9 * F 6 + zns F ≤ F 5) ∧ F 5 ≤ 24)) := by
  obtain ⟨⟨w1, w2⟩, ⟨w3, w4⟩, ⟨w5, w6⟩, ⟨w7, w8⟩, ⟨w9, w10⟩, w11, ⟨⟨w12, w12b⟩, w12c⟩, ⟨w13, w14⟩, ⟨w15, w16⟩⟩ := w
  unfold zns
  split
  · omega
  · split <;> omega
/-- the speed with which a starter is foretold: v for the crew c -/
def zsp (I : zI) (c v j : Int) : Int := if I 8 (I 2 9 * I 2 6 + j) = c then v else I 4 (I 8 (I 2 9 * I 2 6 + j))
def zso (I : zI) (c v k : Int) : Int → Int := fun j => if 0 ≤ j ∧ j < k then zsp I c v j else I 126 j
def zoo (I : zI) (k : Int) : Int → Int := fun j => if 0 ≤ j ∧ j < k then 0 else I 128 j
theorem zso_0 {I : zI} {c v : Int} : zso I c v 0 = I 126 := by
  funext j
  exact if_neg (by omega)
theorem zoo_0 {I : zI} : zoo I 0 = I 128 := by
  funext j
  exact if_neg (by omega)
theorem zoo_s {I : zI} {k : Int} (h : 0 ≤ k) : zu1 (zoo I k) k 0 = zoo I (k + 1) := by
  funext j
  unfold zu1 zoo
  by_cases e : j = k
  · rw [if_pos e, if_pos (by omega)]
  · rw [if_neg e]
    by_cases e2 : 0 ≤ j ∧ j < k
    · rw [if_pos e2, if_pos (by omega)]
    · rw [if_neg e2, if_neg (by omega)]
theorem zso_s {I : zI} {c v k x : Int} (h : 0 ≤ k) (hx : x = zsp I c v k) : zu1 (zso I c v k) k x = zso I c v (k + 1) := by
  funext j
  unfold zu1 zso
  by_cases e : j = k
  · rw [if_pos e, if_pos (by omega), hx, e]
  · rw [if_neg e]
    by_cases e2 : 0 ≤ j ∧ j < k
    · rw [if_pos e2, if_pos (by omega)]
    · rw [if_neg e2, if_neg (by omega)]
theorem zso_b {I : zI} {c v n : Int} (hp : ∀ j, 0 ≤ j → j < n → 0 ≤ I 4 (I 8 (I 2 9 * I 2 6 + j)) ∧ I 4 (I 8 (I 2 9 * I 2 6 + j)) ≤ 1000) (hv : 0 ≤ v ∧ v ≤ 1000) : ∀ j, 0 ≤ j → j < n → 0 ≤ zso I c v n j ∧ zso I c v n j ≤ 1000 := by
  intro j h0 h1
  unfold zso zsp
  rw [if_pos ⟨h0, h1⟩]
  split
  · exact hv
  · exact hp j h0 h1
def zFA0 (I : zI) (D : zD) : zFA := (zoo I (zns (I 2)), 0, I 121, I 123, D 124)
/-- what is foretold of the chart, were the speed of c v -/
def zFR (I : zI) (D : zD) (c v : Int) : zFA := zfi (zns (I 2)) (zso I c v (zns (I 2))) (I 2 10) (FP.i2d (Int32.ofInt (I 2 11))) (zFA0 I D) 4
def zFI (I : zI) (D : zD) (c v : Int) : zI := zFS I (zns (I 2)) (zso I c v (zns (I 2))) (zFR I D c v).1 (zFR I D c v).2.1 (zFR I D c v).2.2.1 (zFR I D c v).2.2.2.1
def zFDR (I : zI) (D : zD) (c v : Int) : zD := zFD D (zFR I D c v).2.2.2.2
set_option maxRecDepth 20000 in
theorem m_fw_l {I : zI} {π : Int → Nat} {D : zD} {n : Int} {s : Int → Int} {A : zFA} (hn : 0 ≤ n ∧ n ≤ 9) (hg : 0 ≤ I 2 10 ∧ I 2 10 ≤ 5000) (hs : ∀ j, 0 ≤ j → j < n → 0 ≤ s j ∧ s j ≤ 1000) (hA : A.2.1 = 0) : ∀ (N : Nat) (k q : Int), 0 ≤ k → k + N = 4 → (q = 0 ∨ q = 1) → (q = 0 → (zscn s (zfi n s (I 2 10) (FP.i2d (Int32.ofInt (I 2 11))) A k.toNat).1 (I 2 10) (FP.i2d (Int32.ofInt (I 2 11))) n.toNat).1 = -1) → zRuns 33 83 [(5, vi k), (4, vi q), (0, vr 119), (1, vr 2)] [] ((zFS I n s (zfi n s (I 2 10) (FP.i2d (Int32.ofInt (I 2 11))) A k.toNat).1 (zfi n s (I 2 10) (FP.i2d (Int32.ofInt (I 2 11))) A k.toNat).2.1 (zfi n s (I 2 10) (FP.i2d (Int32.ofInt (I 2 11))) A k.toNat).2.2.1 (zfi n s (I 2 10) (FP.i2d (Int32.ofInt (I 2 11))) A k.toNat).2.2.2.1), zPp π, (zFD D (zfi n s (I 2 10) (FP.i2d (Int32.ofInt (I 2 11))) A k.toNat).2.2.2.2), 137) none ((zFS I n s (zfi n s (I 2 10) (FP.i2d (Int32.ofInt (I 2 11))) A 4).1 (zfi n s (I 2 10) (FP.i2d (Int32.ofInt (I 2 11))) A 4).2.1 (zfi n s (I 2 10) (FP.i2d (Int32.ofInt (I 2 11))) A 4).2.2.1 (zfi n s (I 2 10) (FP.i2d (Int32.ofInt (I 2 11))) A 4).2.2.2.1), zPp π, (zFD D (zfi n s (I 2 10) (FP.i2d (Int32.ofInt (I 2 11))) A 4).2.2.2.2), 137) := by
  intro N
  induction N with
  | zero =>
    intro k q h0 hN hq2 hmo
    refine z_n 2 (86, [(5, vi k), (4, vi q), (0, vr 119), (1, vr 2)], [vi 4, vi k], ((zFS I n s (zfi n s (I 2 10) (FP.i2d (Int32.ofInt (I 2 11))) A k.toNat).1 (zfi n s (I 2 10) (FP.i2d (Int32.ofInt (I 2 11))) A k.toNat).2.1 (zfi n s (I 2 10) (FP.i2d (Int32.ofInt (I 2 11))) A k.toNat).2.2.1 (zfi n s (I 2 10) (FP.i2d (Int32.ofInt (I 2 11))) A k.toNat).2.2.2.1), zPp π, (zFD D (zfi n s (I 2 10) (FP.i2d (Int32.ofInt (I 2 11))) A k.toNat).2.2.2.2), 137)) rfl trivial ?_
    refine z_br (4 ≤ k) 115 89 [] rfl (fun hx1 => ?_) (fun h => absurd (show 4 ≤ k from by omega) h)
    exact z_ret rfl rfl (by rw [show k = 4 by omega]; rfl)
  | succ N ih =>
  intro k q h0 hN hq2 hmo
  have hm := zfi_m (n := n) (s := s) (g := I 2 10) (X := FP.i2d (Int32.ofInt (I 2 11))) hA k.toNat
  have hm : 0 ≤ (zfi n s (I 2 10) (FP.i2d (Int32.ofInt (I 2 11))) A k.toNat).2.1 ∧ (zfi n s (I 2 10) (FP.i2d (Int32.ofInt (I 2 11))) A k.toNat).2.1 < 4 := by omega
  have efx : q = 0 → (zfi n s (I 2 10) (FP.i2d (Int32.ofInt (I 2 11))) A 4) = (zfi n s (I 2 10) (FP.i2d (Int32.ofInt (I 2 11))) A k.toNat) := fun e => by
    have := zfi_fix (hmo e) (4 - k.toNat)
    rwa [show k.toNat + (4 - k.toNat) = 4 by omega] at this
  refine z_n 2 (86, [(5, vi k), (4, vi q), (0, vr 119), (1, vr 2)], [vi 4, vi k], ((zFS I n s (zfi n s (I 2 10) (FP.i2d (Int32.ofInt (I 2 11))) A k.toNat).1 (zfi n s (I 2 10) (FP.i2d (Int32.ofInt (I 2 11))) A k.toNat).2.1 (zfi n s (I 2 10) (FP.i2d (Int32.ofInt (I 2 11))) A k.toNat).2.2.1 (zfi n s (I 2 10) (FP.i2d (Int32.ofInt (I 2 11))) A k.toNat).2.2.2.1), zPp π, (zFD D (zfi n s (I 2 10) (FP.i2d (Int32.ofInt (I 2 11))) A k.toNat).2.2.2.2), 137)) rfl trivial ?_
  refine z_br (4 ≤ k) 115 89 [] rfl (fun h => absurd h (show ¬ (4 ≤ k) from by omega)) (fun hx1 => ?_)
  refine z_n 1 (91, [(5, vi k), (4, vi q), (0, vr 119), (1, vr 2)], [vi q], ((zFS I n s (zfi n s (I 2 10) (FP.i2d (Int32.ofInt (I 2 11))) A k.toNat).1 (zfi n s (I 2 10) (FP.i2d (Int32.ofInt (I 2 11))) A k.toNat).2.1 (zfi n s (I 2 10) (FP.i2d (Int32.ofInt (I 2 11))) A k.toNat).2.2.1 (zfi n s (I 2 10) (FP.i2d (Int32.ofInt (I 2 11))) A k.toNat).2.2.2.1), zPp π, (zFD D (zfi n s (I 2 10) (FP.i2d (Int32.ofInt (I 2 11))) A k.toNat).2.2.2.2), 137)) rfl trivial ?_
  refine z_br (q = 0) 115 94 [] rfl (fun hx2 => ?_) (fun hx2 => ?_)
  · exact z_ret rfl rfl (by rw [efx (by assumption)])
  · refine z_n 6 (104, [(5, vi k), (4, vi q), (0, vr 119), (1, vr 2)], [vd (FP.i2d (Int32.ofInt (I 2 11))), vi (I 2 10), vr 119], ((zFS I n s (zfi n s (I 2 10) (FP.i2d (Int32.ofInt (I 2 11))) A k.toNat).1 (zfi n s (I 2 10) (FP.i2d (Int32.ofInt (I 2 11))) A k.toNat).2.1 (zfi n s (I 2 10) (FP.i2d (Int32.ofInt (I 2 11))) A k.toNat).2.2.1 (zfi n s (I 2 10) (FP.i2d (Int32.ofInt (I 2 11))) A k.toNat).2.2.2.1), zPp π, (zFD D (zfi n s (I 2 10) (FP.i2d (Int32.ofInt (I 2 11))) A k.toNat).2.2.2.2), 137)) rfl trivial ?_
    by_cases hx3 : (zscn s (zfi n s (I 2 10) (FP.i2d (Int32.ofInt (I 2 11))) A k.toNat).1 (I 2 10) (FP.i2d (Int32.ofInt (I 2 11))) n.toNat).1 = -1
    · have hq := hx3
      refine z_ci 34 [vr 119, vi (I 2 10), vd (FP.i2d (Int32.ofInt (I 2 11)))] [] rfl (m_fn0 hn hm hg hs hx3) ?_
      refine z_n 3 (83, [(5, vi (k + 1)), (4, vi 0), (0, vr 119), (1, vr 2)], [], ((zFS I n s (zfi n s (I 2 10) (FP.i2d (Int32.ofInt (I 2 11))) A k.toNat).1 (zfi n s (I 2 10) (FP.i2d (Int32.ofInt (I 2 11))) A k.toNat).2.1 (zfi n s (I 2 10) (FP.i2d (Int32.ofInt (I 2 11))) A k.toNat).2.2.1 (zfi n s (I 2 10) (FP.i2d (Int32.ofInt (I 2 11))) A k.toNat).2.2.2.1), zPp π, (zFD D (zfi n s (I 2 10) (FP.i2d (Int32.ofInt (I 2 11))) A k.toNat).2.2.2.2), 137)) (G := (zr (k + 1)) ∧ True) rfl ⟨by omega, trivial⟩ ?_
      refine z_sub [(5, vi (k + 1)), (4, vi 0), (0, vr 119), (1, vr 2)] [0, 1, 2, 3] rfl ?_
      have e1 : (zfi n s (I 2 10) (FP.i2d (Int32.ofInt (I 2 11))) A (k + 1).toNat) = (zfi n s (I 2 10) (FP.i2d (Int32.ofInt (I 2 11))) A k.toNat) := by rw [zfi_s h0]; unfold zf1; rw [if_pos hq]
      refine z_st (σ1 := ((zFS I n s (zfi n s (I 2 10) (FP.i2d (Int32.ofInt (I 2 11))) A (k + 1).toNat).1 (zfi n s (I 2 10) (FP.i2d (Int32.ofInt (I 2 11))) A (k + 1).toNat).2.1 (zfi n s (I 2 10) (FP.i2d (Int32.ofInt (I 2 11))) A (k + 1).toNat).2.2.1 (zfi n s (I 2 10) (FP.i2d (Int32.ofInt (I 2 11))) A (k + 1).toNat).2.2.2.1), zPp π, (zFD D (zfi n s (I 2 10) (FP.i2d (Int32.ofInt (I 2 11))) A (k + 1).toNat).2.2.2.2), 137)) (by rw [e1]) ?_
      exact ih (k + 1) 0 (by omega) (by omega) (by omega) (fun _ => by rw [e1]; exact hq)
    · have hq := hx3
      refine z_ci 34 [vr 119, vi (I 2 10), vd (FP.i2d (Int32.ofInt (I 2 11)))] [] rfl (m_fn1 hn hm hg hs hx3) ?_
      refine z_n 3 (83, [(5, vi (k + 1)), (4, vi 1), (0, vr 119), (1, vr 2)], [], ((zFS I n s (zu1 (zu1 (zfi n s (I 2 10) (FP.i2d (Int32.ofInt (I 2 11))) A k.toNat).1 (zscn s (zfi n s (I 2 10) (FP.i2d (Int32.ofInt (I 2 11))) A k.toNat).1 (I 2 10) (FP.i2d (Int32.ofInt (I 2 11))) n.toNat).1 1) (zscn s (zfi n s (I 2 10) (FP.i2d (Int32.ofInt (I 2 11))) A k.toNat).1 (I 2 10) (FP.i2d (Int32.ofInt (I 2 11))) n.toNat).2.1 1) ((zfi n s (I 2 10) (FP.i2d (Int32.ofInt (I 2 11))) A k.toNat).2.1 + 1) (zu1 (zfi n s (I 2 10) (FP.i2d (Int32.ofInt (I 2 11))) A k.toNat).2.2.1 (zfi n s (I 2 10) (FP.i2d (Int32.ofInt (I 2 11))) A k.toNat).2.1 (zscn s (zfi n s (I 2 10) (FP.i2d (Int32.ofInt (I 2 11))) A k.toNat).1 (I 2 10) (FP.i2d (Int32.ofInt (I 2 11))) n.toNat).1) (zu1 (zfi n s (I 2 10) (FP.i2d (Int32.ofInt (I 2 11))) A k.toNat).2.2.2.1 (zfi n s (I 2 10) (FP.i2d (Int32.ofInt (I 2 11))) A k.toNat).2.1 (zscn s (zfi n s (I 2 10) (FP.i2d (Int32.ofInt (I 2 11))) A k.toNat).1 (I 2 10) (FP.i2d (Int32.ofInt (I 2 11))) n.toNat).2.1)), zPp π, (zFD D (zuD (zfi n s (I 2 10) (FP.i2d (Int32.ofInt (I 2 11))) A k.toNat).2.2.2.2 (zfi n s (I 2 10) (FP.i2d (Int32.ofInt (I 2 11))) A k.toNat).2.1 (zscn s (zfi n s (I 2 10) (FP.i2d (Int32.ofInt (I 2 11))) A k.toNat).1 (I 2 10) (FP.i2d (Int32.ofInt (I 2 11))) n.toNat).2.2.1)), 137)) (G := (zr (k + 1)) ∧ True) rfl ⟨by omega, trivial⟩ ?_
      refine z_sub [(5, vi (k + 1)), (4, vi 1), (0, vr 119), (1, vr 2)] [0, 1, 2, 3] rfl ?_
      refine z_st (σ1 := ((zFS I n s (zfi n s (I 2 10) (FP.i2d (Int32.ofInt (I 2 11))) A (k + 1).toNat).1 (zfi n s (I 2 10) (FP.i2d (Int32.ofInt (I 2 11))) A (k + 1).toNat).2.1 (zfi n s (I 2 10) (FP.i2d (Int32.ofInt (I 2 11))) A (k + 1).toNat).2.2.1 (zfi n s (I 2 10) (FP.i2d (Int32.ofInt (I 2 11))) A (k + 1).toNat).2.2.2.1), zPp π, (zFD D (zfi n s (I 2 10) (FP.i2d (Int32.ofInt (I 2 11))) A (k + 1).toNat).2.2.2.2), 137)) (by rw [zfi_s h0]; unfold zf1; rw [if_neg hq]) ?_
      exact ih (k + 1) 1 (by omega) (by omega) (by omega) (fun h => absurd h (by omega))
set_option maxRecDepth 20000 in
theorem m_fw_k {I : zI} {π : Int → Nat} {D : zD} {c v : Int} (w : zW1 (I 2)) (v2 : zW2 (I 2) (I 6) (I 8)) (hsp : ∀ c, 0 ≤ c → c < I 2 5 → 0 ≤ I 4 c ∧ I 4 c ≤ 1000) (hv : 0 ≤ v ∧ v ≤ 1000) : ∀ (N : Nat) (k : Int), 0 ≤ k → k + N = zns (I 2) → zRuns 33 11 [(4, vi k), (0, vr 119), (1, vr 2), (2, vi c), (3, vi v)] [] ((zFS I (zns (I 2)) (zso I c v k) (zoo I k) (I 119 2) (I 121) (I 123)), zPp π, D, 137) none ((zFI I D c v), zPp π, (zFDR I D c v), 137) := by
  obtain ⟨⟨w1, w2⟩, ⟨w3, w4⟩, ⟨w5, w6⟩, ⟨w7, w8⟩, ⟨w9, w10⟩, w11, ⟨⟨w12, w12b⟩, w12c⟩, ⟨w13, w14⟩, ⟨w15, w16⟩⟩ := id w
  have hnb := zns_b w
  have hpp : ∀ j, 0 ≤ j → j < zns (I 2) → 0 ≤ I 4 (I 8 (I 2 9 * I 2 6 + j)) ∧ I 4 (I 8 (I 2 9 * I 2 6 + j)) ≤ 1000 := fun j a b => hsp _ (v2.2.1 _ (by omega) (by omega)).1 (v2.2.1 _ (by omega) (by omega)).2.1
  intro N
  induction N with
  | zero =>
    intro k h0 hN
    refine z_n 3 (17, [(4, vi k), (0, vr 119), (1, vr 2), (2, vi c), (3, vi v)], [vi (zns (I 2)), vi k], ((zFS I (zns (I 2)) (zso I c v k) (zoo I k) (I 119 2) (I 121) (I 123)), zPp π, D, 137)) rfl trivial ?_
    refine z_br ((zns (I 2)) ≤ k) 72 20 [] rfl (fun hx1 => ?_) (fun h => absurd (show (zns (I 2)) ≤ k from by omega) h)
    refine z_n 7 (83, [(5, vi 0), (4, vi 1), (0, vr 119), (1, vr 2), (2, vi c), (3, vi v)], [], ((zup (zFS I (zns (I 2)) (zso I c v k) (zoo I k) (I 119 2) (I 121) (I 123)) 119 2 0), zPp π, D, 137)) rfl trivial ?_
    refine z_sub [(5, vi 0), (4, vi 1), (0, vr 119), (1, vr 2)] [0, 1, 2, 3] rfl ?_
    refine z_st (σ1 := (zFS I (zns (I 2)) (zso I c v (zns (I 2))) (zfi (zns (I 2)) (zso I c v (zns (I 2))) (I 2 10) (FP.i2d (Int32.ofInt (I 2 11))) (zFA0 I D) (0 : Int).toNat).1 (zfi (zns (I 2)) (zso I c v (zns (I 2))) (I 2 10) (FP.i2d (Int32.ofInt (I 2 11))) (zFA0 I D) (0 : Int).toNat).2.1 (zfi (zns (I 2)) (zso I c v (zns (I 2))) (I 2 10) (FP.i2d (Int32.ofInt (I 2 11))) (zFA0 I D) (0 : Int).toNat).2.2.1 (zfi (zns (I 2)) (zso I c v (zns (I 2))) (I 2 10) (FP.i2d (Int32.ofInt (I 2 11))) (zFA0 I D) (0 : Int).toNat).2.2.2.1, zPp π, zFD D (zfi (zns (I 2)) (zso I c v (zns (I 2))) (I 2 10) (FP.i2d (Int32.ofInt (I 2 11))) (zFA0 I D) (0 : Int).toNat).2.2.2.2, 137)) (by rw [zFS_m, show k = zns (I 2) by omega]; show (_, _, D, 137) = (_, _, zFD D (D 124), 137); rw [zFD_id]; rfl) ?_
    exact m_fw_l hnb.1 ⟨by omega, by omega⟩ (zso_b hpp hv) rfl 4 0 1 (by omega) (by omega) (by omega) (fun h => absurd h (by omega))
  | succ N ih =>
  intro k h0 hN
  have hq := v2.2.1 (I 2 9 * I 2 6 + k) (by omega) (by omega)
  refine z_n 3 (17, [(4, vi k), (0, vr 119), (1, vr 2), (2, vi c), (3, vi v)], [vi (zns (I 2)), vi k], ((zFS I (zns (I 2)) (zso I c v k) (zoo I k) (I 119 2) (I 121) (I 123)), zPp π, D, 137)) rfl trivial ?_
  refine z_br ((zns (I 2)) ≤ k) 72 20 [] rfl (fun h => absurd h (show ¬ ((zns (I 2)) ≤ k) from by omega)) (fun hx1 => ?_)
  refine z_n 2 (23, [(4, vi k), (0, vr 119), (1, vr 2), (2, vi c), (3, vi v)], [vi k, vr 2], ((zFS I (zns (I 2)) (zso I c v k) (zoo I k) (I 119 2) (I 121) (I 123)), zPp π, D, 137)) rfl trivial ?_
  refine z_ci 13 [vr 2, vi k] [] rfl (m_starterAt (show zW1 (I 2) from w) (show 0 ≤ I 2 9 * I 2 6 + k from by omega) (show I 2 9 * I 2 6 + k < 24 from by omega)) ?_
  refine z_n 6 (37, [(5, vi (I 8 (I 2 9 * I 2 6 + k))), (4, vi k), (0, vr 119), (1, vr 2), (2, vi c), (3, vi v)], [vi c, vi (I 8 (I 2 9 * I 2 6 + k)), vi k, vr 125], ((zFS I (zns (I 2)) (zso I c v k) (zoo I k) (I 119 2) (I 121) (I 123)), zPp π, D, 137)) rfl trivial ?_
  refine z_br (¬ (I 8 (I 2 9 * I 2 6 + k)) = c) 44 40 [vi k, vr 125] rfl (fun hx2 => ?_) (fun hx2 => ?_)
  · refine z_n 3 (50, [(5, vi (I 8 (I 2 9 * I 2 6 + k))), (4, vi k), (0, vr 119), (1, vr 2), (2, vi c), (3, vi v)], [vi (I 8 (I 2 9 * I 2 6 + k)), vr 3, vi k, vr 125], ((zFS I (zns (I 2)) (zso I c v k) (zoo I k) (I 119 2) (I 121) (I 123)), zPp π, D, 137)) rfl trivial ?_
    refine z_ci 1 [vr 3, vi (I 8 (I 2 9 * I 2 6 + k))] [vi k, vr 125] rfl (m_get (n := 24) ⟨rfl, rfl, rfl, rfl⟩ (by omega) (by omega)) ?_
    refine z_cv 2 [vr 125, vi k, vi (I 4 (I 8 (I 2 9 * I 2 6 + k)))] [] rfl (m_put (n := 9) ⟨rfl, rfl, rfl, rfl⟩ (by omega) (by omega)) ?_
    refine z_n 4 (63, [(5, vi (I 8 (I 2 9 * I 2 6 + k))), (4, vi k), (0, vr 119), (1, vr 2), (2, vi c), (3, vi v)], [vi 0, vi k, vr 127], ((zup (zFS I (zns (I 2)) (zso I c v k) (zoo I k) (I 119 2) (I 121) (I 123)) 126 k (I 4 (I 8 (I 2 9 * I 2 6 + k)))), zPp π, D, 137)) rfl trivial ?_
    refine z_cv 2 [vr 127, vi k, vi 0] [] rfl (m_put (n := 9) ⟨rfl, rfl, rfl, rfl⟩ (by omega) (by omega)) ?_
    refine z_n 2 (11, [(4, vi (k + 1)), (5, vi (I 8 (I 2 9 * I 2 6 + k))), (0, vr 119), (1, vr 2), (2, vi c), (3, vi v)], [], ((zup (zup (zFS I (zns (I 2)) (zso I c v k) (zoo I k) (I 119 2) (I 121) (I 123)) 126 k (I 4 (I 8 (I 2 9 * I 2 6 + k)))) 128 k 0), zPp π, D, 137)) (G := (zr (k + 1)) ∧ True) rfl ⟨by omega, trivial⟩ ?_
    refine z_sub [(4, vi (k + 1)), (0, vr 119), (1, vr 2), (2, vi c), (3, vi v)] [0, 2, 3, 4, 5] rfl ?_
    refine z_st (σ1 := ((zFS I (zns (I 2)) (zso I c v (k + 1)) (zoo I (k + 1)) (I 119 2) (I 121) (I 123)), zPp π, D, 137)) (by rw [zFS_126, zFS_128, zoo_s h0, zso_s h0 (by unfold zsp; first | rw [if_pos (by omega)] | rw [if_neg (by omega)])]) ?_
    exact ih (k + 1) (by omega) (by omega)
  · refine z_n 2 (53, [(5, vi (I 8 (I 2 9 * I 2 6 + k))), (4, vi k), (0, vr 119), (1, vr 2), (2, vi c), (3, vi v)], [vi v, vi k, vr 125], ((zFS I (zns (I 2)) (zso I c v k) (zoo I k) (I 119 2) (I 121) (I 123)), zPp π, D, 137)) rfl trivial ?_
    refine z_cv 2 [vr 125, vi k, vi v] [] rfl (m_put (n := 9) ⟨rfl, rfl, rfl, rfl⟩ (by omega) (by omega)) ?_
    refine z_n 4 (63, [(5, vi (I 8 (I 2 9 * I 2 6 + k))), (4, vi k), (0, vr 119), (1, vr 2), (2, vi c), (3, vi v)], [vi 0, vi k, vr 127], ((zup (zFS I (zns (I 2)) (zso I c v k) (zoo I k) (I 119 2) (I 121) (I 123)) 126 k v), zPp π, D, 137)) rfl trivial ?_
    refine z_cv 2 [vr 127, vi k, vi 0] [] rfl (m_put (n := 9) ⟨rfl, rfl, rfl, rfl⟩ (by omega) (by omega)) ?_
    refine z_n 2 (11, [(4, vi (k + 1)), (5, vi (I 8 (I 2 9 * I 2 6 + k))), (0, vr 119), (1, vr 2), (2, vi c), (3, vi v)], [], ((zup (zup (zFS I (zns (I 2)) (zso I c v k) (zoo I k) (I 119 2) (I 121) (I 123)) 126 k v) 128 k 0), zPp π, D, 137)) (G := (zr (k + 1)) ∧ True) rfl ⟨by omega, trivial⟩ ?_
    refine z_sub [(4, vi (k + 1)), (0, vr 119), (1, vr 2), (2, vi c), (3, vi v)] [0, 2, 3, 4, 5] rfl ?_
    refine z_st (σ1 := ((zFS I (zns (I 2)) (zso I c v (k + 1)) (zoo I (k + 1)) (I 119 2) (I 121) (I 123)), zPp π, D, 137)) (by rw [zFS_126, zFS_128, zoo_s h0, zso_s h0 (by unfold zsp; first | rw [if_pos (by omega)] | rw [if_neg (by omega)])]) ?_
    exact ih (k + 1) (by omega) (by omega)
set_option maxRecDepth 20000 in
theorem m_fwith {I : zI} {π : Int → Nat} {D : zD} {c v : Int} (w : zW1 (I 2)) (v2 : zW2 (I 2) (I 6) (I 8)) (hsp : ∀ c, 0 ≤ c → c < I 2 5 → 0 ≤ I 4 c ∧ I 4 c ≤ 1000) (hv : 0 ≤ v ∧ v ≤ 1000) : zMet 33 [vr 119, vr 2, vi c, vi v] (I, zPp π, D, 137) none ((zFI I D c v), zPp π, (zFDR I D c v), 137) := by
  refine z_n 2 (2, [(0, vr 119), (1, vr 2), (2, vi c), (3, vi v)], [vr 2, vr 119], (I, zPp π, D, 137)) rfl trivial ?_
  refine z_ci 12 [vr 2] [vr 119] rfl (m_starters w) ?_
  refine z_n 3 (11, [(4, vi 0), (0, vr 119), (1, vr 2), (2, vi c), (3, vi v)], [], ((zup I 119 6 (zns (I 2))), zPp π, D, 137)) rfl trivial ?_
  refine z_sub [(4, vi 0), (0, vr 119), (1, vr 2), (2, vi c), (3, vi v)] [0, 1, 2, 3, 4] rfl ?_
  refine z_st (σ1 := ((zFS I (zns (I 2)) (zso I c v 0) (zoo I 0) (I 119 2) (I 121) (I 123)), zPp π, D, 137)) (by rw [zFS_n, zso_0, zoo_0]) ?_
  exact m_fw_k w v2 hsp hv (zns (I 2)).toNat 0 (by omega) (by have := (zns_b w).1.1; omega)
set_option maxRecDepth 20000 in
theorem m_fore {I : zI} {π : Int → Nat} {D : zD}  (w : zW1 (I 2)) (v2 : zW2 (I 2) (I 6) (I 8)) (hsp : ∀ c, 0 ≤ c → c < I 2 5 → 0 ≤ I 4 c ∧ I 4 c ≤ 1000) : zMet 32 [vr 119, vr 2] (I, zPp π, D, 137) none ((zFI I D (-1) 0), zPp π, (zFDR I D (-1) 0), 137) := by
  refine z_n 4 (4, [(0, vr 119), (1, vr 2)], [vi 0, vi (-1), vr 2, vr 119], (I, zPp π, D, 137)) rfl trivial ?_
  refine z_cv 33 [vr 119, vr 2, vi (-1), vi 0] [] rfl (m_fwith w v2 hsp ⟨by omega, by omega⟩) ?_
  first | exact z_ret rfl rfl rfl | exact z_ret rfl (zv1 (by omega)) rfl | (exfalso; omega)
set_option maxRecDepth 20000 in
theorem m_time {I : zI} {π : Int → Nat} {D : zD} {k : Int} (h : 0 ≤ k ∧ k < 4) : zMet 36 [vr 119, vi k] (I, zPp π, D, 137) (some (vd (D 124 k))) (I, zPp π, D, 137) := by
  refine z_n 1 (1, [(0, vr 119), (1, vi k)], [vi k], (I, zPp π, D, 137)) rfl trivial ?_
  refine z_br (k < 0) 22 4 [] rfl (fun h => absurd h (show ¬ (k < 0) from by omega)) (fun hx1 => ?_)
  refine z_n 4 (10, [(0, vr 119), (1, vi k)], [vi 4, vi k], (I, zPp π, D, 137)) rfl trivial ?_
  refine z_br (4 ≤ k) 22 13 [] rfl (fun h => absurd h (show ¬ (4 ≤ k) from by omega)) (fun hx2 => ?_)
  refine z_n 5 (23, [(0, vr 119), (1, vi k)], [vd (D 124 k)], (I, zPp π, D, 137)) (G := (0 ≤ k ∧ k < 4) ∧ True) rfl ⟨by omega, trivial⟩ ?_
  first | exact z_ret rfl rfl rfl | exact z_ret rfl (zv1 (by omega)) rfl | (exfalso; omega)
