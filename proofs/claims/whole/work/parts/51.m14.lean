/-- what is foretold of the chart -/
def zFX (X : zI) : zFA := (zFo (zns (X 0)) (fun j => X 2 (X 6 (X 0 9 * X 0 6 + j))) (X 0 10) (FP.i2d (Int32.ofInt (X 0 11))))
theorem zFX_in {X : zI} (w : zW1 (X 0)) : (0 ≤ (zFX X).2.1 ∧ (zFX X).2.1 ≤ 4) ∧ ∀ j, 0 ≤ j → j < (zFX X).2.1 → (0 ≤ (zFX X).2.2.1 j ∧ (zFX X).2.2.1 j < zns (X 0)) ∧ (0 ≤ (zFX X).2.2.2.1 j ∧ (zFX X).2.2.2.1 j < (zFX X).2.2.1 j) :=
  zfi_in (A := (fun _ => 0, 0, fun _ => 0, fun _ => 0, fun _ => 0)) (zns_b w).1.1 rfl 4
theorem zFX_t {X : zI} (w : zW1 (X 0)) (v : zW2 (X 0) (X 4) (X 6)) (hsp : ∀ c, 0 ≤ c → c < X 0 5 → 1 ≤ X 2 c ∧ X 2 c ≤ 1000) : ∀ j, 0 ≤ j → j < (zFX X).2.1 → zTmo ((zFX X).2.2.2.2 j) := by
  have hzb := zns_b w
  refine zfi_t (A := (fun _ => 0, 0, fun _ => 0, fun _ => 0, fun _ => 0)) w.2.2.2.2.2.2.2.1 (fun j a b => ?_) hzb.1 rfl 4
  have vq := v.2.1 (X 0 9 * X 0 6 + j) (by omega) (by omega)
  exact hsp _ vq.1 vq.2.1
set_option maxRecDepth 20000 in
theorem m_Rforetoldx {I : zI} {π : Int → Nat} {D : zD} {k a : Int} (hq : ¬ (0 ≤ k ∧ 0 ≤ a ∧ a ≤ 2)) : zMet 123 [vr 137, vi k, vi a] (I, zPp π, D, 147) (some (vi (-1001))) (I, zPp π, D, 147) := by
  refine z_n 1 (1, [(0, vr 137), (1, vi k), (2, vi a)], [vi k], (I, zPp π, D, 147)) rfl trivial ?_
  refine z_br (k < 0) 13 4 [] rfl (fun hx1 => ?_) (fun hx1 => ?_)
  · refine z_n 1 (16, [(0, vr 137), (1, vi k), (2, vi a)], [vi (-1001)], (I, zPp π, D, 147)) rfl trivial ?_
    first | exact z_ret rfl (zv1 (by omega)) rfl | (exfalso; omega)
  · refine z_n 3 (7, [(0, vr 137), (1, vi k), (2, vi a)], [vi 2, vi 0, vi a], (I, zPp π, D, 147)) rfl trivial ?_
    refine z_ci 93 [vi a, vi 0, vi 2] [] rfl (m_in0 (by omega)) ?_
    refine z_br (¬ (0 : Int) = 0) 17 13 [] rfl (fun h => absurd h (show ¬ (¬ (0 : Int) = 0) from by decide)) (fun hx2 => ?_)
    refine z_n 1 (16, [(0, vr 137), (1, vi k), (2, vi a)], [vi (-1001)], (I, zPp π, D, 147)) rfl trivial ?_
    first | exact z_ret rfl (zv1 (by omega)) rfl | (exfalso; omega)
set_option maxRecDepth 20000 in
theorem m_Rforetoldn {I : zI} {π : Int → Nat} {D : zD} {X : zI} {k a : Int}  (e : zEq (I 138) X) (ci : zCI X) (hq : 0 ≤ k ∧ 0 ≤ a ∧ a ≤ 2) (h2 : (zFX X).2.1 ≤ k) : ∃ J E, zMet 123 [vr 137, vi k, vi a] (I, zPp π, D, 147) (some (vi (-1004))) (J, zPp π, E, 147) ∧ zMk J I := by
  unfold zFX at *
  obtain ⟨⟨m0, m1, m2, m3, m4, m5, m6⟩, mc, ⟨mb, mk⟩, ⟨ml, mg⟩, mt⟩ := id e
  obtain ⟨⟨w, v, hsp, ⟨⟨hl0, hl1⟩, hlg, hps⟩, hpt, hp0⟩, hm, hd⟩ := id ci
  have hzb := zns_b w
  have hm4 := zdis_le w v hd hm
  have hl2 := zlb_b w
  obtain ⟨⟨w1, w2⟩, ⟨w3, w4⟩, ⟨w5, w6⟩, ⟨w7, w8⟩, ⟨w9, w10⟩, w11, ⟨⟨w12, w12b⟩, w12c⟩, ⟨w13, w14⟩, ⟨w15, w16⟩⟩ := id w
  obtain ⟨J, E, hF, hmk, hl10, h141, h15, hA⟩ := m_Rforetells (π := π) (D := D) e ci
  have hin := zFX_in w
  have htm := zFX_t w v hsp
  unfold zFX at hin htm
  generalize (zFo (zns (X 0)) (fun j => X 2 (X 6 (X 0 9 * X 0 6 + j))) (X 0 10) (FP.i2d (Int32.ofInt (X 0 11)))) = A at *
  refine ⟨J, E, ?_, hmk⟩
  refine z_n 1 (1, [(0, vr 137), (1, vi k), (2, vi a)], [vi k], (I, zPp π, D, 147)) rfl trivial ?_
  refine z_br (k < 0) 13 4 [] rfl (fun h => absurd h (show ¬ (k < 0) from by omega)) (fun hx1 => ?_)
  refine z_n 3 (7, [(0, vr 137), (1, vi k), (2, vi a)], [vi 2, vi 0, vi a], (I, zPp π, D, 147)) rfl trivial ?_
  refine z_ci 93 [vi a, vi 0, vi 2] [] rfl (m_in1 (by omega) (by omega)) ?_
  refine z_br (¬ (1 : Int) = 0) 17 13 [] rfl (fun hx2 => ?_) (fun h => absurd (show ¬ (1 : Int) = 0 from by decide) h)
  refine z_n 1 (18, [(0, vr 137), (1, vi k), (2, vi a)], [vr 137], (I, zPp π, D, 147)) rfl trivial ?_
  refine z_cv 122 [vr 137] [] rfl (hF) ?_
  refine z_n 3 (26, [(0, vr 137), (1, vi k), (2, vi a)], [vi (J 137 15), vi k], (J, zPp π, E, 147)) rfl trivial ?_
  refine z_br (k < (J 137 15)) 33 29 [] rfl (fun h => absurd h (show ¬ (k < (J 137 15)) from by omega)) (fun hx3 => ?_)
  refine z_n 1 (32, [(0, vr 137), (1, vi k), (2, vi a)], [vi (-1004)], (J, zPp π, E, 147)) rfl trivial ?_
  first | exact z_ret rfl (zv1 (by omega)) rfl | (exfalso; omega)
set_option maxRecDepth 20000 in
theorem m_Rforetold0 {I : zI} {π : Int → Nat} {D : zD} {X : zI} {k : Int}  (e : zEq (I 138) X) (ci : zCI X) (hq : 0 ≤ k ∧ k < (zFX X).2.1) : ∃ J E, zMet 123 [vr 137, vi k, vi 0] (I, zPp π, D, 147) (some (vi (X 6 (X 0 9 * X 0 6 + (zFX X).2.2.1 k)))) (J, zPp π, E, 147) ∧ zMk J I := by
  unfold zFX at *
  obtain ⟨⟨m0, m1, m2, m3, m4, m5, m6⟩, mc, ⟨mb, mk⟩, ⟨ml, mg⟩, mt⟩ := id e
  obtain ⟨⟨w, v, hsp, ⟨⟨hl0, hl1⟩, hlg, hps⟩, hpt, hp0⟩, hm, hd⟩ := id ci
  have hzb := zns_b w
  have hm4 := zdis_le w v hd hm
  have hl2 := zlb_b w
  obtain ⟨⟨w1, w2⟩, ⟨w3, w4⟩, ⟨w5, w6⟩, ⟨w7, w8⟩, ⟨w9, w10⟩, w11, ⟨⟨w12, w12b⟩, w12c⟩, ⟨w13, w14⟩, ⟨w15, w16⟩⟩ := id w
  obtain ⟨J, E, hF, hmk, hl10, h141, h15, hA⟩ := m_Rforetells (π := π) (D := D) e ci
  have hin := zFX_in w
  have htm := zFX_t w v hsp
  unfold zFX at hin htm
  generalize (zFo (zns (X 0)) (fun j => X 2 (X 6 (X 0 9 * X 0 6 + j))) (X 0 10) (FP.i2d (Int32.ofInt (X 0 11)))) = A at *
  have hAk := hA k hq.1 hq.2
  have hik := hin.2 k hq.1 hq.2
  refine ⟨J, E, ?_, hmk⟩
  refine z_n 1 (1, [(0, vr 137), (1, vi k), (2, vi 0)], [vi k], (I, zPp π, D, 147)) rfl trivial ?_
  refine z_br (k < 0) 13 4 [] rfl (fun h => absurd h (show ¬ (k < 0) from by omega)) (fun hx1 => ?_)
  refine z_n 3 (7, [(0, vr 137), (1, vi k), (2, vi 0)], [vi 2, vi 0, vi 0], (I, zPp π, D, 147)) rfl trivial ?_
  refine z_ci 93 [vi 0, vi 0, vi 2] [] rfl (m_in1 (by decide) (by decide)) ?_
  refine z_br (¬ (1 : Int) = 0) 17 13 [] rfl (fun hx2 => ?_) (fun h => absurd (show ¬ (1 : Int) = 0 from by decide) h)
  refine z_n 1 (18, [(0, vr 137), (1, vi k), (2, vi 0)], [vr 137], (I, zPp π, D, 147)) rfl trivial ?_
  refine z_cv 122 [vr 137] [] rfl (hF) ?_
  refine z_n 3 (26, [(0, vr 137), (1, vi k), (2, vi 0)], [vi (J 137 15), vi k], (J, zPp π, E, 147)) rfl trivial ?_
  refine z_br (k < (J 137 15)) 33 29 [] rfl (fun hx3 => ?_) (fun h => absurd (show k < (J 137 15) from by omega) h)
  refine z_n 1 (34, [(0, vr 137), (1, vi k), (2, vi 0)], [vi 0], (J, zPp π, E, 147)) rfl trivial ?_
  refine z_br (¬ (0 : Int) = 0) 51 37 [] rfl (fun h => absurd h (show ¬ (¬ (0 : Int) = 0) from by decide)) (fun hx4 => ?_)
  refine z_n 8 (80, [(0, vr 137), (1, vi k), (2, vi 0)], [vi (J 141 (J 143 k))], (J, zPp π, E, 147)) (G := (0 ≤ k ∧ k < 4) ∧ (0 ≤ (J 143 k) ∧ (J 143 k) < 9) ∧ True) rfl ⟨by omega, by omega, trivial⟩ ?_
  exact z_ret rfl (zv1 (by rw [hAk.1, h141 _ (by omega) (by omega)])) rfl
set_option maxRecDepth 20000 in
theorem m_Rforetold1 {I : zI} {π : Int → Nat} {D : zD} {X : zI} {k : Int}  (e : zEq (I 138) X) (ci : zCI X) (hq : 0 ≤ k ∧ k < (zFX X).2.1) : ∃ J E, zMet 123 [vr 137, vi k, vi 1] (I, zPp π, D, 147) (some (vi (X 6 (X 0 9 * X 0 6 + (zFX X).2.2.2.1 k)))) (J, zPp π, E, 147) ∧ zMk J I := by
  unfold zFX at *
  obtain ⟨⟨m0, m1, m2, m3, m4, m5, m6⟩, mc, ⟨mb, mk⟩, ⟨ml, mg⟩, mt⟩ := id e
  obtain ⟨⟨w, v, hsp, ⟨⟨hl0, hl1⟩, hlg, hps⟩, hpt, hp0⟩, hm, hd⟩ := id ci
  have hzb := zns_b w
  have hm4 := zdis_le w v hd hm
  have hl2 := zlb_b w
  obtain ⟨⟨w1, w2⟩, ⟨w3, w4⟩, ⟨w5, w6⟩, ⟨w7, w8⟩, ⟨w9, w10⟩, w11, ⟨⟨w12, w12b⟩, w12c⟩, ⟨w13, w14⟩, ⟨w15, w16⟩⟩ := id w
  obtain ⟨J, E, hF, hmk, hl10, h141, h15, hA⟩ := m_Rforetells (π := π) (D := D) e ci
  have hin := zFX_in w
  have htm := zFX_t w v hsp
  unfold zFX at hin htm
  generalize (zFo (zns (X 0)) (fun j => X 2 (X 6 (X 0 9 * X 0 6 + j))) (X 0 10) (FP.i2d (Int32.ofInt (X 0 11)))) = A at *
  have hAk := hA k hq.1 hq.2
  have hik := hin.2 k hq.1 hq.2
  refine ⟨J, E, ?_, hmk⟩
  refine z_n 1 (1, [(0, vr 137), (1, vi k), (2, vi 1)], [vi k], (I, zPp π, D, 147)) rfl trivial ?_
  refine z_br (k < 0) 13 4 [] rfl (fun h => absurd h (show ¬ (k < 0) from by omega)) (fun hx1 => ?_)
  refine z_n 3 (7, [(0, vr 137), (1, vi k), (2, vi 1)], [vi 2, vi 0, vi 1], (I, zPp π, D, 147)) rfl trivial ?_
  refine z_ci 93 [vi 1, vi 0, vi 2] [] rfl (m_in1 (by decide) (by decide)) ?_
  refine z_br (¬ (1 : Int) = 0) 17 13 [] rfl (fun hx2 => ?_) (fun h => absurd (show ¬ (1 : Int) = 0 from by decide) h)
  refine z_n 1 (18, [(0, vr 137), (1, vi k), (2, vi 1)], [vr 137], (I, zPp π, D, 147)) rfl trivial ?_
  refine z_cv 122 [vr 137] [] rfl (hF) ?_
  refine z_n 3 (26, [(0, vr 137), (1, vi k), (2, vi 1)], [vi (J 137 15), vi k], (J, zPp π, E, 147)) rfl trivial ?_
  refine z_br (k < (J 137 15)) 33 29 [] rfl (fun hx3 => ?_) (fun h => absurd (show k < (J 137 15) from by omega) h)
  refine z_n 1 (34, [(0, vr 137), (1, vi k), (2, vi 1)], [vi 1], (J, zPp π, E, 147)) rfl trivial ?_
  refine z_br (¬ (1 : Int) = 0) 51 37 [] rfl (fun hx4 => ?_) (fun h => absurd (show ¬ (1 : Int) = 0 from by decide) h)
  refine z_n 2 (53, [(0, vr 137), (1, vi k), (2, vi 1)], [vi 1, vi 1], (J, zPp π, E, 147)) rfl trivial ?_
  refine z_br (¬ (1 : Int) = 1) 70 56 [] rfl (fun h => absurd h (show ¬ (¬ (1 : Int) = 1) from by decide)) (fun hx5 => ?_)
  refine z_n 8 (80, [(0, vr 137), (1, vi k), (2, vi 1)], [vi (J 141 (J 144 k))], (J, zPp π, E, 147)) (G := (0 ≤ k ∧ k < 4) ∧ (0 ≤ (J 144 k) ∧ (J 144 k) < 9) ∧ True) rfl ⟨by omega, by omega, trivial⟩ ?_
  exact z_ret rfl (zv1 (by rw [hAk.2.1, h141 _ (by omega) (by omega)])) rfl
set_option maxRecDepth 20000 in
theorem m_Rforetold2 {I : zI} {π : Int → Nat} {D : zD} {X : zI} {k : Int}  (e : zEq (I 138) X) (ci : zCI X) (hq : 0 ≤ k ∧ k < (zFX X).2.1) : ∃ J E, zMet 123 [vr 137, vi k, vi 2] (I, zPp π, D, 147) (some (vi ((FP.d2f ((zFX X).2.2.2.2 k)).toInt32.toInt))) (J, zPp π, E, 147) ∧ zMk J I := by
  unfold zFX at *
  obtain ⟨⟨m0, m1, m2, m3, m4, m5, m6⟩, mc, ⟨mb, mk⟩, ⟨ml, mg⟩, mt⟩ := id e
  obtain ⟨⟨w, v, hsp, ⟨⟨hl0, hl1⟩, hlg, hps⟩, hpt, hp0⟩, hm, hd⟩ := id ci
  have hzb := zns_b w
  have hm4 := zdis_le w v hd hm
  have hl2 := zlb_b w
  obtain ⟨⟨w1, w2⟩, ⟨w3, w4⟩, ⟨w5, w6⟩, ⟨w7, w8⟩, ⟨w9, w10⟩, w11, ⟨⟨w12, w12b⟩, w12c⟩, ⟨w13, w14⟩, ⟨w15, w16⟩⟩ := id w
  obtain ⟨J, E, hF, hmk, hl10, h141, h15, hA⟩ := m_Rforetells (π := π) (D := D) e ci
  have hin := zFX_in w
  have htm := zFX_t w v hsp
  unfold zFX at hin htm
  generalize (zFo (zns (X 0)) (fun j => X 2 (X 6 (X 0 9 * X 0 6 + j))) (X 0 10) (FP.i2d (Int32.ofInt (X 0 11)))) = A at *
  have hAk := hA k hq.1 hq.2
  have hik := hin.2 k hq.1 hq.2
  obtain ⟨ta, tb, ta1, tb1, et⟩ := htm k hq.1 hq.2
  have hok := zfok_tm ta1 tb1
  rw [← et, ← hAk.2.2] at hok
  refine ⟨J, E, ?_, hmk⟩
  refine z_n 1 (1, [(0, vr 137), (1, vi k), (2, vi 2)], [vi k], (I, zPp π, D, 147)) rfl trivial ?_
  refine z_br (k < 0) 13 4 [] rfl (fun h => absurd h (show ¬ (k < 0) from by omega)) (fun hx1 => ?_)
  refine z_n 3 (7, [(0, vr 137), (1, vi k), (2, vi 2)], [vi 2, vi 0, vi 2], (I, zPp π, D, 147)) rfl trivial ?_
  refine z_ci 93 [vi 2, vi 0, vi 2] [] rfl (m_in1 (by decide) (by decide)) ?_
  refine z_br (¬ (1 : Int) = 0) 17 13 [] rfl (fun hx2 => ?_) (fun h => absurd (show ¬ (1 : Int) = 0 from by decide) h)
  refine z_n 1 (18, [(0, vr 137), (1, vi k), (2, vi 2)], [vr 137], (I, zPp π, D, 147)) rfl trivial ?_
  refine z_cv 122 [vr 137] [] rfl (hF) ?_
  refine z_n 3 (26, [(0, vr 137), (1, vi k), (2, vi 2)], [vi (J 137 15), vi k], (J, zPp π, E, 147)) rfl trivial ?_
  refine z_br (k < (J 137 15)) 33 29 [] rfl (fun hx3 => ?_) (fun h => absurd (show k < (J 137 15) from by omega) h)
  refine z_n 1 (34, [(0, vr 137), (1, vi k), (2, vi 2)], [vi 2], (J, zPp π, E, 147)) rfl trivial ?_
  refine z_br (¬ (2 : Int) = 0) 51 37 [] rfl (fun hx4 => ?_) (fun h => absurd (show ¬ (2 : Int) = 0 from by decide) h)
  refine z_n 2 (53, [(0, vr 137), (1, vi k), (2, vi 2)], [vi 1, vi 2], (J, zPp π, E, 147)) rfl trivial ?_
  refine z_br (¬ (2 : Int) = 1) 70 56 [] rfl (fun hx5 => ?_) (fun h => absurd (show ¬ (2 : Int) = 1 from by decide) h)
  refine z_n 5 (77, [(0, vr 137), (1, vi k), (2, vi 2)], [vf (FP.d2f (E 145 k))], (J, zPp π, E, 147)) (G := (0 ≤ k ∧ k < 4) ∧ (vf_n32 (FP.d2f (E 145 k))) ∧ True) rfl ⟨by omega, vf32 (zfok_n hok.2), trivial⟩ ?_
  refine z_ci 140 [vf (FP.d2f (E 145 k))] [] rfl (m_f2b (zfok_n hok.2)) ?_
  exact z_ret rfl (zv1 (by rw [hAk.2.2])) rfl
set_option maxRecDepth 20000 in
theorem m_where {I : zI} {π : Int → Nat} {D : zD} {k t s g : Int} (h1 : I 138 (7 + I 141 k) = s) (h2 : I 138 5 = g) (hk : 0 ≤ k ∧ k < 9) (hi : 0 ≤ I 141 k ∧ I 141 k < 24) (hs : 0 ≤ s ∧ s ≤ 1000) (ht : 0 ≤ t ∧ t ≤ 1000) (hg : 0 ≤ g ∧ g ≤ 5000) : zMet 125 [vr 137, vi k, vi t] (I, zPp π, D, 147) (some (vd (zpoV s t (k * g)))) (I, zPp π, D, 147) := by
  have hm := zmulb (a := k) (b := g) (A := 9) (B := 5000) (by omega) (by omega) hg.1 hg.2
  have hd := zpo_d hs ht (e := k * g) (by omega)
  refine z_n 9 (14, [(0, vr 137), (1, vi k), (2, vi t)], [vi (I 138 (7 + (I 141 k)))], (I, zPp π, D, 147)) (G := (0 ≤ k ∧ k < 9) ∧ (zr (7 + (I 141 k))) ∧ (0 ≤ (7 + (I 141 k)) ∧ (7 + (I 141 k)) < 585) ∧ True) rfl ⟨by omega, by omega, by omega, trivial⟩ ?_
  refine z_top (b := s) (h1) ?_
  refine z_n 9 (25, [(0, vr 137), (1, vi k), (2, vi t)], [vi (I 138 5), vi k, vd (FP.dmul (FP.i2d (Int32.ofInt s)) (FP.i2d (Int32.ofInt t)))], (I, zPp π, D, 147)) (G := (vf_n64 (FP.dmul (FP.i2d (Int32.ofInt s)) (FP.i2d (Int32.ofInt t)))) ∧ (0 ≤ 5 ∧ 5 < 585) ∧ True) rfl ⟨vf64 (FP.Core.DInt_ne_nan hd.1), by omega, trivial⟩ ?_
  refine z_top (b := g) (h2) ?_
  refine z_n 3 (28, [(0, vr 137), (1, vi k), (2, vi t)], [vd (FP.dsub (FP.dmul (FP.i2d (Int32.ofInt s)) (FP.i2d (Int32.ofInt t))) (FP.i2d (Int32.ofInt (k * g))))], (I, zPp π, D, 147)) (G := (zr (k * g)) ∧ (vf_n64 (FP.dsub (FP.dmul (FP.i2d (Int32.ofInt s)) (FP.i2d (Int32.ofInt t))) (FP.i2d (Int32.ofInt (k * g))))) ∧ True) rfl ⟨by omega, vf64 (FP.Core.DInt_ne_nan hd.2), trivial⟩ ?_
  exact z_ret rfl rfl rfl
set_option maxRecDepth 20000 in
theorem m_Rdistx {I : zI} {π : Int → Nat} {D : zD} {k t : Int} (hq : ¬ (1 ≤ k ∧ 0 ≤ t ∧ t ≤ 1000)) : zMet 126 [vr 137, vi k, vi t] (I, zPp π, D, 147) (some (vi (-1001))) (I, zPp π, D, 147) := by
  refine z_n 2 (2, [(0, vr 137), (1, vi k), (2, vi t)], [vi 1, vi k], (I, zPp π, D, 147)) rfl trivial ?_
  refine z_br (k < 1) 16 5 [] rfl (fun hx1 => ?_) (fun hx1 => ?_)
  · refine z_n 1 (19, [(0, vr 137), (1, vi k), (2, vi t)], [vi (-1001)], (I, zPp π, D, 147)) rfl trivial ?_
    first | exact z_ret rfl (zv1 (by omega)) rfl | (exfalso; omega)
  · refine z_n 3 (10, [(0, vr 137), (1, vi k), (2, vi t)], [vi 1000, vi 0, vi t], (I, zPp π, D, 147)) rfl trivial ?_
    refine z_ci 93 [vi t, vi 0, vi 1000] [] rfl (m_in0 (by omega)) ?_
    refine z_br (¬ (0 : Int) = 0) 20 16 [] rfl (fun h => absurd h (show ¬ (¬ (0 : Int) = 0) from by decide)) (fun hx2 => ?_)
    refine z_n 1 (19, [(0, vr 137), (1, vi k), (2, vi t)], [vi (-1001)], (I, zPp π, D, 147)) rfl trivial ?_
    first | exact z_ret rfl (zv1 (by omega)) rfl | (exfalso; omega)
set_option maxRecDepth 20000 in
theorem m_Rdistn {I : zI} {π : Int → Nat} {D : zD} {X : zI} {k t : Int}  (e : zEq (I 138) X) (ci : zCI X) (hq : 1 ≤ k ∧ 0 ≤ t ∧ t ≤ 1000) (h2 : zns (X 0) ≤ k) : ∃ J, zMet 126 [vr 137, vi k, vi t] (I, zPp π, D, 147) (some (vi (-1004))) (J, zPp π, D, 147) ∧ zMk J I := by
  obtain ⟨⟨m0, m1, m2, m3, m4, m5, m6⟩, mc, ⟨mb, mk⟩, ⟨ml, mg⟩, mt⟩ := id e
  obtain ⟨⟨w, v, hsp, ⟨⟨hl0, hl1⟩, hlg, hps⟩, hpt, hp0⟩, hm, hd⟩ := id ci
  have hzb := zns_b w
  have hm4 := zdis_le w v hd hm
  have hl2 := zlb_b w
  obtain ⟨⟨w1, w2⟩, ⟨w3, w4⟩, ⟨w5, w6⟩, ⟨w7, w8⟩, ⟨w9, w10⟩, w11, ⟨⟨w12, w12b⟩, w12c⟩, ⟨w13, w14⟩, ⟨w15, w16⟩⟩ := id w
  obtain ⟨J, hJ, hln, hmk, e2⟩ := m_ln (π := π) (D := D) e ci
  obtain ⟨⟨j0, j1, j2, j3, j4, j5, j6⟩, jc, ⟨jb, jk⟩, ⟨jl, jg⟩, jt⟩ := id e2
  have hmk2 := hmk.2.2.2.2.1
  have hmk4 := hmk.2.2.2.2.2
  have hl10 := hln.1
  refine ⟨J, ?_, hmk⟩
  refine z_n 2 (2, [(0, vr 137), (1, vi k), (2, vi t)], [vi 1, vi k], (I, zPp π, D, 147)) rfl trivial ?_
  refine z_br (k < 1) 16 5 [] rfl (fun h => absurd h (show ¬ (k < 1) from by omega)) (fun hx1 => ?_)
  refine z_n 3 (10, [(0, vr 137), (1, vi k), (2, vi t)], [vi 1000, vi 0, vi t], (I, zPp π, D, 147)) rfl trivial ?_
  refine z_ci 93 [vi t, vi 0, vi 1000] [] rfl (m_in1 (by omega) (by omega)) ?_
  refine z_br (¬ (1 : Int) = 0) 20 16 [] rfl (fun hx2 => ?_) (fun h => absurd (show ¬ (1 : Int) = 0 from by decide) h)
  refine z_n 1 (21, [(0, vr 137), (1, vi k), (2, vi t)], [vr 137], (I, zPp π, D, 147)) rfl trivial ?_
  refine z_cv 100 [vr 137] [] rfl (hJ) ?_
  refine z_n 3 (29, [(0, vr 137), (1, vi k), (2, vi t)], [vi (J 137 10), vi k], (J, zPp π, D, 147)) rfl trivial ?_
  refine z_br (k < (J 137 10)) 36 32 [] rfl (fun h => absurd h (show ¬ (k < (J 137 10)) from by omega)) (fun hx3 => ?_)
  refine z_n 1 (35, [(0, vr 137), (1, vi k), (2, vi t)], [vi (-1004)], (J, zPp π, D, 147)) rfl trivial ?_
  first | exact z_ret rfl (zv1 (by omega)) rfl | (exfalso; omega)
set_option maxRecDepth 20000 in
theorem m_Rdist1 {I : zI} {π : Int → Nat} {D : zD} {X : zI} {k t : Int}  (e : zEq (I 138) X) (ci : zCI X) (hq : 1 ≤ k ∧ 0 ≤ t ∧ t ≤ 1000) (h2 : k < zns (X 0)) : ∃ J, zMet 126 [vr 137, vi k, vi t] (I, zPp π, D, 147) (some (vi ((FP.d2f (FP.dsub (zpoV (X 2 (X 6 (X 0 9 * X 0 6 + (k - 1)))) t ((k - 1) * X 0 10)) (zpoV (X 2 (X 6 (X 0 9 * X 0 6 + (k)))) t ((k) * X 0 10)))).toInt32.toInt))) (J, zPp π, D, 147) ∧ zMk J I := by
  obtain ⟨⟨m0, m1, m2, m3, m4, m5, m6⟩, mc, ⟨mb, mk⟩, ⟨ml, mg⟩, mt⟩ := id e
  obtain ⟨⟨w, v, hsp, ⟨⟨hl0, hl1⟩, hlg, hps⟩, hpt, hp0⟩, hm, hd⟩ := id ci
  have hzb := zns_b w
  have hm4 := zdis_le w v hd hm
  have hl2 := zlb_b w
  obtain ⟨⟨w1, w2⟩, ⟨w3, w4⟩, ⟨w5, w6⟩, ⟨w7, w8⟩, ⟨w9, w10⟩, w11, ⟨⟨w12, w12b⟩, w12c⟩, ⟨w13, w14⟩, ⟨w15, w16⟩⟩ := id w
  obtain ⟨J, hJ, hln, hmk, e2⟩ := m_ln (π := π) (D := D) e ci
  obtain ⟨⟨j0, j1, j2, j3, j4, j5, j6⟩, jc, ⟨jb, jk⟩, ⟨jl, jg⟩, jt⟩ := id e2
  have hmk2 := hmk.2.2.2.2.1
  have hmk4 := hmk.2.2.2.2.2
  have hl10 := hln.1
  have qa := v.2.1 (X 0 9 * X 0 6 + (k - 1)) (by omega) (by omega)
  have pa := hsp _ qa.1 qa.2.1
  have la := hln.2.1 (k - 1) (by omega) (by omega)
  have sa := (jc _ qa.1 qa.2.1).1
  rw [← la] at sa
  have ea := zmulb (a := k - 1) (b := X 0 10) (A := 9) (B := 5000) (by omega) (by omega) (by omega) (by omega)
  have qb := v.2.1 (X 0 9 * X 0 6 + (k)) (by omega) (by omega)
  have pb := hsp _ qb.1 qb.2.1
  have lb := hln.2.1 (k) (by omega) (by omega)
  have sb := (jc _ qb.1 qb.2.1).1
  rw [← lb] at sb
  have eb := zmulb (a := k) (b := X 0 10) (A := 9) (B := 5000) (by omega) (by omega) (by omega) (by omega)
  have hok := zfok_dist (s1 := (X 2 (X 6 (X 0 9 * X 0 6 + (k - 1))))) (s2 := (X 2 (X 6 (X 0 9 * X 0 6 + (k))))) (t := t) (by omega) (by omega) hq.2 (e1 := (k - 1) * X 0 10) (e2 := (k) * X 0 10) (by omega) (by omega)
  have hwa : zMet 125 [vr 137, vi (k - 1), vi t] (J, zPp π, D, 147) (some (vd (zpoV (X 2 (X 6 (X 0 9 * X 0 6 + (k - 1)))) t ((k - 1) * X 0 10)))) (J, zPp π, D, 147) := by rw [← la]; exact m_where sa j5 (by omega) (by rw [la]; omega) (by rw [la]; omega) hq.2 (by omega)
  have hwb : zMet 125 [vr 137, vi k, vi t] (J, zPp π, D, 147) (some (vd (zpoV (X 2 (X 6 (X 0 9 * X 0 6 + (k)))) t ((k) * X 0 10)))) (J, zPp π, D, 147) := by rw [← lb]; exact m_where sb j5 (by omega) (by rw [lb]; omega) (by rw [lb]; omega) hq.2 (by omega)
  refine ⟨J, ?_, hmk⟩
  refine z_n 2 (2, [(0, vr 137), (1, vi k), (2, vi t)], [vi 1, vi k], (I, zPp π, D, 147)) rfl trivial ?_
  refine z_br (k < 1) 16 5 [] rfl (fun h => absurd h (show ¬ (k < 1) from by omega)) (fun hx1 => ?_)
  refine z_n 3 (10, [(0, vr 137), (1, vi k), (2, vi t)], [vi 1000, vi 0, vi t], (I, zPp π, D, 147)) rfl trivial ?_
  refine z_ci 93 [vi t, vi 0, vi 1000] [] rfl (m_in1 (by omega) (by omega)) ?_
  refine z_br (¬ (1 : Int) = 0) 20 16 [] rfl (fun hx2 => ?_) (fun h => absurd (show ¬ (1 : Int) = 0 from by decide) h)
  refine z_n 1 (21, [(0, vr 137), (1, vi k), (2, vi t)], [vr 137], (I, zPp π, D, 147)) rfl trivial ?_
  refine z_cv 100 [vr 137] [] rfl (hJ) ?_
  refine z_n 3 (29, [(0, vr 137), (1, vi k), (2, vi t)], [vi (J 137 10), vi k], (J, zPp π, D, 147)) rfl trivial ?_
  refine z_br (k < (J 137 10)) 36 32 [] rfl (fun hx3 => ?_) (fun h => absurd (show k < (J 137 10) from by omega) h)
  refine z_n 5 (41, [(0, vr 137), (1, vi k), (2, vi t)], [vi t, vi (k - 1), vr 137], (J, zPp π, D, 147)) (G := (zr (k - 1)) ∧ True) rfl ⟨by omega, trivial⟩ ?_
  refine z_ci 125 [vr 137, vi (k - 1), vi t] [] rfl (hwa) ?_
  refine z_n 3 (47, [(0, vr 137), (1, vi k), (2, vi t)], [vi t, vi k, vr 137, vd (zpoV (X 2 (X 6 (X 0 9 * X 0 6 + (k - 1)))) t ((k - 1) * X 0 10))], (J, zPp π, D, 147)) rfl trivial ?_
  refine z_ci 125 [vr 137, vi k, vi t] [vd (zpoV (X 2 (X 6 (X 0 9 * X 0 6 + (k - 1)))) t ((k - 1) * X 0 10))] rfl (hwb) ?_
  refine z_n 2 (52, [(0, vr 137), (1, vi k), (2, vi t)], [vf (FP.d2f (FP.dsub (zpoV (X 2 (X 6 (X 0 9 * X 0 6 + (k - 1)))) t ((k - 1) * X 0 10)) (zpoV (X 2 (X 6 (X 0 9 * X 0 6 + (k)))) t ((k) * X 0 10))))], (J, zPp π, D, 147)) (G := (vf_n64 (FP.dsub (zpoV (X 2 (X 6 (X 0 9 * X 0 6 + (k - 1)))) t ((k - 1) * X 0 10)) (zpoV (X 2 (X 6 (X 0 9 * X 0 6 + (k)))) t ((k) * X 0 10)))) ∧ (vf_n32 (FP.d2f (FP.dsub (zpoV (X 2 (X 6 (X 0 9 * X 0 6 + (k - 1)))) t ((k - 1) * X 0 10)) (zpoV (X 2 (X 6 (X 0 9 * X 0 6 + (k)))) t ((k) * X 0 10))))) ∧ True) rfl ⟨vf64 hok.1, vf32 (zfok_n hok.2), trivial⟩ ?_
  refine z_ci 140 [vf (FP.d2f (FP.dsub (zpoV (X 2 (X 6 (X 0 9 * X 0 6 + (k - 1)))) t ((k - 1) * X 0 10)) (zpoV (X 2 (X 6 (X 0 9 * X 0 6 + (k)))) t ((k) * X 0 10))))] [] rfl (m_f2b (zfok_n hok.2)) ?_
  exact z_ret rfl rfl rfl
/-- with the speed s of the crew c the starter nb hunts -/
def zhx (X : zI) (c nb s : Int) : Prop := ∃ j, 0 ≤ j ∧ j < (zFX (zup X 2 c s)).2.1 ∧ (zFX (zup X 2 c s)).2.2.1 j = nb
theorem zEq_sp {m : Int → Int} {X : zI} {c s : Int} (e : zEq m X) (hc : 0 ≤ c ∧ c < X 0 5) (hN : X 0 5 ≤ 24) : zEq (zu1 m (7 + c) s) (zup X 2 c s) := by
  obtain ⟨⟨m0, m1, m2, m3, m4, m5, m6⟩, mc, ⟨mb, mk⟩, ⟨ml, mg⟩, mt⟩ := e
  have z : ∀ j, j ≠ 7 + c → zu1 m (7 + c) s j = m j := fun j h => if_neg h
  refine ⟨⟨(z 0 (by omega)).trans m0, (z 1 (by omega)).trans m1, (z 2 (by omega)).trans m2, (z 3 (by omega)).trans m3, (z 4 (by omega)).trans m4, (z 5 (by omega)).trans m5, (z 6 (by omega)).trans m6⟩, fun d d0 d1 => ⟨?_, ?_⟩, ⟨(z 55 (by omega)).trans mb, fun k k0 k1 => ?_⟩, ⟨(z 80 (by omega)).trans ml, fun k k0 k1 => ?_⟩, fun t d t0 t1 d0 d1 => ?_⟩
  · have d1' : d < X 0 5 := d1
    rw [zup_at]
    unfold zu1
    by_cases h : d = c
    · rw [if_pos (by omega), if_pos h]
    · rw [if_neg (by omega), if_neg h]; exact (mc d d0 d1').1
  · have d1' : d < X 0 5 := d1
    rw [z _ (by omega)]; exact (mc d d0 d1').2
  · rw [z _ (by omega), z _ (by omega)]; exact mk k k0 k1
  · rw [z _ (by omega), z _ (by omega), z _ (by omega)]; exact mg k k0 k1
  · have t1' : t ≤ X 0 8 := t1
    have d1' : d < X 0 5 := d1
    rw [z _ (by omega)]; exact mt t d t0 t1' d0 d1'
theorem zCI_sp {X : zI} {c s : Int} (ci : zCI X) (hs : 1 ≤ s ∧ s ≤ 1000) : zCI (zup X 2 c s) := by
  obtain ⟨⟨w, v, hsp, hlg, hpa⟩, hm, hd⟩ := ci
  refine ⟨⟨w, v, fun d d0 d1 => ?_, hlg, hpa⟩, hm, hd⟩
  rw [zup_at]
  split
  · exact hs
  · exact hsp d d0 d1
set_option maxRecDepth 20000 in
theorem m_sf_i {I : zI} {π : Int → Nat} {D : zD} {k h nb c m : Int} {r : Option zV} {τ : zS} (h15 : I 137 15 = m) (hm : 0 ≤ m ∧ m ≤ 4) (hk : ∀ f, ((f = k ∧ ∃ q, 0 ≤ q ∧ q < m ∧ I 143 q = nb) ∨ (f = -1004 ∧ ¬ ∃ q, 0 ≤ q ∧ q < m ∧ I 143 q = nb)) → zRuns 127 114 [(5, vi k), (4, vi f), (3, vi h), (2, vi nb), (0, vr 137), (1, vi c)] [] (I, zPp π, D, 147) r τ) : ∀ (N : Nat) (f j : Int), 0 ≤ j → j + N = m → ((f = k ∧ ∃ q, 0 ≤ q ∧ q < j ∧ I 143 q = nb) ∨ (f = -1004 ∧ ¬ ∃ q, 0 ≤ q ∧ q < j ∧ I 143 q = nb)) → zRuns 127 79 [(6, vi j), (5, vi k), (4, vi f), (3, vi h), (2, vi nb), (0, vr 137), (1, vi c)] [] (I, zPp π, D, 147) r τ := by
  intro N
  induction N with
  | zero =>
    intro f j h0 hN hv
    refine z_n 3 (85, [(6, vi j), (5, vi k), (4, vi f), (3, vi h), (2, vi nb), (0, vr 137), (1, vi c)], [vi (I 137 15), vi j], (I, zPp π, D, 147)) rfl trivial ?_
    refine z_top (b := m) (h15) ?_
    refine z_br (m ≤ j) 114 88 [] rfl (fun hx1 => ?_) (fun h => absurd (show m ≤ j from by omega) h)
    refine z_sub [(5, vi k), (4, vi f), (3, vi h), (2, vi nb), (0, vr 137), (1, vi c)] [1, 2, 3, 4, 5, 6] rfl ?_
    exact hk f (by rw [show j = m by omega] at hv; exact hv)
  | succ N ih =>
  intro f j h0 hN hv
  by_cases hz : I 143 j = nb
  · refine z_n 3 (85, [(6, vi j), (5, vi k), (4, vi f), (3, vi h), (2, vi nb), (0, vr 137), (1, vi c)], [vi (I 137 15), vi j], (I, zPp π, D, 147)) rfl trivial ?_
    refine z_top (b := m) (h15) ?_
    refine z_br (m ≤ j) 114 88 [] rfl (fun h => absurd h (show ¬ (m ≤ j) from by omega)) (fun hx1 => ?_)
    refine z_n 5 (96, [(6, vi j), (5, vi k), (4, vi f), (3, vi h), (2, vi nb), (0, vr 137), (1, vi c)], [vi nb, vi (I 143 j)], (I, zPp π, D, 147)) (G := (0 ≤ j ∧ j < 4) ∧ True) rfl ⟨by omega, trivial⟩ ?_
    refine z_br (¬ (I 143 j) = nb) 104 99 [] rfl (fun h => absurd h (show ¬ (¬ (I 143 j) = nb) from fun h9 => h9 hz)) (fun hx2 => ?_)
    refine z_n 5 (79, [(6, vi (j + 1)), (4, vi k), (5, vi k), (3, vi h), (2, vi nb), (0, vr 137), (1, vi c)], [], (I, zPp π, D, 147)) (G := (zr (j + 1)) ∧ True) rfl ⟨by omega, trivial⟩ ?_
    refine z_sub [(6, vi (j + 1)), (5, vi k), (4, vi k), (3, vi h), (2, vi nb), (0, vr 137), (1, vi c)] [0, 2, 1, 3, 4, 5, 6] rfl ?_
    refine ih k (j + 1) (by omega) (by omega) ?_
    exact Or.inl ⟨rfl, j, h0, by omega, hz⟩
  · refine z_n 3 (85, [(6, vi j), (5, vi k), (4, vi f), (3, vi h), (2, vi nb), (0, vr 137), (1, vi c)], [vi (I 137 15), vi j], (I, zPp π, D, 147)) rfl trivial ?_
    refine z_top (b := m) (h15) ?_
    refine z_br (m ≤ j) 114 88 [] rfl (fun h => absurd h (show ¬ (m ≤ j) from by omega)) (fun hx1 => ?_)
    refine z_n 5 (96, [(6, vi j), (5, vi k), (4, vi f), (3, vi h), (2, vi nb), (0, vr 137), (1, vi c)], [vi nb, vi (I 143 j)], (I, zPp π, D, 147)) (G := (0 ≤ j ∧ j < 4) ∧ True) rfl ⟨by omega, trivial⟩ ?_
    refine z_br (¬ (I 143 j) = nb) 104 99 [] rfl (fun hx2 => ?_) (fun h => absurd (show ¬ (I 143 j) = nb from hz) h)
    refine z_n 4 (79, [(6, vi (j + 1)), (4, vi f), (5, vi k), (3, vi h), (2, vi nb), (0, vr 137), (1, vi c)], [], (I, zPp π, D, 147)) (G := (zr (j + 1)) ∧ True) rfl ⟨by omega, trivial⟩ ?_
    refine z_sub [(6, vi (j + 1)), (5, vi k), (4, vi f), (3, vi h), (2, vi nb), (0, vr 137), (1, vi c)] [0, 2, 1, 3, 4, 5, 6] rfl ?_
    refine ih f (j + 1) (by omega) (by omega) ?_
    rcases hv with ⟨e9, q, q0, q1, q2⟩ | ⟨e9, hv⟩
    · exact Or.inl ⟨e9, q, q0, by omega, q2⟩
    · exact Or.inr ⟨e9, fun ⟨q, q0, q1, q2⟩ => by by_cases e8 : q = j; rw [e8] at q2; exact hz q2; exact hv ⟨q, q0, by omega, q2⟩⟩
set_option maxRecDepth 20000 in
theorem m_sf_o {I0 X : zI} {π : Int → Nat} {c nb res h : Int} (ci : zCI X) (hc : 0 ≤ c ∧ c < X 0 5) (hnb : 0 ≤ nb) (hz : zSf (zhx X c nb) res) (hI0 : zEq (I0 138) X) (hh : I0 138 (7 + c) = h) : ∀ (N : Nat) (k : Int) (I : zI) (D : zD), 1 ≤ k → k + N = 1001 → (∀ j, j ≠ 7 + c → I 138 j = I0 138 j) → (∀ r, r < 137 → I r = I0 r) ∧ I 139 = I0 139 ∧ I 140 = I0 140 ∧ I 137 2 = I0 137 2 ∧ I 137 4 = I0 137 4 → (∀ s, 1 ≤ s → s < k → ¬ zhx X c nb s) → ∃ J E, zRuns 127 40 [(5, vi k), (4, vi (-1004)), (3, vi h), (2, vi nb), (0, vr 137), (1, vi c)] [] (I, zPp π, D, 147) (some (vi res)) (J, zPp π, E, 147) ∧ zMk J I0 := by
  intro N
  induction N with
  | zero =>
    intro k I D h1 hN hj9 hr9 hno
    have hc24 := ci.1.1.1
    have hr : res = -1004 := by
      rcases hz with ⟨r1, r2, r3, r4⟩ | ⟨r1, r2⟩
      · exact absurd r3 (hno res r1 (by omega))
      · exact r1
    subst hr
    have hfin : zMk (zup I 138 (7 + c) h) I0 := by
      refine ⟨fun r hr => by rw [zup_ne (by omega)]; exact hr9.1 r hr, ?_, by rw [zup_ne (by decide)]; exact hr9.2.1, by rw [zup_ne (by decide)]; exact hr9.2.2.1, hr9.2.2.2.1, hr9.2.2.2.2⟩
      funext j
      rw [zup_at]
      by_cases e9 : j = 7 + c
      · rw [if_pos e9, e9, hh]
      · rw [if_neg e9]; exact hj9 j e9
    refine ⟨_, D, ?_, hfin⟩
    refine z_n 2 (45, [(5, vi k), (4, vi (-1004)), (3, vi h), (2, vi nb), (0, vr 137), (1, vi c)], [vi 1000, vi k], (I, zPp π, D, 147)) rfl trivial ?_
    refine z_br (1000 < k) 120 48 [] rfl (fun hx1 => ?_) (fun h => absurd (show 1000 < k from by omega) h)
    refine z_n 8 (132, [(5, vi k), (4, vi (-1004)), (3, vi h), (2, vi nb), (0, vr 137), (1, vi c)], [vi (-1004)], ((zup I 138 (7 + c) h), zPp π, D, 147)) (G := (zr (7 + c)) ∧ (0 ≤ (7 + c) ∧ (7 + c) < 585) ∧ True) rfl ⟨by omega, by omega, trivial⟩ ?_
    exact z_ret rfl rfl rfl
  | succ N ih =>
  intro k I D h1 hN hj9 hr9 hno
  have e1 := zEq_sp (s := k) (c := c) (show zEq (zu1 (I 138) (7 + c) h) X from by
    rw [show zu1 (I 138) (7 + c) h = I0 138 from funext fun j => by
      unfold zu1
      by_cases e9 : j = 7 + c
      · rw [if_pos e9, e9, hh]
      · rw [if_neg e9]; exact hj9 j e9]
    exact hI0) hc (by have := ci.1.1.1; omega)
  rw [show zu1 (zu1 (I 138) (7 + c) h) (7 + c) k = (zup I 138 (7 + c) k) 138 from by rw [zup_u]; funext j; unfold zu1; split <;> rfl] at e1
  have ci1 := zCI_sp (c := c) (s := k) ci (by omega)
  obtain ⟨J, E, hF, hmk, hl10, h141, h15, hA⟩ := m_Rforetells (π := π) (D := D) e1 ci1
  have hin := zFX_in (X := zup X 2 c k) ci1.1.1
  have hP : zhx X c nb k ↔ ∃ q, 0 ≤ q ∧ q < (zFX (zup X 2 c k)).2.1 ∧ J 143 q = nb := by
    unfold zhx
    constructor
    · rintro ⟨q, q0, q1, q2⟩
      exact ⟨q, q0, q1, ((hA q q0 q1).1).trans q2⟩
    · rintro ⟨q, q0, q1, q2⟩
      exact ⟨q, q0, q1, ((hA q q0 q1).1).symm.trans q2⟩
  change J 137 15 = (zFX (zup X 2 c k)).2.1 at h15
  have hj8 : ∀ j, j ≠ 7 + c → J 138 j = I0 138 j := fun j hj => by rw [hmk.2.1, zup_at, if_neg hj]; exact hj9 j hj
  have hr8 : (∀ r, r < 137 → J r = I0 r) ∧ J 139 = I0 139 ∧ J 140 = I0 140 ∧ J 137 2 = I0 137 2 ∧ J 137 4 = I0 137 4 := ⟨fun r hr => by rw [hmk.1 r hr, zup_ne (by omega)]; exact hr9.1 r hr, by rw [hmk.2.2.1, zup_ne (by decide)]; exact hr9.2.1, by rw [hmk.2.2.2.1, zup_ne (by decide)]; exact hr9.2.2.1, hmk.2.2.2.2.1.trans hr9.2.2.2.1, hmk.2.2.2.2.2.trans hr9.2.2.2.2⟩
  have hc24 := ci.1.1.1
  by_cases hp : zhx X c nb k
  · have hres : res = k := by
      rcases hz with ⟨r1, r2, r3, r4⟩ | ⟨r1, r2⟩
      · rcases Int.lt_trichotomy res k with e9 | e9 | e9
        · exact absurd r3 (hno res r1 e9)
        · exact e9
        · exact absurd hp (r4 k h1 e9)
      · exact absurd hp (r2 k h1 (by omega))
    subst hres
    have hfin : zMk (zup J 138 (7 + c) h) I0 := by
      refine ⟨fun r hr => by rw [zup_ne (by omega)]; exact hr8.1 r hr, ?_, by rw [zup_ne (by decide)]; exact hr8.2.1, by rw [zup_ne (by decide)]; exact hr8.2.2.1, hr8.2.2.2.1, hr8.2.2.2.2⟩
      funext j
      rw [zup_at]
      by_cases e9 : j = 7 + c
      · rw [if_pos e9, e9, hh]
      · rw [if_neg e9]; exact hj8 j e9
    have hafter : ∀ f, ((f = res ∧ ∃ q, 0 ≤ q ∧ q < (zFX (zup X 2 c res)).2.1 ∧ J 143 q = nb) ∨ (f = -1004 ∧ ¬ ∃ q, 0 ≤ q ∧ q < (zFX (zup X 2 c res)).2.1 ∧ J 143 q = nb)) → zRuns 127 114 [(5, vi res), (4, vi f), (3, vi h), (2, vi nb), (0, vr 137), (1, vi c)] [] (J, zPp π, E, 147) (some (vi res)) ((zup J 138 (7 + c) h), zPp π, E, 147) := by
      intro f hf
      have ef : f = res := hf.elim (fun h => h.1) (fun h => absurd (hP.mp hp) h.2)
      subst ef
      refine z_n 4 (45, [(5, vi (f + 1)), (4, vi f), (3, vi h), (2, vi nb), (0, vr 137), (1, vi c)], [vi 1000, vi (f + 1)], (J, zPp π, E, 147)) (G := (zr (f + 1)) ∧ True) rfl ⟨by omega, trivial⟩ ?_
      refine z_br (1000 < (f + 1)) 120 48 [] rfl (fun hx1 => ?_) (fun hx1 => ?_)
      · refine z_n 8 (132, [(5, vi (f + 1)), (4, vi f), (3, vi h), (2, vi nb), (0, vr 137), (1, vi c)], [vi f], ((zup J 138 (7 + c) h), zPp π, E, 147)) (G := (zr (7 + c)) ∧ (0 ≤ (7 + c) ∧ (7 + c) < 585) ∧ True) rfl ⟨by omega, by omega, trivial⟩ ?_
        exact z_ret rfl rfl rfl
      · refine z_n 2 (53, [(5, vi (f + 1)), (4, vi f), (3, vi h), (2, vi nb), (0, vr 137), (1, vi c)], [vi (-1004), vi f], (J, zPp π, E, 147)) rfl trivial ?_
        refine z_br (¬ f = (-1004)) 120 56 [] rfl (fun hx2 => ?_) (fun h => absurd (show ¬ f = (-1004) from by omega) h)
        refine z_n 8 (132, [(5, vi (f + 1)), (4, vi f), (3, vi h), (2, vi nb), (0, vr 137), (1, vi c)], [vi f], ((zup J 138 (7 + c) h), zPp π, E, 147)) (G := (zr (7 + c)) ∧ (0 ≤ (7 + c) ∧ (7 + c) < 585) ∧ True) rfl ⟨by omega, by omega, trivial⟩ ?_
        exact z_ret rfl rfl rfl
    refine ⟨_, E, ?_, hfin⟩
    refine z_n 2 (45, [(5, vi res), (4, vi (-1004)), (3, vi h), (2, vi nb), (0, vr 137), (1, vi c)], [vi 1000, vi res], (I, zPp π, D, 147)) rfl trivial ?_
    refine z_br (1000 < res) 120 48 [] rfl (fun h => absurd h (show ¬ (1000 < res) from by omega)) (fun hx1 => ?_)
    refine z_n 2 (53, [(5, vi res), (4, vi (-1004)), (3, vi h), (2, vi nb), (0, vr 137), (1, vi c)], [vi (-1004), vi (-1004)], (I, zPp π, D, 147)) rfl trivial ?_
    refine z_br (¬ (-1004 : Int) = (-1004)) 120 56 [] rfl (fun h => absurd h (show ¬ (¬ (-1004 : Int) = (-1004)) from by decide)) (fun hx2 => ?_)
    refine z_n 2 (58, [(5, vi res), (4, vi (-1004)), (3, vi h), (2, vi nb), (0, vr 137), (1, vi c)], [vi (-1), vi nb], (I, zPp π, D, 147)) rfl trivial ?_
    refine z_br (nb = (-1)) 120 61 [] rfl (fun h => absurd h (show ¬ (nb = (-1)) from by omega)) (fun hx3 => ?_)
    refine z_n 8 (73, [(5, vi res), (4, vi (-1004)), (3, vi h), (2, vi nb), (0, vr 137), (1, vi c)], [vr 137], ((zup I 138 (7 + c) res), zPp π, D, 147)) (G := (zr (7 + c)) ∧ (0 ≤ (7 + c) ∧ (7 + c) < 585) ∧ True) rfl ⟨by omega, by omega, trivial⟩ ?_
    refine z_cv 122 [vr 137] [] rfl (hF) ?_
    refine z_n 2 (79, [(6, vi 0), (5, vi res), (4, vi (-1004)), (3, vi h), (2, vi nb), (0, vr 137), (1, vi c)], [], (J, zPp π, E, 147)) rfl trivial ?_
    refine z_sub [(6, vi 0), (5, vi res), (4, vi (-1004)), (3, vi h), (2, vi nb), (0, vr 137), (1, vi c)] [0, 1, 2, 3, 4, 5, 6] rfl ?_
    refine m_sf_i h15 (by omega) (fun f hf => ?_) (zFX (zup X 2 c res)).2.1.toNat (-1004) 0 (by omega) (by omega) (Or.inr ⟨rfl, fun ⟨q, q0, q1, q2⟩ => by omega⟩)
    exact hafter f hf
  · obtain ⟨J2, E2, hrun, hm2⟩ := ih (k + 1) J E (by omega) (by omega) hj8 hr8 (fun s s0 s1 => by by_cases e9 : s = k; rw [e9]; exact hp; exact hno s s0 (by omega))
    have hafter : ∀ f, ((f = k ∧ ∃ q, 0 ≤ q ∧ q < (zFX (zup X 2 c k)).2.1 ∧ J 143 q = nb) ∨ (f = -1004 ∧ ¬ ∃ q, 0 ≤ q ∧ q < (zFX (zup X 2 c k)).2.1 ∧ J 143 q = nb)) → zRuns 127 114 [(5, vi k), (4, vi f), (3, vi h), (2, vi nb), (0, vr 137), (1, vi c)] [] (J, zPp π, E, 147) (some (vi res)) (J2, zPp π, E2, 147) := by
      intro f hf
      have ef : f = -1004 := hf.elim (fun h => absurd (hP.mpr h.2) hp) (fun h => h.1)
      subst ef
      refine z_n 2 (40, [(5, vi (k + 1)), (4, vi (-1004)), (3, vi h), (2, vi nb), (0, vr 137), (1, vi c)], [], (J, zPp π, E, 147)) (G := (zr (k + 1)) ∧ True) rfl ⟨by omega, trivial⟩ ?_
      refine z_sub [(5, vi (k + 1)), (4, vi (-1004)), (3, vi h), (2, vi nb), (0, vr 137), (1, vi c)] [0, 1, 2, 3, 4, 5] rfl ?_
      exact hrun
    refine ⟨J2, E2, ?_, hm2⟩
    refine z_n 2 (45, [(5, vi k), (4, vi (-1004)), (3, vi h), (2, vi nb), (0, vr 137), (1, vi c)], [vi 1000, vi k], (I, zPp π, D, 147)) rfl trivial ?_
    refine z_br (1000 < k) 120 48 [] rfl (fun h => absurd h (show ¬ (1000 < k) from by omega)) (fun hx1 => ?_)
    refine z_n 2 (53, [(5, vi k), (4, vi (-1004)), (3, vi h), (2, vi nb), (0, vr 137), (1, vi c)], [vi (-1004), vi (-1004)], (I, zPp π, D, 147)) rfl trivial ?_
    refine z_br (¬ (-1004 : Int) = (-1004)) 120 56 [] rfl (fun h => absurd h (show ¬ (¬ (-1004 : Int) = (-1004)) from by decide)) (fun hx2 => ?_)
    refine z_n 2 (58, [(5, vi k), (4, vi (-1004)), (3, vi h), (2, vi nb), (0, vr 137), (1, vi c)], [vi (-1), vi nb], (I, zPp π, D, 147)) rfl trivial ?_
    refine z_br (nb = (-1)) 120 61 [] rfl (fun h => absurd h (show ¬ (nb = (-1)) from by omega)) (fun hx3 => ?_)
    refine z_n 8 (73, [(5, vi k), (4, vi (-1004)), (3, vi h), (2, vi nb), (0, vr 137), (1, vi c)], [vr 137], ((zup I 138 (7 + c) k), zPp π, D, 147)) (G := (zr (7 + c)) ∧ (0 ≤ (7 + c) ∧ (7 + c) < 585) ∧ True) rfl ⟨by omega, by omega, trivial⟩ ?_
    refine z_cv 122 [vr 137] [] rfl (hF) ?_
    refine z_n 2 (79, [(6, vi 0), (5, vi k), (4, vi (-1004)), (3, vi h), (2, vi nb), (0, vr 137), (1, vi c)], [], (J, zPp π, E, 147)) rfl trivial ?_
    refine z_sub [(6, vi 0), (5, vi k), (4, vi (-1004)), (3, vi h), (2, vi nb), (0, vr 137), (1, vi c)] [0, 1, 2, 3, 4, 5, 6] rfl ?_
    refine m_sf_i h15 (by omega) (fun f hf => ?_) (zFX (zup X 2 c k)).2.1.toNat (-1004) 0 (by omega) (by omega) (Or.inr ⟨rfl, fun ⟨q, q0, q1, q2⟩ => by omega⟩)
    exact hafter f hf
set_option maxRecDepth 20000 in
theorem m_RspeedForx {I : zI} {π : Int → Nat} {D : zD} {X : zI} {c : Int} (e : zEq (I 138) X) (ci : zCI X) (hq : ¬ (0 ≤ c ∧ c < X 0 5)) : zMet 127 [vr 137, vi c] (I, zPp π, D, 147) (some (vi (-1001))) (I, zPp π, D, 147) := by
  obtain ⟨⟨m0, m1, m2, m3, m4, m5, m6⟩, mc, ⟨mb, mk⟩, ⟨ml, mg⟩, mt⟩ := id e
  obtain ⟨⟨w, v, hsp, ⟨⟨hl0, hl1⟩, hlg, hps⟩, hpt, hp0⟩, hm, hd⟩ := id ci
  have hzb := zns_b w
  have hm4 := zdis_le w v hd hm
  have hl2 := zlb_b w
  obtain ⟨⟨w1, w2⟩, ⟨w3, w4⟩, ⟨w5, w6⟩, ⟨w7, w8⟩, ⟨w9, w10⟩, w11, ⟨⟨w12, w12b⟩, w12c⟩, ⟨w13, w14⟩, ⟨w15, w16⟩⟩ := id w
  refine z_n 2 (2, [(0, vr 137), (1, vi c)], [vi c, vr 137], (I, zPp π, D, 147)) rfl trivial ?_
  refine z_ci 94 [vr 137, vi c] [] rfl (m_isCrew0 (by omega) (by omega)) ?_
  refine z_br (¬ (0 : Int) = 0) 12 8 [] rfl (fun h => absurd h (show ¬ (¬ (0 : Int) = 0) from by decide)) (fun hx1 => ?_)
  refine z_n 1 (11, [(0, vr 137), (1, vi c)], [vi (-1001)], (I, zPp π, D, 147)) rfl trivial ?_
  first | exact z_ret rfl (zv1 (by omega)) rfl | (exfalso; omega)
set_option maxRecDepth 20000 in
theorem m_RspeedForn {I : zI} {π : Int → Nat} {D : zD} {X : zI} {c : Int}  (e : zEq (I 138) X) (ci : zCI X) (hq : 0 ≤ c ∧ c < X 0 5) (hs : ¬ zIs (X 0) (X 4) c) : ∃ J, zMet 127 [vr 137, vi c] (I, zPp π, D, 147) (some (vi (-1004))) (J, zPp π, D, 147) ∧ zMk J I := by
  obtain ⟨⟨m0, m1, m2, m3, m4, m5, m6⟩, mc, ⟨mb, mk⟩, ⟨ml, mg⟩, mt⟩ := id e
  obtain ⟨⟨w, v, hsp, ⟨⟨hl0, hl1⟩, hlg, hps⟩, hpt, hp0⟩, hm, hd⟩ := id ci
  have hzb := zns_b w
  have hm4 := zdis_le w v hd hm
  have hl2 := zlb_b w
  obtain ⟨⟨w1, w2⟩, ⟨w3, w4⟩, ⟨w5, w6⟩, ⟨w7, w8⟩, ⟨w9, w10⟩, w11, ⟨⟨w12, w12b⟩, w12c⟩, ⟨w13, w14⟩, ⟨w15, w16⟩⟩ := id w
  obtain ⟨J, hJ, hln, hmk, e2⟩ := m_ln (π := π) (D := D) e ci
  obtain ⟨⟨j0, j1, j2, j3, j4, j5, j6⟩, jc, ⟨jb, jk⟩, ⟨jl, jg⟩, jt⟩ := id e2
  have hmk2 := hmk.2.2.2.2.1
  have hmk4 := hmk.2.2.2.2.2
  have hl10 := hln.1
  refine ⟨J, ?_, hmk⟩
  refine z_n 2 (2, [(0, vr 137), (1, vi c)], [vi c, vr 137], (I, zPp π, D, 147)) rfl trivial ?_
  refine z_ci 94 [vr 137, vi c] [] rfl (m_isCrew1 (by omega) (by omega)) ?_
  refine z_br (¬ (1 : Int) = 0) 12 8 [] rfl (fun hx1 => ?_) (fun h => absurd (show ¬ (1 : Int) = 0 from by decide) h)
  refine z_n 1 (13, [(0, vr 137), (1, vi c)], [vr 137], (I, zPp π, D, 147)) rfl trivial ?_
  refine z_cv 100 [vr 137] [] rfl (hJ) ?_
  refine z_n 2 (18, [(0, vr 137), (1, vi c)], [vi c, vr 137], (J, zPp π, D, 147)) rfl trivial ?_
  refine z_ci 101 [vr 137, vi c] [] rfl (m_no0 w v hln hs) ?_
  refine z_n 14 (45, [(5, vi 1), (4, vi (-1004)), (3, vi (J 138 (7 + c))), (2, vi (-1)), (0, vr 137), (1, vi c)], [vi 1000, vi 1], (J, zPp π, D, 147)) (G := (zr (7 + c)) ∧ (0 ≤ (7 + c) ∧ (7 + c) < 585) ∧ True) rfl ⟨by omega, by omega, trivial⟩ ?_
  refine z_br (1000 < (1 : Int)) 120 48 [] rfl (fun h => absurd h (show ¬ (1000 < (1 : Int)) from by decide)) (fun hx2 => ?_)
  refine z_n 2 (53, [(5, vi 1), (4, vi (-1004)), (3, vi (J 138 (7 + c))), (2, vi (-1)), (0, vr 137), (1, vi c)], [vi (-1004), vi (-1004)], (J, zPp π, D, 147)) rfl trivial ?_
  refine z_br (¬ (-1004 : Int) = (-1004)) 120 56 [] rfl (fun h => absurd h (show ¬ (¬ (-1004 : Int) = (-1004)) from by decide)) (fun hx3 => ?_)
  refine z_n 2 (58, [(5, vi 1), (4, vi (-1004)), (3, vi (J 138 (7 + c))), (2, vi (-1)), (0, vr 137), (1, vi c)], [vi (-1), vi (-1)], (J, zPp π, D, 147)) rfl trivial ?_
  refine z_br ((-1 : Int) = (-1)) 120 61 [] rfl (fun hx4 => ?_) (fun h => absurd (show (-1 : Int) = (-1) from by decide) h)
  refine z_n 8 (132, [(5, vi 1), (4, vi (-1004)), (3, vi (J 138 (7 + c))), (2, vi (-1)), (0, vr 137), (1, vi c)], [vi (-1004)], ((zup J 138 (7 + c) (J 138 (7 + c))), zPp π, D, 147)) (G := (zr (7 + c)) ∧ (0 ≤ (7 + c) ∧ (7 + c) < 585) ∧ True) rfl ⟨by omega, by omega, trivial⟩ ?_
  exact z_ret rfl rfl (by rw [zup_id])
set_option maxRecDepth 20000 in
theorem m_RspeedFor1 {I : zI} {π : Int → Nat} {D : zD} {X : zI} {c res : Int}  (e : zEq (I 138) X) (ci : zCI X) (hq : 0 ≤ c ∧ c < X 0 5) (hs : zIs (X 0) (X 4) c) (hz : zSf (zhx X c (X 4 c - X 0 9 * X 0 6)) res) : ∃ J E, zMet 127 [vr 137, vi c] (I, zPp π, D, 147) (some (vi res)) (J, zPp π, E, 147) ∧ zMk J I := by
  obtain ⟨⟨m0, m1, m2, m3, m4, m5, m6⟩, mc, ⟨mb, mk⟩, ⟨ml, mg⟩, mt⟩ := id e
  obtain ⟨⟨w, v, hsp, ⟨⟨hl0, hl1⟩, hlg, hps⟩, hpt, hp0⟩, hm, hd⟩ := id ci
  have hzb := zns_b w
  have hm4 := zdis_le w v hd hm
  have hl2 := zlb_b w
  obtain ⟨⟨w1, w2⟩, ⟨w3, w4⟩, ⟨w5, w6⟩, ⟨w7, w8⟩, ⟨w9, w10⟩, w11, ⟨⟨w12, w12b⟩, w12c⟩, ⟨w13, w14⟩, ⟨w15, w16⟩⟩ := id w
  obtain ⟨J, hJ, hln, hmk, e2⟩ := m_ln (π := π) (D := D) e ci
  obtain ⟨⟨j0, j1, j2, j3, j4, j5, j6⟩, jc, ⟨jb, jk⟩, ⟨jl, jg⟩, jt⟩ := id e2
  have hmk2 := hmk.2.2.2.2.1
  have hmk4 := hmk.2.2.2.2.2
  have hl10 := hln.1
  have hs2 := hs.2
  obtain ⟨J2, E2, hrun, hm2⟩ := m_sf_o (I0 := J) (π := π) ci hq (by omega) hz e2 rfl 1000 1 J D (by omega) (by omega) (fun _ _ => rfl) ⟨fun _ _ => rfl, rfl, rfl, rfl, rfl⟩ (fun s s0 s1 => by omega)
  refine ⟨J2, E2, ?_, zMk_t hm2 hmk⟩
  refine z_n 2 (2, [(0, vr 137), (1, vi c)], [vi c, vr 137], (I, zPp π, D, 147)) rfl trivial ?_
  refine z_ci 94 [vr 137, vi c] [] rfl (m_isCrew1 (by omega) (by omega)) ?_
  refine z_br (¬ (1 : Int) = 0) 12 8 [] rfl (fun hx1 => ?_) (fun h => absurd (show ¬ (1 : Int) = 0 from by decide) h)
  refine z_n 1 (13, [(0, vr 137), (1, vi c)], [vr 137], (I, zPp π, D, 147)) rfl trivial ?_
  refine z_cv 100 [vr 137] [] rfl (hJ) ?_
  refine z_n 2 (18, [(0, vr 137), (1, vi c)], [vi c, vr 137], (J, zPp π, D, 147)) rfl trivial ?_
  refine z_ci 101 [vr 137, vi c] [] rfl (m_no1 w v hln hs) ?_
  refine z_n 12 (40, [(5, vi 1), (4, vi (-1004)), (3, vi (J 138 (7 + c))), (2, vi (X 4 c - X 0 9 * X 0 6)), (0, vr 137), (1, vi c)], [], (J, zPp π, D, 147)) (G := (zr (7 + c)) ∧ (0 ≤ (7 + c) ∧ (7 + c) < 585) ∧ True) rfl ⟨by omega, by omega, trivial⟩ ?_
  refine z_sub [(5, vi 1), (4, vi (-1004)), (3, vi (J 138 (7 + c))), (2, vi (X 4 c - X 0 9 * X 0 6)), (0, vr 137), (1, vi c)] [0, 1, 2, 3, 4, 5] rfl ?_
  exact hrun
