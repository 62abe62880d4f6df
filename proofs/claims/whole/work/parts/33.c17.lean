set_option maxRecDepth 20000 in
theorem m_distx {I : zI} {π : Int → Nat} {D : zD} {k t : Int} (hq : ¬ (1 ≤ k ∧ 0 ≤ t ∧ t ≤ 1000)) : zMet 82 [vr 1, vi k, vi t] (I, zPp π, D, 147) (some (vi (-1001))) (I, zPp π, D, 147) := by
  refine z_n 2 (2, [(0, vr 1), (1, vi k), (2, vi t)], [vi 1, vi k], (I, zPp π, D, 147)) rfl trivial ?_
  refine z_br (k < 1) 16 5 [] rfl (fun hx1 => ?_) (fun hx1 => ?_)
  · refine z_n 1 (19, [(0, vr 1), (1, vi k), (2, vi t)], [vi (-1001)], (I, zPp π, D, 147)) rfl trivial ?_
    exact z_ret rfl rfl rfl
  · refine z_n 1 (6, [(0, vr 1), (1, vi k), (2, vi t)], [vi t], (I, zPp π, D, 147)) rfl trivial ?_
    refine z_br (t < 0) 16 9 [] rfl (fun hx2 => ?_) (fun hx2 => ?_)
    · refine z_n 1 (19, [(0, vr 1), (1, vi k), (2, vi t)], [vi (-1001)], (I, zPp π, D, 147)) rfl trivial ?_
      exact z_ret rfl rfl rfl
    · refine z_n 2 (13, [(0, vr 1), (1, vi k), (2, vi t)], [vi 1000, vi t], (I, zPp π, D, 147)) rfl trivial ?_
      refine z_br (t ≤ 1000) 20 16 [] rfl (fun h => absurd h (show ¬ (t ≤ 1000) from by omega)) (fun hx3 => ?_)
      refine z_n 1 (19, [(0, vr 1), (1, vi k), (2, vi t)], [vi (-1001)], (I, zPp π, D, 147)) rfl trivial ?_
      exact z_ret rfl rfl rfl
set_option maxRecDepth 20000 in
theorem m_distn {I : zI} {π : Int → Nat} {D : zD} {k t : Int} (w : zW1 (I 2)) (hq : 1 ≤ k ∧ 0 ≤ t ∧ t ≤ 1000) (h2 : zns (I 2) ≤ k) : zMet 82 [vr 1, vi k, vi t] (I, zPp π, D, 147) (some (vi (-1004))) (I, zPp π, D, 147) := by
  refine z_n 2 (2, [(0, vr 1), (1, vi k), (2, vi t)], [vi 1, vi k], (I, zPp π, D, 147)) rfl trivial ?_
  refine z_br (k < 1) 16 5 [] rfl (fun h => absurd h (show ¬ (k < 1) from by omega)) (fun hx1 => ?_)
  refine z_n 1 (6, [(0, vr 1), (1, vi k), (2, vi t)], [vi t], (I, zPp π, D, 147)) rfl trivial ?_
  refine z_br (t < 0) 16 9 [] rfl (fun h => absurd h (show ¬ (t < 0) from by omega)) (fun hx2 => ?_)
  refine z_n 2 (13, [(0, vr 1), (1, vi k), (2, vi t)], [vi 1000, vi t], (I, zPp π, D, 147)) rfl trivial ?_
  refine z_br (t ≤ 1000) 20 16 [] rfl (fun hx3 => ?_) (fun h => absurd (show t ≤ 1000 from by omega) h)
  refine z_n 3 (25, [(0, vr 1), (1, vi k), (2, vi t)], [vr 2, vi k], (I, zPp π, D, 147)) rfl trivial ?_
  refine z_ci 12 [vr 2] [vi k] rfl (m_starters w) ?_
  refine z_br (k < (zns (I 2))) 35 31 [] rfl (fun h => absurd h (show ¬ (k < (zns (I 2))) from by omega)) (fun hx4 => ?_)
  refine z_n 1 (34, [(0, vr 1), (1, vi k), (2, vi t)], [vi (-1004)], (I, zPp π, D, 147)) rfl trivial ?_
  exact z_ret rfl rfl rfl
set_option maxRecDepth 20000 in
theorem m_dist1 {I : zI} {π : Int → Nat} {D : zD} {k t : Int} (w : zW1 (I 2)) (v : zW2 (I 2) (I 6) (I 8)) (hsp : ∀ c, 0 ≤ c → c < I 2 5 → 0 ≤ I 4 c ∧ I 4 c ≤ 1000) (hq : 1 ≤ k ∧ 0 ≤ t ∧ t ≤ 1000) (h2 : k < zns (I 2)) : zMet 82 [vr 1, vi k, vi t] (I, zPp π, D, 147) (some (vi ((FP.d2f (FP.dsub (zpoV (I 4 (I 8 (I 2 9 * I 2 6 + (k - 1)))) t ((k - 1) * I 2 10)) (zpoV (I 4 (I 8 (I 2 9 * I 2 6 + (k)))) t ((k) * I 2 10)))).toInt32.toInt))) (I, zPp π, D, 147) := by
  obtain ⟨⟨w1, w2⟩, ⟨w3, w4⟩, ⟨w5, w6⟩, ⟨w7, w8⟩, ⟨w9, w10⟩, w11, ⟨⟨w12, w12b⟩, w12c⟩, ⟨w13, w14⟩, ⟨w15, w16⟩⟩ := id w
  have hzb := zns_b w
  have qa := v.2.1 (I 2 9 * I 2 6 + (k - 1)) (by omega) (by omega)
  have pa := hsp _ qa.1 qa.2.1
  have ea := zmulb (a := k - 1) (b := I 2 10) (A := 9) (B := 5000) (by omega) (by omega) (by omega) (by omega)
  have da := zpo_d pa hq.2 (e := (k - 1) * I 2 10) (by omega)
  have qb := v.2.1 (I 2 9 * I 2 6 + (k)) (by omega) (by omega)
  have pb := hsp _ qb.1 qb.2.1
  have eb := zmulb (a := k) (b := I 2 10) (A := 9) (B := 5000) (by omega) (by omega) (by omega) (by omega)
  have db := zpo_d pb hq.2 (e := (k) * I 2 10) (by omega)
  have hok := zfok_dist pa pb hq.2 (e1 := (k - 1) * I 2 10) (e2 := (k) * I 2 10) (by omega) (by omega)
  refine z_n 2 (2, [(0, vr 1), (1, vi k), (2, vi t)], [vi 1, vi k], (I, zPp π, D, 147)) rfl trivial ?_
  refine z_br (k < 1) 16 5 [] rfl (fun h => absurd h (show ¬ (k < 1) from by omega)) (fun hx1 => ?_)
  refine z_n 1 (6, [(0, vr 1), (1, vi k), (2, vi t)], [vi t], (I, zPp π, D, 147)) rfl trivial ?_
  refine z_br (t < 0) 16 9 [] rfl (fun h => absurd h (show ¬ (t < 0) from by omega)) (fun hx2 => ?_)
  refine z_n 2 (13, [(0, vr 1), (1, vi k), (2, vi t)], [vi 1000, vi t], (I, zPp π, D, 147)) rfl trivial ?_
  refine z_br (t ≤ 1000) 20 16 [] rfl (fun hx3 => ?_) (fun h => absurd (show t ≤ 1000 from by omega) h)
  refine z_n 3 (25, [(0, vr 1), (1, vi k), (2, vi t)], [vr 2, vi k], (I, zPp π, D, 147)) rfl trivial ?_
  refine z_ci 12 [vr 2] [vi k] rfl (m_starters w) ?_
  refine z_br (k < (zns (I 2))) 35 31 [] rfl (fun hx4 => ?_) (fun h => absurd (show k < (zns (I 2)) from by omega) h)
  refine z_n 6 (43, [(0, vr 1), (1, vi k), (2, vi t)], [vi t, vi (k - 1), vr 2], (I, zPp π, D, 147)) (G := (zr (k - 1)) ∧ True) rfl ⟨by omega, trivial⟩ ?_
  refine z_ci 24 [vr 2, vi (k - 1), vi t] [] rfl (m_position (k := k - 1) w (by omega) (by omega) (by omega) qa.1 (by omega) (by omega) (vf64 (FP.Core.DInt_ne_nan da.1)) (vf64 (FP.Core.DInt_ne_nan da.2))) ?_
  refine z_n 4 (52, [(0, vr 1), (1, vi k), (2, vi t)], [vi t, vi k, vr 2, vd (zpoV (I 4 (I 8 (I 2 9 * I 2 6 + (k - 1)))) t ((k - 1) * I 2 10))], (I, zPp π, D, 147)) rfl trivial ?_
  refine z_ci 24 [vr 2, vi k, vi t] [vd (zpoV (I 4 (I 8 (I 2 9 * I 2 6 + (k - 1)))) t ((k - 1) * I 2 10))] rfl (m_position (k := k) w (by omega) (by omega) (by omega) qb.1 (by omega) (by omega) (vf64 (FP.Core.DInt_ne_nan db.1)) (vf64 (FP.Core.DInt_ne_nan db.2))) ?_
  refine z_n 2 (57, [(0, vr 1), (1, vi k), (2, vi t)], [vf (FP.d2f (FP.dsub (zpoV (I 4 (I 8 (I 2 9 * I 2 6 + (k - 1)))) t ((k - 1) * I 2 10)) (zpoV (I 4 (I 8 (I 2 9 * I 2 6 + (k)))) t ((k) * I 2 10))))], (I, zPp π, D, 147)) (G := (vf_n64 (FP.dsub (zpoV (I 4 (I 8 (I 2 9 * I 2 6 + (k - 1)))) t ((k - 1) * I 2 10)) (zpoV (I 4 (I 8 (I 2 9 * I 2 6 + (k)))) t ((k) * I 2 10)))) ∧ (vf_n32 (FP.d2f (FP.dsub (zpoV (I 4 (I 8 (I 2 9 * I 2 6 + (k - 1)))) t ((k - 1) * I 2 10)) (zpoV (I 4 (I 8 (I 2 9 * I 2 6 + (k)))) t ((k) * I 2 10))))) ∧ True) rfl ⟨vf64 hok.1, vf32 (zfok_n hok.2), trivial⟩ ?_
  refine z_ci 84 [vf (FP.d2f (FP.dsub (zpoV (I 4 (I 8 (I 2 9 * I 2 6 + (k - 1)))) t ((k - 1) * I 2 10)) (zpoV (I 4 (I 8 (I 2 9 * I 2 6 + (k)))) t ((k) * I 2 10))))] [] rfl (m_fbits hok.2) ?_
  exact z_ret rfl rfl rfl
