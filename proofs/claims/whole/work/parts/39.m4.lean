theorem m_no1g {I : zI} {π : Int → Nat} {D : zD} {F Pl Q : Int → Int} {a : Int} (w : zW1 F) (v : zW2 F Pl Q) (h10 : I 137 10 = zns F) (h141 : ∀ k, 0 ≤ k → k < zns F → I 141 k = Q (F 9 * F 6 + k)) (h : zIs F Pl a) : zMet 101 [vr 137, vi a] (I, zPp π, D, 147) (some (vi (Pl a - F 9 * F 6))) (I, zPp π, D, 147) := by
  have hb := zns_b w
  have va := v.1 a h.1.1 h.1.2
  have h2 := h.2
  refine m_numOf1 (by rw [h10]; exact hb.1) (by rw [h10]; omega) ?_ (fun j j0 j1 e => ?_)
  · rw [h141 _ (by omega) (by omega), show F 9 * F 6 + (Pl a - F 9 * F 6) = Pl a by omega]
    exact va.2.2
  · rw [h141 _ j0 (by omega)] at e
    have := v.2.1 (F 9 * F 6 + j) (by omega) (by omega)
    rw [e] at this
    omega
theorem m_cwAt {I : zI} {π : Int → Nat} {D : zD} {F Pl Q : Int → Int} {p : Int} (w : zW1 F) (v : zW2 F Pl Q) (m0 : I 138 0 = F 5) (m1 : I 138 1 = F 6) (m4 : I 138 4 = F 9) (mp : ∀ c, 0 ≤ c → c < F 5 → I 138 (31 + c) = Pl c)  (hp : 0 ≤ p ∧ p < F 5) : zMet 99 [vr 137, vi p] (I, zPp π, D, 147) (some (vi (Q p))) (I, zPp π, D, 147) := by
  obtain ⟨⟨w1, w2⟩, -⟩ := id w
  have q := v.2.1 p hp.1 hp.2
  refine m_crewAt (by omega) (by omega) (by rw [mp _ q.1 q.2.1]; exact q.2.2) (fun j j0 j1 e => ?_)
  rw [mp j j0 (by omega)] at e
  have := v.1 j j0 (by omega)
  rw [e] at this
  omega
set_option maxRecDepth 20000 in
theorem m_ln_2 {I : zI} {π : Int → Nat} {D : zD} {F Pl Q u d : Int → Int} {m : Int}  (w : zW1 F) (v : zW2 F Pl Q) (m0 : I 138 0 = F 5) (m1 : I 138 1 = F 6) (m4 : I 138 4 = F 9) (mp : ∀ c, 0 ≤ c → c < F 5 → I 138 (31 + c) = Pl c) (mb : I 138 55 = m) (hm : 0 ≤ m) (mu : ∀ k, 0 ≤ k → k < m → I 138 (56 + k) = u k) (md : ∀ k, 0 ≤ k → k < m → I 138 (68 + k) = d k) (hd : zDis F Pl m u d)  : ∀ (N : Nat) (t : Int), 0 ≤ t → t + N = m → zRuns 100 111 [(3, vi t), (0, vr 137)] [] ((zLt I Q (F 9 * F 6) (zns F) u d t), zPp π, D, 147) none ((zLt I Q (F 9 * F 6) (zns F) u d m), zPp π, D, 147) := by
  intro N
  induction N with
  | zero =>
    intro t h0 hN
    refine z_n 5 (119, [(3, vi t), (0, vr 137)], [vi (I 138 55), vi t], ((zLt I Q (F 9 * F 6) (zns F) u d t), zPp π, D, 147)) (G := (0 ≤ 55 ∧ 55 < 585) ∧ True) rfl ⟨by omega, trivial⟩ ?_
    refine z_br ((I 138 55) ≤ t) 166 122 [] rfl (fun hx1 => ?_) (fun h => absurd (show (I 138 55) ≤ t from by omega) h)
    exact z_ret rfl rfl (by rw [show t = m by omega])
  | succ N ih =>
  intro t h0 hN
  have hm4 := zdis_le w v hd hm
  have du := hd t h0 (by omega)
  have du2 := du.1.2
  have dd2 := du.2.1.2
  have hzb := zns_b w
  have et := mu t h0 (by omega)
  have ed := md t h0 (by omega)
  have zno_u : zMet 101 [vr 137, vi (I 138 (56 + t))] ((zLt I Q (F 9 * F 6) (zns F) u d t), zPp π, D, 147) (some (vi (Pl (u t) - F 9 * F 6))) ((zLt I Q (F 9 * F 6) (zns F) u d t), zPp π, D, 147) := by rw [et]; exact m_no1 w v zLt_ln du.1
  have zno_d : zMet 101 [vr 137, vi (I 138 (68 + t))] ((zup (zLt I Q (F 9 * F 6) (zns F) u d t) 142 (Pl (u t) - F 9 * F 6) 1), zPp π, D, 147) (some (vi (Pl (d t) - F 9 * F 6))) ((zup (zLt I Q (F 9 * F 6) (zns F) u d t) 142 (Pl (u t) - F 9 * F 6) 1), zPp π, D, 147) := by
    rw [ed]
    exact m_no1g w v (zLt_ln (I := I) (F := F) (Q := Q) (u := u) (d := d) (t := t)).1 (zLt_ln (I := I) (F := F) (Q := Q) (u := u) (d := d) (t := t)).2.1 du.2.1
  refine z_n 5 (119, [(3, vi t), (0, vr 137)], [vi (I 138 55), vi t], ((zLt I Q (F 9 * F 6) (zns F) u d t), zPp π, D, 147)) (G := (0 ≤ 55 ∧ 55 < 585) ∧ True) rfl ⟨by omega, trivial⟩ ?_
  refine z_br ((I 138 55) ≤ t) 166 122 [] rfl (fun h => absurd h (show ¬ ((I 138 55) ≤ t) from by omega)) (fun hx1 => ?_)
  refine z_n 9 (136, [(3, vi t), (0, vr 137)], [vi (I 138 (56 + t)), vr 137, vr 142], ((zLt I Q (F 9 * F 6) (zns F) u d t), zPp π, D, 147)) (G := (zr (56 + t)) ∧ (0 ≤ (56 + t) ∧ (56 + t) < 585) ∧ True) rfl ⟨by omega, by omega, trivial⟩ ?_
  refine z_ci 101 [vr 137, vi (I 138 (56 + t))] [vr 142] rfl (zno_u) ?_
  refine z_n 11 (155, [(3, vi t), (0, vr 137)], [vi (I 138 (68 + t)), vr 137, vr 142], ((zup (zLt I Q (F 9 * F 6) (zns F) u d t) 142 (Pl (u t) - F 9 * F 6) 1), zPp π, D, 147)) (G := ((0 ≤ (Pl (u t) - F 9 * F 6) ∧ (Pl (u t) - F 9 * F 6) < 9) ∧ (1 = 0 ∨ 1 = 1)) ∧ (zr (68 + t)) ∧ (0 ≤ (68 + t) ∧ (68 + t) < 585) ∧ True) rfl ⟨⟨⟨by omega, by omega⟩, Or.inr rfl⟩, by omega, by omega, trivial⟩ ?_
  refine z_ci 101 [vr 137, vi (I 138 (68 + t))] [vr 142] rfl (zno_d) ?_
  refine z_n 4 (111, [(3, vi (t + 1)), (0, vr 137)], [], ((zup (zup (zLt I Q (F 9 * F 6) (zns F) u d t) 142 (Pl (u t) - F 9 * F 6) 1) 142 (Pl (d t) - F 9 * F 6) 1), zPp π, D, 147)) (G := ((0 ≤ (Pl (d t) - F 9 * F 6) ∧ (Pl (d t) - F 9 * F 6) < 9) ∧ (1 = 0 ∨ 1 = 1)) ∧ (zr (t + 1)) ∧ True) rfl ⟨⟨⟨by omega, by omega⟩, Or.inr rfl⟩, by omega, trivial⟩ ?_
  refine z_sub [(3, vi (t + 1)), (0, vr 137)] [0, 1] rfl ?_
  refine z_st (σ1 := ((zLt I Q (F 9 * F 6) (zns F) u d (t + 1)), zPp π, D, 147)) (by rw [← zLt_s w v h0 du.1 du.2.1]) ?_
  exact ih (t + 1) (by omega) (by omega)
set_option maxRecDepth 20000 in
theorem m_ln_1 {I : zI} {π : Int → Nat} {D : zD} {F Pl Q u d : Int → Int} {m : Int}  (w : zW1 F) (v : zW2 F Pl Q) (m0 : I 138 0 = F 5) (m1 : I 138 1 = F 6) (m4 : I 138 4 = F 9) (mp : ∀ c, 0 ≤ c → c < F 5 → I 138 (31 + c) = Pl c) (mb : I 138 55 = m) (hm : 0 ≤ m) (mu : ∀ k, 0 ≤ k → k < m → I 138 (56 + k) = u k) (md : ∀ k, 0 ≤ k → k < m → I 138 (68 + k) = d k) (hd : zDis F Pl m u d)  : ∀ (N : Nat) (k : Int), 0 ≤ k → k + N = zns F → zRuns 100 64 [(3, vi (F 9 * F 6 + k)), (2, vi (F 9 * F 6 + zns F)), (0, vr 137)] [] ((zLs I Q (F 9 * F 6) k), zPp π, D, 147) none ((zLt I Q (F 9 * F 6) (zns F) u d m), zPp π, D, 147) := by
  have hzb := zns_b w
  intro N
  induction N with
  | zero =>
    intro k h0 hN
    refine z_n 2 (66, [(3, vi (F 9 * F 6 + k)), (2, vi (F 9 * F 6 + zns F)), (0, vr 137)], [vi (F 9 * F 6 + zns F), vi (F 9 * F 6 + k)], ((zLs I Q (F 9 * F 6) k), zPp π, D, 147)) rfl trivial ?_
    refine z_br ((F 9 * F 6 + zns F) ≤ (F 9 * F 6 + k)) 109 69 [] rfl (fun hx1 => ?_) (fun h => absurd (show (F 9 * F 6 + zns F) ≤ (F 9 * F 6 + k) from by omega) h)
    refine z_n 2 (111, [(3, vi 0), (2, vi (F 9 * F 6 + zns F)), (0, vr 137)], [], ((zLs I Q (F 9 * F 6) k), zPp π, D, 147)) rfl trivial ?_
    refine z_sub [(3, vi 0), (0, vr 137)] [0, 2] rfl ?_
    refine z_st (σ1 := ((zLt I Q (F 9 * F 6) (zns F) u d 0), zPp π, D, 147)) (by rw [show k = zns F by omega, zLt_0]) ?_
    exact m_ln_2 w v m0 m1 m4 mp mb hm mu md hd m.toNat 0 (by omega) (by omega)
  | succ N ih =>
  intro k h0 hN
  refine z_n 2 (66, [(3, vi (F 9 * F 6 + k)), (2, vi (F 9 * F 6 + zns F)), (0, vr 137)], [vi (F 9 * F 6 + zns F), vi (F 9 * F 6 + k)], ((zLs I Q (F 9 * F 6) k), zPp π, D, 147)) rfl trivial ?_
  refine z_br ((F 9 * F 6 + zns F) ≤ (F 9 * F 6 + k)) 109 69 [] rfl (fun h => absurd h (show ¬ ((F 9 * F 6 + zns F) ≤ (F 9 * F 6 + k)) from by omega)) (fun hx1 => ?_)
  refine z_n 6 (79, [(3, vi (F 9 * F 6 + k)), (2, vi (F 9 * F 6 + zns F)), (0, vr 137)], [vi (F 9 * F 6 + k), vr 137, vi k, vr 141], ((zLs I Q (F 9 * F 6) k), zPp π, D, 147)) rfl trivial ?_
  refine z_ci 99 [vr 137, vi (F 9 * F 6 + k)] [vi k, vr 141] rfl (m_cwAt (I := zLs I Q (F 9 * F 6) k) w v m0 m1 m4 mp (by omega)) ?_
  refine z_n 15 (64, [(3, vi ((F 9 * F 6 + k) + 1)), (2, vi (F 9 * F 6 + zns F)), (0, vr 137)], [], ((zup (zup (zup (zLs I Q (F 9 * F 6) k) 141 k (Q (F 9 * F 6 + k))) 142 k 0) 137 10 (k + 1)), zPp π, D, 147)) (G := (0 ≤ k ∧ k < 9) ∧ ((0 ≤ k ∧ k < 9) ∧ (0 = 0 ∨ 0 = 1)) ∧ (zr (k + 1)) ∧ (zr ((F 9 * F 6 + k) + 1)) ∧ True) rfl ⟨⟨by omega, by omega⟩, by omega, by omega, by omega, trivial⟩ ?_
  refine z_sub [(3, vi ((F 9 * F 6 + k) + 1)), (2, vi (F 9 * F 6 + zns F)), (0, vr 137)] [0, 1, 2] rfl ?_
  refine z_lk (L1 := [(3, vi (F 9 * F 6 + (k + 1))), (2, vi (F 9 * F 6 + zns F)), (0, vr 137)]) (by rw [show F 9 * F 6 + k + 1 = F 9 * F 6 + (k + 1) by omega]) ?_
  refine z_st (σ1 := ((zLs I Q (F 9 * F 6) (k + 1)), zPp π, D, 147)) (by rw [← zLs_s h0]) ?_
  exact ih (k + 1) (by omega) (by omega)
set_option maxRecDepth 20000 in
theorem m_lines {I : zI} {π : Int → Nat} {D : zD} {F Pl Q u d : Int → Int} {m : Int}  (w : zW1 F) (v : zW2 F Pl Q) (m0 : I 138 0 = F 5) (m1 : I 138 1 = F 6) (m4 : I 138 4 = F 9) (mp : ∀ c, 0 ≤ c → c < F 5 → I 138 (31 + c) = Pl c) (mb : I 138 55 = m) (hm : 0 ≤ m) (mu : ∀ k, 0 ≤ k → k < m → I 138 (56 + k) = u k) (md : ∀ k, 0 ≤ k → k < m → I 138 (68 + k) = d k) (hd : zDis F Pl m u d)  (hr : ¬ F 9 = -1) : zMet 100 [vr 137] (I, zPp π, D, 147) none ((zLt I Q (F 9 * F 6) (zns F) u d m), zPp π, D, 147) := by
  obtain ⟨⟨w1, w2⟩, ⟨w3, w4⟩, ⟨w5, w6⟩, ⟨w7, w8⟩, ⟨w9, w10⟩, w11, ⟨⟨w12, w12b⟩, w12c⟩, ⟨w13, w14⟩, ⟨w15, w16⟩⟩ := id w
  have hzb := zns_b w
  have hz : zns F = if F 9 = -1 then 0 else if F 6 + 1 ≤ F 5 - F 9 * F 6 then F 6 + 1 else F 5 - F 9 * F 6 := rfl
  have hE : I 138 1 * I 138 4 = F 9 * F 6 := by rw [m1, m4, Int.mul_comm]
  refine z_n 8 (12, [(0, vr 137)], [vi (-1), vi (I 138 4)], ((zup I 137 10 0), zPp π, D, 147)) (G := (0 ≤ 4 ∧ 4 < 585) ∧ True) rfl ⟨by omega, trivial⟩ ?_
  refine z_br (¬ (I 138 4) = (-1)) 16 15 [] rfl (fun hx1 => ?_) (fun h => absurd (show ¬ (I 138 4) = (-1) from by omega) h)
  refine z_n 22 (46, [(2, vi (((I 138 1) * (I 138 4)) + (I 138 1))), (1, vi ((I 138 1) * (I 138 4))), (0, vr 137)], [vi (I 138 0), vi (((I 138 1) * (I 138 4)) + (I 138 1))], ((zup I 137 10 0), zPp π, D, 147)) (G := (0 ≤ 1 ∧ 1 < 585) ∧ (0 ≤ 4 ∧ 4 < 585) ∧ (zr ((I 138 1) * (I 138 4))) ∧ (0 ≤ 1 ∧ 1 < 585) ∧ (zr (((I 138 1) * (I 138 4)) + (I 138 1))) ∧ (0 ≤ 0 ∧ 0 < 585) ∧ True) rfl ⟨by omega, by omega, by omega, by omega, by omega, by omega, trivial⟩ ?_
  refine z_br ((I 138 0) ≤ (((I 138 1) * (I 138 4)) + (I 138 1))) 55 49 [] rfl (fun hx2 => ?_) (fun hx2 => ?_)
  · refine z_n 7 (64, [(3, vi ((I 138 1) * (I 138 4))), (2, vi (I 138 0)), (1, vi ((I 138 1) * (I 138 4))), (0, vr 137)], [], ((zup I 137 10 0), zPp π, D, 147)) (G := (0 ≤ 0 ∧ 0 < 585) ∧ True) rfl ⟨by omega, trivial⟩ ?_
    refine z_sub [(3, vi ((I 138 1) * (I 138 4))), (2, vi (I 138 0)), (0, vr 137)] [0, 1, 3] rfl ?_
    refine z_lk (L1 := [(3, vi (F 9 * F 6 + 0)), (2, vi (F 9 * F 6 + zns F)), (0, vr 137)]) (by rw [show I 138 0 = F 9 * F 6 + zns F by omega, show (I 138 1) * (I 138 4) = F 9 * F 6 + 0 by omega]) ?_
    refine z_st (σ1 := ((zLs I Q (F 9 * F 6) 0), zPp π, D, 147)) (by rw [zLs_0 (Or := Q) (E := F 9 * F 6)]) ?_
    exact m_ln_1 w v m0 m1 m4 mp mb hm mu md hd (zns F).toNat 0 (by omega) (by omega)
  · refine z_n 7 (64, [(3, vi ((I 138 1) * (I 138 4))), (2, vi ((((I 138 1) * (I 138 4)) + (I 138 1)) + 1)), (1, vi ((I 138 1) * (I 138 4))), (0, vr 137)], [], ((zup I 137 10 0), zPp π, D, 147)) (G := (zr ((((I 138 1) * (I 138 4)) + (I 138 1)) + 1)) ∧ True) rfl ⟨by omega, trivial⟩ ?_
    refine z_sub [(3, vi ((I 138 1) * (I 138 4))), (2, vi ((((I 138 1) * (I 138 4)) + (I 138 1)) + 1)), (0, vr 137)] [0, 1, 3] rfl ?_
    refine z_lk (L1 := [(3, vi (F 9 * F 6 + 0)), (2, vi (F 9 * F 6 + zns F)), (0, vr 137)]) (by rw [show (((I 138 1) * (I 138 4)) + (I 138 1)) + 1 = F 9 * F 6 + zns F by omega, show (I 138 1) * (I 138 4) = F 9 * F 6 + 0 by omega]) ?_
    refine z_st (σ1 := ((zLs I Q (F 9 * F 6) 0), zPp π, D, 147)) (by rw [zLs_0 (Or := Q) (E := F 9 * F 6)]) ?_
    exact m_ln_1 w v m0 m1 m4 mp mb hm mu md hd (zns F).toNat 0 (by omega) (by omega)
set_option maxRecDepth 20000 in
theorem m_lines0 {I : zI} {π : Int → Nat} {D : zD} (hr : I 138 4 = -1) : zMet 100 [vr 137] (I, zPp π, D, 147) none ((zup I 137 10 0), zPp π, D, 147) := by
  refine z_n 8 (12, [(0, vr 137)], [vi (-1), vi (I 138 4)], ((zup I 137 10 0), zPp π, D, 147)) (G := (0 ≤ 4 ∧ 4 < 585) ∧ True) rfl ⟨by omega, trivial⟩ ?_
  refine z_br (¬ (I 138 4) = (-1)) 16 15 [] rfl (fun h => absurd h (show ¬ (¬ (I 138 4) = (-1)) from by omega)) (fun hx1 => ?_)
  exact z_ret rfl rfl rfl
