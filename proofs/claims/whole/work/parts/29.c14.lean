set_option maxRecDepth 20000 in
theorem m_fb_Ap {σ : zS} {x : UInt32} {E T : Nat} (hE0 : 1 ≤ E) (hE : E ≤ 254) (hT : T < 2 ^ 23) (hs : ¬ (Op.cmpValue (FP.fcmp x FP.fconst0) .g).toInt < 0) : zRuns 84 78 [(1, vf (zfb 127 T)), (2, vi (E : Int)), (0, vf x)] [] σ (some (vi ((zfb E T).toInt32.toInt))) σ := by
  refine z_n 16 (97, [(4, vi ((Int32.ofInt ((Int32.ofInt (E : Int) <<< (Int32.ofInt 23 &&& 31)).toInt) ||| Int32.ofInt ((FP.f2i (FP.fmul (FP.fsub (zfb 127 T) FP.fconst1) 1258291200)).toInt)).toInt)), (3, vi ((FP.f2i (FP.fmul (FP.fsub (zfb 127 T) FP.fconst1) 1258291200)).toInt)), (1, vf (zfb 127 T)), (2, vi (E : Int)), (0, vf x)], [vi ((Op.cmpValue (FP.fcmp x FP.fconst0) .g).toInt)], σ) (G := (vf_n32 (FP.fsub (zfb 127 T) FP.fconst1)) ∧ (vf_n32 (FP.fmul (FP.fsub (zfb 127 T) FP.fconst1) 1258291200)) ∧ True) rfl ⟨vf32 (zfb_frac hT).2.2, vf32 (zfb_frac hT).2.1, trivial⟩ ?_
  refine z_br (0 ≤ ((Op.cmpValue (FP.fcmp x FP.fconst0) .g).toInt)) 108 100 [] rfl (fun hx1 => ?_) (fun h => absurd (show 0 ≤ ((Op.cmpValue (FP.fcmp x FP.fconst0) .g).toInt) from by omega) h)
  refine z_n 1 (110, [(4, vi ((Int32.ofInt ((Int32.ofInt (E : Int) <<< (Int32.ofInt 23 &&& 31)).toInt) ||| Int32.ofInt ((FP.f2i (FP.fmul (FP.fsub (zfb 127 T) FP.fconst1) 1258291200)).toInt)).toInt)), (3, vi ((FP.f2i (FP.fmul (FP.fsub (zfb 127 T) FP.fconst1) 1258291200)).toInt)), (1, vf (zfb 127 T)), (2, vi (E : Int)), (0, vf x)], [vi ((Int32.ofInt ((Int32.ofInt (E : Int) <<< (Int32.ofInt 23 &&& 31)).toInt) ||| Int32.ofInt ((FP.f2i (FP.fmul (FP.fsub (zfb 127 T) FP.fconst1) 1258291200)).toInt)).toInt)], σ) rfl trivial ?_
  exact z_ret rfl (zv1 (by rw [(zfb_frac hT).1, zfb_or hE hT])) rfl
set_option maxRecDepth 20000 in
theorem m_fb_An {σ : zS} {x : UInt32} {E T : Nat} (hE0 : 1 ≤ E) (hE : E ≤ 254) (hT : T < 2 ^ 23) (hs : (Op.cmpValue (FP.fcmp x FP.fconst0) .g).toInt < 0) : zRuns 84 78 [(1, vf (zfb 127 T)), (2, vi (E : Int)), (0, vf x)] [] σ (some (vi ((zfbn E T).toInt32.toInt))) σ := by
  refine z_n 16 (97, [(4, vi ((Int32.ofInt ((Int32.ofInt (E : Int) <<< (Int32.ofInt 23 &&& 31)).toInt) ||| Int32.ofInt ((FP.f2i (FP.fmul (FP.fsub (zfb 127 T) FP.fconst1) 1258291200)).toInt)).toInt)), (3, vi ((FP.f2i (FP.fmul (FP.fsub (zfb 127 T) FP.fconst1) 1258291200)).toInt)), (1, vf (zfb 127 T)), (2, vi (E : Int)), (0, vf x)], [vi ((Op.cmpValue (FP.fcmp x FP.fconst0) .g).toInt)], σ) (G := (vf_n32 (FP.fsub (zfb 127 T) FP.fconst1)) ∧ (vf_n32 (FP.fmul (FP.fsub (zfb 127 T) FP.fconst1) 1258291200)) ∧ True) rfl ⟨vf32 (zfb_frac hT).2.2, vf32 (zfb_frac hT).2.1, trivial⟩ ?_
  refine z_br (0 ≤ ((Op.cmpValue (FP.fcmp x FP.fconst0) .g).toInt)) 108 100 [] rfl (fun h => absurd h (show ¬ (0 ≤ ((Op.cmpValue (FP.fcmp x FP.fconst0) .g).toInt)) from by omega)) (fun hx1 => ?_)
  refine z_n 4 (110, [(4, vi ((Int32.ofInt ((Int32.ofInt (E : Int) <<< (Int32.ofInt 23 &&& 31)).toInt) ||| Int32.ofInt ((FP.f2i (FP.fmul (FP.fsub (zfb 127 T) FP.fconst1) 1258291200)).toInt)).toInt)), (3, vi ((FP.f2i (FP.fmul (FP.fsub (zfb 127 T) FP.fconst1) 1258291200)).toInt)), (1, vf (zfb 127 T)), (2, vi (E : Int)), (0, vf x)], [vi ((Int32.ofInt ((Int32.ofInt ((Int32.ofInt (E : Int) <<< (Int32.ofInt 23 &&& 31)).toInt) ||| Int32.ofInt ((FP.f2i (FP.fmul (FP.fsub (zfb 127 T) FP.fconst1) 1258291200)).toInt)).toInt) ||| Int32.ofInt (-2147483648)).toInt)], σ) rfl trivial ?_
  exact z_ret rfl (zv1 (by rw [(zfb_frac hT).1, zfb_or hE hT, Int32.ofInt_toInt, zfbn_or hE hT])) rfl
set_option maxRecDepth 20000 in
theorem m_fb_B {σ : zS} {x : UInt32} {E T : Nat} {res : Int} (hE0 : 1 ≤ E) (hE : E ≤ 254) (hT : T < 2 ^ 23) (hA : zRuns 84 78 [(1, vf (zfb 127 T)), (2, vi (E : Int)), (0, vf x)] [] σ (some (vi res)) σ) : ∀ (N F : Nat) (e k : Int), F + N = 127 → 1 ≤ F → 0 ≤ k → k + N ≤ 126 → e = E + 127 - F → zRuns 84 53 [(3, vi k), (1, vf (zfb F T)), (2, vi e), (0, vf x)] [] σ (some (vi res)) σ := by
  intro N
  induction N with
  | zero =>
    intro F e k hF hF1 k0 kN he
    obtain rfl : F = 127 := by omega
    obtain rfl : e = (E : Int) := by omega
    have hc := (zfc_cmp (zfb_ne (E := 127) (T := T) (by omega) (by omega) hT) zfn1 .g).1
    rw [zfb_k (by omega) hT, zfk1] at hc
    refine z_n 2 (56, [(3, vi k), (1, vf (zfb 127 T)), (2, vi (E : Int)), (0, vf x)], [vi 126, vi k], σ) rfl trivial ?_
    refine z_br (126 ≤ k) 78 59 [] rfl (fun hx1 => ?_) (fun hx1 => ?_)
    · refine z_sub [(1, vf (zfb 127 T)), (2, vi (E : Int)), (0, vf x)] [1, 2, 3] rfl ?_
      exact hA
    · refine z_n 3 (62, [(3, vi k), (1, vf (zfb 127 T)), (2, vi (E : Int)), (0, vf x)], [vi ((Op.cmpValue (FP.fcmp (zfb 127 T) FP.fconst1) .g).toInt)], σ) rfl trivial ?_
      refine z_br (0 ≤ ((Op.cmpValue (FP.fcmp (zfb 127 T) FP.fconst1) .g).toInt)) 78 65 [] rfl (fun hx2 => ?_) (fun h => absurd (show 0 ≤ ((Op.cmpValue (FP.fcmp (zfb 127 T) FP.fconst1) .g).toInt) from by omega) h)
      refine z_sub [(1, vf (zfb 127 T)), (2, vi (E : Int)), (0, vf x)] [1, 2, 3] rfl ?_
      exact hA
  | succ N ih =>
  intro F e k hF hF1 k0 kN he
  have hc := (zfc_cmp (zfb_ne (E := F) (T := T) (by omega) (by omega) hT) zfn1 .g).1
  rw [zfb_k (by omega) hT, zfk1] at hc
  refine z_n 2 (56, [(3, vi k), (1, vf (zfb F T)), (2, vi e), (0, vf x)], [vi 126, vi k], σ) rfl trivial ?_
  refine z_br (126 ≤ k) 78 59 [] rfl (fun h => absurd h (show ¬ (126 ≤ k) from by omega)) (fun hx1 => ?_)
  refine z_n 3 (62, [(3, vi k), (1, vf (zfb F T)), (2, vi e), (0, vf x)], [vi ((Op.cmpValue (FP.fcmp (zfb F T) FP.fconst1) .g).toInt)], σ) rfl trivial ?_
  refine z_br (0 ≤ ((Op.cmpValue (FP.fcmp (zfb F T) FP.fconst1) .g).toInt)) 78 65 [] rfl (fun h => absurd h (show ¬ (0 ≤ ((Op.cmpValue (FP.fcmp (zfb F T) FP.fconst1) .g).toInt)) from by omega)) (fun hx2 => ?_)
  refine z_n 7 (53, [(3, vi (k + 1)), (2, vi (e + (-1))), (1, vf (FP.fmul (zfb F T) FP.fconst2)), (0, vf x)], [], σ) (G := (vf_n32 (FP.fmul (zfb F T) FP.fconst2)) ∧ (zr (e + (-1))) ∧ (zr (k + 1)) ∧ True) rfl ⟨vf32 (by rw [zfb_dbl (by omega) (by omega) hT]; exact zfb_ne (by omega) (by omega) hT), by omega, by omega, trivial⟩ ?_
  refine z_sub [(3, vi (k + 1)), (1, vf (FP.fmul (zfb F T) FP.fconst2)), (2, vi (e + (-1))), (0, vf x)] [0, 2, 1, 3] rfl ?_
  refine z_lk (L1 := [(3, vi (k + 1)), (1, vf (zfb (F + 1) T)), (2, vi (e + (-1))), (0, vf x)]) (by rw [zfb_dbl (by omega) (by omega) hT]) ?_
  exact ih (F + 1) _ _ (by omega) (by omega) (by omega) (by omega) (by omega)
set_option maxRecDepth 20000 in
theorem m_fb_C {σ : zS} {x : UInt32} {E T : Nat} {res : Int} (hE0 : 1 ≤ E) (hE : E ≤ 254) (hT : T < 2 ^ 23) (hA : zRuns 84 78 [(1, vf (zfb 127 T)), (2, vi (E : Int)), (0, vf x)] [] σ (some (vi res)) σ) : ∀ (N F : Nat) (e k : Int), F = 127 + N → F ≤ 254 → 0 ≤ k → k + N ≤ 127 → e = E + 127 - F → zRuns 84 26 [(3, vi k), (1, vf (zfb F T)), (2, vi e), (0, vf x)] [] σ (some (vi res)) σ := by
  intro N
  induction N with
  | zero =>
    intro F e k hF hF1 k0 kN he
    obtain rfl : F = 127 := by omega
    have hc := (zfc_cmp (zfb_ne (E := 127) (T := T) (by omega) (by omega) hT) zfn2 .l).1
    rw [zfb_k (by omega) hT, zfk2] at hc
    refine z_n 2 (29, [(3, vi k), (1, vf (zfb 127 T)), (2, vi e), (0, vf x)], [vi 127, vi k], σ) rfl trivial ?_
    refine z_br (127 ≤ k) 51 32 [] rfl (fun hx1 => ?_) (fun hx1 => ?_)
    · refine z_n 2 (53, [(3, vi 0), (1, vf (zfb 127 T)), (2, vi e), (0, vf x)], [], σ) rfl trivial ?_
      refine z_sub [(3, vi 0), (1, vf (zfb 127 T)), (2, vi e), (0, vf x)] [0, 1, 2, 3] rfl ?_
      exact m_fb_B hE0 hE hT hA 0 127 _ 0 (by omega) (by omega) (by omega) (by omega) (by omega)
    · refine z_n 3 (35, [(3, vi k), (1, vf (zfb 127 T)), (2, vi e), (0, vf x)], [vi ((Op.cmpValue (FP.fcmp (zfb 127 T) FP.fconst2) .l).toInt)], σ) rfl trivial ?_
      refine z_br (((Op.cmpValue (FP.fcmp (zfb 127 T) FP.fconst2) .l).toInt) < 0) 51 38 [] rfl (fun hx2 => ?_) (fun h => absurd (show ((Op.cmpValue (FP.fcmp (zfb 127 T) FP.fconst2) .l).toInt) < 0 from by omega) h)
      refine z_n 2 (53, [(3, vi 0), (1, vf (zfb 127 T)), (2, vi e), (0, vf x)], [], σ) rfl trivial ?_
      refine z_sub [(3, vi 0), (1, vf (zfb 127 T)), (2, vi e), (0, vf x)] [0, 1, 2, 3] rfl ?_
      exact m_fb_B hE0 hE hT hA 0 127 _ 0 (by omega) (by omega) (by omega) (by omega) (by omega)
  | succ N ih =>
  intro F e k hF hF1 k0 kN he
  have hc := (zfc_cmp (zfb_ne (E := F) (T := T) (by omega) (by omega) hT) zfn2 .l).1
  rw [zfb_k (by omega) hT, zfk2] at hc
  refine z_n 2 (29, [(3, vi k), (1, vf (zfb F T)), (2, vi e), (0, vf x)], [vi 127, vi k], σ) rfl trivial ?_
  refine z_br (127 ≤ k) 51 32 [] rfl (fun h => absurd h (show ¬ (127 ≤ k) from by omega)) (fun hx1 => ?_)
  refine z_n 3 (35, [(3, vi k), (1, vf (zfb F T)), (2, vi e), (0, vf x)], [vi ((Op.cmpValue (FP.fcmp (zfb F T) FP.fconst2) .l).toInt)], σ) rfl trivial ?_
  refine z_br (((Op.cmpValue (FP.fcmp (zfb F T) FP.fconst2) .l).toInt) < 0) 51 38 [] rfl (fun h => absurd h (show ¬ (((Op.cmpValue (FP.fcmp (zfb F T) FP.fconst2) .l).toInt) < 0) from by omega)) (fun hx2 => ?_)
  refine z_n 7 (26, [(3, vi (k + 1)), (2, vi (e + 1)), (1, vf (FP.fdiv (zfb F T) FP.fconst2)), (0, vf x)], [], σ) (G := (vf_n32 (FP.fdiv (zfb F T) FP.fconst2)) ∧ (zr (e + 1)) ∧ (zr (k + 1)) ∧ True) rfl ⟨vf32 (by rw [zfb_half (by omega) (by omega) hT]; exact zfb_ne (by omega) (by omega) hT), by omega, by omega, trivial⟩ ?_
  refine z_sub [(3, vi (k + 1)), (1, vf (FP.fdiv (zfb F T) FP.fconst2)), (2, vi (e + 1)), (0, vf x)] [0, 2, 1, 3] rfl ?_
  refine z_lk (L1 := [(3, vi (k + 1)), (1, vf (zfb (F - 1) T)), (2, vi (e + 1)), (0, vf x)]) (by rw [zfb_half (by omega) (by omega) hT]) ?_
  exact ih (F - 1) _ _ (by omega) (by omega) (by omega) (by omega) (by omega)
set_option maxRecDepth 20000 in
theorem m_fb_26 {σ : zS} {x : UInt32} {E T : Nat} {res : Int} (hE0 : 1 ≤ E) (hE : E ≤ 254) (hT : T < 2 ^ 23) (hA : zRuns 84 78 [(1, vf (zfb 127 T)), (2, vi (E : Int)), (0, vf x)] [] σ (some (vi res)) σ) : zRuns 84 26 [(3, vi 0), (2, vi 127), (1, vf (zfb E T)), (0, vf x)] [] σ (some (vi res)) σ := by
  by_cases h9 : 127 ≤ E
  · refine z_sub [(3, vi 0), (1, vf (zfb E T)), (2, vi 127), (0, vf x)] [0, 2, 1, 3] rfl ?_
    exact m_fb_C hE0 hE hT hA (E - 127) E _ 0 (by omega) (by omega) (by omega) (by omega) (by omega)
  · have hc := (zfc_cmp (zfb_ne (E := E) (T := T) (by omega) (by omega) hT) zfn2 .l).1
    rw [zfb_k (by omega) hT, zfk2] at hc
    refine z_n 2 (29, [(3, vi 0), (2, vi 127), (1, vf (zfb E T)), (0, vf x)], [vi 127, vi 0], σ) rfl trivial ?_
    refine z_br (127 ≤ (0 : Int)) 51 32 [] rfl (fun h => absurd h (show ¬ (127 ≤ (0 : Int)) from by decide)) (fun hx1 => ?_)
    refine z_n 3 (35, [(3, vi 0), (2, vi 127), (1, vf (zfb E T)), (0, vf x)], [vi ((Op.cmpValue (FP.fcmp (zfb E T) FP.fconst2) .l).toInt)], σ) rfl trivial ?_
    refine z_br (((Op.cmpValue (FP.fcmp (zfb E T) FP.fconst2) .l).toInt) < 0) 51 38 [] rfl (fun hx2 => ?_) (fun h => absurd (show ((Op.cmpValue (FP.fcmp (zfb E T) FP.fconst2) .l).toInt) < 0 from by omega) h)
    refine z_n 2 (53, [(3, vi 0), (2, vi 127), (1, vf (zfb E T)), (0, vf x)], [], σ) rfl trivial ?_
    refine z_sub [(3, vi 0), (1, vf (zfb E T)), (2, vi 127), (0, vf x)] [0, 2, 1, 3] rfl ?_
    exact m_fb_B hE0 hE hT hA (127 - E) E _ 0 (by omega) (by omega) (by omega) (by omega) (by omega)
set_option maxRecDepth 20000 in
theorem m_fb_pos {σ : zS} {E T : Nat} (hE0 : 1 ≤ E) (hE : E ≤ 254) (hT : T < 2 ^ 23) : zMet 84 [vf (zfb E T)] σ (some (vi (zfb E T).toInt32.toInt)) σ := by
  have hc0 := zfc_cmp (zfb_ne hE0 hE hT) zfn0 .l
  have hc1 := zfc_cmp (zfb_ne hE0 hE hT) zfn0 .g
  rw [zfb_k hE hT, zfk0] at hc0 hc1
  refine z_n 3 (3, [(0, vf (zfb E T))], [vi ((Op.cmpValue (FP.fcmp (zfb E T) FP.fconst0) .l).toInt)], σ) rfl trivial ?_
  refine z_br (¬ ((Op.cmpValue (FP.fcmp (zfb E T) FP.fconst0) .l).toInt) = 0) 8 6 [] rfl (fun hx1 => ?_) (fun h => absurd (show ¬ ((Op.cmpValue (FP.fcmp (zfb E T) FP.fconst0) .l).toInt) = 0 from by omega) h)
  refine z_n 3 (11, [(0, vf (zfb E T))], [vi ((Op.cmpValue (FP.fcmp (zfb E T) FP.fconst0) .g).toInt)], σ) rfl trivial ?_
  refine z_br (0 ≤ ((Op.cmpValue (FP.fcmp (zfb E T) FP.fconst0) .g).toInt)) 19 14 [] rfl (fun hx2 => ?_) (fun h => absurd (show 0 ≤ ((Op.cmpValue (FP.fcmp (zfb E T) FP.fconst0) .g).toInt) from by omega) h)
  refine z_n 6 (26, [(3, vi 0), (2, vi 127), (1, vf (zfb E T)), (0, vf (zfb E T))], [], σ) rfl trivial ?_
  refine z_sub [(3, vi 0), (2, vi 127), (1, vf (zfb E T)), (0, vf (zfb E T))] [0, 1, 2, 3] rfl ?_
  exact m_fb_26 hE0 hE hT (m_fb_Ap hE0 hE hT (by omega))
set_option maxRecDepth 20000 in
theorem m_fb_neg {σ : zS} {E T : Nat} (hE0 : 1 ≤ E) (hE : E ≤ 254) (hT : T < 2 ^ 23) : zMet 84 [vf (zfbn E T)] σ (some (vi (zfbn E T).toInt32.toInt)) σ := by
  have hc0 := zfc_cmp (zfbn_ne hE hT) zfn0 .l
  have hc1 := zfc_cmp (zfbn_ne hE hT) zfn0 .g
  rw [zfbn_k hE hT, zfk0] at hc0 hc1
  refine z_n 3 (3, [(0, vf (zfbn E T))], [vi ((Op.cmpValue (FP.fcmp (zfbn E T) FP.fconst0) .l).toInt)], σ) rfl trivial ?_
  refine z_br (¬ ((Op.cmpValue (FP.fcmp (zfbn E T) FP.fconst0) .l).toInt) = 0) 8 6 [] rfl (fun hx1 => ?_) (fun h => absurd (show ¬ ((Op.cmpValue (FP.fcmp (zfbn E T) FP.fconst0) .l).toInt) = 0 from by omega) h)
  refine z_n 3 (11, [(0, vf (zfbn E T))], [vi ((Op.cmpValue (FP.fcmp (zfbn E T) FP.fconst0) .g).toInt)], σ) rfl trivial ?_
  refine z_br (0 ≤ ((Op.cmpValue (FP.fcmp (zfbn E T) FP.fconst0) .g).toInt)) 19 14 [] rfl (fun h => absurd h (show ¬ (0 ≤ ((Op.cmpValue (FP.fcmp (zfbn E T) FP.fconst0) .g).toInt)) from by omega)) (fun hx2 => ?_)
  refine z_n 8 (26, [(3, vi 0), (2, vi 127), (1, vf (FP.fneg (zfbn E T))), (0, vf (zfbn E T))], [], σ) rfl trivial ?_
  refine z_sub [(3, vi 0), (2, vi 127), (1, vf (FP.fneg (zfbn E T))), (0, vf (zfbn E T))] [0, 1, 2, 3] rfl ?_
  refine z_lk (L1 := [(3, vi 0), (2, vi 127), (1, vf (zfb E T)), (0, vf (zfbn E T))]) (by rw [zfbn_neg]) ?_
  exact m_fb_26 hE0 hE hT (m_fb_An hE0 hE hT (by omega))
set_option maxRecDepth 20000 in
theorem m_fb_0 {σ : zS} : zMet 84 [vf FP.fconst0] σ (some (vi 0)) σ := by
  have hc0 := zfc_cmp zfn0 zfn0 .l
  have hc1 := zfc_cmp zfn0 zfn0 .g
  rw [zfk0] at hc0 hc1
  refine z_n 3 (3, [(0, vf FP.fconst0)], [vi ((Op.cmpValue (FP.fcmp FP.fconst0 FP.fconst0) .l).toInt)], σ) rfl trivial ?_
  refine z_br (¬ ((Op.cmpValue (FP.fcmp FP.fconst0 FP.fconst0) .l).toInt) = 0) 8 6 [] rfl (fun h => absurd h (show ¬ (¬ ((Op.cmpValue (FP.fcmp FP.fconst0 FP.fconst0) .l).toInt) = 0) from by omega)) (fun hx1 => ?_)
  refine z_n 1 (7, [(0, vf FP.fconst0)], [vi 0], σ) rfl trivial ?_
  exact z_ret rfl rfl rfl
set_option maxRecDepth 20000 in
theorem m_isNaN {σ : zS} {x : UInt32} (hx : FP.Core.val32 x ≠ .nan) : zMet 139 [vf x] σ (some (vi 0)) σ := by
  have hc := zfc_cmp hx hx .l
  refine z_n 3 (3, [(0, vf x)], [vi ((Op.cmpValue (FP.fcmp x x) .l).toInt)], σ) rfl trivial ?_
  refine z_br (((Op.cmpValue (FP.fcmp x x) .l).toInt) = 0) 10 6 [] rfl (fun hx1 => ?_) (fun h => absurd (show ((Op.cmpValue (FP.fcmp x x) .l).toInt) = 0 from hc.2.mpr rfl) h)
  refine z_n 1 (11, [(0, vf x)], [vi 0], σ) rfl trivial ?_
  exact z_ret rfl rfl rfl
set_option maxRecDepth 20000 in
theorem m_f2b {σ : zS} {x : UInt32} (hx : FP.Core.val32 x ≠ .nan) : zMet 140 [vf x] σ (some (vi x.toInt32.toInt)) σ := by
  refine z_n 1 (1, [(0, vf x)], [vf x], σ) rfl trivial ?_
  refine z_ci 139 [vf x] [] rfl (m_isNaN hx) ?_
  refine z_br (¬ (0 : Int) = 0) 12 7 [] rfl (fun h => absurd h (show ¬ (¬ (0 : Int) = 0) from by decide)) (fun hx1 => ?_)
  refine z_n 2 (11, [(0, vf x)], [vi ((x).toInt32.toInt)], σ) rfl trivial ?_
  exact z_ret rfl rfl rfl
