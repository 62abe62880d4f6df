set_option maxRecDepth 20000 in
theorem m_ct_3 {I : zI} {P : zP} {D : zD} (f4 : ∀ j, I 4 j = 0 ∧ P 4 j = 0 ∧ D 4 j = 0) : zMet 0 [vr 3, vi 24] (I, P, D, 4) none (I, (zupP P 3 0 4), D, 5) := by
  refine z_n 4 (6, [(0, vr 3), (1, vi 24)], [vi 24, vr 3], (I, P, D, 4)) rfl trivial ?_
  refine z_br (0 ≤ (24 : Int)) 13 9 [vr 3] rfl (fun hx1 => ?_) (fun h => absurd (show 0 ≤ (24 : Int) from by decide) h)
  refine z_n 3 (19, [(0, vr 3), (1, vi 24)], [], (I, (zupP P 3 0 4), D, 5)) (G := ((24 : Int) = (24 : Nat) ∧ zfresh (I, P, D, 4)) ∧ True) rfl ⟨⟨rfl, f4⟩, trivial⟩ ?_
  exact z_ret rfl rfl rfl
set_option maxRecDepth 20000 in
theorem m_ct_5 {I : zI} {P : zP} {D : zD} (f6 : ∀ j, I 6 j = 0 ∧ P 6 j = 0 ∧ D 6 j = 0) : zMet 0 [vr 5, vi 24] (I, P, D, 6) none (I, (zupP P 5 0 6), D, 7) := by
  refine z_n 4 (6, [(0, vr 5), (1, vi 24)], [vi 24, vr 5], (I, P, D, 6)) rfl trivial ?_
  refine z_br (0 ≤ (24 : Int)) 13 9 [vr 5] rfl (fun hx1 => ?_) (fun h => absurd (show 0 ≤ (24 : Int) from by decide) h)
  refine z_n 3 (19, [(0, vr 5), (1, vi 24)], [], (I, (zupP P 5 0 6), D, 7)) (G := ((24 : Int) = (24 : Nat) ∧ zfresh (I, P, D, 6)) ∧ True) rfl ⟨⟨rfl, f6⟩, trivial⟩ ?_
  exact z_ret rfl rfl rfl
set_option maxRecDepth 20000 in
theorem m_ct_7 {I : zI} {P : zP} {D : zD} (f8 : ∀ j, I 8 j = 0 ∧ P 8 j = 0 ∧ D 8 j = 0) : zMet 0 [vr 7, vi 24] (I, P, D, 8) none (I, (zupP P 7 0 8), D, 9) := by
  refine z_n 4 (6, [(0, vr 7), (1, vi 24)], [vi 24, vr 7], (I, P, D, 8)) rfl trivial ?_
  refine z_br (0 ≤ (24 : Int)) 13 9 [vr 7] rfl (fun hx1 => ?_) (fun h => absurd (show 0 ≤ (24 : Int) from by decide) h)
  refine z_n 3 (19, [(0, vr 7), (1, vi 24)], [], (I, (zupP P 7 0 8), D, 9)) (G := ((24 : Int) = (24 : Nat) ∧ zfresh (I, P, D, 8)) ∧ True) rfl ⟨⟨rfl, f8⟩, trivial⟩ ?_
  exact z_ret rfl rfl rfl
set_option maxRecDepth 20000 in
theorem m_ct_10 {I : zI} {P : zP} {D : zD} (f11 : ∀ j, I 11 j = 0 ∧ P 11 j = 0 ∧ D 11 j = 0) : zMet 0 [vr 10, vi 4] (I, P, D, 11) none (I, (zupP P 10 0 11), D, 12) := by
  refine z_n 4 (6, [(0, vr 10), (1, vi 4)], [vi 4, vr 10], (I, P, D, 11)) rfl trivial ?_
  refine z_br (0 ≤ (4 : Int)) 13 9 [vr 10] rfl (fun hx1 => ?_) (fun h => absurd (show 0 ≤ (4 : Int) from by decide) h)
  refine z_n 3 (19, [(0, vr 10), (1, vi 4)], [], (I, (zupP P 10 0 11), D, 12)) (G := ((4 : Int) = (4 : Nat) ∧ zfresh (I, P, D, 11)) ∧ True) rfl ⟨⟨rfl, f11⟩, trivial⟩ ?_
  exact z_ret rfl rfl rfl
set_option maxRecDepth 20000 in
theorem m_ct_12 {I : zI} {P : zP} {D : zD} (f13 : ∀ j, I 13 j = 0 ∧ P 13 j = 0 ∧ D 13 j = 0) : zMet 0 [vr 12, vi 4] (I, P, D, 13) none (I, (zupP P 12 0 13), D, 14) := by
  refine z_n 4 (6, [(0, vr 12), (1, vi 4)], [vi 4, vr 12], (I, P, D, 13)) rfl trivial ?_
  refine z_br (0 ≤ (4 : Int)) 13 9 [vr 12] rfl (fun hx1 => ?_) (fun h => absurd (show 0 ≤ (4 : Int) from by decide) h)
  refine z_n 3 (19, [(0, vr 12), (1, vi 4)], [], (I, (zupP P 12 0 13), D, 14)) (G := ((4 : Int) = (4 : Nat) ∧ zfresh (I, P, D, 13)) ∧ True) rfl ⟨⟨rfl, f13⟩, trivial⟩ ?_
  exact z_ret rfl rfl rfl
set_option maxRecDepth 20000 in
theorem m_ct_9 {I : zI} {P : zP} {D : zD} (f10 : ∀ j, I 10 j = 0 ∧ P 10 j = 0 ∧ D 10 j = 0) (f11 : ∀ j, I 11 j = 0 ∧ P 11 j = 0 ∧ D 11 j = 0) (f12 : ∀ j, I 12 j = 0 ∧ P 12 j = 0 ∧ D 12 j = 0) (f13 : ∀ j, I 13 j = 0 ∧ P 13 j = 0 ∧ D 13 j = 0) : zMet 50 [vr 9] (I, P, D, 10) none (I, (zupP (zupP (zupP (zupP P 10 0 11) 9 0 10) 12 0 13) 9 1 12), D, 14) := by
  refine z_n 6 (10, [(0, vr 9)], [vi 4, vr 10, vr 10, vr 9], (I, P, D, 11)) (G := (zfresh (I, P, D, 10)) ∧ True) rfl ⟨f10, trivial⟩ ?_
  refine z_cv 0 [vr 10, vi 4] [vr 10, vr 9] rfl (m_ct_10 f11) ?_
  refine z_n 5 (22, [(0, vr 9)], [vi 4, vr 12, vr 12, vr 9], (I, (zupP (zupP P 10 0 11) 9 0 10), D, 13)) (G := (zfresh (I, (zupP (zupP P 10 0 11) 9 0 10), D, 12)) ∧ True) rfl ⟨f12, trivial⟩ ?_
  refine z_cv 0 [vr 12, vi 4] [vr 12, vr 9] rfl (m_ct_12 f13) ?_
  refine z_n 1 (28, [(0, vr 9)], [], (I, (zupP (zupP (zupP (zupP P 10 0 11) 9 0 10) 12 0 13) 9 1 12), D, 14)) rfl trivial ?_
  exact z_ret rfl rfl rfl
set_option maxRecDepth 20000 in
theorem m_ct_15 {I : zI} {P : zP} {D : zD} (f16 : ∀ j, I 16 j = 0 ∧ P 16 j = 0 ∧ D 16 j = 0) : zMet 0 [vr 15, vi 96] (I, P, D, 16) none (I, (zupP P 15 0 16), D, 17) := by
  refine z_n 4 (6, [(0, vr 15), (1, vi 96)], [vi 96, vr 15], (I, P, D, 16)) rfl trivial ?_
  refine z_br (0 ≤ (96 : Int)) 13 9 [vr 15] rfl (fun hx1 => ?_) (fun h => absurd (show 0 ≤ (96 : Int) from by decide) h)
  refine z_n 3 (19, [(0, vr 15), (1, vi 96)], [], (I, (zupP P 15 0 16), D, 17)) (G := ((96 : Int) = (96 : Nat) ∧ zfresh (I, P, D, 16)) ∧ True) rfl ⟨⟨rfl, f16⟩, trivial⟩ ?_
  exact z_ret rfl rfl rfl
set_option maxRecDepth 20000 in
theorem m_ct_17 {I : zI} {P : zP} {D : zD} (f18 : ∀ j, I 18 j = 0 ∧ P 18 j = 0 ∧ D 18 j = 0) : zMet 0 [vr 17, vi 96] (I, P, D, 18) none (I, (zupP P 17 0 18), D, 19) := by
  refine z_n 4 (6, [(0, vr 17), (1, vi 96)], [vi 96, vr 17], (I, P, D, 18)) rfl trivial ?_
  refine z_br (0 ≤ (96 : Int)) 13 9 [vr 17] rfl (fun hx1 => ?_) (fun h => absurd (show 0 ≤ (96 : Int) from by decide) h)
  refine z_n 3 (19, [(0, vr 17), (1, vi 96)], [], (I, (zupP P 17 0 18), D, 19)) (G := ((96 : Int) = (96 : Nat) ∧ zfresh (I, P, D, 18)) ∧ True) rfl ⟨⟨rfl, f18⟩, trivial⟩ ?_
  exact z_ret rfl rfl rfl
set_option maxRecDepth 20000 in
theorem m_ct_19 {I : zI} {P : zP} {D : zD} (f20 : ∀ j, I 20 j = 0 ∧ P 20 j = 0 ∧ D 20 j = 0) : zMet 0 [vr 19, vi 96] (I, P, D, 20) none (I, (zupP P 19 0 20), D, 21) := by
  refine z_n 4 (6, [(0, vr 19), (1, vi 96)], [vi 96, vr 19], (I, P, D, 20)) rfl trivial ?_
  refine z_br (0 ≤ (96 : Int)) 13 9 [vr 19] rfl (fun hx1 => ?_) (fun h => absurd (show 0 ≤ (96 : Int) from by decide) h)
  refine z_n 3 (19, [(0, vr 19), (1, vi 96)], [], (I, (zupP P 19 0 20), D, 21)) (G := ((96 : Int) = (96 : Nat) ∧ zfresh (I, P, D, 20)) ∧ True) rfl ⟨⟨rfl, f20⟩, trivial⟩ ?_
  exact z_ret rfl rfl rfl
set_option maxRecDepth 20000 in
theorem m_ct_21 {I : zI} {P : zP} {D : zD} (f22 : ∀ j, I 22 j = 0 ∧ P 22 j = 0 ∧ D 22 j = 0) : zMet 0 [vr 21, vi 96] (I, P, D, 22) none (I, (zupP P 21 0 22), D, 23) := by
  refine z_n 4 (6, [(0, vr 21), (1, vi 96)], [vi 96, vr 21], (I, P, D, 22)) rfl trivial ?_
  refine z_br (0 ≤ (96 : Int)) 13 9 [vr 21] rfl (fun hx1 => ?_) (fun h => absurd (show 0 ≤ (96 : Int) from by decide) h)
  refine z_n 3 (19, [(0, vr 21), (1, vi 96)], [], (I, (zupP P 21 0 22), D, 23)) (G := ((96 : Int) = (96 : Nat) ∧ zfresh (I, P, D, 22)) ∧ True) rfl ⟨⟨rfl, f22⟩, trivial⟩ ?_
  exact z_ret rfl rfl rfl
set_option maxRecDepth 20000 in
theorem m_ct_14 {I : zI} {P : zP} {D : zD} (f15 : ∀ j, I 15 j = 0 ∧ P 15 j = 0 ∧ D 15 j = 0) (f16 : ∀ j, I 16 j = 0 ∧ P 16 j = 0 ∧ D 16 j = 0) (f17 : ∀ j, I 17 j = 0 ∧ P 17 j = 0 ∧ D 17 j = 0) (f18 : ∀ j, I 18 j = 0 ∧ P 18 j = 0 ∧ D 18 j = 0) (f19 : ∀ j, I 19 j = 0 ∧ P 19 j = 0 ∧ D 19 j = 0) (f20 : ∀ j, I 20 j = 0 ∧ P 20 j = 0 ∧ D 20 j = 0) (f21 : ∀ j, I 21 j = 0 ∧ P 21 j = 0 ∧ D 21 j = 0) (f22 : ∀ j, I 22 j = 0 ∧ P 22 j = 0 ∧ D 22 j = 0) : zMet 42 [vr 14] (I, P, D, 15) none (I, (zupP (zupP (zupP (zupP (zupP (zupP (zupP (zupP P 15 0 16) 14 0 15) 17 0 18) 14 1 17) 19 0 20) 14 2 19) 21 0 22) 14 3 21), D, 23) := by
  refine z_n 6 (11, [(0, vr 14)], [vi 96, vr 15, vr 15, vr 14], (I, P, D, 16)) (G := (zfresh (I, P, D, 15)) ∧ True) rfl ⟨f15, trivial⟩ ?_
  refine z_cv 0 [vr 15, vi 96] [vr 15, vr 14] rfl (m_ct_15 f16) ?_
  refine z_n 5 (24, [(0, vr 14)], [vi 96, vr 17, vr 17, vr 14], (I, (zupP (zupP P 15 0 16) 14 0 15), D, 18)) (G := (zfresh (I, (zupP (zupP P 15 0 16) 14 0 15), D, 17)) ∧ True) rfl ⟨f17, trivial⟩ ?_
  refine z_cv 0 [vr 17, vi 96] [vr 17, vr 14] rfl (m_ct_17 f18) ?_
  refine z_n 5 (37, [(0, vr 14)], [vi 96, vr 19, vr 19, vr 14], (I, (zupP (zupP (zupP (zupP P 15 0 16) 14 0 15) 17 0 18) 14 1 17), D, 20)) (G := (zfresh (I, (zupP (zupP (zupP (zupP P 15 0 16) 14 0 15) 17 0 18) 14 1 17), D, 19)) ∧ True) rfl ⟨f19, trivial⟩ ?_
  refine z_cv 0 [vr 19, vi 96] [vr 19, vr 14] rfl (m_ct_19 f20) ?_
  refine z_n 5 (50, [(0, vr 14)], [vi 96, vr 21, vr 21, vr 14], (I, (zupP (zupP (zupP (zupP (zupP (zupP P 15 0 16) 14 0 15) 17 0 18) 14 1 17) 19 0 20) 14 2 19), D, 22)) (G := (zfresh (I, (zupP (zupP (zupP (zupP (zupP (zupP P 15 0 16) 14 0 15) 17 0 18) 14 1 17) 19 0 20) 14 2 19), D, 21)) ∧ True) rfl ⟨f21, trivial⟩ ?_
  refine z_cv 0 [vr 21, vi 96] [vr 21, vr 14] rfl (m_ct_21 f22) ?_
  refine z_n 1 (56, [(0, vr 14)], [], (I, (zupP (zupP (zupP (zupP (zupP (zupP (zupP (zupP P 15 0 16) 14 0 15) 17 0 18) 14 1 17) 19 0 20) 14 2 19) 21 0 22) 14 3 21), D, 23)) rfl trivial ?_
  exact z_ret rfl rfl rfl
set_option maxRecDepth 20000 in
theorem m_ct_23 {I : zI} {P : zP} {D : zD} (f24 : ∀ j, I 24 j = 0 ∧ P 24 j = 0 ∧ D 24 j = 0) : zMet 0 [vr 23, vi 168] (I, P, D, 24) none (I, (zupP P 23 0 24), D, 25) := by
  refine z_n 4 (6, [(0, vr 23), (1, vi 168)], [vi 168, vr 23], (I, P, D, 24)) rfl trivial ?_
  refine z_br (0 ≤ (168 : Int)) 13 9 [vr 23] rfl (fun hx1 => ?_) (fun h => absurd (show 0 ≤ (168 : Int) from by decide) h)
  refine z_n 3 (19, [(0, vr 23), (1, vi 168)], [], (I, (zupP P 23 0 24), D, 25)) (G := ((168 : Int) = (168 : Nat) ∧ zfresh (I, P, D, 24)) ∧ True) rfl ⟨⟨rfl, f24⟩, trivial⟩ ?_
  exact z_ret rfl rfl rfl
set_option maxRecDepth 20000 in
theorem m_ct_2 {I : zI} {P : zP} {D : zD} (f3 : ∀ j, I 3 j = 0 ∧ P 3 j = 0 ∧ D 3 j = 0) (f4 : ∀ j, I 4 j = 0 ∧ P 4 j = 0 ∧ D 4 j = 0) (f5 : ∀ j, I 5 j = 0 ∧ P 5 j = 0 ∧ D 5 j = 0) (f6 : ∀ j, I 6 j = 0 ∧ P 6 j = 0 ∧ D 6 j = 0) (f7 : ∀ j, I 7 j = 0 ∧ P 7 j = 0 ∧ D 7 j = 0) (f8 : ∀ j, I 8 j = 0 ∧ P 8 j = 0 ∧ D 8 j = 0) (f9 : ∀ j, I 9 j = 0 ∧ P 9 j = 0 ∧ D 9 j = 0) (f10 : ∀ j, I 10 j = 0 ∧ P 10 j = 0 ∧ D 10 j = 0) (f11 : ∀ j, I 11 j = 0 ∧ P 11 j = 0 ∧ D 11 j = 0) (f12 : ∀ j, I 12 j = 0 ∧ P 12 j = 0 ∧ D 12 j = 0) (f13 : ∀ j, I 13 j = 0 ∧ P 13 j = 0 ∧ D 13 j = 0) (f14 : ∀ j, I 14 j = 0 ∧ P 14 j = 0 ∧ D 14 j = 0) (f15 : ∀ j, I 15 j = 0 ∧ P 15 j = 0 ∧ D 15 j = 0) (f16 : ∀ j, I 16 j = 0 ∧ P 16 j = 0 ∧ D 16 j = 0) (f17 : ∀ j, I 17 j = 0 ∧ P 17 j = 0 ∧ D 17 j = 0) (f18 : ∀ j, I 18 j = 0 ∧ P 18 j = 0 ∧ D 18 j = 0) (f19 : ∀ j, I 19 j = 0 ∧ P 19 j = 0 ∧ D 19 j = 0) (f20 : ∀ j, I 20 j = 0 ∧ P 20 j = 0 ∧ D 20 j = 0) (f21 : ∀ j, I 21 j = 0 ∧ P 21 j = 0 ∧ D 21 j = 0) (f22 : ∀ j, I 22 j = 0 ∧ P 22 j = 0 ∧ D 22 j = 0) (f23 : ∀ j, I 23 j = 0 ∧ P 23 j = 0 ∧ D 23 j = 0) (f24 : ∀ j, I 24 j = 0 ∧ P 24 j = 0 ∧ D 24 j = 0) : zMet 4 [vr 2] (I, P, D, 3) none ((zup (zup (zup I 2 9 (-1)) 2 10 1500) 2 11 300), (zupP (zupP (zupP (zupP (zupP (zupP (zupP (zupP (zupP (zupP (zupP (zupP (zupP (zupP (zupP (zupP (zupP (zupP (zupP (zupP (zupP (zupP P 3 0 4) 2 0 3) 5 0 6) 2 1 5) 7 0 8) 2 2 7) 10 0 11) 9 0 10) 12 0 13) 9 1 12) 2 3 9) 15 0 16) 14 0 15) 17 0 18) 14 1 17) 19 0 20) 14 2 19) 21 0 22) 14 3 21) 2 4 14) 23 0 24) 2 12 23), D, 25) := by
  refine z_n 6 (11, [(0, vr 2)], [vi 24, vr 3, vr 3, vr 2], (I, P, D, 4)) (G := (zfresh (I, P, D, 3)) ∧ True) rfl ⟨f3, trivial⟩ ?_
  refine z_cv 0 [vr 3, vi 24] [vr 3, vr 2] rfl (m_ct_3 f4) ?_
  refine z_n 5 (24, [(0, vr 2)], [vi 24, vr 5, vr 5, vr 2], (I, (zupP (zupP P 3 0 4) 2 0 3), D, 6)) (G := (zfresh (I, (zupP (zupP P 3 0 4) 2 0 3), D, 5)) ∧ True) rfl ⟨f5, trivial⟩ ?_
  refine z_cv 0 [vr 5, vi 24] [vr 5, vr 2] rfl (m_ct_5 f6) ?_
  refine z_n 5 (37, [(0, vr 2)], [vi 24, vr 7, vr 7, vr 2], (I, (zupP (zupP (zupP (zupP P 3 0 4) 2 0 3) 5 0 6) 2 1 5), D, 8)) (G := (zfresh (I, (zupP (zupP (zupP (zupP P 3 0 4) 2 0 3) 5 0 6) 2 1 5), D, 7)) ∧ True) rfl ⟨f7, trivial⟩ ?_
  refine z_cv 0 [vr 7, vi 24] [vr 7, vr 2] rfl (m_ct_7 f8) ?_
  refine z_n 4 (48, [(0, vr 2)], [vr 9, vr 9, vr 2], (I, (zupP (zupP (zupP (zupP (zupP (zupP P 3 0 4) 2 0 3) 5 0 6) 2 1 5) 7 0 8) 2 2 7), D, 10)) (G := (zfresh (I, (zupP (zupP (zupP (zupP (zupP (zupP P 3 0 4) 2 0 3) 5 0 6) 2 1 5) 7 0 8) 2 2 7), D, 9)) ∧ True) rfl ⟨f9, trivial⟩ ?_
  refine z_cv 50 [vr 9] [vr 9, vr 2] rfl (m_ct_9 f10 f11 f12 f13) ?_
  refine z_n 4 (59, [(0, vr 2)], [vr 14, vr 14, vr 2], (I, (zupP (zupP (zupP (zupP (zupP (zupP (zupP (zupP (zupP (zupP (zupP P 3 0 4) 2 0 3) 5 0 6) 2 1 5) 7 0 8) 2 2 7) 10 0 11) 9 0 10) 12 0 13) 9 1 12) 2 3 9), D, 15)) (G := (zfresh (I, (zupP (zupP (zupP (zupP (zupP (zupP (zupP (zupP (zupP (zupP (zupP P 3 0 4) 2 0 3) 5 0 6) 2 1 5) 7 0 8) 2 2 7) 10 0 11) 9 0 10) 12 0 13) 9 1 12) 2 3 9), D, 14)) ∧ True) rfl ⟨f14, trivial⟩ ?_
  refine z_cv 42 [vr 14] [vr 14, vr 2] rfl (m_ct_14 f15 f16 f17 f18 f19 f20 f21 f22) ?_
  refine z_n 14 (92, [(0, vr 2)], [vi 168, vr 23, vr 23, vr 2], ((zup (zup (zup I 2 9 (-1)) 2 10 1500) 2 11 300), (zupP (zupP (zupP (zupP (zupP (zupP (zupP (zupP (zupP (zupP (zupP (zupP (zupP (zupP (zupP (zupP (zupP (zupP (zupP (zupP P 3 0 4) 2 0 3) 5 0 6) 2 1 5) 7 0 8) 2 2 7) 10 0 11) 9 0 10) 12 0 13) 9 1 12) 2 3 9) 15 0 16) 14 0 15) 17 0 18) 14 1 17) 19 0 20) 14 2 19) 21 0 22) 14 3 21) 2 4 14), D, 24)) (G := (zfresh ((zup (zup (zup I 2 9 (-1)) 2 10 1500) 2 11 300), (zupP (zupP (zupP (zupP (zupP (zupP (zupP (zupP (zupP (zupP (zupP (zupP (zupP (zupP (zupP (zupP (zupP (zupP (zupP (zupP P 3 0 4) 2 0 3) 5 0 6) 2 1 5) 7 0 8) 2 2 7) 10 0 11) 9 0 10) 12 0 13) 9 1 12) 2 3 9) 15 0 16) 14 0 15) 17 0 18) 14 1 17) 19 0 20) 14 2 19) 21 0 22) 14 3 21) 2 4 14), D, 23)) ∧ True) rfl ⟨f23, trivial⟩ ?_
  refine z_cv 0 [vr 23, vi 168] [vr 23, vr 2] rfl (m_ct_23 f24) ?_
  refine z_n 1 (98, [(0, vr 2)], [], ((zup (zup (zup I 2 9 (-1)) 2 10 1500) 2 11 300), (zupP (zupP (zupP (zupP (zupP (zupP (zupP (zupP (zupP (zupP (zupP (zupP (zupP (zupP (zupP (zupP (zupP (zupP (zupP (zupP (zupP (zupP P 3 0 4) 2 0 3) 5 0 6) 2 1 5) 7 0 8) 2 2 7) 10 0 11) 9 0 10) 12 0 13) 9 1 12) 2 3 9) 15 0 16) 14 0 15) 17 0 18) 14 1 17) 19 0 20) 14 2 19) 21 0 22) 14 3 21) 2 4 14) 23 0 24) 2 12 23), D, 25)) rfl trivial ?_
  exact z_ret rfl rfl rfl
set_option maxRecDepth 20000 in
theorem m_ct_28 {I : zI} {P : zP} {D : zD} (f29 : ∀ j, I 29 j = 0 ∧ P 29 j = 0 ∧ D 29 j = 0) : zMet 0 [vr 28, vi 24] (I, P, D, 29) none (I, (zupP P 28 0 29), D, 30) := by
  refine z_n 4 (6, [(0, vr 28), (1, vi 24)], [vi 24, vr 28], (I, P, D, 29)) rfl trivial ?_
  refine z_br (0 ≤ (24 : Int)) 13 9 [vr 28] rfl (fun hx1 => ?_) (fun h => absurd (show 0 ≤ (24 : Int) from by decide) h)
  refine z_n 3 (19, [(0, vr 28), (1, vi 24)], [], (I, (zupP P 28 0 29), D, 30)) (G := ((24 : Int) = (24 : Nat) ∧ zfresh (I, P, D, 29)) ∧ True) rfl ⟨⟨rfl, f29⟩, trivial⟩ ?_
  exact z_ret rfl rfl rfl
set_option maxRecDepth 20000 in
theorem m_ct_30 {I : zI} {P : zP} {D : zD} (f31 : ∀ j, I 31 j = 0 ∧ P 31 j = 0 ∧ D 31 j = 0) : zMet 0 [vr 30, vi 24] (I, P, D, 31) none (I, (zupP P 30 0 31), D, 32) := by
  refine z_n 4 (6, [(0, vr 30), (1, vi 24)], [vi 24, vr 30], (I, P, D, 31)) rfl trivial ?_
  refine z_br (0 ≤ (24 : Int)) 13 9 [vr 30] rfl (fun hx1 => ?_) (fun h => absurd (show 0 ≤ (24 : Int) from by decide) h)
  refine z_n 3 (19, [(0, vr 30), (1, vi 24)], [], (I, (zupP P 30 0 31), D, 32)) (G := ((24 : Int) = (24 : Nat) ∧ zfresh (I, P, D, 31)) ∧ True) rfl ⟨⟨rfl, f31⟩, trivial⟩ ?_
  exact z_ret rfl rfl rfl
set_option maxRecDepth 20000 in
theorem m_ct_32 {I : zI} {P : zP} {D : zD} (f33 : ∀ j, I 33 j = 0 ∧ P 33 j = 0 ∧ D 33 j = 0) : zMet 0 [vr 32, vi 24] (I, P, D, 33) none (I, (zupP P 32 0 33), D, 34) := by
  refine z_n 4 (6, [(0, vr 32), (1, vi 24)], [vi 24, vr 32], (I, P, D, 33)) rfl trivial ?_
  refine z_br (0 ≤ (24 : Int)) 13 9 [vr 32] rfl (fun hx1 => ?_) (fun h => absurd (show 0 ≤ (24 : Int) from by decide) h)
  refine z_n 3 (19, [(0, vr 32), (1, vi 24)], [], (I, (zupP P 32 0 33), D, 34)) (G := ((24 : Int) = (24 : Nat) ∧ zfresh (I, P, D, 33)) ∧ True) rfl ⟨⟨rfl, f33⟩, trivial⟩ ?_
  exact z_ret rfl rfl rfl
set_option maxRecDepth 20000 in
theorem m_ct_35 {I : zI} {P : zP} {D : zD} (f36 : ∀ j, I 36 j = 0 ∧ P 36 j = 0 ∧ D 36 j = 0) : zMet 0 [vr 35, vi 4] (I, P, D, 36) none (I, (zupP P 35 0 36), D, 37) := by
  refine z_n 4 (6, [(0, vr 35), (1, vi 4)], [vi 4, vr 35], (I, P, D, 36)) rfl trivial ?_
  refine z_br (0 ≤ (4 : Int)) 13 9 [vr 35] rfl (fun hx1 => ?_) (fun h => absurd (show 0 ≤ (4 : Int) from by decide) h)
  refine z_n 3 (19, [(0, vr 35), (1, vi 4)], [], (I, (zupP P 35 0 36), D, 37)) (G := ((4 : Int) = (4 : Nat) ∧ zfresh (I, P, D, 36)) ∧ True) rfl ⟨⟨rfl, f36⟩, trivial⟩ ?_
  exact z_ret rfl rfl rfl
set_option maxRecDepth 20000 in
theorem m_ct_37 {I : zI} {P : zP} {D : zD} (f38 : ∀ j, I 38 j = 0 ∧ P 38 j = 0 ∧ D 38 j = 0) : zMet 0 [vr 37, vi 4] (I, P, D, 38) none (I, (zupP P 37 0 38), D, 39) := by
  refine z_n 4 (6, [(0, vr 37), (1, vi 4)], [vi 4, vr 37], (I, P, D, 38)) rfl trivial ?_
  refine z_br (0 ≤ (4 : Int)) 13 9 [vr 37] rfl (fun hx1 => ?_) (fun h => absurd (show 0 ≤ (4 : Int) from by decide) h)
  refine z_n 3 (19, [(0, vr 37), (1, vi 4)], [], (I, (zupP P 37 0 38), D, 39)) (G := ((4 : Int) = (4 : Nat) ∧ zfresh (I, P, D, 38)) ∧ True) rfl ⟨⟨rfl, f38⟩, trivial⟩ ?_
  exact z_ret rfl rfl rfl
set_option maxRecDepth 20000 in
theorem m_ct_34 {I : zI} {P : zP} {D : zD} (f35 : ∀ j, I 35 j = 0 ∧ P 35 j = 0 ∧ D 35 j = 0) (f36 : ∀ j, I 36 j = 0 ∧ P 36 j = 0 ∧ D 36 j = 0) (f37 : ∀ j, I 37 j = 0 ∧ P 37 j = 0 ∧ D 37 j = 0) (f38 : ∀ j, I 38 j = 0 ∧ P 38 j = 0 ∧ D 38 j = 0) : zMet 50 [vr 34] (I, P, D, 35) none (I, (zupP (zupP (zupP (zupP P 35 0 36) 34 0 35) 37 0 38) 34 1 37), D, 39) := by
  refine z_n 6 (10, [(0, vr 34)], [vi 4, vr 35, vr 35, vr 34], (I, P, D, 36)) (G := (zfresh (I, P, D, 35)) ∧ True) rfl ⟨f35, trivial⟩ ?_
  refine z_cv 0 [vr 35, vi 4] [vr 35, vr 34] rfl (m_ct_35 f36) ?_
  refine z_n 5 (22, [(0, vr 34)], [vi 4, vr 37, vr 37, vr 34], (I, (zupP (zupP P 35 0 36) 34 0 35), D, 38)) (G := (zfresh (I, (zupP (zupP P 35 0 36) 34 0 35), D, 37)) ∧ True) rfl ⟨f37, trivial⟩ ?_
  refine z_cv 0 [vr 37, vi 4] [vr 37, vr 34] rfl (m_ct_37 f38) ?_
  refine z_n 1 (28, [(0, vr 34)], [], (I, (zupP (zupP (zupP (zupP P 35 0 36) 34 0 35) 37 0 38) 34 1 37), D, 39)) rfl trivial ?_
  exact z_ret rfl rfl rfl
set_option maxRecDepth 20000 in
theorem m_ct_40 {I : zI} {P : zP} {D : zD} (f41 : ∀ j, I 41 j = 0 ∧ P 41 j = 0 ∧ D 41 j = 0) : zMet 0 [vr 40, vi 96] (I, P, D, 41) none (I, (zupP P 40 0 41), D, 42) := by
  refine z_n 4 (6, [(0, vr 40), (1, vi 96)], [vi 96, vr 40], (I, P, D, 41)) rfl trivial ?_
  refine z_br (0 ≤ (96 : Int)) 13 9 [vr 40] rfl (fun hx1 => ?_) (fun h => absurd (show 0 ≤ (96 : Int) from by decide) h)
  refine z_n 3 (19, [(0, vr 40), (1, vi 96)], [], (I, (zupP P 40 0 41), D, 42)) (G := ((96 : Int) = (96 : Nat) ∧ zfresh (I, P, D, 41)) ∧ True) rfl ⟨⟨rfl, f41⟩, trivial⟩ ?_
  exact z_ret rfl rfl rfl
set_option maxRecDepth 20000 in
theorem m_ct_42 {I : zI} {P : zP} {D : zD} (f43 : ∀ j, I 43 j = 0 ∧ P 43 j = 0 ∧ D 43 j = 0) : zMet 0 [vr 42, vi 96] (I, P, D, 43) none (I, (zupP P 42 0 43), D, 44) := by
  refine z_n 4 (6, [(0, vr 42), (1, vi 96)], [vi 96, vr 42], (I, P, D, 43)) rfl trivial ?_
  refine z_br (0 ≤ (96 : Int)) 13 9 [vr 42] rfl (fun hx1 => ?_) (fun h => absurd (show 0 ≤ (96 : Int) from by decide) h)
  refine z_n 3 (19, [(0, vr 42), (1, vi 96)], [], (I, (zupP P 42 0 43), D, 44)) (G := ((96 : Int) = (96 : Nat) ∧ zfresh (I, P, D, 43)) ∧ True) rfl ⟨⟨rfl, f43⟩, trivial⟩ ?_
  exact z_ret rfl rfl rfl
set_option maxRecDepth 20000 in
theorem m_ct_44 {I : zI} {P : zP} {D : zD} (f45 : ∀ j, I 45 j = 0 ∧ P 45 j = 0 ∧ D 45 j = 0) : zMet 0 [vr 44, vi 96] (I, P, D, 45) none (I, (zupP P 44 0 45), D, 46) := by
  refine z_n 4 (6, [(0, vr 44), (1, vi 96)], [vi 96, vr 44], (I, P, D, 45)) rfl trivial ?_
  refine z_br (0 ≤ (96 : Int)) 13 9 [vr 44] rfl (fun hx1 => ?_) (fun h => absurd (show 0 ≤ (96 : Int) from by decide) h)
  refine z_n 3 (19, [(0, vr 44), (1, vi 96)], [], (I, (zupP P 44 0 45), D, 46)) (G := ((96 : Int) = (96 : Nat) ∧ zfresh (I, P, D, 45)) ∧ True) rfl ⟨⟨rfl, f45⟩, trivial⟩ ?_
  exact z_ret rfl rfl rfl
set_option maxRecDepth 20000 in
theorem m_ct_46 {I : zI} {P : zP} {D : zD} (f47 : ∀ j, I 47 j = 0 ∧ P 47 j = 0 ∧ D 47 j = 0) : zMet 0 [vr 46, vi 96] (I, P, D, 47) none (I, (zupP P 46 0 47), D, 48) := by
  refine z_n 4 (6, [(0, vr 46), (1, vi 96)], [vi 96, vr 46], (I, P, D, 47)) rfl trivial ?_
  refine z_br (0 ≤ (96 : Int)) 13 9 [vr 46] rfl (fun hx1 => ?_) (fun h => absurd (show 0 ≤ (96 : Int) from by decide) h)
  refine z_n 3 (19, [(0, vr 46), (1, vi 96)], [], (I, (zupP P 46 0 47), D, 48)) (G := ((96 : Int) = (96 : Nat) ∧ zfresh (I, P, D, 47)) ∧ True) rfl ⟨⟨rfl, f47⟩, trivial⟩ ?_
  exact z_ret rfl rfl rfl
set_option maxRecDepth 20000 in
theorem m_ct_39 {I : zI} {P : zP} {D : zD} (f40 : ∀ j, I 40 j = 0 ∧ P 40 j = 0 ∧ D 40 j = 0) (f41 : ∀ j, I 41 j = 0 ∧ P 41 j = 0 ∧ D 41 j = 0) (f42 : ∀ j, I 42 j = 0 ∧ P 42 j = 0 ∧ D 42 j = 0) (f43 : ∀ j, I 43 j = 0 ∧ P 43 j = 0 ∧ D 43 j = 0) (f44 : ∀ j, I 44 j = 0 ∧ P 44 j = 0 ∧ D 44 j = 0) (f45 : ∀ j, I 45 j = 0 ∧ P 45 j = 0 ∧ D 45 j = 0) (f46 : ∀ j, I 46 j = 0 ∧ P 46 j = 0 ∧ D 46 j = 0) (f47 : ∀ j, I 47 j = 0 ∧ P 47 j = 0 ∧ D 47 j = 0) : zMet 42 [vr 39] (I, P, D, 40) none (I, (zupP (zupP (zupP (zupP (zupP (zupP (zupP (zupP P 40 0 41) 39 0 40) 42 0 43) 39 1 42) 44 0 45) 39 2 44) 46 0 47) 39 3 46), D, 48) := by
  refine z_n 6 (11, [(0, vr 39)], [vi 96, vr 40, vr 40, vr 39], (I, P, D, 41)) (G := (zfresh (I, P, D, 40)) ∧ True) rfl ⟨f40, trivial⟩ ?_
  refine z_cv 0 [vr 40, vi 96] [vr 40, vr 39] rfl (m_ct_40 f41) ?_
  refine z_n 5 (24, [(0, vr 39)], [vi 96, vr 42, vr 42, vr 39], (I, (zupP (zupP P 40 0 41) 39 0 40), D, 43)) (G := (zfresh (I, (zupP (zupP P 40 0 41) 39 0 40), D, 42)) ∧ True) rfl ⟨f42, trivial⟩ ?_
  refine z_cv 0 [vr 42, vi 96] [vr 42, vr 39] rfl (m_ct_42 f43) ?_
  refine z_n 5 (37, [(0, vr 39)], [vi 96, vr 44, vr 44, vr 39], (I, (zupP (zupP (zupP (zupP P 40 0 41) 39 0 40) 42 0 43) 39 1 42), D, 45)) (G := (zfresh (I, (zupP (zupP (zupP (zupP P 40 0 41) 39 0 40) 42 0 43) 39 1 42), D, 44)) ∧ True) rfl ⟨f44, trivial⟩ ?_
  refine z_cv 0 [vr 44, vi 96] [vr 44, vr 39] rfl (m_ct_44 f45) ?_
  refine z_n 5 (50, [(0, vr 39)], [vi 96, vr 46, vr 46, vr 39], (I, (zupP (zupP (zupP (zupP (zupP (zupP P 40 0 41) 39 0 40) 42 0 43) 39 1 42) 44 0 45) 39 2 44), D, 47)) (G := (zfresh (I, (zupP (zupP (zupP (zupP (zupP (zupP P 40 0 41) 39 0 40) 42 0 43) 39 1 42) 44 0 45) 39 2 44), D, 46)) ∧ True) rfl ⟨f46, trivial⟩ ?_
  refine z_cv 0 [vr 46, vi 96] [vr 46, vr 39] rfl (m_ct_46 f47) ?_
  refine z_n 1 (56, [(0, vr 39)], [], (I, (zupP (zupP (zupP (zupP (zupP (zupP (zupP (zupP P 40 0 41) 39 0 40) 42 0 43) 39 1 42) 44 0 45) 39 2 44) 46 0 47) 39 3 46), D, 48)) rfl trivial ?_
  exact z_ret rfl rfl rfl
set_option maxRecDepth 20000 in
theorem m_ct_48 {I : zI} {P : zP} {D : zD} (f49 : ∀ j, I 49 j = 0 ∧ P 49 j = 0 ∧ D 49 j = 0) : zMet 0 [vr 48, vi 168] (I, P, D, 49) none (I, (zupP P 48 0 49), D, 50) := by
  refine z_n 4 (6, [(0, vr 48), (1, vi 168)], [vi 168, vr 48], (I, P, D, 49)) rfl trivial ?_
  refine z_br (0 ≤ (168 : Int)) 13 9 [vr 48] rfl (fun hx1 => ?_) (fun h => absurd (show 0 ≤ (168 : Int) from by decide) h)
  refine z_n 3 (19, [(0, vr 48), (1, vi 168)], [], (I, (zupP P 48 0 49), D, 50)) (G := ((168 : Int) = (168 : Nat) ∧ zfresh (I, P, D, 49)) ∧ True) rfl ⟨⟨rfl, f49⟩, trivial⟩ ?_
  exact z_ret rfl rfl rfl
set_option maxRecDepth 20000 in
theorem m_ct_27 {I : zI} {P : zP} {D : zD} (f28 : ∀ j, I 28 j = 0 ∧ P 28 j = 0 ∧ D 28 j = 0) (f29 : ∀ j, I 29 j = 0 ∧ P 29 j = 0 ∧ D 29 j = 0) (f30 : ∀ j, I 30 j = 0 ∧ P 30 j = 0 ∧ D 30 j = 0) (f31 : ∀ j, I 31 j = 0 ∧ P 31 j = 0 ∧ D 31 j = 0) (f32 : ∀ j, I 32 j = 0 ∧ P 32 j = 0 ∧ D 32 j = 0) (f33 : ∀ j, I 33 j = 0 ∧ P 33 j = 0 ∧ D 33 j = 0) (f34 : ∀ j, I 34 j = 0 ∧ P 34 j = 0 ∧ D 34 j = 0) (f35 : ∀ j, I 35 j = 0 ∧ P 35 j = 0 ∧ D 35 j = 0) (f36 : ∀ j, I 36 j = 0 ∧ P 36 j = 0 ∧ D 36 j = 0) (f37 : ∀ j, I 37 j = 0 ∧ P 37 j = 0 ∧ D 37 j = 0) (f38 : ∀ j, I 38 j = 0 ∧ P 38 j = 0 ∧ D 38 j = 0) (f39 : ∀ j, I 39 j = 0 ∧ P 39 j = 0 ∧ D 39 j = 0) (f40 : ∀ j, I 40 j = 0 ∧ P 40 j = 0 ∧ D 40 j = 0) (f41 : ∀ j, I 41 j = 0 ∧ P 41 j = 0 ∧ D 41 j = 0) (f42 : ∀ j, I 42 j = 0 ∧ P 42 j = 0 ∧ D 42 j = 0) (f43 : ∀ j, I 43 j = 0 ∧ P 43 j = 0 ∧ D 43 j = 0) (f44 : ∀ j, I 44 j = 0 ∧ P 44 j = 0 ∧ D 44 j = 0) (f45 : ∀ j, I 45 j = 0 ∧ P 45 j = 0 ∧ D 45 j = 0) (f46 : ∀ j, I 46 j = 0 ∧ P 46 j = 0 ∧ D 46 j = 0) (f47 : ∀ j, I 47 j = 0 ∧ P 47 j = 0 ∧ D 47 j = 0) (f48 : ∀ j, I 48 j = 0 ∧ P 48 j = 0 ∧ D 48 j = 0) (f49 : ∀ j, I 49 j = 0 ∧ P 49 j = 0 ∧ D 49 j = 0) : zMet 4 [vr 27] (I, P, D, 28) none ((zup (zup (zup I 27 9 (-1)) 27 10 1500) 27 11 300), (zupP (zupP (zupP (zupP (zupP (zupP (zupP (zupP (zupP (zupP (zupP (zupP (zupP (zupP (zupP (zupP (zupP (zupP (zupP (zupP (zupP (zupP P 28 0 29) 27 0 28) 30 0 31) 27 1 30) 32 0 33) 27 2 32) 35 0 36) 34 0 35) 37 0 38) 34 1 37) 27 3 34) 40 0 41) 39 0 40) 42 0 43) 39 1 42) 44 0 45) 39 2 44) 46 0 47) 39 3 46) 27 4 39) 48 0 49) 27 12 48), D, 50) := by
  refine z_n 6 (11, [(0, vr 27)], [vi 24, vr 28, vr 28, vr 27], (I, P, D, 29)) (G := (zfresh (I, P, D, 28)) ∧ True) rfl ⟨f28, trivial⟩ ?_
  refine z_cv 0 [vr 28, vi 24] [vr 28, vr 27] rfl (m_ct_28 f29) ?_
  refine z_n 5 (24, [(0, vr 27)], [vi 24, vr 30, vr 30, vr 27], (I, (zupP (zupP P 28 0 29) 27 0 28), D, 31)) (G := (zfresh (I, (zupP (zupP P 28 0 29) 27 0 28), D, 30)) ∧ True) rfl ⟨f30, trivial⟩ ?_
  refine z_cv 0 [vr 30, vi 24] [vr 30, vr 27] rfl (m_ct_30 f31) ?_
  refine z_n 5 (37, [(0, vr 27)], [vi 24, vr 32, vr 32, vr 27], (I, (zupP (zupP (zupP (zupP P 28 0 29) 27 0 28) 30 0 31) 27 1 30), D, 33)) (G := (zfresh (I, (zupP (zupP (zupP (zupP P 28 0 29) 27 0 28) 30 0 31) 27 1 30), D, 32)) ∧ True) rfl ⟨f32, trivial⟩ ?_
  refine z_cv 0 [vr 32, vi 24] [vr 32, vr 27] rfl (m_ct_32 f33) ?_
  refine z_n 4 (48, [(0, vr 27)], [vr 34, vr 34, vr 27], (I, (zupP (zupP (zupP (zupP (zupP (zupP P 28 0 29) 27 0 28) 30 0 31) 27 1 30) 32 0 33) 27 2 32), D, 35)) (G := (zfresh (I, (zupP (zupP (zupP (zupP (zupP (zupP P 28 0 29) 27 0 28) 30 0 31) 27 1 30) 32 0 33) 27 2 32), D, 34)) ∧ True) rfl ⟨f34, trivial⟩ ?_
  refine z_cv 50 [vr 34] [vr 34, vr 27] rfl (m_ct_34 f35 f36 f37 f38) ?_
  refine z_n 4 (59, [(0, vr 27)], [vr 39, vr 39, vr 27], (I, (zupP (zupP (zupP (zupP (zupP (zupP (zupP (zupP (zupP (zupP (zupP P 28 0 29) 27 0 28) 30 0 31) 27 1 30) 32 0 33) 27 2 32) 35 0 36) 34 0 35) 37 0 38) 34 1 37) 27 3 34), D, 40)) (G := (zfresh (I, (zupP (zupP (zupP (zupP (zupP (zupP (zupP (zupP (zupP (zupP (zupP P 28 0 29) 27 0 28) 30 0 31) 27 1 30) 32 0 33) 27 2 32) 35 0 36) 34 0 35) 37 0 38) 34 1 37) 27 3 34), D, 39)) ∧ True) rfl ⟨f39, trivial⟩ ?_
  refine z_cv 42 [vr 39] [vr 39, vr 27] rfl (m_ct_39 f40 f41 f42 f43 f44 f45 f46 f47) ?_
  refine z_n 14 (92, [(0, vr 27)], [vi 168, vr 48, vr 48, vr 27], ((zup (zup (zup I 27 9 (-1)) 27 10 1500) 27 11 300), (zupP (zupP (zupP (zupP (zupP (zupP (zupP (zupP (zupP (zupP (zupP (zupP (zupP (zupP (zupP (zupP (zupP (zupP (zupP (zupP P 28 0 29) 27 0 28) 30 0 31) 27 1 30) 32 0 33) 27 2 32) 35 0 36) 34 0 35) 37 0 38) 34 1 37) 27 3 34) 40 0 41) 39 0 40) 42 0 43) 39 1 42) 44 0 45) 39 2 44) 46 0 47) 39 3 46) 27 4 39), D, 49)) (G := (zfresh ((zup (zup (zup I 27 9 (-1)) 27 10 1500) 27 11 300), (zupP (zupP (zupP (zupP (zupP (zupP (zupP (zupP (zupP (zupP (zupP (zupP (zupP (zupP (zupP (zupP (zupP (zupP (zupP (zupP P 28 0 29) 27 0 28) 30 0 31) 27 1 30) 32 0 33) 27 2 32) 35 0 36) 34 0 35) 37 0 38) 34 1 37) 27 3 34) 40 0 41) 39 0 40) 42 0 43) 39 1 42) 44 0 45) 39 2 44) 46 0 47) 39 3 46) 27 4 39), D, 48)) ∧ True) rfl ⟨f48, trivial⟩ ?_
  refine z_cv 0 [vr 48, vi 168] [vr 48, vr 27] rfl (m_ct_48 f49) ?_
  refine z_n 1 (98, [(0, vr 27)], [], ((zup (zup (zup I 27 9 (-1)) 27 10 1500) 27 11 300), (zupP (zupP (zupP (zupP (zupP (zupP (zupP (zupP (zupP (zupP (zupP (zupP (zupP (zupP (zupP (zupP (zupP (zupP (zupP (zupP (zupP (zupP P 28 0 29) 27 0 28) 30 0 31) 27 1 30) 32 0 33) 27 2 32) 35 0 36) 34 0 35) 37 0 38) 34 1 37) 27 3 34) 40 0 41) 39 0 40) 42 0 43) 39 1 42) 44 0 45) 39 2 44) 46 0 47) 39 3 46) 27 4 39) 48 0 49) 27 12 48), D, 50)) rfl trivial ?_
  exact z_ret rfl rfl rfl
set_option maxRecDepth 20000 in
theorem m_ct_51 {I : zI} {P : zP} {D : zD} (f52 : ∀ j, I 52 j = 0 ∧ P 52 j = 0 ∧ D 52 j = 0) : zMet 0 [vr 51, vi 24] (I, P, D, 52) none (I, (zupP P 51 0 52), D, 53) := by
  refine z_n 4 (6, [(0, vr 51), (1, vi 24)], [vi 24, vr 51], (I, P, D, 52)) rfl trivial ?_
  refine z_br (0 ≤ (24 : Int)) 13 9 [vr 51] rfl (fun hx1 => ?_) (fun h => absurd (show 0 ≤ (24 : Int) from by decide) h)
  refine z_n 3 (19, [(0, vr 51), (1, vi 24)], [], (I, (zupP P 51 0 52), D, 53)) (G := ((24 : Int) = (24 : Nat) ∧ zfresh (I, P, D, 52)) ∧ True) rfl ⟨⟨rfl, f52⟩, trivial⟩ ?_
  exact z_ret rfl rfl rfl
set_option maxRecDepth 20000 in
theorem m_ct_53 {I : zI} {P : zP} {D : zD} (f54 : ∀ j, I 54 j = 0 ∧ P 54 j = 0 ∧ D 54 j = 0) : zMet 0 [vr 53, vi 24] (I, P, D, 54) none (I, (zupP P 53 0 54), D, 55) := by
  refine z_n 4 (6, [(0, vr 53), (1, vi 24)], [vi 24, vr 53], (I, P, D, 54)) rfl trivial ?_
  refine z_br (0 ≤ (24 : Int)) 13 9 [vr 53] rfl (fun hx1 => ?_) (fun h => absurd (show 0 ≤ (24 : Int) from by decide) h)
  refine z_n 3 (19, [(0, vr 53), (1, vi 24)], [], (I, (zupP P 53 0 54), D, 55)) (G := ((24 : Int) = (24 : Nat) ∧ zfresh (I, P, D, 54)) ∧ True) rfl ⟨⟨rfl, f54⟩, trivial⟩ ?_
  exact z_ret rfl rfl rfl
set_option maxRecDepth 20000 in
theorem m_ct_55 {I : zI} {P : zP} {D : zD} (f56 : ∀ j, I 56 j = 0 ∧ P 56 j = 0 ∧ D 56 j = 0) : zMet 0 [vr 55, vi 24] (I, P, D, 56) none (I, (zupP P 55 0 56), D, 57) := by
  refine z_n 4 (6, [(0, vr 55), (1, vi 24)], [vi 24, vr 55], (I, P, D, 56)) rfl trivial ?_
  refine z_br (0 ≤ (24 : Int)) 13 9 [vr 55] rfl (fun hx1 => ?_) (fun h => absurd (show 0 ≤ (24 : Int) from by decide) h)
  refine z_n 3 (19, [(0, vr 55), (1, vi 24)], [], (I, (zupP P 55 0 56), D, 57)) (G := ((24 : Int) = (24 : Nat) ∧ zfresh (I, P, D, 56)) ∧ True) rfl ⟨⟨rfl, f56⟩, trivial⟩ ?_
  exact z_ret rfl rfl rfl
set_option maxRecDepth 20000 in
theorem m_ct_58 {I : zI} {P : zP} {D : zD} (f59 : ∀ j, I 59 j = 0 ∧ P 59 j = 0 ∧ D 59 j = 0) : zMet 0 [vr 58, vi 4] (I, P, D, 59) none (I, (zupP P 58 0 59), D, 60) := by
  refine z_n 4 (6, [(0, vr 58), (1, vi 4)], [vi 4, vr 58], (I, P, D, 59)) rfl trivial ?_
  refine z_br (0 ≤ (4 : Int)) 13 9 [vr 58] rfl (fun hx1 => ?_) (fun h => absurd (show 0 ≤ (4 : Int) from by decide) h)
  refine z_n 3 (19, [(0, vr 58), (1, vi 4)], [], (I, (zupP P 58 0 59), D, 60)) (G := ((4 : Int) = (4 : Nat) ∧ zfresh (I, P, D, 59)) ∧ True) rfl ⟨⟨rfl, f59⟩, trivial⟩ ?_
  exact z_ret rfl rfl rfl
set_option maxRecDepth 20000 in
theorem m_ct_60 {I : zI} {P : zP} {D : zD} (f61 : ∀ j, I 61 j = 0 ∧ P 61 j = 0 ∧ D 61 j = 0) : zMet 0 [vr 60, vi 4] (I, P, D, 61) none (I, (zupP P 60 0 61), D, 62) := by
  refine z_n 4 (6, [(0, vr 60), (1, vi 4)], [vi 4, vr 60], (I, P, D, 61)) rfl trivial ?_
  refine z_br (0 ≤ (4 : Int)) 13 9 [vr 60] rfl (fun hx1 => ?_) (fun h => absurd (show 0 ≤ (4 : Int) from by decide) h)
  refine z_n 3 (19, [(0, vr 60), (1, vi 4)], [], (I, (zupP P 60 0 61), D, 62)) (G := ((4 : Int) = (4 : Nat) ∧ zfresh (I, P, D, 61)) ∧ True) rfl ⟨⟨rfl, f61⟩, trivial⟩ ?_
  exact z_ret rfl rfl rfl
set_option maxRecDepth 20000 in
theorem m_ct_57 {I : zI} {P : zP} {D : zD} (f58 : ∀ j, I 58 j = 0 ∧ P 58 j = 0 ∧ D 58 j = 0) (f59 : ∀ j, I 59 j = 0 ∧ P 59 j = 0 ∧ D 59 j = 0) (f60 : ∀ j, I 60 j = 0 ∧ P 60 j = 0 ∧ D 60 j = 0) (f61 : ∀ j, I 61 j = 0 ∧ P 61 j = 0 ∧ D 61 j = 0) : zMet 50 [vr 57] (I, P, D, 58) none (I, (zupP (zupP (zupP (zupP P 58 0 59) 57 0 58) 60 0 61) 57 1 60), D, 62) := by
  refine z_n 6 (10, [(0, vr 57)], [vi 4, vr 58, vr 58, vr 57], (I, P, D, 59)) (G := (zfresh (I, P, D, 58)) ∧ True) rfl ⟨f58, trivial⟩ ?_
  refine z_cv 0 [vr 58, vi 4] [vr 58, vr 57] rfl (m_ct_58 f59) ?_
  refine z_n 5 (22, [(0, vr 57)], [vi 4, vr 60, vr 60, vr 57], (I, (zupP (zupP P 58 0 59) 57 0 58), D, 61)) (G := (zfresh (I, (zupP (zupP P 58 0 59) 57 0 58), D, 60)) ∧ True) rfl ⟨f60, trivial⟩ ?_
  refine z_cv 0 [vr 60, vi 4] [vr 60, vr 57] rfl (m_ct_60 f61) ?_
  refine z_n 1 (28, [(0, vr 57)], [], (I, (zupP (zupP (zupP (zupP P 58 0 59) 57 0 58) 60 0 61) 57 1 60), D, 62)) rfl trivial ?_
  exact z_ret rfl rfl rfl
set_option maxRecDepth 20000 in
theorem m_ct_63 {I : zI} {P : zP} {D : zD} (f64 : ∀ j, I 64 j = 0 ∧ P 64 j = 0 ∧ D 64 j = 0) : zMet 0 [vr 63, vi 96] (I, P, D, 64) none (I, (zupP P 63 0 64), D, 65) := by
  refine z_n 4 (6, [(0, vr 63), (1, vi 96)], [vi 96, vr 63], (I, P, D, 64)) rfl trivial ?_
  refine z_br (0 ≤ (96 : Int)) 13 9 [vr 63] rfl (fun hx1 => ?_) (fun h => absurd (show 0 ≤ (96 : Int) from by decide) h)
  refine z_n 3 (19, [(0, vr 63), (1, vi 96)], [], (I, (zupP P 63 0 64), D, 65)) (G := ((96 : Int) = (96 : Nat) ∧ zfresh (I, P, D, 64)) ∧ True) rfl ⟨⟨rfl, f64⟩, trivial⟩ ?_
  exact z_ret rfl rfl rfl
set_option maxRecDepth 20000 in
theorem m_ct_65 {I : zI} {P : zP} {D : zD} (f66 : ∀ j, I 66 j = 0 ∧ P 66 j = 0 ∧ D 66 j = 0) : zMet 0 [vr 65, vi 96] (I, P, D, 66) none (I, (zupP P 65 0 66), D, 67) := by
  refine z_n 4 (6, [(0, vr 65), (1, vi 96)], [vi 96, vr 65], (I, P, D, 66)) rfl trivial ?_
  refine z_br (0 ≤ (96 : Int)) 13 9 [vr 65] rfl (fun hx1 => ?_) (fun h => absurd (show 0 ≤ (96 : Int) from by decide) h)
  refine z_n 3 (19, [(0, vr 65), (1, vi 96)], [], (I, (zupP P 65 0 66), D, 67)) (G := ((96 : Int) = (96 : Nat) ∧ zfresh (I, P, D, 66)) ∧ True) rfl ⟨⟨rfl, f66⟩, trivial⟩ ?_
  exact z_ret rfl rfl rfl
set_option maxRecDepth 20000 in
theorem m_ct_67 {I : zI} {P : zP} {D : zD} (f68 : ∀ j, I 68 j = 0 ∧ P 68 j = 0 ∧ D 68 j = 0) : zMet 0 [vr 67, vi 96] (I, P, D, 68) none (I, (zupP P 67 0 68), D, 69) := by
  refine z_n 4 (6, [(0, vr 67), (1, vi 96)], [vi 96, vr 67], (I, P, D, 68)) rfl trivial ?_
  refine z_br (0 ≤ (96 : Int)) 13 9 [vr 67] rfl (fun hx1 => ?_) (fun h => absurd (show 0 ≤ (96 : Int) from by decide) h)
  refine z_n 3 (19, [(0, vr 67), (1, vi 96)], [], (I, (zupP P 67 0 68), D, 69)) (G := ((96 : Int) = (96 : Nat) ∧ zfresh (I, P, D, 68)) ∧ True) rfl ⟨⟨rfl, f68⟩, trivial⟩ ?_
  exact z_ret rfl rfl rfl
set_option maxRecDepth 20000 in
theorem m_ct_69 {I : zI} {P : zP} {D : zD} (f70 : ∀ j, I 70 j = 0 ∧ P 70 j = 0 ∧ D 70 j = 0) : zMet 0 [vr 69, vi 96] (I, P, D, 70) none (I, (zupP P 69 0 70), D, 71) := by
  refine z_n 4 (6, [(0, vr 69), (1, vi 96)], [vi 96, vr 69], (I, P, D, 70)) rfl trivial ?_
  refine z_br (0 ≤ (96 : Int)) 13 9 [vr 69] rfl (fun hx1 => ?_) (fun h => absurd (show 0 ≤ (96 : Int) from by decide) h)
  refine z_n 3 (19, [(0, vr 69), (1, vi 96)], [], (I, (zupP P 69 0 70), D, 71)) (G := ((96 : Int) = (96 : Nat) ∧ zfresh (I, P, D, 70)) ∧ True) rfl ⟨⟨rfl, f70⟩, trivial⟩ ?_
  exact z_ret rfl rfl rfl
set_option maxRecDepth 20000 in
theorem m_ct_62 {I : zI} {P : zP} {D : zD} (f63 : ∀ j, I 63 j = 0 ∧ P 63 j = 0 ∧ D 63 j = 0) (f64 : ∀ j, I 64 j = 0 ∧ P 64 j = 0 ∧ D 64 j = 0) (f65 : ∀ j, I 65 j = 0 ∧ P 65 j = 0 ∧ D 65 j = 0) (f66 : ∀ j, I 66 j = 0 ∧ P 66 j = 0 ∧ D 66 j = 0) (f67 : ∀ j, I 67 j = 0 ∧ P 67 j = 0 ∧ D 67 j = 0) (f68 : ∀ j, I 68 j = 0 ∧ P 68 j = 0 ∧ D 68 j = 0) (f69 : ∀ j, I 69 j = 0 ∧ P 69 j = 0 ∧ D 69 j = 0) (f70 : ∀ j, I 70 j = 0 ∧ P 70 j = 0 ∧ D 70 j = 0) : zMet 42 [vr 62] (I, P, D, 63) none (I, (zupP (zupP (zupP (zupP (zupP (zupP (zupP (zupP P 63 0 64) 62 0 63) 65 0 66) 62 1 65) 67 0 68) 62 2 67) 69 0 70) 62 3 69), D, 71) := by
  refine z_n 6 (11, [(0, vr 62)], [vi 96, vr 63, vr 63, vr 62], (I, P, D, 64)) (G := (zfresh (I, P, D, 63)) ∧ True) rfl ⟨f63, trivial⟩ ?_
  refine z_cv 0 [vr 63, vi 96] [vr 63, vr 62] rfl (m_ct_63 f64) ?_
  refine z_n 5 (24, [(0, vr 62)], [vi 96, vr 65, vr 65, vr 62], (I, (zupP (zupP P 63 0 64) 62 0 63), D, 66)) (G := (zfresh (I, (zupP (zupP P 63 0 64) 62 0 63), D, 65)) ∧ True) rfl ⟨f65, trivial⟩ ?_
  refine z_cv 0 [vr 65, vi 96] [vr 65, vr 62] rfl (m_ct_65 f66) ?_
  refine z_n 5 (37, [(0, vr 62)], [vi 96, vr 67, vr 67, vr 62], (I, (zupP (zupP (zupP (zupP P 63 0 64) 62 0 63) 65 0 66) 62 1 65), D, 68)) (G := (zfresh (I, (zupP (zupP (zupP (zupP P 63 0 64) 62 0 63) 65 0 66) 62 1 65), D, 67)) ∧ True) rfl ⟨f67, trivial⟩ ?_
  refine z_cv 0 [vr 67, vi 96] [vr 67, vr 62] rfl (m_ct_67 f68) ?_
  refine z_n 5 (50, [(0, vr 62)], [vi 96, vr 69, vr 69, vr 62], (I, (zupP (zupP (zupP (zupP (zupP (zupP P 63 0 64) 62 0 63) 65 0 66) 62 1 65) 67 0 68) 62 2 67), D, 70)) (G := (zfresh (I, (zupP (zupP (zupP (zupP (zupP (zupP P 63 0 64) 62 0 63) 65 0 66) 62 1 65) 67 0 68) 62 2 67), D, 69)) ∧ True) rfl ⟨f69, trivial⟩ ?_
  refine z_cv 0 [vr 69, vi 96] [vr 69, vr 62] rfl (m_ct_69 f70) ?_
  refine z_n 1 (56, [(0, vr 62)], [], (I, (zupP (zupP (zupP (zupP (zupP (zupP (zupP (zupP P 63 0 64) 62 0 63) 65 0 66) 62 1 65) 67 0 68) 62 2 67) 69 0 70) 62 3 69), D, 71)) rfl trivial ?_
  exact z_ret rfl rfl rfl
set_option maxRecDepth 20000 in
theorem m_ct_71 {I : zI} {P : zP} {D : zD} (f72 : ∀ j, I 72 j = 0 ∧ P 72 j = 0 ∧ D 72 j = 0) : zMet 0 [vr 71, vi 168] (I, P, D, 72) none (I, (zupP P 71 0 72), D, 73) := by
  refine z_n 4 (6, [(0, vr 71), (1, vi 168)], [vi 168, vr 71], (I, P, D, 72)) rfl trivial ?_
  refine z_br (0 ≤ (168 : Int)) 13 9 [vr 71] rfl (fun hx1 => ?_) (fun h => absurd (show 0 ≤ (168 : Int) from by decide) h)
  refine z_n 3 (19, [(0, vr 71), (1, vi 168)], [], (I, (zupP P 71 0 72), D, 73)) (G := ((168 : Int) = (168 : Nat) ∧ zfresh (I, P, D, 72)) ∧ True) rfl ⟨⟨rfl, f72⟩, trivial⟩ ?_
  exact z_ret rfl rfl rfl
set_option maxRecDepth 20000 in
theorem m_ct_50 {I : zI} {P : zP} {D : zD} (f51 : ∀ j, I 51 j = 0 ∧ P 51 j = 0 ∧ D 51 j = 0) (f52 : ∀ j, I 52 j = 0 ∧ P 52 j = 0 ∧ D 52 j = 0) (f53 : ∀ j, I 53 j = 0 ∧ P 53 j = 0 ∧ D 53 j = 0) (f54 : ∀ j, I 54 j = 0 ∧ P 54 j = 0 ∧ D 54 j = 0) (f55 : ∀ j, I 55 j = 0 ∧ P 55 j = 0 ∧ D 55 j = 0) (f56 : ∀ j, I 56 j = 0 ∧ P 56 j = 0 ∧ D 56 j = 0) (f57 : ∀ j, I 57 j = 0 ∧ P 57 j = 0 ∧ D 57 j = 0) (f58 : ∀ j, I 58 j = 0 ∧ P 58 j = 0 ∧ D 58 j = 0) (f59 : ∀ j, I 59 j = 0 ∧ P 59 j = 0 ∧ D 59 j = 0) (f60 : ∀ j, I 60 j = 0 ∧ P 60 j = 0 ∧ D 60 j = 0) (f61 : ∀ j, I 61 j = 0 ∧ P 61 j = 0 ∧ D 61 j = 0) (f62 : ∀ j, I 62 j = 0 ∧ P 62 j = 0 ∧ D 62 j = 0) (f63 : ∀ j, I 63 j = 0 ∧ P 63 j = 0 ∧ D 63 j = 0) (f64 : ∀ j, I 64 j = 0 ∧ P 64 j = 0 ∧ D 64 j = 0) (f65 : ∀ j, I 65 j = 0 ∧ P 65 j = 0 ∧ D 65 j = 0) (f66 : ∀ j, I 66 j = 0 ∧ P 66 j = 0 ∧ D 66 j = 0) (f67 : ∀ j, I 67 j = 0 ∧ P 67 j = 0 ∧ D 67 j = 0) (f68 : ∀ j, I 68 j = 0 ∧ P 68 j = 0 ∧ D 68 j = 0) (f69 : ∀ j, I 69 j = 0 ∧ P 69 j = 0 ∧ D 69 j = 0) (f70 : ∀ j, I 70 j = 0 ∧ P 70 j = 0 ∧ D 70 j = 0) (f71 : ∀ j, I 71 j = 0 ∧ P 71 j = 0 ∧ D 71 j = 0) (f72 : ∀ j, I 72 j = 0 ∧ P 72 j = 0 ∧ D 72 j = 0) : zMet 4 [vr 50] (I, P, D, 51) none ((zup (zup (zup I 50 9 (-1)) 50 10 1500) 50 11 300), (zupP (zupP (zupP (zupP (zupP (zupP (zupP (zupP (zupP (zupP (zupP (zupP (zupP (zupP (zupP (zupP (zupP (zupP (zupP (zupP (zupP (zupP P 51 0 52) 50 0 51) 53 0 54) 50 1 53) 55 0 56) 50 2 55) 58 0 59) 57 0 58) 60 0 61) 57 1 60) 50 3 57) 63 0 64) 62 0 63) 65 0 66) 62 1 65) 67 0 68) 62 2 67) 69 0 70) 62 3 69) 50 4 62) 71 0 72) 50 12 71), D, 73) := by
  refine z_n 6 (11, [(0, vr 50)], [vi 24, vr 51, vr 51, vr 50], (I, P, D, 52)) (G := (zfresh (I, P, D, 51)) ∧ True) rfl ⟨f51, trivial⟩ ?_
  refine z_cv 0 [vr 51, vi 24] [vr 51, vr 50] rfl (m_ct_51 f52) ?_
  refine z_n 5 (24, [(0, vr 50)], [vi 24, vr 53, vr 53, vr 50], (I, (zupP (zupP P 51 0 52) 50 0 51), D, 54)) (G := (zfresh (I, (zupP (zupP P 51 0 52) 50 0 51), D, 53)) ∧ True) rfl ⟨f53, trivial⟩ ?_
  refine z_cv 0 [vr 53, vi 24] [vr 53, vr 50] rfl (m_ct_53 f54) ?_
  refine z_n 5 (37, [(0, vr 50)], [vi 24, vr 55, vr 55, vr 50], (I, (zupP (zupP (zupP (zupP P 51 0 52) 50 0 51) 53 0 54) 50 1 53), D, 56)) (G := (zfresh (I, (zupP (zupP (zupP (zupP P 51 0 52) 50 0 51) 53 0 54) 50 1 53), D, 55)) ∧ True) rfl ⟨f55, trivial⟩ ?_
  refine z_cv 0 [vr 55, vi 24] [vr 55, vr 50] rfl (m_ct_55 f56) ?_
  refine z_n 4 (48, [(0, vr 50)], [vr 57, vr 57, vr 50], (I, (zupP (zupP (zupP (zupP (zupP (zupP P 51 0 52) 50 0 51) 53 0 54) 50 1 53) 55 0 56) 50 2 55), D, 58)) (G := (zfresh (I, (zupP (zupP (zupP (zupP (zupP (zupP P 51 0 52) 50 0 51) 53 0 54) 50 1 53) 55 0 56) 50 2 55), D, 57)) ∧ True) rfl ⟨f57, trivial⟩ ?_
  refine z_cv 50 [vr 57] [vr 57, vr 50] rfl (m_ct_57 f58 f59 f60 f61) ?_
  refine z_n 4 (59, [(0, vr 50)], [vr 62, vr 62, vr 50], (I, (zupP (zupP (zupP (zupP (zupP (zupP (zupP (zupP (zupP (zupP (zupP P 51 0 52) 50 0 51) 53 0 54) 50 1 53) 55 0 56) 50 2 55) 58 0 59) 57 0 58) 60 0 61) 57 1 60) 50 3 57), D, 63)) (G := (zfresh (I, (zupP (zupP (zupP (zupP (zupP (zupP (zupP (zupP (zupP (zupP (zupP P 51 0 52) 50 0 51) 53 0 54) 50 1 53) 55 0 56) 50 2 55) 58 0 59) 57 0 58) 60 0 61) 57 1 60) 50 3 57), D, 62)) ∧ True) rfl ⟨f62, trivial⟩ ?_
  refine z_cv 42 [vr 62] [vr 62, vr 50] rfl (m_ct_62 f63 f64 f65 f66 f67 f68 f69 f70) ?_
  refine z_n 14 (92, [(0, vr 50)], [vi 168, vr 71, vr 71, vr 50], ((zup (zup (zup I 50 9 (-1)) 50 10 1500) 50 11 300), (zupP (zupP (zupP (zupP (zupP (zupP (zupP (zupP (zupP (zupP (zupP (zupP (zupP (zupP (zupP (zupP (zupP (zupP (zupP (zupP P 51 0 52) 50 0 51) 53 0 54) 50 1 53) 55 0 56) 50 2 55) 58 0 59) 57 0 58) 60 0 61) 57 1 60) 50 3 57) 63 0 64) 62 0 63) 65 0 66) 62 1 65) 67 0 68) 62 2 67) 69 0 70) 62 3 69) 50 4 62), D, 72)) (G := (zfresh ((zup (zup (zup I 50 9 (-1)) 50 10 1500) 50 11 300), (zupP (zupP (zupP (zupP (zupP (zupP (zupP (zupP (zupP (zupP (zupP (zupP (zupP (zupP (zupP (zupP (zupP (zupP (zupP (zupP P 51 0 52) 50 0 51) 53 0 54) 50 1 53) 55 0 56) 50 2 55) 58 0 59) 57 0 58) 60 0 61) 57 1 60) 50 3 57) 63 0 64) 62 0 63) 65 0 66) 62 1 65) 67 0 68) 62 2 67) 69 0 70) 62 3 69) 50 4 62), D, 71)) ∧ True) rfl ⟨f71, trivial⟩ ?_
  refine z_cv 0 [vr 71, vi 168] [vr 71, vr 50] rfl (m_ct_71 f72) ?_
  refine z_n 1 (98, [(0, vr 50)], [], ((zup (zup (zup I 50 9 (-1)) 50 10 1500) 50 11 300), (zupP (zupP (zupP (zupP (zupP (zupP (zupP (zupP (zupP (zupP (zupP (zupP (zupP (zupP (zupP (zupP (zupP (zupP (zupP (zupP (zupP (zupP P 51 0 52) 50 0 51) 53 0 54) 50 1 53) 55 0 56) 50 2 55) 58 0 59) 57 0 58) 60 0 61) 57 1 60) 50 3 57) 63 0 64) 62 0 63) 65 0 66) 62 1 65) 67 0 68) 62 2 67) 69 0 70) 62 3 69) 50 4 62) 71 0 72) 50 12 71), D, 73)) rfl trivial ?_
  exact z_ret rfl rfl rfl
set_option maxRecDepth 20000 in
theorem m_ct_74 {I : zI} {P : zP} {D : zD} (f75 : ∀ j, I 75 j = 0 ∧ P 75 j = 0 ∧ D 75 j = 0) : zMet 0 [vr 74, vi 24] (I, P, D, 75) none (I, (zupP P 74 0 75), D, 76) := by
  refine z_n 4 (6, [(0, vr 74), (1, vi 24)], [vi 24, vr 74], (I, P, D, 75)) rfl trivial ?_
  refine z_br (0 ≤ (24 : Int)) 13 9 [vr 74] rfl (fun hx1 => ?_) (fun h => absurd (show 0 ≤ (24 : Int) from by decide) h)
  refine z_n 3 (19, [(0, vr 74), (1, vi 24)], [], (I, (zupP P 74 0 75), D, 76)) (G := ((24 : Int) = (24 : Nat) ∧ zfresh (I, P, D, 75)) ∧ True) rfl ⟨⟨rfl, f75⟩, trivial⟩ ?_
  exact z_ret rfl rfl rfl
set_option maxRecDepth 20000 in
theorem m_ct_76 {I : zI} {P : zP} {D : zD} (f77 : ∀ j, I 77 j = 0 ∧ P 77 j = 0 ∧ D 77 j = 0) : zMet 0 [vr 76, vi 24] (I, P, D, 77) none (I, (zupP P 76 0 77), D, 78) := by
  refine z_n 4 (6, [(0, vr 76), (1, vi 24)], [vi 24, vr 76], (I, P, D, 77)) rfl trivial ?_
  refine z_br (0 ≤ (24 : Int)) 13 9 [vr 76] rfl (fun hx1 => ?_) (fun h => absurd (show 0 ≤ (24 : Int) from by decide) h)
  refine z_n 3 (19, [(0, vr 76), (1, vi 24)], [], (I, (zupP P 76 0 77), D, 78)) (G := ((24 : Int) = (24 : Nat) ∧ zfresh (I, P, D, 77)) ∧ True) rfl ⟨⟨rfl, f77⟩, trivial⟩ ?_
  exact z_ret rfl rfl rfl
set_option maxRecDepth 20000 in
theorem m_ct_78 {I : zI} {P : zP} {D : zD} (f79 : ∀ j, I 79 j = 0 ∧ P 79 j = 0 ∧ D 79 j = 0) : zMet 0 [vr 78, vi 24] (I, P, D, 79) none (I, (zupP P 78 0 79), D, 80) := by
  refine z_n 4 (6, [(0, vr 78), (1, vi 24)], [vi 24, vr 78], (I, P, D, 79)) rfl trivial ?_
  refine z_br (0 ≤ (24 : Int)) 13 9 [vr 78] rfl (fun hx1 => ?_) (fun h => absurd (show 0 ≤ (24 : Int) from by decide) h)
  refine z_n 3 (19, [(0, vr 78), (1, vi 24)], [], (I, (zupP P 78 0 79), D, 80)) (G := ((24 : Int) = (24 : Nat) ∧ zfresh (I, P, D, 79)) ∧ True) rfl ⟨⟨rfl, f79⟩, trivial⟩ ?_
  exact z_ret rfl rfl rfl
set_option maxRecDepth 20000 in
theorem m_ct_81 {I : zI} {P : zP} {D : zD} (f82 : ∀ j, I 82 j = 0 ∧ P 82 j = 0 ∧ D 82 j = 0) : zMet 0 [vr 81, vi 4] (I, P, D, 82) none (I, (zupP P 81 0 82), D, 83) := by
  refine z_n 4 (6, [(0, vr 81), (1, vi 4)], [vi 4, vr 81], (I, P, D, 82)) rfl trivial ?_
  refine z_br (0 ≤ (4 : Int)) 13 9 [vr 81] rfl (fun hx1 => ?_) (fun h => absurd (show 0 ≤ (4 : Int) from by decide) h)
  refine z_n 3 (19, [(0, vr 81), (1, vi 4)], [], (I, (zupP P 81 0 82), D, 83)) (G := ((4 : Int) = (4 : Nat) ∧ zfresh (I, P, D, 82)) ∧ True) rfl ⟨⟨rfl, f82⟩, trivial⟩ ?_
  exact z_ret rfl rfl rfl
set_option maxRecDepth 20000 in
theorem m_ct_83 {I : zI} {P : zP} {D : zD} (f84 : ∀ j, I 84 j = 0 ∧ P 84 j = 0 ∧ D 84 j = 0) : zMet 0 [vr 83, vi 4] (I, P, D, 84) none (I, (zupP P 83 0 84), D, 85) := by
  refine z_n 4 (6, [(0, vr 83), (1, vi 4)], [vi 4, vr 83], (I, P, D, 84)) rfl trivial ?_
  refine z_br (0 ≤ (4 : Int)) 13 9 [vr 83] rfl (fun hx1 => ?_) (fun h => absurd (show 0 ≤ (4 : Int) from by decide) h)
  refine z_n 3 (19, [(0, vr 83), (1, vi 4)], [], (I, (zupP P 83 0 84), D, 85)) (G := ((4 : Int) = (4 : Nat) ∧ zfresh (I, P, D, 84)) ∧ True) rfl ⟨⟨rfl, f84⟩, trivial⟩ ?_
  exact z_ret rfl rfl rfl
set_option maxRecDepth 20000 in
theorem m_ct_80 {I : zI} {P : zP} {D : zD} (f81 : ∀ j, I 81 j = 0 ∧ P 81 j = 0 ∧ D 81 j = 0) (f82 : ∀ j, I 82 j = 0 ∧ P 82 j = 0 ∧ D 82 j = 0) (f83 : ∀ j, I 83 j = 0 ∧ P 83 j = 0 ∧ D 83 j = 0) (f84 : ∀ j, I 84 j = 0 ∧ P 84 j = 0 ∧ D 84 j = 0) : zMet 50 [vr 80] (I, P, D, 81) none (I, (zupP (zupP (zupP (zupP P 81 0 82) 80 0 81) 83 0 84) 80 1 83), D, 85) := by
  refine z_n 6 (10, [(0, vr 80)], [vi 4, vr 81, vr 81, vr 80], (I, P, D, 82)) (G := (zfresh (I, P, D, 81)) ∧ True) rfl ⟨f81, trivial⟩ ?_
  refine z_cv 0 [vr 81, vi 4] [vr 81, vr 80] rfl (m_ct_81 f82) ?_
  refine z_n 5 (22, [(0, vr 80)], [vi 4, vr 83, vr 83, vr 80], (I, (zupP (zupP P 81 0 82) 80 0 81), D, 84)) (G := (zfresh (I, (zupP (zupP P 81 0 82) 80 0 81), D, 83)) ∧ True) rfl ⟨f83, trivial⟩ ?_
  refine z_cv 0 [vr 83, vi 4] [vr 83, vr 80] rfl (m_ct_83 f84) ?_
  refine z_n 1 (28, [(0, vr 80)], [], (I, (zupP (zupP (zupP (zupP P 81 0 82) 80 0 81) 83 0 84) 80 1 83), D, 85)) rfl trivial ?_
  exact z_ret rfl rfl rfl
set_option maxRecDepth 20000 in
theorem m_ct_86 {I : zI} {P : zP} {D : zD} (f87 : ∀ j, I 87 j = 0 ∧ P 87 j = 0 ∧ D 87 j = 0) : zMet 0 [vr 86, vi 96] (I, P, D, 87) none (I, (zupP P 86 0 87), D, 88) := by
  refine z_n 4 (6, [(0, vr 86), (1, vi 96)], [vi 96, vr 86], (I, P, D, 87)) rfl trivial ?_
  refine z_br (0 ≤ (96 : Int)) 13 9 [vr 86] rfl (fun hx1 => ?_) (fun h => absurd (show 0 ≤ (96 : Int) from by decide) h)
  refine z_n 3 (19, [(0, vr 86), (1, vi 96)], [], (I, (zupP P 86 0 87), D, 88)) (G := ((96 : Int) = (96 : Nat) ∧ zfresh (I, P, D, 87)) ∧ True) rfl ⟨⟨rfl, f87⟩, trivial⟩ ?_
  exact z_ret rfl rfl rfl
set_option maxRecDepth 20000 in
theorem m_ct_88 {I : zI} {P : zP} {D : zD} (f89 : ∀ j, I 89 j = 0 ∧ P 89 j = 0 ∧ D 89 j = 0) : zMet 0 [vr 88, vi 96] (I, P, D, 89) none (I, (zupP P 88 0 89), D, 90) := by
  refine z_n 4 (6, [(0, vr 88), (1, vi 96)], [vi 96, vr 88], (I, P, D, 89)) rfl trivial ?_
  refine z_br (0 ≤ (96 : Int)) 13 9 [vr 88] rfl (fun hx1 => ?_) (fun h => absurd (show 0 ≤ (96 : Int) from by decide) h)
  refine z_n 3 (19, [(0, vr 88), (1, vi 96)], [], (I, (zupP P 88 0 89), D, 90)) (G := ((96 : Int) = (96 : Nat) ∧ zfresh (I, P, D, 89)) ∧ True) rfl ⟨⟨rfl, f89⟩, trivial⟩ ?_
  exact z_ret rfl rfl rfl
set_option maxRecDepth 20000 in
theorem m_ct_90 {I : zI} {P : zP} {D : zD} (f91 : ∀ j, I 91 j = 0 ∧ P 91 j = 0 ∧ D 91 j = 0) : zMet 0 [vr 90, vi 96] (I, P, D, 91) none (I, (zupP P 90 0 91), D, 92) := by
  refine z_n 4 (6, [(0, vr 90), (1, vi 96)], [vi 96, vr 90], (I, P, D, 91)) rfl trivial ?_
  refine z_br (0 ≤ (96 : Int)) 13 9 [vr 90] rfl (fun hx1 => ?_) (fun h => absurd (show 0 ≤ (96 : Int) from by decide) h)
  refine z_n 3 (19, [(0, vr 90), (1, vi 96)], [], (I, (zupP P 90 0 91), D, 92)) (G := ((96 : Int) = (96 : Nat) ∧ zfresh (I, P, D, 91)) ∧ True) rfl ⟨⟨rfl, f91⟩, trivial⟩ ?_
  exact z_ret rfl rfl rfl
set_option maxRecDepth 20000 in
theorem m_ct_92 {I : zI} {P : zP} {D : zD} (f93 : ∀ j, I 93 j = 0 ∧ P 93 j = 0 ∧ D 93 j = 0) : zMet 0 [vr 92, vi 96] (I, P, D, 93) none (I, (zupP P 92 0 93), D, 94) := by
  refine z_n 4 (6, [(0, vr 92), (1, vi 96)], [vi 96, vr 92], (I, P, D, 93)) rfl trivial ?_
  refine z_br (0 ≤ (96 : Int)) 13 9 [vr 92] rfl (fun hx1 => ?_) (fun h => absurd (show 0 ≤ (96 : Int) from by decide) h)
  refine z_n 3 (19, [(0, vr 92), (1, vi 96)], [], (I, (zupP P 92 0 93), D, 94)) (G := ((96 : Int) = (96 : Nat) ∧ zfresh (I, P, D, 93)) ∧ True) rfl ⟨⟨rfl, f93⟩, trivial⟩ ?_
  exact z_ret rfl rfl rfl
set_option maxRecDepth 20000 in
theorem m_ct_85 {I : zI} {P : zP} {D : zD} (f86 : ∀ j, I 86 j = 0 ∧ P 86 j = 0 ∧ D 86 j = 0) (f87 : ∀ j, I 87 j = 0 ∧ P 87 j = 0 ∧ D 87 j = 0) (f88 : ∀ j, I 88 j = 0 ∧ P 88 j = 0 ∧ D 88 j = 0) (f89 : ∀ j, I 89 j = 0 ∧ P 89 j = 0 ∧ D 89 j = 0) (f90 : ∀ j, I 90 j = 0 ∧ P 90 j = 0 ∧ D 90 j = 0) (f91 : ∀ j, I 91 j = 0 ∧ P 91 j = 0 ∧ D 91 j = 0) (f92 : ∀ j, I 92 j = 0 ∧ P 92 j = 0 ∧ D 92 j = 0) (f93 : ∀ j, I 93 j = 0 ∧ P 93 j = 0 ∧ D 93 j = 0) : zMet 42 [vr 85] (I, P, D, 86) none (I, (zupP (zupP (zupP (zupP (zupP (zupP (zupP (zupP P 86 0 87) 85 0 86) 88 0 89) 85 1 88) 90 0 91) 85 2 90) 92 0 93) 85 3 92), D, 94) := by
  refine z_n 6 (11, [(0, vr 85)], [vi 96, vr 86, vr 86, vr 85], (I, P, D, 87)) (G := (zfresh (I, P, D, 86)) ∧ True) rfl ⟨f86, trivial⟩ ?_
  refine z_cv 0 [vr 86, vi 96] [vr 86, vr 85] rfl (m_ct_86 f87) ?_
  refine z_n 5 (24, [(0, vr 85)], [vi 96, vr 88, vr 88, vr 85], (I, (zupP (zupP P 86 0 87) 85 0 86), D, 89)) (G := (zfresh (I, (zupP (zupP P 86 0 87) 85 0 86), D, 88)) ∧ True) rfl ⟨f88, trivial⟩ ?_
  refine z_cv 0 [vr 88, vi 96] [vr 88, vr 85] rfl (m_ct_88 f89) ?_
  refine z_n 5 (37, [(0, vr 85)], [vi 96, vr 90, vr 90, vr 85], (I, (zupP (zupP (zupP (zupP P 86 0 87) 85 0 86) 88 0 89) 85 1 88), D, 91)) (G := (zfresh (I, (zupP (zupP (zupP (zupP P 86 0 87) 85 0 86) 88 0 89) 85 1 88), D, 90)) ∧ True) rfl ⟨f90, trivial⟩ ?_
  refine z_cv 0 [vr 90, vi 96] [vr 90, vr 85] rfl (m_ct_90 f91) ?_
  refine z_n 5 (50, [(0, vr 85)], [vi 96, vr 92, vr 92, vr 85], (I, (zupP (zupP (zupP (zupP (zupP (zupP P 86 0 87) 85 0 86) 88 0 89) 85 1 88) 90 0 91) 85 2 90), D, 93)) (G := (zfresh (I, (zupP (zupP (zupP (zupP (zupP (zupP P 86 0 87) 85 0 86) 88 0 89) 85 1 88) 90 0 91) 85 2 90), D, 92)) ∧ True) rfl ⟨f92, trivial⟩ ?_
  refine z_cv 0 [vr 92, vi 96] [vr 92, vr 85] rfl (m_ct_92 f93) ?_
  refine z_n 1 (56, [(0, vr 85)], [], (I, (zupP (zupP (zupP (zupP (zupP (zupP (zupP (zupP P 86 0 87) 85 0 86) 88 0 89) 85 1 88) 90 0 91) 85 2 90) 92 0 93) 85 3 92), D, 94)) rfl trivial ?_
  exact z_ret rfl rfl rfl
set_option maxRecDepth 20000 in
theorem m_ct_94 {I : zI} {P : zP} {D : zD} (f95 : ∀ j, I 95 j = 0 ∧ P 95 j = 0 ∧ D 95 j = 0) : zMet 0 [vr 94, vi 168] (I, P, D, 95) none (I, (zupP P 94 0 95), D, 96) := by
  refine z_n 4 (6, [(0, vr 94), (1, vi 168)], [vi 168, vr 94], (I, P, D, 95)) rfl trivial ?_
  refine z_br (0 ≤ (168 : Int)) 13 9 [vr 94] rfl (fun hx1 => ?_) (fun h => absurd (show 0 ≤ (168 : Int) from by decide) h)
  refine z_n 3 (19, [(0, vr 94), (1, vi 168)], [], (I, (zupP P 94 0 95), D, 96)) (G := ((168 : Int) = (168 : Nat) ∧ zfresh (I, P, D, 95)) ∧ True) rfl ⟨⟨rfl, f95⟩, trivial⟩ ?_
  exact z_ret rfl rfl rfl
set_option maxRecDepth 20000 in
theorem m_ct_73 {I : zI} {P : zP} {D : zD} (f74 : ∀ j, I 74 j = 0 ∧ P 74 j = 0 ∧ D 74 j = 0) (f75 : ∀ j, I 75 j = 0 ∧ P 75 j = 0 ∧ D 75 j = 0) (f76 : ∀ j, I 76 j = 0 ∧ P 76 j = 0 ∧ D 76 j = 0) (f77 : ∀ j, I 77 j = 0 ∧ P 77 j = 0 ∧ D 77 j = 0) (f78 : ∀ j, I 78 j = 0 ∧ P 78 j = 0 ∧ D 78 j = 0) (f79 : ∀ j, I 79 j = 0 ∧ P 79 j = 0 ∧ D 79 j = 0) (f80 : ∀ j, I 80 j = 0 ∧ P 80 j = 0 ∧ D 80 j = 0) (f81 : ∀ j, I 81 j = 0 ∧ P 81 j = 0 ∧ D 81 j = 0) (f82 : ∀ j, I 82 j = 0 ∧ P 82 j = 0 ∧ D 82 j = 0) (f83 : ∀ j, I 83 j = 0 ∧ P 83 j = 0 ∧ D 83 j = 0) (f84 : ∀ j, I 84 j = 0 ∧ P 84 j = 0 ∧ D 84 j = 0) (f85 : ∀ j, I 85 j = 0 ∧ P 85 j = 0 ∧ D 85 j = 0) (f86 : ∀ j, I 86 j = 0 ∧ P 86 j = 0 ∧ D 86 j = 0) (f87 : ∀ j, I 87 j = 0 ∧ P 87 j = 0 ∧ D 87 j = 0) (f88 : ∀ j, I 88 j = 0 ∧ P 88 j = 0 ∧ D 88 j = 0) (f89 : ∀ j, I 89 j = 0 ∧ P 89 j = 0 ∧ D 89 j = 0) (f90 : ∀ j, I 90 j = 0 ∧ P 90 j = 0 ∧ D 90 j = 0) (f91 : ∀ j, I 91 j = 0 ∧ P 91 j = 0 ∧ D 91 j = 0) (f92 : ∀ j, I 92 j = 0 ∧ P 92 j = 0 ∧ D 92 j = 0) (f93 : ∀ j, I 93 j = 0 ∧ P 93 j = 0 ∧ D 93 j = 0) (f94 : ∀ j, I 94 j = 0 ∧ P 94 j = 0 ∧ D 94 j = 0) (f95 : ∀ j, I 95 j = 0 ∧ P 95 j = 0 ∧ D 95 j = 0) : zMet 4 [vr 73] (I, P, D, 74) none ((zup (zup (zup I 73 9 (-1)) 73 10 1500) 73 11 300), (zupP (zupP (zupP (zupP (zupP (zupP (zupP (zupP (zupP (zupP (zupP (zupP (zupP (zupP (zupP (zupP (zupP (zupP (zupP (zupP (zupP (zupP P 74 0 75) 73 0 74) 76 0 77) 73 1 76) 78 0 79) 73 2 78) 81 0 82) 80 0 81) 83 0 84) 80 1 83) 73 3 80) 86 0 87) 85 0 86) 88 0 89) 85 1 88) 90 0 91) 85 2 90) 92 0 93) 85 3 92) 73 4 85) 94 0 95) 73 12 94), D, 96) := by
  refine z_n 6 (11, [(0, vr 73)], [vi 24, vr 74, vr 74, vr 73], (I, P, D, 75)) (G := (zfresh (I, P, D, 74)) ∧ True) rfl ⟨f74, trivial⟩ ?_
  refine z_cv 0 [vr 74, vi 24] [vr 74, vr 73] rfl (m_ct_74 f75) ?_
  refine z_n 5 (24, [(0, vr 73)], [vi 24, vr 76, vr 76, vr 73], (I, (zupP (zupP P 74 0 75) 73 0 74), D, 77)) (G := (zfresh (I, (zupP (zupP P 74 0 75) 73 0 74), D, 76)) ∧ True) rfl ⟨f76, trivial⟩ ?_
  refine z_cv 0 [vr 76, vi 24] [vr 76, vr 73] rfl (m_ct_76 f77) ?_
  refine z_n 5 (37, [(0, vr 73)], [vi 24, vr 78, vr 78, vr 73], (I, (zupP (zupP (zupP (zupP P 74 0 75) 73 0 74) 76 0 77) 73 1 76), D, 79)) (G := (zfresh (I, (zupP (zupP (zupP (zupP P 74 0 75) 73 0 74) 76 0 77) 73 1 76), D, 78)) ∧ True) rfl ⟨f78, trivial⟩ ?_
  refine z_cv 0 [vr 78, vi 24] [vr 78, vr 73] rfl (m_ct_78 f79) ?_
  refine z_n 4 (48, [(0, vr 73)], [vr 80, vr 80, vr 73], (I, (zupP (zupP (zupP (zupP (zupP (zupP P 74 0 75) 73 0 74) 76 0 77) 73 1 76) 78 0 79) 73 2 78), D, 81)) (G := (zfresh (I, (zupP (zupP (zupP (zupP (zupP (zupP P 74 0 75) 73 0 74) 76 0 77) 73 1 76) 78 0 79) 73 2 78), D, 80)) ∧ True) rfl ⟨f80, trivial⟩ ?_
  refine z_cv 50 [vr 80] [vr 80, vr 73] rfl (m_ct_80 f81 f82 f83 f84) ?_
  refine z_n 4 (59, [(0, vr 73)], [vr 85, vr 85, vr 73], (I, (zupP (zupP (zupP (zupP (zupP (zupP (zupP (zupP (zupP (zupP (zupP P 74 0 75) 73 0 74) 76 0 77) 73 1 76) 78 0 79) 73 2 78) 81 0 82) 80 0 81) 83 0 84) 80 1 83) 73 3 80), D, 86)) (G := (zfresh (I, (zupP (zupP (zupP (zupP (zupP (zupP (zupP (zupP (zupP (zupP (zupP P 74 0 75) 73 0 74) 76 0 77) 73 1 76) 78 0 79) 73 2 78) 81 0 82) 80 0 81) 83 0 84) 80 1 83) 73 3 80), D, 85)) ∧ True) rfl ⟨f85, trivial⟩ ?_
  refine z_cv 42 [vr 85] [vr 85, vr 73] rfl (m_ct_85 f86 f87 f88 f89 f90 f91 f92 f93) ?_
  refine z_n 14 (92, [(0, vr 73)], [vi 168, vr 94, vr 94, vr 73], ((zup (zup (zup I 73 9 (-1)) 73 10 1500) 73 11 300), (zupP (zupP (zupP (zupP (zupP (zupP (zupP (zupP (zupP (zupP (zupP (zupP (zupP (zupP (zupP (zupP (zupP (zupP (zupP (zupP P 74 0 75) 73 0 74) 76 0 77) 73 1 76) 78 0 79) 73 2 78) 81 0 82) 80 0 81) 83 0 84) 80 1 83) 73 3 80) 86 0 87) 85 0 86) 88 0 89) 85 1 88) 90 0 91) 85 2 90) 92 0 93) 85 3 92) 73 4 85), D, 95)) (G := (zfresh ((zup (zup (zup I 73 9 (-1)) 73 10 1500) 73 11 300), (zupP (zupP (zupP (zupP (zupP (zupP (zupP (zupP (zupP (zupP (zupP (zupP (zupP (zupP (zupP (zupP (zupP (zupP (zupP (zupP P 74 0 75) 73 0 74) 76 0 77) 73 1 76) 78 0 79) 73 2 78) 81 0 82) 80 0 81) 83 0 84) 80 1 83) 73 3 80) 86 0 87) 85 0 86) 88 0 89) 85 1 88) 90 0 91) 85 2 90) 92 0 93) 85 3 92) 73 4 85), D, 94)) ∧ True) rfl ⟨f94, trivial⟩ ?_
  refine z_cv 0 [vr 94, vi 168] [vr 94, vr 73] rfl (m_ct_94 f95) ?_
  refine z_n 1 (98, [(0, vr 73)], [], ((zup (zup (zup I 73 9 (-1)) 73 10 1500) 73 11 300), (zupP (zupP (zupP (zupP (zupP (zupP (zupP (zupP (zupP (zupP (zupP (zupP (zupP (zupP (zupP (zupP (zupP (zupP (zupP (zupP (zupP (zupP P 74 0 75) 73 0 74) 76 0 77) 73 1 76) 78 0 79) 73 2 78) 81 0 82) 80 0 81) 83 0 84) 80 1 83) 73 3 80) 86 0 87) 85 0 86) 88 0 89) 85 1 88) 90 0 91) 85 2 90) 92 0 93) 85 3 92) 73 4 85) 94 0 95) 73 12 94), D, 96)) rfl trivial ?_
  exact z_ret rfl rfl rfl
set_option maxRecDepth 20000 in
theorem m_ct_97 {I : zI} {P : zP} {D : zD} (f98 : ∀ j, I 98 j = 0 ∧ P 98 j = 0 ∧ D 98 j = 0) : zMet 0 [vr 97, vi 24] (I, P, D, 98) none (I, (zupP P 97 0 98), D, 99) := by
  refine z_n 4 (6, [(0, vr 97), (1, vi 24)], [vi 24, vr 97], (I, P, D, 98)) rfl trivial ?_
  refine z_br (0 ≤ (24 : Int)) 13 9 [vr 97] rfl (fun hx1 => ?_) (fun h => absurd (show 0 ≤ (24 : Int) from by decide) h)
  refine z_n 3 (19, [(0, vr 97), (1, vi 24)], [], (I, (zupP P 97 0 98), D, 99)) (G := ((24 : Int) = (24 : Nat) ∧ zfresh (I, P, D, 98)) ∧ True) rfl ⟨⟨rfl, f98⟩, trivial⟩ ?_
  exact z_ret rfl rfl rfl
set_option maxRecDepth 20000 in
theorem m_ct_99 {I : zI} {P : zP} {D : zD} (f100 : ∀ j, I 100 j = 0 ∧ P 100 j = 0 ∧ D 100 j = 0) : zMet 0 [vr 99, vi 24] (I, P, D, 100) none (I, (zupP P 99 0 100), D, 101) := by
  refine z_n 4 (6, [(0, vr 99), (1, vi 24)], [vi 24, vr 99], (I, P, D, 100)) rfl trivial ?_
  refine z_br (0 ≤ (24 : Int)) 13 9 [vr 99] rfl (fun hx1 => ?_) (fun h => absurd (show 0 ≤ (24 : Int) from by decide) h)
  refine z_n 3 (19, [(0, vr 99), (1, vi 24)], [], (I, (zupP P 99 0 100), D, 101)) (G := ((24 : Int) = (24 : Nat) ∧ zfresh (I, P, D, 100)) ∧ True) rfl ⟨⟨rfl, f100⟩, trivial⟩ ?_
  exact z_ret rfl rfl rfl
set_option maxRecDepth 20000 in
theorem m_ct_101 {I : zI} {P : zP} {D : zD} (f102 : ∀ j, I 102 j = 0 ∧ P 102 j = 0 ∧ D 102 j = 0) : zMet 0 [vr 101, vi 24] (I, P, D, 102) none (I, (zupP P 101 0 102), D, 103) := by
  refine z_n 4 (6, [(0, vr 101), (1, vi 24)], [vi 24, vr 101], (I, P, D, 102)) rfl trivial ?_
  refine z_br (0 ≤ (24 : Int)) 13 9 [vr 101] rfl (fun hx1 => ?_) (fun h => absurd (show 0 ≤ (24 : Int) from by decide) h)
  refine z_n 3 (19, [(0, vr 101), (1, vi 24)], [], (I, (zupP P 101 0 102), D, 103)) (G := ((24 : Int) = (24 : Nat) ∧ zfresh (I, P, D, 102)) ∧ True) rfl ⟨⟨rfl, f102⟩, trivial⟩ ?_
  exact z_ret rfl rfl rfl
set_option maxRecDepth 20000 in
theorem m_ct_104 {I : zI} {P : zP} {D : zD} (f105 : ∀ j, I 105 j = 0 ∧ P 105 j = 0 ∧ D 105 j = 0) : zMet 0 [vr 104, vi 4] (I, P, D, 105) none (I, (zupP P 104 0 105), D, 106) := by
  refine z_n 4 (6, [(0, vr 104), (1, vi 4)], [vi 4, vr 104], (I, P, D, 105)) rfl trivial ?_
  refine z_br (0 ≤ (4 : Int)) 13 9 [vr 104] rfl (fun hx1 => ?_) (fun h => absurd (show 0 ≤ (4 : Int) from by decide) h)
  refine z_n 3 (19, [(0, vr 104), (1, vi 4)], [], (I, (zupP P 104 0 105), D, 106)) (G := ((4 : Int) = (4 : Nat) ∧ zfresh (I, P, D, 105)) ∧ True) rfl ⟨⟨rfl, f105⟩, trivial⟩ ?_
  exact z_ret rfl rfl rfl
set_option maxRecDepth 20000 in
theorem m_ct_106 {I : zI} {P : zP} {D : zD} (f107 : ∀ j, I 107 j = 0 ∧ P 107 j = 0 ∧ D 107 j = 0) : zMet 0 [vr 106, vi 4] (I, P, D, 107) none (I, (zupP P 106 0 107), D, 108) := by
  refine z_n 4 (6, [(0, vr 106), (1, vi 4)], [vi 4, vr 106], (I, P, D, 107)) rfl trivial ?_
  refine z_br (0 ≤ (4 : Int)) 13 9 [vr 106] rfl (fun hx1 => ?_) (fun h => absurd (show 0 ≤ (4 : Int) from by decide) h)
  refine z_n 3 (19, [(0, vr 106), (1, vi 4)], [], (I, (zupP P 106 0 107), D, 108)) (G := ((4 : Int) = (4 : Nat) ∧ zfresh (I, P, D, 107)) ∧ True) rfl ⟨⟨rfl, f107⟩, trivial⟩ ?_
  exact z_ret rfl rfl rfl
set_option maxRecDepth 20000 in
theorem m_ct_103 {I : zI} {P : zP} {D : zD} (f104 : ∀ j, I 104 j = 0 ∧ P 104 j = 0 ∧ D 104 j = 0) (f105 : ∀ j, I 105 j = 0 ∧ P 105 j = 0 ∧ D 105 j = 0) (f106 : ∀ j, I 106 j = 0 ∧ P 106 j = 0 ∧ D 106 j = 0) (f107 : ∀ j, I 107 j = 0 ∧ P 107 j = 0 ∧ D 107 j = 0) : zMet 50 [vr 103] (I, P, D, 104) none (I, (zupP (zupP (zupP (zupP P 104 0 105) 103 0 104) 106 0 107) 103 1 106), D, 108) := by
  refine z_n 6 (10, [(0, vr 103)], [vi 4, vr 104, vr 104, vr 103], (I, P, D, 105)) (G := (zfresh (I, P, D, 104)) ∧ True) rfl ⟨f104, trivial⟩ ?_
  refine z_cv 0 [vr 104, vi 4] [vr 104, vr 103] rfl (m_ct_104 f105) ?_
  refine z_n 5 (22, [(0, vr 103)], [vi 4, vr 106, vr 106, vr 103], (I, (zupP (zupP P 104 0 105) 103 0 104), D, 107)) (G := (zfresh (I, (zupP (zupP P 104 0 105) 103 0 104), D, 106)) ∧ True) rfl ⟨f106, trivial⟩ ?_
  refine z_cv 0 [vr 106, vi 4] [vr 106, vr 103] rfl (m_ct_106 f107) ?_
  refine z_n 1 (28, [(0, vr 103)], [], (I, (zupP (zupP (zupP (zupP P 104 0 105) 103 0 104) 106 0 107) 103 1 106), D, 108)) rfl trivial ?_
  exact z_ret rfl rfl rfl
set_option maxRecDepth 20000 in
theorem m_ct_109 {I : zI} {P : zP} {D : zD} (f110 : ∀ j, I 110 j = 0 ∧ P 110 j = 0 ∧ D 110 j = 0) : zMet 0 [vr 109, vi 96] (I, P, D, 110) none (I, (zupP P 109 0 110), D, 111) := by
  refine z_n 4 (6, [(0, vr 109), (1, vi 96)], [vi 96, vr 109], (I, P, D, 110)) rfl trivial ?_
  refine z_br (0 ≤ (96 : Int)) 13 9 [vr 109] rfl (fun hx1 => ?_) (fun h => absurd (show 0 ≤ (96 : Int) from by decide) h)
  refine z_n 3 (19, [(0, vr 109), (1, vi 96)], [], (I, (zupP P 109 0 110), D, 111)) (G := ((96 : Int) = (96 : Nat) ∧ zfresh (I, P, D, 110)) ∧ True) rfl ⟨⟨rfl, f110⟩, trivial⟩ ?_
  exact z_ret rfl rfl rfl
set_option maxRecDepth 20000 in
theorem m_ct_111 {I : zI} {P : zP} {D : zD} (f112 : ∀ j, I 112 j = 0 ∧ P 112 j = 0 ∧ D 112 j = 0) : zMet 0 [vr 111, vi 96] (I, P, D, 112) none (I, (zupP P 111 0 112), D, 113) := by
  refine z_n 4 (6, [(0, vr 111), (1, vi 96)], [vi 96, vr 111], (I, P, D, 112)) rfl trivial ?_
  refine z_br (0 ≤ (96 : Int)) 13 9 [vr 111] rfl (fun hx1 => ?_) (fun h => absurd (show 0 ≤ (96 : Int) from by decide) h)
  refine z_n 3 (19, [(0, vr 111), (1, vi 96)], [], (I, (zupP P 111 0 112), D, 113)) (G := ((96 : Int) = (96 : Nat) ∧ zfresh (I, P, D, 112)) ∧ True) rfl ⟨⟨rfl, f112⟩, trivial⟩ ?_
  exact z_ret rfl rfl rfl
set_option maxRecDepth 20000 in
theorem m_ct_113 {I : zI} {P : zP} {D : zD} (f114 : ∀ j, I 114 j = 0 ∧ P 114 j = 0 ∧ D 114 j = 0) : zMet 0 [vr 113, vi 96] (I, P, D, 114) none (I, (zupP P 113 0 114), D, 115) := by
  refine z_n 4 (6, [(0, vr 113), (1, vi 96)], [vi 96, vr 113], (I, P, D, 114)) rfl trivial ?_
  refine z_br (0 ≤ (96 : Int)) 13 9 [vr 113] rfl (fun hx1 => ?_) (fun h => absurd (show 0 ≤ (96 : Int) from by decide) h)
  refine z_n 3 (19, [(0, vr 113), (1, vi 96)], [], (I, (zupP P 113 0 114), D, 115)) (G := ((96 : Int) = (96 : Nat) ∧ zfresh (I, P, D, 114)) ∧ True) rfl ⟨⟨rfl, f114⟩, trivial⟩ ?_
  exact z_ret rfl rfl rfl
set_option maxRecDepth 20000 in
theorem m_ct_115 {I : zI} {P : zP} {D : zD} (f116 : ∀ j, I 116 j = 0 ∧ P 116 j = 0 ∧ D 116 j = 0) : zMet 0 [vr 115, vi 96] (I, P, D, 116) none (I, (zupP P 115 0 116), D, 117) := by
  refine z_n 4 (6, [(0, vr 115), (1, vi 96)], [vi 96, vr 115], (I, P, D, 116)) rfl trivial ?_
  refine z_br (0 ≤ (96 : Int)) 13 9 [vr 115] rfl (fun hx1 => ?_) (fun h => absurd (show 0 ≤ (96 : Int) from by decide) h)
  refine z_n 3 (19, [(0, vr 115), (1, vi 96)], [], (I, (zupP P 115 0 116), D, 117)) (G := ((96 : Int) = (96 : Nat) ∧ zfresh (I, P, D, 116)) ∧ True) rfl ⟨⟨rfl, f116⟩, trivial⟩ ?_
  exact z_ret rfl rfl rfl
set_option maxRecDepth 20000 in
theorem m_ct_108 {I : zI} {P : zP} {D : zD} (f109 : ∀ j, I 109 j = 0 ∧ P 109 j = 0 ∧ D 109 j = 0) (f110 : ∀ j, I 110 j = 0 ∧ P 110 j = 0 ∧ D 110 j = 0) (f111 : ∀ j, I 111 j = 0 ∧ P 111 j = 0 ∧ D 111 j = 0) (f112 : ∀ j, I 112 j = 0 ∧ P 112 j = 0 ∧ D 112 j = 0) (f113 : ∀ j, I 113 j = 0 ∧ P 113 j = 0 ∧ D 113 j = 0) (f114 : ∀ j, I 114 j = 0 ∧ P 114 j = 0 ∧ D 114 j = 0) (f115 : ∀ j, I 115 j = 0 ∧ P 115 j = 0 ∧ D 115 j = 0) (f116 : ∀ j, I 116 j = 0 ∧ P 116 j = 0 ∧ D 116 j = 0) : zMet 42 [vr 108] (I, P, D, 109) none (I, (zupP (zupP (zupP (zupP (zupP (zupP (zupP (zupP P 109 0 110) 108 0 109) 111 0 112) 108 1 111) 113 0 114) 108 2 113) 115 0 116) 108 3 115), D, 117) := by
  refine z_n 6 (11, [(0, vr 108)], [vi 96, vr 109, vr 109, vr 108], (I, P, D, 110)) (G := (zfresh (I, P, D, 109)) ∧ True) rfl ⟨f109, trivial⟩ ?_
  refine z_cv 0 [vr 109, vi 96] [vr 109, vr 108] rfl (m_ct_109 f110) ?_
  refine z_n 5 (24, [(0, vr 108)], [vi 96, vr 111, vr 111, vr 108], (I, (zupP (zupP P 109 0 110) 108 0 109), D, 112)) (G := (zfresh (I, (zupP (zupP P 109 0 110) 108 0 109), D, 111)) ∧ True) rfl ⟨f111, trivial⟩ ?_
  refine z_cv 0 [vr 111, vi 96] [vr 111, vr 108] rfl (m_ct_111 f112) ?_
  refine z_n 5 (37, [(0, vr 108)], [vi 96, vr 113, vr 113, vr 108], (I, (zupP (zupP (zupP (zupP P 109 0 110) 108 0 109) 111 0 112) 108 1 111), D, 114)) (G := (zfresh (I, (zupP (zupP (zupP (zupP P 109 0 110) 108 0 109) 111 0 112) 108 1 111), D, 113)) ∧ True) rfl ⟨f113, trivial⟩ ?_
  refine z_cv 0 [vr 113, vi 96] [vr 113, vr 108] rfl (m_ct_113 f114) ?_
  refine z_n 5 (50, [(0, vr 108)], [vi 96, vr 115, vr 115, vr 108], (I, (zupP (zupP (zupP (zupP (zupP (zupP P 109 0 110) 108 0 109) 111 0 112) 108 1 111) 113 0 114) 108 2 113), D, 116)) (G := (zfresh (I, (zupP (zupP (zupP (zupP (zupP (zupP P 109 0 110) 108 0 109) 111 0 112) 108 1 111) 113 0 114) 108 2 113), D, 115)) ∧ True) rfl ⟨f115, trivial⟩ ?_
  refine z_cv 0 [vr 115, vi 96] [vr 115, vr 108] rfl (m_ct_115 f116) ?_
  refine z_n 1 (56, [(0, vr 108)], [], (I, (zupP (zupP (zupP (zupP (zupP (zupP (zupP (zupP P 109 0 110) 108 0 109) 111 0 112) 108 1 111) 113 0 114) 108 2 113) 115 0 116) 108 3 115), D, 117)) rfl trivial ?_
  exact z_ret rfl rfl rfl
set_option maxRecDepth 20000 in
theorem m_ct_117 {I : zI} {P : zP} {D : zD} (f118 : ∀ j, I 118 j = 0 ∧ P 118 j = 0 ∧ D 118 j = 0) : zMet 0 [vr 117, vi 168] (I, P, D, 118) none (I, (zupP P 117 0 118), D, 119) := by
  refine z_n 4 (6, [(0, vr 117), (1, vi 168)], [vi 168, vr 117], (I, P, D, 118)) rfl trivial ?_
  refine z_br (0 ≤ (168 : Int)) 13 9 [vr 117] rfl (fun hx1 => ?_) (fun h => absurd (show 0 ≤ (168 : Int) from by decide) h)
  refine z_n 3 (19, [(0, vr 117), (1, vi 168)], [], (I, (zupP P 117 0 118), D, 119)) (G := ((168 : Int) = (168 : Nat) ∧ zfresh (I, P, D, 118)) ∧ True) rfl ⟨⟨rfl, f118⟩, trivial⟩ ?_
  exact z_ret rfl rfl rfl
set_option maxRecDepth 20000 in
theorem m_ct_96 {I : zI} {P : zP} {D : zD} (f97 : ∀ j, I 97 j = 0 ∧ P 97 j = 0 ∧ D 97 j = 0) (f98 : ∀ j, I 98 j = 0 ∧ P 98 j = 0 ∧ D 98 j = 0) (f99 : ∀ j, I 99 j = 0 ∧ P 99 j = 0 ∧ D 99 j = 0) (f100 : ∀ j, I 100 j = 0 ∧ P 100 j = 0 ∧ D 100 j = 0) (f101 : ∀ j, I 101 j = 0 ∧ P 101 j = 0 ∧ D 101 j = 0) (f102 : ∀ j, I 102 j = 0 ∧ P 102 j = 0 ∧ D 102 j = 0) (f103 : ∀ j, I 103 j = 0 ∧ P 103 j = 0 ∧ D 103 j = 0) (f104 : ∀ j, I 104 j = 0 ∧ P 104 j = 0 ∧ D 104 j = 0) (f105 : ∀ j, I 105 j = 0 ∧ P 105 j = 0 ∧ D 105 j = 0) (f106 : ∀ j, I 106 j = 0 ∧ P 106 j = 0 ∧ D 106 j = 0) (f107 : ∀ j, I 107 j = 0 ∧ P 107 j = 0 ∧ D 107 j = 0) (f108 : ∀ j, I 108 j = 0 ∧ P 108 j = 0 ∧ D 108 j = 0) (f109 : ∀ j, I 109 j = 0 ∧ P 109 j = 0 ∧ D 109 j = 0) (f110 : ∀ j, I 110 j = 0 ∧ P 110 j = 0 ∧ D 110 j = 0) (f111 : ∀ j, I 111 j = 0 ∧ P 111 j = 0 ∧ D 111 j = 0) (f112 : ∀ j, I 112 j = 0 ∧ P 112 j = 0 ∧ D 112 j = 0) (f113 : ∀ j, I 113 j = 0 ∧ P 113 j = 0 ∧ D 113 j = 0) (f114 : ∀ j, I 114 j = 0 ∧ P 114 j = 0 ∧ D 114 j = 0) (f115 : ∀ j, I 115 j = 0 ∧ P 115 j = 0 ∧ D 115 j = 0) (f116 : ∀ j, I 116 j = 0 ∧ P 116 j = 0 ∧ D 116 j = 0) (f117 : ∀ j, I 117 j = 0 ∧ P 117 j = 0 ∧ D 117 j = 0) (f118 : ∀ j, I 118 j = 0 ∧ P 118 j = 0 ∧ D 118 j = 0) : zMet 4 [vr 96] (I, P, D, 97) none ((zup (zup (zup I 96 9 (-1)) 96 10 1500) 96 11 300), (zupP (zupP (zupP (zupP (zupP (zupP (zupP (zupP (zupP (zupP (zupP (zupP (zupP (zupP (zupP (zupP (zupP (zupP (zupP (zupP (zupP (zupP P 97 0 98) 96 0 97) 99 0 100) 96 1 99) 101 0 102) 96 2 101) 104 0 105) 103 0 104) 106 0 107) 103 1 106) 96 3 103) 109 0 110) 108 0 109) 111 0 112) 108 1 111) 113 0 114) 108 2 113) 115 0 116) 108 3 115) 96 4 108) 117 0 118) 96 12 117), D, 119) := by
  refine z_n 6 (11, [(0, vr 96)], [vi 24, vr 97, vr 97, vr 96], (I, P, D, 98)) (G := (zfresh (I, P, D, 97)) ∧ True) rfl ⟨f97, trivial⟩ ?_
  refine z_cv 0 [vr 97, vi 24] [vr 97, vr 96] rfl (m_ct_97 f98) ?_
  refine z_n 5 (24, [(0, vr 96)], [vi 24, vr 99, vr 99, vr 96], (I, (zupP (zupP P 97 0 98) 96 0 97), D, 100)) (G := (zfresh (I, (zupP (zupP P 97 0 98) 96 0 97), D, 99)) ∧ True) rfl ⟨f99, trivial⟩ ?_
  refine z_cv 0 [vr 99, vi 24] [vr 99, vr 96] rfl (m_ct_99 f100) ?_
  refine z_n 5 (37, [(0, vr 96)], [vi 24, vr 101, vr 101, vr 96], (I, (zupP (zupP (zupP (zupP P 97 0 98) 96 0 97) 99 0 100) 96 1 99), D, 102)) (G := (zfresh (I, (zupP (zupP (zupP (zupP P 97 0 98) 96 0 97) 99 0 100) 96 1 99), D, 101)) ∧ True) rfl ⟨f101, trivial⟩ ?_
  refine z_cv 0 [vr 101, vi 24] [vr 101, vr 96] rfl (m_ct_101 f102) ?_
  refine z_n 4 (48, [(0, vr 96)], [vr 103, vr 103, vr 96], (I, (zupP (zupP (zupP (zupP (zupP (zupP P 97 0 98) 96 0 97) 99 0 100) 96 1 99) 101 0 102) 96 2 101), D, 104)) (G := (zfresh (I, (zupP (zupP (zupP (zupP (zupP (zupP P 97 0 98) 96 0 97) 99 0 100) 96 1 99) 101 0 102) 96 2 101), D, 103)) ∧ True) rfl ⟨f103, trivial⟩ ?_
  refine z_cv 50 [vr 103] [vr 103, vr 96] rfl (m_ct_103 f104 f105 f106 f107) ?_
  refine z_n 4 (59, [(0, vr 96)], [vr 108, vr 108, vr 96], (I, (zupP (zupP (zupP (zupP (zupP (zupP (zupP (zupP (zupP (zupP (zupP P 97 0 98) 96 0 97) 99 0 100) 96 1 99) 101 0 102) 96 2 101) 104 0 105) 103 0 104) 106 0 107) 103 1 106) 96 3 103), D, 109)) (G := (zfresh (I, (zupP (zupP (zupP (zupP (zupP (zupP (zupP (zupP (zupP (zupP (zupP P 97 0 98) 96 0 97) 99 0 100) 96 1 99) 101 0 102) 96 2 101) 104 0 105) 103 0 104) 106 0 107) 103 1 106) 96 3 103), D, 108)) ∧ True) rfl ⟨f108, trivial⟩ ?_
  refine z_cv 42 [vr 108] [vr 108, vr 96] rfl (m_ct_108 f109 f110 f111 f112 f113 f114 f115 f116) ?_
  refine z_n 14 (92, [(0, vr 96)], [vi 168, vr 117, vr 117, vr 96], ((zup (zup (zup I 96 9 (-1)) 96 10 1500) 96 11 300), (zupP (zupP (zupP (zupP (zupP (zupP (zupP (zupP (zupP (zupP (zupP (zupP (zupP (zupP (zupP (zupP (zupP (zupP (zupP (zupP P 97 0 98) 96 0 97) 99 0 100) 96 1 99) 101 0 102) 96 2 101) 104 0 105) 103 0 104) 106 0 107) 103 1 106) 96 3 103) 109 0 110) 108 0 109) 111 0 112) 108 1 111) 113 0 114) 108 2 113) 115 0 116) 108 3 115) 96 4 108), D, 118)) (G := (zfresh ((zup (zup (zup I 96 9 (-1)) 96 10 1500) 96 11 300), (zupP (zupP (zupP (zupP (zupP (zupP (zupP (zupP (zupP (zupP (zupP (zupP (zupP (zupP (zupP (zupP (zupP (zupP (zupP (zupP P 97 0 98) 96 0 97) 99 0 100) 96 1 99) 101 0 102) 96 2 101) 104 0 105) 103 0 104) 106 0 107) 103 1 106) 96 3 103) 109 0 110) 108 0 109) 111 0 112) 108 1 111) 113 0 114) 108 2 113) 115 0 116) 108 3 115) 96 4 108), D, 117)) ∧ True) rfl ⟨f117, trivial⟩ ?_
  refine z_cv 0 [vr 117, vi 168] [vr 117, vr 96] rfl (m_ct_117 f118) ?_
  refine z_n 1 (98, [(0, vr 96)], [], ((zup (zup (zup I 96 9 (-1)) 96 10 1500) 96 11 300), (zupP (zupP (zupP (zupP (zupP (zupP (zupP (zupP (zupP (zupP (zupP (zupP (zupP (zupP (zupP (zupP (zupP (zupP (zupP (zupP (zupP (zupP P 97 0 98) 96 0 97) 99 0 100) 96 1 99) 101 0 102) 96 2 101) 104 0 105) 103 0 104) 106 0 107) 103 1 106) 96 3 103) 109 0 110) 108 0 109) 111 0 112) 108 1 111) 113 0 114) 108 2 113) 115 0 116) 108 3 115) 96 4 108) 117 0 118) 96 12 117), D, 119)) rfl trivial ?_
  exact z_ret rfl rfl rfl
set_option maxRecDepth 20000 in
theorem m_ct_25 {I : zI} {P : zP} {D : zD} (f26 : ∀ j, I 26 j = 0 ∧ P 26 j = 0 ∧ D 26 j = 0) (f27 : ∀ j, I 27 j = 0 ∧ P 27 j = 0 ∧ D 27 j = 0) (f28 : ∀ j, I 28 j = 0 ∧ P 28 j = 0 ∧ D 28 j = 0) (f29 : ∀ j, I 29 j = 0 ∧ P 29 j = 0 ∧ D 29 j = 0) (f30 : ∀ j, I 30 j = 0 ∧ P 30 j = 0 ∧ D 30 j = 0) (f31 : ∀ j, I 31 j = 0 ∧ P 31 j = 0 ∧ D 31 j = 0) (f32 : ∀ j, I 32 j = 0 ∧ P 32 j = 0 ∧ D 32 j = 0) (f33 : ∀ j, I 33 j = 0 ∧ P 33 j = 0 ∧ D 33 j = 0) (f34 : ∀ j, I 34 j = 0 ∧ P 34 j = 0 ∧ D 34 j = 0) (f35 : ∀ j, I 35 j = 0 ∧ P 35 j = 0 ∧ D 35 j = 0) (f36 : ∀ j, I 36 j = 0 ∧ P 36 j = 0 ∧ D 36 j = 0) (f37 : ∀ j, I 37 j = 0 ∧ P 37 j = 0 ∧ D 37 j = 0) (f38 : ∀ j, I 38 j = 0 ∧ P 38 j = 0 ∧ D 38 j = 0) (f39 : ∀ j, I 39 j = 0 ∧ P 39 j = 0 ∧ D 39 j = 0) (f40 : ∀ j, I 40 j = 0 ∧ P 40 j = 0 ∧ D 40 j = 0) (f41 : ∀ j, I 41 j = 0 ∧ P 41 j = 0 ∧ D 41 j = 0) (f42 : ∀ j, I 42 j = 0 ∧ P 42 j = 0 ∧ D 42 j = 0) (f43 : ∀ j, I 43 j = 0 ∧ P 43 j = 0 ∧ D 43 j = 0) (f44 : ∀ j, I 44 j = 0 ∧ P 44 j = 0 ∧ D 44 j = 0) (f45 : ∀ j, I 45 j = 0 ∧ P 45 j = 0 ∧ D 45 j = 0) (f46 : ∀ j, I 46 j = 0 ∧ P 46 j = 0 ∧ D 46 j = 0) (f47 : ∀ j, I 47 j = 0 ∧ P 47 j = 0 ∧ D 47 j = 0) (f48 : ∀ j, I 48 j = 0 ∧ P 48 j = 0 ∧ D 48 j = 0) (f49 : ∀ j, I 49 j = 0 ∧ P 49 j = 0 ∧ D 49 j = 0) (f50 : ∀ j, I 50 j = 0 ∧ P 50 j = 0 ∧ D 50 j = 0) (f51 : ∀ j, I 51 j = 0 ∧ P 51 j = 0 ∧ D 51 j = 0) (f52 : ∀ j, I 52 j = 0 ∧ P 52 j = 0 ∧ D 52 j = 0) (f53 : ∀ j, I 53 j = 0 ∧ P 53 j = 0 ∧ D 53 j = 0) (f54 : ∀ j, I 54 j = 0 ∧ P 54 j = 0 ∧ D 54 j = 0) (f55 : ∀ j, I 55 j = 0 ∧ P 55 j = 0 ∧ D 55 j = 0) (f56 : ∀ j, I 56 j = 0 ∧ P 56 j = 0 ∧ D 56 j = 0) (f57 : ∀ j, I 57 j = 0 ∧ P 57 j = 0 ∧ D 57 j = 0) (f58 : ∀ j, I 58 j = 0 ∧ P 58 j = 0 ∧ D 58 j = 0) (f59 : ∀ j, I 59 j = 0 ∧ P 59 j = 0 ∧ D 59 j = 0) (f60 : ∀ j, I 60 j = 0 ∧ P 60 j = 0 ∧ D 60 j = 0) (f61 : ∀ j, I 61 j = 0 ∧ P 61 j = 0 ∧ D 61 j = 0) (f62 : ∀ j, I 62 j = 0 ∧ P 62 j = 0 ∧ D 62 j = 0) (f63 : ∀ j, I 63 j = 0 ∧ P 63 j = 0 ∧ D 63 j = 0) (f64 : ∀ j, I 64 j = 0 ∧ P 64 j = 0 ∧ D 64 j = 0) (f65 : ∀ j, I 65 j = 0 ∧ P 65 j = 0 ∧ D 65 j = 0) (f66 : ∀ j, I 66 j = 0 ∧ P 66 j = 0 ∧ D 66 j = 0) (f67 : ∀ j, I 67 j = 0 ∧ P 67 j = 0 ∧ D 67 j = 0) (f68 : ∀ j, I 68 j = 0 ∧ P 68 j = 0 ∧ D 68 j = 0) (f69 : ∀ j, I 69 j = 0 ∧ P 69 j = 0 ∧ D 69 j = 0) (f70 : ∀ j, I 70 j = 0 ∧ P 70 j = 0 ∧ D 70 j = 0) (f71 : ∀ j, I 71 j = 0 ∧ P 71 j = 0 ∧ D 71 j = 0) (f72 : ∀ j, I 72 j = 0 ∧ P 72 j = 0 ∧ D 72 j = 0) (f73 : ∀ j, I 73 j = 0 ∧ P 73 j = 0 ∧ D 73 j = 0) (f74 : ∀ j, I 74 j = 0 ∧ P 74 j = 0 ∧ D 74 j = 0) (f75 : ∀ j, I 75 j = 0 ∧ P 75 j = 0 ∧ D 75 j = 0) (f76 : ∀ j, I 76 j = 0 ∧ P 76 j = 0 ∧ D 76 j = 0) (f77 : ∀ j, I 77 j = 0 ∧ P 77 j = 0 ∧ D 77 j = 0) (f78 : ∀ j, I 78 j = 0 ∧ P 78 j = 0 ∧ D 78 j = 0) (f79 : ∀ j, I 79 j = 0 ∧ P 79 j = 0 ∧ D 79 j = 0) (f80 : ∀ j, I 80 j = 0 ∧ P 80 j = 0 ∧ D 80 j = 0) (f81 : ∀ j, I 81 j = 0 ∧ P 81 j = 0 ∧ D 81 j = 0) (f82 : ∀ j, I 82 j = 0 ∧ P 82 j = 0 ∧ D 82 j = 0) (f83 : ∀ j, I 83 j = 0 ∧ P 83 j = 0 ∧ D 83 j = 0) (f84 : ∀ j, I 84 j = 0 ∧ P 84 j = 0 ∧ D 84 j = 0) (f85 : ∀ j, I 85 j = 0 ∧ P 85 j = 0 ∧ D 85 j = 0) (f86 : ∀ j, I 86 j = 0 ∧ P 86 j = 0 ∧ D 86 j = 0) (f87 : ∀ j, I 87 j = 0 ∧ P 87 j = 0 ∧ D 87 j = 0) (f88 : ∀ j, I 88 j = 0 ∧ P 88 j = 0 ∧ D 88 j = 0) (f89 : ∀ j, I 89 j = 0 ∧ P 89 j = 0 ∧ D 89 j = 0) (f90 : ∀ j, I 90 j = 0 ∧ P 90 j = 0 ∧ D 90 j = 0) (f91 : ∀ j, I 91 j = 0 ∧ P 91 j = 0 ∧ D 91 j = 0) (f92 : ∀ j, I 92 j = 0 ∧ P 92 j = 0 ∧ D 92 j = 0) (f93 : ∀ j, I 93 j = 0 ∧ P 93 j = 0 ∧ D 93 j = 0) (f94 : ∀ j, I 94 j = 0 ∧ P 94 j = 0 ∧ D 94 j = 0) (f95 : ∀ j, I 95 j = 0 ∧ P 95 j = 0 ∧ D 95 j = 0) (f96 : ∀ j, I 96 j = 0 ∧ P 96 j = 0 ∧ D 96 j = 0) (f97 : ∀ j, I 97 j = 0 ∧ P 97 j = 0 ∧ D 97 j = 0) (f98 : ∀ j, I 98 j = 0 ∧ P 98 j = 0 ∧ D 98 j = 0) (f99 : ∀ j, I 99 j = 0 ∧ P 99 j = 0 ∧ D 99 j = 0) (f100 : ∀ j, I 100 j = 0 ∧ P 100 j = 0 ∧ D 100 j = 0) (f101 : ∀ j, I 101 j = 0 ∧ P 101 j = 0 ∧ D 101 j = 0) (f102 : ∀ j, I 102 j = 0 ∧ P 102 j = 0 ∧ D 102 j = 0) (f103 : ∀ j, I 103 j = 0 ∧ P 103 j = 0 ∧ D 103 j = 0) (f104 : ∀ j, I 104 j = 0 ∧ P 104 j = 0 ∧ D 104 j = 0) (f105 : ∀ j, I 105 j = 0 ∧ P 105 j = 0 ∧ D 105 j = 0) (f106 : ∀ j, I 106 j = 0 ∧ P 106 j = 0 ∧ D 106 j = 0) (f107 : ∀ j, I 107 j = 0 ∧ P 107 j = 0 ∧ D 107 j = 0) (f108 : ∀ j, I 108 j = 0 ∧ P 108 j = 0 ∧ D 108 j = 0) (f109 : ∀ j, I 109 j = 0 ∧ P 109 j = 0 ∧ D 109 j = 0) (f110 : ∀ j, I 110 j = 0 ∧ P 110 j = 0 ∧ D 110 j = 0) (f111 : ∀ j, I 111 j = 0 ∧ P 111 j = 0 ∧ D 111 j = 0) (f112 : ∀ j, I 112 j = 0 ∧ P 112 j = 0 ∧ D 112 j = 0) (f113 : ∀ j, I 113 j = 0 ∧ P 113 j = 0 ∧ D 113 j = 0) (f114 : ∀ j, I 114 j = 0 ∧ P 114 j = 0 ∧ D 114 j = 0) (f115 : ∀ j, I 115 j = 0 ∧ P 115 j = 0 ∧ D 115 j = 0) (f116 : ∀ j, I 116 j = 0 ∧ P 116 j = 0 ∧ D 116 j = 0) (f117 : ∀ j, I 117 j = 0 ∧ P 117 j = 0 ∧ D 117 j = 0) (f118 : ∀ j, I 118 j = 0 ∧ P 118 j = 0 ∧ D 118 j = 0) : zMet 37 [vr 25] (I, P, D, 26) none ((zup (zup (zup (zup (zup (zup (zup (zup (zup (zup (zup (zup I 27 9 (-1)) 27 10 1500) 27 11 300) 50 9 (-1)) 50 10 1500) 50 11 300) 73 9 (-1)) 73 10 1500) 73 11 300) 96 9 (-1)) 96 10 1500) 96 11 300), (zupP (zupP (zupP (zupP (zupP (zupP (zupP (zupP (zupP (zupP (zupP (zupP (zupP (zupP (zupP (zupP (zupP (zupP (zupP (zupP (zupP (zupP (zupP (zupP (zupP (zupP (zupP (zupP (zupP (zupP (zupP (zupP (zupP (zupP (zupP (zupP (zupP (zupP (zupP (zupP (zupP (zupP (zupP (zupP (zupP (zupP (zupP (zupP (zupP (zupP (zupP (zupP (zupP (zupP (zupP (zupP (zupP (zupP (zupP (zupP (zupP (zupP (zupP (zupP (zupP (zupP (zupP (zupP (zupP (zupP (zupP (zupP (zupP (zupP (zupP (zupP (zupP (zupP (zupP (zupP (zupP (zupP (zupP (zupP (zupP (zupP (zupP (zupP (zupP (zupP (zupP (zupP (zupP P 25 0 26) 28 0 29) 27 0 28) 30 0 31) 27 1 30) 32 0 33) 27 2 32) 35 0 36) 34 0 35) 37 0 38) 34 1 37) 27 3 34) 40 0 41) 39 0 40) 42 0 43) 39 1 42) 44 0 45) 39 2 44) 46 0 47) 39 3 46) 27 4 39) 48 0 49) 27 12 48) 26 0 27) 51 0 52) 50 0 51) 53 0 54) 50 1 53) 55 0 56) 50 2 55) 58 0 59) 57 0 58) 60 0 61) 57 1 60) 50 3 57) 63 0 64) 62 0 63) 65 0 66) 62 1 65) 67 0 68) 62 2 67) 69 0 70) 62 3 69) 50 4 62) 71 0 72) 50 12 71) 26 1 50) 74 0 75) 73 0 74) 76 0 77) 73 1 76) 78 0 79) 73 2 78) 81 0 82) 80 0 81) 83 0 84) 80 1 83) 73 3 80) 86 0 87) 85 0 86) 88 0 89) 85 1 88) 90 0 91) 85 2 90) 92 0 93) 85 3 92) 73 4 85) 94 0 95) 73 12 94) 26 2 73) 97 0 98) 96 0 97) 99 0 100) 96 1 99) 101 0 102) 96 2 101) 104 0 105) 103 0 104) 106 0 107) 103 1 106) 96 3 103) 109 0 110) 108 0 109) 111 0 112) 108 1 111) 113 0 114) 108 2 113) 115 0 116) 108 3 115) 96 4 108) 117 0 118) 96 12 117) 26 3 96), D, 119) := by
  refine z_n 12 (20, [(1, vi 0), (0, vr 25)], [vi 4, vi 0], (I, (zupP P 25 0 26), D, 27)) (G := ((4 : Int) = (4 : Nat) ∧ zfresh (I, P, D, 26)) ∧ True) rfl ⟨⟨rfl, f26⟩, trivial⟩ ?_
  refine z_br (4 ≤ (0 : Int)) 42 23 [] rfl (fun h => absurd h (show ¬ (4 ≤ (0 : Int)) from by decide)) (fun hx1 => ?_)
  refine z_n 5 (32, [(1, vi 0), (0, vr 25)], [vr 27, vr 27, vi 0, vr 26], (I, (zupP P 25 0 26), D, 28)) (G := (zfresh (I, (zupP P 25 0 26), D, 27)) ∧ True) rfl ⟨f27, trivial⟩ ?_
  refine z_cv 4 [vr 27] [vr 27, vi 0, vr 26] rfl (m_ct_27 f28 f29 f30 f31 f32 f33 f34 f35 f36 f37 f38 f39 f40 f41 f42 f43 f44 f45 f46 f47 f48 f49) ?_
  refine z_n 7 (20, [(1, vi 1), (0, vr 25)], [vi 4, vi 1], ((zup (zup (zup I 27 9 (-1)) 27 10 1500) 27 11 300), (zupP (zupP (zupP (zupP (zupP (zupP (zupP (zupP (zupP (zupP (zupP (zupP (zupP (zupP (zupP (zupP (zupP (zupP (zupP (zupP (zupP (zupP (zupP (zupP P 25 0 26) 28 0 29) 27 0 28) 30 0 31) 27 1 30) 32 0 33) 27 2 32) 35 0 36) 34 0 35) 37 0 38) 34 1 37) 27 3 34) 40 0 41) 39 0 40) 42 0 43) 39 1 42) 44 0 45) 39 2 44) 46 0 47) 39 3 46) 27 4 39) 48 0 49) 27 12 48) 26 0 27), D, 50)) (G := ((0 ≤ 0 ∧ 0 < 4) ∧ zob 27 1 50 = true) ∧ (zr 1) ∧ True) rfl ⟨⟨⟨by decide, by decide⟩, rfl⟩, by omega, trivial⟩ ?_
  refine z_br (4 ≤ (1 : Int)) 42 23 [] rfl (fun h => absurd h (show ¬ (4 ≤ (1 : Int)) from by decide)) (fun hx2 => ?_)
  refine z_n 5 (32, [(1, vi 1), (0, vr 25)], [vr 50, vr 50, vi 1, vr 26], ((zup (zup (zup I 27 9 (-1)) 27 10 1500) 27 11 300), (zupP (zupP (zupP (zupP (zupP (zupP (zupP (zupP (zupP (zupP (zupP (zupP (zupP (zupP (zupP (zupP (zupP (zupP (zupP (zupP (zupP (zupP (zupP (zupP P 25 0 26) 28 0 29) 27 0 28) 30 0 31) 27 1 30) 32 0 33) 27 2 32) 35 0 36) 34 0 35) 37 0 38) 34 1 37) 27 3 34) 40 0 41) 39 0 40) 42 0 43) 39 1 42) 44 0 45) 39 2 44) 46 0 47) 39 3 46) 27 4 39) 48 0 49) 27 12 48) 26 0 27), D, 51)) (G := (zfresh ((zup (zup (zup I 27 9 (-1)) 27 10 1500) 27 11 300), (zupP (zupP (zupP (zupP (zupP (zupP (zupP (zupP (zupP (zupP (zupP (zupP (zupP (zupP (zupP (zupP (zupP (zupP (zupP (zupP (zupP (zupP (zupP (zupP P 25 0 26) 28 0 29) 27 0 28) 30 0 31) 27 1 30) 32 0 33) 27 2 32) 35 0 36) 34 0 35) 37 0 38) 34 1 37) 27 3 34) 40 0 41) 39 0 40) 42 0 43) 39 1 42) 44 0 45) 39 2 44) 46 0 47) 39 3 46) 27 4 39) 48 0 49) 27 12 48) 26 0 27), D, 50)) ∧ True) rfl ⟨f50, trivial⟩ ?_
  refine z_cv 4 [vr 50] [vr 50, vi 1, vr 26] rfl (m_ct_50 f51 f52 f53 f54 f55 f56 f57 f58 f59 f60 f61 f62 f63 f64 f65 f66 f67 f68 f69 f70 f71 f72) ?_
  refine z_n 7 (20, [(1, vi 2), (0, vr 25)], [vi 4, vi 2], ((zup (zup (zup (zup (zup (zup I 27 9 (-1)) 27 10 1500) 27 11 300) 50 9 (-1)) 50 10 1500) 50 11 300), (zupP (zupP (zupP (zupP (zupP (zupP (zupP (zupP (zupP (zupP (zupP (zupP (zupP (zupP (zupP (zupP (zupP (zupP (zupP (zupP (zupP (zupP (zupP (zupP (zupP (zupP (zupP (zupP (zupP (zupP (zupP (zupP (zupP (zupP (zupP (zupP (zupP (zupP (zupP (zupP (zupP (zupP (zupP (zupP (zupP (zupP (zupP P 25 0 26) 28 0 29) 27 0 28) 30 0 31) 27 1 30) 32 0 33) 27 2 32) 35 0 36) 34 0 35) 37 0 38) 34 1 37) 27 3 34) 40 0 41) 39 0 40) 42 0 43) 39 1 42) 44 0 45) 39 2 44) 46 0 47) 39 3 46) 27 4 39) 48 0 49) 27 12 48) 26 0 27) 51 0 52) 50 0 51) 53 0 54) 50 1 53) 55 0 56) 50 2 55) 58 0 59) 57 0 58) 60 0 61) 57 1 60) 50 3 57) 63 0 64) 62 0 63) 65 0 66) 62 1 65) 67 0 68) 62 2 67) 69 0 70) 62 3 69) 50 4 62) 71 0 72) 50 12 71) 26 1 50), D, 73)) (G := ((0 ≤ 1 ∧ 1 < 4) ∧ zob 50 1 73 = true) ∧ (zr 2) ∧ True) rfl ⟨⟨⟨by decide, by decide⟩, rfl⟩, by omega, trivial⟩ ?_
  refine z_br (4 ≤ (2 : Int)) 42 23 [] rfl (fun h => absurd h (show ¬ (4 ≤ (2 : Int)) from by decide)) (fun hx3 => ?_)
  refine z_n 5 (32, [(1, vi 2), (0, vr 25)], [vr 73, vr 73, vi 2, vr 26], ((zup (zup (zup (zup (zup (zup I 27 9 (-1)) 27 10 1500) 27 11 300) 50 9 (-1)) 50 10 1500) 50 11 300), (zupP (zupP (zupP (zupP (zupP (zupP (zupP (zupP (zupP (zupP (zupP (zupP (zupP (zupP (zupP (zupP (zupP (zupP (zupP (zupP (zupP (zupP (zupP (zupP (zupP (zupP (zupP (zupP (zupP (zupP (zupP (zupP (zupP (zupP (zupP (zupP (zupP (zupP (zupP (zupP (zupP (zupP (zupP (zupP (zupP (zupP (zupP P 25 0 26) 28 0 29) 27 0 28) 30 0 31) 27 1 30) 32 0 33) 27 2 32) 35 0 36) 34 0 35) 37 0 38) 34 1 37) 27 3 34) 40 0 41) 39 0 40) 42 0 43) 39 1 42) 44 0 45) 39 2 44) 46 0 47) 39 3 46) 27 4 39) 48 0 49) 27 12 48) 26 0 27) 51 0 52) 50 0 51) 53 0 54) 50 1 53) 55 0 56) 50 2 55) 58 0 59) 57 0 58) 60 0 61) 57 1 60) 50 3 57) 63 0 64) 62 0 63) 65 0 66) 62 1 65) 67 0 68) 62 2 67) 69 0 70) 62 3 69) 50 4 62) 71 0 72) 50 12 71) 26 1 50), D, 74)) (G := (zfresh ((zup (zup (zup (zup (zup (zup I 27 9 (-1)) 27 10 1500) 27 11 300) 50 9 (-1)) 50 10 1500) 50 11 300), (zupP (zupP (zupP (zupP (zupP (zupP (zupP (zupP (zupP (zupP (zupP (zupP (zupP (zupP (zupP (zupP (zupP (zupP (zupP (zupP (zupP (zupP (zupP (zupP (zupP (zupP (zupP (zupP (zupP (zupP (zupP (zupP (zupP (zupP (zupP (zupP (zupP (zupP (zupP (zupP (zupP (zupP (zupP (zupP (zupP (zupP (zupP P 25 0 26) 28 0 29) 27 0 28) 30 0 31) 27 1 30) 32 0 33) 27 2 32) 35 0 36) 34 0 35) 37 0 38) 34 1 37) 27 3 34) 40 0 41) 39 0 40) 42 0 43) 39 1 42) 44 0 45) 39 2 44) 46 0 47) 39 3 46) 27 4 39) 48 0 49) 27 12 48) 26 0 27) 51 0 52) 50 0 51) 53 0 54) 50 1 53) 55 0 56) 50 2 55) 58 0 59) 57 0 58) 60 0 61) 57 1 60) 50 3 57) 63 0 64) 62 0 63) 65 0 66) 62 1 65) 67 0 68) 62 2 67) 69 0 70) 62 3 69) 50 4 62) 71 0 72) 50 12 71) 26 1 50), D, 73)) ∧ True) rfl ⟨f73, trivial⟩ ?_
  refine z_cv 4 [vr 73] [vr 73, vi 2, vr 26] rfl (m_ct_73 f74 f75 f76 f77 f78 f79 f80 f81 f82 f83 f84 f85 f86 f87 f88 f89 f90 f91 f92 f93 f94 f95) ?_
  refine z_n 7 (20, [(1, vi 3), (0, vr 25)], [vi 4, vi 3], ((zup (zup (zup (zup (zup (zup (zup (zup (zup I 27 9 (-1)) 27 10 1500) 27 11 300) 50 9 (-1)) 50 10 1500) 50 11 300) 73 9 (-1)) 73 10 1500) 73 11 300), (zupP (zupP (zupP (zupP (zupP (zupP (zupP (zupP (zupP (zupP (zupP (zupP (zupP (zupP (zupP (zupP (zupP (zupP (zupP (zupP (zupP (zupP (zupP (zupP (zupP (zupP (zupP (zupP (zupP (zupP (zupP (zupP (zupP (zupP (zupP (zupP (zupP (zupP (zupP (zupP (zupP (zupP (zupP (zupP (zupP (zupP (zupP (zupP (zupP (zupP (zupP (zupP (zupP (zupP (zupP (zupP (zupP (zupP (zupP (zupP (zupP (zupP (zupP (zupP (zupP (zupP (zupP (zupP (zupP (zupP P 25 0 26) 28 0 29) 27 0 28) 30 0 31) 27 1 30) 32 0 33) 27 2 32) 35 0 36) 34 0 35) 37 0 38) 34 1 37) 27 3 34) 40 0 41) 39 0 40) 42 0 43) 39 1 42) 44 0 45) 39 2 44) 46 0 47) 39 3 46) 27 4 39) 48 0 49) 27 12 48) 26 0 27) 51 0 52) 50 0 51) 53 0 54) 50 1 53) 55 0 56) 50 2 55) 58 0 59) 57 0 58) 60 0 61) 57 1 60) 50 3 57) 63 0 64) 62 0 63) 65 0 66) 62 1 65) 67 0 68) 62 2 67) 69 0 70) 62 3 69) 50 4 62) 71 0 72) 50 12 71) 26 1 50) 74 0 75) 73 0 74) 76 0 77) 73 1 76) 78 0 79) 73 2 78) 81 0 82) 80 0 81) 83 0 84) 80 1 83) 73 3 80) 86 0 87) 85 0 86) 88 0 89) 85 1 88) 90 0 91) 85 2 90) 92 0 93) 85 3 92) 73 4 85) 94 0 95) 73 12 94) 26 2 73), D, 96)) (G := ((0 ≤ 2 ∧ 2 < 4) ∧ zob 73 1 96 = true) ∧ (zr 3) ∧ True) rfl ⟨⟨⟨by decide, by decide⟩, rfl⟩, by omega, trivial⟩ ?_
  refine z_br (4 ≤ (3 : Int)) 42 23 [] rfl (fun h => absurd h (show ¬ (4 ≤ (3 : Int)) from by decide)) (fun hx4 => ?_)
  refine z_n 5 (32, [(1, vi 3), (0, vr 25)], [vr 96, vr 96, vi 3, vr 26], ((zup (zup (zup (zup (zup (zup (zup (zup (zup I 27 9 (-1)) 27 10 1500) 27 11 300) 50 9 (-1)) 50 10 1500) 50 11 300) 73 9 (-1)) 73 10 1500) 73 11 300), (zupP (zupP (zupP (zupP (zupP (zupP (zupP (zupP (zupP (zupP (zupP (zupP (zupP (zupP (zupP (zupP (zupP (zupP (zupP (zupP (zupP (zupP (zupP (zupP (zupP (zupP (zupP (zupP (zupP (zupP (zupP (zupP (zupP (zupP (zupP (zupP (zupP (zupP (zupP (zupP (zupP (zupP (zupP (zupP (zupP (zupP (zupP (zupP (zupP (zupP (zupP (zupP (zupP (zupP (zupP (zupP (zupP (zupP (zupP (zupP (zupP (zupP (zupP (zupP (zupP (zupP (zupP (zupP (zupP (zupP P 25 0 26) 28 0 29) 27 0 28) 30 0 31) 27 1 30) 32 0 33) 27 2 32) 35 0 36) 34 0 35) 37 0 38) 34 1 37) 27 3 34) 40 0 41) 39 0 40) 42 0 43) 39 1 42) 44 0 45) 39 2 44) 46 0 47) 39 3 46) 27 4 39) 48 0 49) 27 12 48) 26 0 27) 51 0 52) 50 0 51) 53 0 54) 50 1 53) 55 0 56) 50 2 55) 58 0 59) 57 0 58) 60 0 61) 57 1 60) 50 3 57) 63 0 64) 62 0 63) 65 0 66) 62 1 65) 67 0 68) 62 2 67) 69 0 70) 62 3 69) 50 4 62) 71 0 72) 50 12 71) 26 1 50) 74 0 75) 73 0 74) 76 0 77) 73 1 76) 78 0 79) 73 2 78) 81 0 82) 80 0 81) 83 0 84) 80 1 83) 73 3 80) 86 0 87) 85 0 86) 88 0 89) 85 1 88) 90 0 91) 85 2 90) 92 0 93) 85 3 92) 73 4 85) 94 0 95) 73 12 94) 26 2 73), D, 97)) (G := (zfresh ((zup (zup (zup (zup (zup (zup (zup (zup (zup I 27 9 (-1)) 27 10 1500) 27 11 300) 50 9 (-1)) 50 10 1500) 50 11 300) 73 9 (-1)) 73 10 1500) 73 11 300), (zupP (zupP (zupP (zupP (zupP (zupP (zupP (zupP (zupP (zupP (zupP (zupP (zupP (zupP (zupP (zupP (zupP (zupP (zupP (zupP (zupP (zupP (zupP (zupP (zupP (zupP (zupP (zupP (zupP (zupP (zupP (zupP (zupP (zupP (zupP (zupP (zupP (zupP (zupP (zupP (zupP (zupP (zupP (zupP (zupP (zupP (zupP (zupP (zupP (zupP (zupP (zupP (zupP (zupP (zupP (zupP (zupP (zupP (zupP (zupP (zupP (zupP (zupP (zupP (zupP (zupP (zupP (zupP (zupP (zupP P 25 0 26) 28 0 29) 27 0 28) 30 0 31) 27 1 30) 32 0 33) 27 2 32) 35 0 36) 34 0 35) 37 0 38) 34 1 37) 27 3 34) 40 0 41) 39 0 40) 42 0 43) 39 1 42) 44 0 45) 39 2 44) 46 0 47) 39 3 46) 27 4 39) 48 0 49) 27 12 48) 26 0 27) 51 0 52) 50 0 51) 53 0 54) 50 1 53) 55 0 56) 50 2 55) 58 0 59) 57 0 58) 60 0 61) 57 1 60) 50 3 57) 63 0 64) 62 0 63) 65 0 66) 62 1 65) 67 0 68) 62 2 67) 69 0 70) 62 3 69) 50 4 62) 71 0 72) 50 12 71) 26 1 50) 74 0 75) 73 0 74) 76 0 77) 73 1 76) 78 0 79) 73 2 78) 81 0 82) 80 0 81) 83 0 84) 80 1 83) 73 3 80) 86 0 87) 85 0 86) 88 0 89) 85 1 88) 90 0 91) 85 2 90) 92 0 93) 85 3 92) 73 4 85) 94 0 95) 73 12 94) 26 2 73), D, 96)) ∧ True) rfl ⟨f96, trivial⟩ ?_
  refine z_cv 4 [vr 96] [vr 96, vi 3, vr 26] rfl (m_ct_96 f97 f98 f99 f100 f101 f102 f103 f104 f105 f106 f107 f108 f109 f110 f111 f112 f113 f114 f115 f116 f117 f118) ?_
  refine z_n 7 (20, [(1, vi 4), (0, vr 25)], [vi 4, vi 4], ((zup (zup (zup (zup (zup (zup (zup (zup (zup (zup (zup (zup I 27 9 (-1)) 27 10 1500) 27 11 300) 50 9 (-1)) 50 10 1500) 50 11 300) 73 9 (-1)) 73 10 1500) 73 11 300) 96 9 (-1)) 96 10 1500) 96 11 300), (zupP (zupP (zupP (zupP (zupP (zupP (zupP (zupP (zupP (zupP (zupP (zupP (zupP (zupP (zupP (zupP (zupP (zupP (zupP (zupP (zupP (zupP (zupP (zupP (zupP (zupP (zupP (zupP (zupP (zupP (zupP (zupP (zupP (zupP (zupP (zupP (zupP (zupP (zupP (zupP (zupP (zupP (zupP (zupP (zupP (zupP (zupP (zupP (zupP (zupP (zupP (zupP (zupP (zupP (zupP (zupP (zupP (zupP (zupP (zupP (zupP (zupP (zupP (zupP (zupP (zupP (zupP (zupP (zupP (zupP (zupP (zupP (zupP (zupP (zupP (zupP (zupP (zupP (zupP (zupP (zupP (zupP (zupP (zupP (zupP (zupP (zupP (zupP (zupP (zupP (zupP (zupP (zupP P 25 0 26) 28 0 29) 27 0 28) 30 0 31) 27 1 30) 32 0 33) 27 2 32) 35 0 36) 34 0 35) 37 0 38) 34 1 37) 27 3 34) 40 0 41) 39 0 40) 42 0 43) 39 1 42) 44 0 45) 39 2 44) 46 0 47) 39 3 46) 27 4 39) 48 0 49) 27 12 48) 26 0 27) 51 0 52) 50 0 51) 53 0 54) 50 1 53) 55 0 56) 50 2 55) 58 0 59) 57 0 58) 60 0 61) 57 1 60) 50 3 57) 63 0 64) 62 0 63) 65 0 66) 62 1 65) 67 0 68) 62 2 67) 69 0 70) 62 3 69) 50 4 62) 71 0 72) 50 12 71) 26 1 50) 74 0 75) 73 0 74) 76 0 77) 73 1 76) 78 0 79) 73 2 78) 81 0 82) 80 0 81) 83 0 84) 80 1 83) 73 3 80) 86 0 87) 85 0 86) 88 0 89) 85 1 88) 90 0 91) 85 2 90) 92 0 93) 85 3 92) 73 4 85) 94 0 95) 73 12 94) 26 2 73) 97 0 98) 96 0 97) 99 0 100) 96 1 99) 101 0 102) 96 2 101) 104 0 105) 103 0 104) 106 0 107) 103 1 106) 96 3 103) 109 0 110) 108 0 109) 111 0 112) 108 1 111) 113 0 114) 108 2 113) 115 0 116) 108 3 115) 96 4 108) 117 0 118) 96 12 117) 26 3 96), D, 119)) (G := ((0 ≤ 3 ∧ 3 < 4) ∧ zob 96 1 119 = true) ∧ (zr 4) ∧ True) rfl ⟨⟨⟨by decide, by decide⟩, rfl⟩, by omega, trivial⟩ ?_
  refine z_br (4 ≤ (4 : Int)) 42 23 [] rfl (fun hx5 => ?_) (fun h => absurd (show 4 ≤ (4 : Int) from by decide) h)
  exact z_ret rfl rfl rfl
set_option maxRecDepth 20000 in
theorem m_ct_120 {I : zI} {P : zP} {D : zD} (f121 : ∀ j, I 121 j = 0 ∧ P 121 j = 0 ∧ D 121 j = 0) : zMet 0 [vr 120, vi 4] (I, P, D, 121) none (I, (zupP P 120 0 121), D, 122) := by
  refine z_n 4 (6, [(0, vr 120), (1, vi 4)], [vi 4, vr 120], (I, P, D, 121)) rfl trivial ?_
  refine z_br (0 ≤ (4 : Int)) 13 9 [vr 120] rfl (fun hx1 => ?_) (fun h => absurd (show 0 ≤ (4 : Int) from by decide) h)
  refine z_n 3 (19, [(0, vr 120), (1, vi 4)], [], (I, (zupP P 120 0 121), D, 122)) (G := ((4 : Int) = (4 : Nat) ∧ zfresh (I, P, D, 121)) ∧ True) rfl ⟨⟨rfl, f121⟩, trivial⟩ ?_
  exact z_ret rfl rfl rfl
set_option maxRecDepth 20000 in
theorem m_ct_122 {I : zI} {P : zP} {D : zD} (f123 : ∀ j, I 123 j = 0 ∧ P 123 j = 0 ∧ D 123 j = 0) : zMet 0 [vr 122, vi 4] (I, P, D, 123) none (I, (zupP P 122 0 123), D, 124) := by
  refine z_n 4 (6, [(0, vr 122), (1, vi 4)], [vi 4, vr 122], (I, P, D, 123)) rfl trivial ?_
  refine z_br (0 ≤ (4 : Int)) 13 9 [vr 122] rfl (fun hx1 => ?_) (fun h => absurd (show 0 ≤ (4 : Int) from by decide) h)
  refine z_n 3 (19, [(0, vr 122), (1, vi 4)], [], (I, (zupP P 122 0 123), D, 124)) (G := ((4 : Int) = (4 : Nat) ∧ zfresh (I, P, D, 123)) ∧ True) rfl ⟨⟨rfl, f123⟩, trivial⟩ ?_
  exact z_ret rfl rfl rfl
set_option maxRecDepth 20000 in
theorem m_ct_125 {I : zI} {P : zP} {D : zD} (f126 : ∀ j, I 126 j = 0 ∧ P 126 j = 0 ∧ D 126 j = 0) : zMet 0 [vr 125, vi 9] (I, P, D, 126) none (I, (zupP P 125 0 126), D, 127) := by
  refine z_n 4 (6, [(0, vr 125), (1, vi 9)], [vi 9, vr 125], (I, P, D, 126)) rfl trivial ?_
  refine z_br (0 ≤ (9 : Int)) 13 9 [vr 125] rfl (fun hx1 => ?_) (fun h => absurd (show 0 ≤ (9 : Int) from by decide) h)
  refine z_n 3 (19, [(0, vr 125), (1, vi 9)], [], (I, (zupP P 125 0 126), D, 127)) (G := ((9 : Int) = (9 : Nat) ∧ zfresh (I, P, D, 126)) ∧ True) rfl ⟨⟨rfl, f126⟩, trivial⟩ ?_
  exact z_ret rfl rfl rfl
set_option maxRecDepth 20000 in
theorem m_ct_127 {I : zI} {P : zP} {D : zD} (f128 : ∀ j, I 128 j = 0 ∧ P 128 j = 0 ∧ D 128 j = 0) : zMet 0 [vr 127, vi 9] (I, P, D, 128) none (I, (zupP P 127 0 128), D, 129) := by
  refine z_n 4 (6, [(0, vr 127), (1, vi 9)], [vi 9, vr 127], (I, P, D, 128)) rfl trivial ?_
  refine z_br (0 ≤ (9 : Int)) 13 9 [vr 127] rfl (fun hx1 => ?_) (fun h => absurd (show 0 ≤ (9 : Int) from by decide) h)
  refine z_n 3 (19, [(0, vr 127), (1, vi 9)], [], (I, (zupP P 127 0 128), D, 129)) (G := ((9 : Int) = (9 : Nat) ∧ zfresh (I, P, D, 128)) ∧ True) rfl ⟨⟨rfl, f128⟩, trivial⟩ ?_
  exact z_ret rfl rfl rfl
set_option maxRecDepth 20000 in
theorem m_ct_119 {I : zI} {P : zP} {D : zD} (f120 : ∀ j, I 120 j = 0 ∧ P 120 j = 0 ∧ D 120 j = 0) (f121 : ∀ j, I 121 j = 0 ∧ P 121 j = 0 ∧ D 121 j = 0) (f122 : ∀ j, I 122 j = 0 ∧ P 122 j = 0 ∧ D 122 j = 0) (f123 : ∀ j, I 123 j = 0 ∧ P 123 j = 0 ∧ D 123 j = 0) (f124 : ∀ j, I 124 j = 0 ∧ P 124 j = 0 ∧ D 124 j = 0) (f125 : ∀ j, I 125 j = 0 ∧ P 125 j = 0 ∧ D 125 j = 0) (f126 : ∀ j, I 126 j = 0 ∧ P 126 j = 0 ∧ D 126 j = 0) (f127 : ∀ j, I 127 j = 0 ∧ P 127 j = 0 ∧ D 127 j = 0) (f128 : ∀ j, I 128 j = 0 ∧ P 128 j = 0 ∧ D 128 j = 0) : zMet 31 [vr 119] (I, P, D, 120) none (I, (zupP (zupP (zupP (zupP (zupP (zupP (zupP (zupP (zupP P 120 0 121) 119 0 120) 122 0 123) 119 1 122) 119 3 124) 125 0 126) 119 4 125) 127 0 128) 119 5 127), D, 129) := by
  refine z_n 6 (10, [(0, vr 119)], [vi 4, vr 120, vr 120, vr 119], (I, P, D, 121)) (G := (zfresh (I, P, D, 120)) ∧ True) rfl ⟨f120, trivial⟩ ?_
  refine z_cv 0 [vr 120, vi 4] [vr 120, vr 119] rfl (m_ct_120 f121) ?_
  refine z_n 5 (22, [(0, vr 119)], [vi 4, vr 122, vr 122, vr 119], (I, (zupP (zupP P 120 0 121) 119 0 120), D, 123)) (G := (zfresh (I, (zupP (zupP P 120 0 121) 119 0 120), D, 122)) ∧ True) rfl ⟨f122, trivial⟩ ?_
  refine z_cv 0 [vr 122, vi 4] [vr 122, vr 119] rfl (m_ct_122 f123) ?_
  refine z_n 9 (42, [(0, vr 119)], [vi 9, vr 125, vr 125, vr 119], (I, (zupP (zupP (zupP (zupP (zupP P 120 0 121) 119 0 120) 122 0 123) 119 1 122) 119 3 124), D, 126)) (G := ((4 : Int) = (4 : Nat) ∧ zfresh (I, (zupP (zupP (zupP (zupP P 120 0 121) 119 0 120) 122 0 123) 119 1 122), D, 124)) ∧ (zfresh (I, (zupP (zupP (zupP (zupP (zupP P 120 0 121) 119 0 120) 122 0 123) 119 1 122) 119 3 124), D, 125)) ∧ True) rfl ⟨⟨rfl, f124⟩, f125, trivial⟩ ?_
  refine z_cv 0 [vr 125, vi 9] [vr 125, vr 119] rfl (m_ct_125 f126) ?_
  refine z_n 5 (55, [(0, vr 119)], [vi 9, vr 127, vr 127, vr 119], (I, (zupP (zupP (zupP (zupP (zupP (zupP (zupP P 120 0 121) 119 0 120) 122 0 123) 119 1 122) 119 3 124) 125 0 126) 119 4 125), D, 128)) (G := (zfresh (I, (zupP (zupP (zupP (zupP (zupP (zupP (zupP P 120 0 121) 119 0 120) 122 0 123) 119 1 122) 119 3 124) 125 0 126) 119 4 125), D, 127)) ∧ True) rfl ⟨f127, trivial⟩ ?_
  refine z_cv 0 [vr 127, vi 9] [vr 127, vr 119] rfl (m_ct_127 f128) ?_
  refine z_n 1 (61, [(0, vr 119)], [], (I, (zupP (zupP (zupP (zupP (zupP (zupP (zupP (zupP (zupP P 120 0 121) 119 0 120) 122 0 123) 119 1 122) 119 3 124) 125 0 126) 119 4 125) 127 0 128) 119 5 127), D, 129)) rfl trivial ?_
  exact z_ret rfl rfl rfl
set_option maxRecDepth 20000 in
theorem m_ct_131 {I : zI} {P : zP} {D : zD} (f132 : ∀ j, I 132 j = 0 ∧ P 132 j = 0 ∧ D 132 j = 0) : zMet 0 [vr 131, vi 4] (I, P, D, 132) none (I, (zupP P 131 0 132), D, 133) := by
  refine z_n 4 (6, [(0, vr 131), (1, vi 4)], [vi 4, vr 131], (I, P, D, 132)) rfl trivial ?_
  refine z_br (0 ≤ (4 : Int)) 13 9 [vr 131] rfl (fun hx1 => ?_) (fun h => absurd (show 0 ≤ (4 : Int) from by decide) h)
  refine z_n 3 (19, [(0, vr 131), (1, vi 4)], [], (I, (zupP P 131 0 132), D, 133)) (G := ((4 : Int) = (4 : Nat) ∧ zfresh (I, P, D, 132)) ∧ True) rfl ⟨⟨rfl, f132⟩, trivial⟩ ?_
  exact z_ret rfl rfl rfl
set_option maxRecDepth 20000 in
theorem m_ct_133 {I : zI} {P : zP} {D : zD} (f134 : ∀ j, I 134 j = 0 ∧ P 134 j = 0 ∧ D 134 j = 0) : zMet 0 [vr 133, vi 4] (I, P, D, 134) none (I, (zupP P 133 0 134), D, 135) := by
  refine z_n 4 (6, [(0, vr 133), (1, vi 4)], [vi 4, vr 133], (I, P, D, 134)) rfl trivial ?_
  refine z_br (0 ≤ (4 : Int)) 13 9 [vr 133] rfl (fun hx1 => ?_) (fun h => absurd (show 0 ≤ (4 : Int) from by decide) h)
  refine z_n 3 (19, [(0, vr 133), (1, vi 4)], [], (I, (zupP P 133 0 134), D, 135)) (G := ((4 : Int) = (4 : Nat) ∧ zfresh (I, P, D, 134)) ∧ True) rfl ⟨⟨rfl, f134⟩, trivial⟩ ?_
  exact z_ret rfl rfl rfl
set_option maxRecDepth 20000 in
theorem m_ct_130 {I : zI} {P : zP} {D : zD} (f131 : ∀ j, I 131 j = 0 ∧ P 131 j = 0 ∧ D 131 j = 0) (f132 : ∀ j, I 132 j = 0 ∧ P 132 j = 0 ∧ D 132 j = 0) (f133 : ∀ j, I 133 j = 0 ∧ P 133 j = 0 ∧ D 133 j = 0) (f134 : ∀ j, I 134 j = 0 ∧ P 134 j = 0 ∧ D 134 j = 0) : zMet 50 [vr 130] (I, P, D, 131) none (I, (zupP (zupP (zupP (zupP P 131 0 132) 130 0 131) 133 0 134) 130 1 133), D, 135) := by
  refine z_n 6 (10, [(0, vr 130)], [vi 4, vr 131, vr 131, vr 130], (I, P, D, 132)) (G := (zfresh (I, P, D, 131)) ∧ True) rfl ⟨f131, trivial⟩ ?_
  refine z_cv 0 [vr 131, vi 4] [vr 131, vr 130] rfl (m_ct_131 f132) ?_
  refine z_n 5 (22, [(0, vr 130)], [vi 4, vr 133, vr 133, vr 130], (I, (zupP (zupP P 131 0 132) 130 0 131), D, 134)) (G := (zfresh (I, (zupP (zupP P 131 0 132) 130 0 131), D, 133)) ∧ True) rfl ⟨f133, trivial⟩ ?_
  refine z_cv 0 [vr 133, vi 4] [vr 133, vr 130] rfl (m_ct_133 f134) ?_
  refine z_n 1 (28, [(0, vr 130)], [], (I, (zupP (zupP (zupP (zupP P 131 0 132) 130 0 131) 133 0 134) 130 1 133), D, 135)) rfl trivial ?_
  exact z_ret rfl rfl rfl
set_option maxRecDepth 20000 in
theorem m_ct_135 {I : zI} {P : zP} {D : zD} (f136 : ∀ j, I 136 j = 0 ∧ P 136 j = 0 ∧ D 136 j = 0) : zMet 0 [vr 135, vi 80] (I, P, D, 136) none (I, (zupP P 135 0 136), D, 137) := by
  refine z_n 4 (6, [(0, vr 135), (1, vi 80)], [vi 80, vr 135], (I, P, D, 136)) rfl trivial ?_
  refine z_br (0 ≤ (80 : Int)) 13 9 [vr 135] rfl (fun hx1 => ?_) (fun h => absurd (show 0 ≤ (80 : Int) from by decide) h)
  refine z_n 3 (19, [(0, vr 135), (1, vi 80)], [], (I, (zupP P 135 0 136), D, 137)) (G := ((80 : Int) = (80 : Nat) ∧ zfresh (I, P, D, 136)) ∧ True) rfl ⟨⟨rfl, f136⟩, trivial⟩ ?_
  exact z_ret rfl rfl rfl
set_option maxRecDepth 20000 in
theorem m_ct_129 {I : zI} {P : zP} {D : zD} (f130 : ∀ j, I 130 j = 0 ∧ P 130 j = 0 ∧ D 130 j = 0) (f131 : ∀ j, I 131 j = 0 ∧ P 131 j = 0 ∧ D 131 j = 0) (f132 : ∀ j, I 132 j = 0 ∧ P 132 j = 0 ∧ D 132 j = 0) (f133 : ∀ j, I 133 j = 0 ∧ P 133 j = 0 ∧ D 133 j = 0) (f134 : ∀ j, I 134 j = 0 ∧ P 134 j = 0 ∧ D 134 j = 0) (f135 : ∀ j, I 135 j = 0 ∧ P 135 j = 0 ∧ D 135 j = 0) (f136 : ∀ j, I 136 j = 0 ∧ P 136 j = 0 ∧ D 136 j = 0) : zMet 56 [vr 129] (I, P, D, 130) none (I, (zupP (zupP (zupP (zupP (zupP (zupP (zupP P 131 0 132) 130 0 131) 133 0 134) 130 1 133) 129 4 130) 135 0 136) 129 5 135), D, 137) := by
  refine z_n 5 (9, [(0, vr 129)], [vr 130, vr 130, vr 129], (I, P, D, 131)) (G := (zfresh (I, P, D, 130)) ∧ True) rfl ⟨f130, trivial⟩ ?_
  refine z_cv 50 [vr 130] [vr 130, vr 129] rfl (m_ct_130 f131 f132 f133 f134) ?_
  refine z_n 5 (22, [(0, vr 129)], [vi 80, vr 135, vr 135, vr 129], (I, (zupP (zupP (zupP (zupP (zupP P 131 0 132) 130 0 131) 133 0 134) 130 1 133) 129 4 130), D, 136)) (G := (zfresh (I, (zupP (zupP (zupP (zupP (zupP P 131 0 132) 130 0 131) 133 0 134) 130 1 133) 129 4 130), D, 135)) ∧ True) rfl ⟨f135, trivial⟩ ?_
  refine z_cv 0 [vr 135, vi 80] [vr 135, vr 129] rfl (m_ct_135 f136) ?_
  refine z_n 1 (28, [(0, vr 129)], [], (I, (zupP (zupP (zupP (zupP (zupP (zupP (zupP P 131 0 132) 130 0 131) 133 0 134) 130 1 133) 129 4 130) 135 0 136) 129 5 135), D, 137)) rfl trivial ?_
  exact z_ret rfl rfl rfl
