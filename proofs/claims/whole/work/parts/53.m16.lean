set_option maxRecDepth 20000 in
theorem m_nu_y {I : zI} {π : Int → Nat} {D : zD} {G : Int → Int} {l a p v s : Int} {r : Option zV} {τ : zS} (h4 : I 137 4 = l) (hl : 0 ≤ l ∧ l ≤ 80) (hG : (∀ p, 0 ≤ p → p < l → I 140 p = G p) ∧ (∀ p, l ≤ p → G p = 0) ∧ ∀ p, 0 ≤ p → 0 ≤ G p ∧ G p ≤ 126) (h5 : I 137 5 = a) (ha : 0 ≤ a ∧ a ≤ 90) (hp : 0 ≤ p ∧ p ≤ 90) (hv : 0 ≤ v ∧ v ≤ 99) (hd : a < l ∧ a < p + 2 ∧ 48 ≤ G a ∧ G a ≤ 57) (hk : zRuns 134 7 [(3, vi (10 * v + G a - 48)), (2, vi p), (0, vr 137), (1, vi s)] [] ((zup I 137 5 (a + 1)), zPp π, D, 147) r τ) : zRuns 134 7 [(3, vi v), (2, vi p), (0, vr 137), (1, vi s)] [] (I, zPp π, D, 147) r τ := by
  refine z_n 2 (11, [(3, vi v), (2, vi p), (0, vr 137), (1, vi s)], [vi (I 137 5)], (I, zPp π, D, 147)) rfl trivial ?_
  refine z_top (b := a) (h5) ?_
  refine z_n 2 (15, [(3, vi v), (2, vi p), (0, vr 137), (1, vi s)], [vi (I 137 4), vi a], (I, zPp π, D, 147)) rfl trivial ?_
  refine z_top (b := l) (h4) ?_
  refine z_br (l ≤ a) 78 18 [] rfl (fun h => absurd h (show ¬ (l ≤ a) from by omega)) (fun hx1 => ?_)
  refine z_n 2 (22, [(3, vi v), (2, vi p), (0, vr 137), (1, vi s)], [vi (I 137 5)], (I, zPp π, D, 147)) rfl trivial ?_
  refine z_top (b := a) (h5) ?_
  refine z_n 3 (25, [(3, vi v), (2, vi p), (0, vr 137), (1, vi s)], [vi (p + 2), vi a], (I, zPp π, D, 147)) (G := (zr (p + 2)) ∧ True) rfl ⟨by omega, trivial⟩ ?_
  refine z_br ((p + 2) ≤ a) 78 28 [] rfl (fun h => absurd h (show ¬ ((p + 2) ≤ a) from by omega)) (fun hx2 => ?_)
  refine z_n 4 (36, [(3, vi v), (2, vi p), (0, vr 137), (1, vi s)], [vi (I 137 5), vr 140], (I, zPp π, D, 147)) rfl trivial ?_
  refine z_top (b := a) (h5) ?_
  refine z_n 1 (37, [(3, vi v), (2, vi p), (0, vr 137), (1, vi s)], [vi (I 140 a)], (I, zPp π, D, 147)) (G := (0 ≤ a ∧ a < 80) ∧ True) rfl ⟨by omega, trivial⟩ ?_
  refine z_top (b := G a) (hG.1 a ha.1 (by omega)) ?_
  refine z_n 2 (41, [(3, vi v), (2, vi p), (0, vr 137), (1, vi s)], [vi 57, vi 48, vi (G a)], (I, zPp π, D, 147)) rfl trivial ?_
  refine z_ci 93 [vi (G a), vi 48, vi 57] [] rfl (m_in1 (by omega) (by omega)) ?_
  refine z_br ((1 : Int) = 0) 78 47 [] rfl (fun h => absurd h (show ¬ ((1 : Int) = 0) from by decide)) (fun hx3 => ?_)
  refine z_n 7 (59, [(3, vi v), (2, vi p), (0, vr 137), (1, vi s)], [vi (I 137 5), vr 140, vi (10 * v)], (I, zPp π, D, 147)) (G := (zr (10 * v)) ∧ True) rfl ⟨by omega, trivial⟩ ?_
  refine z_top (b := a) (h5) ?_
  refine z_n 1 (60, [(3, vi v), (2, vi p), (0, vr 137), (1, vi s)], [vi (I 140 a), vi (10 * v)], (I, zPp π, D, 147)) (G := (0 ≤ a ∧ a < 80) ∧ True) rfl ⟨by omega, trivial⟩ ?_
  refine z_top (b := G a) (hG.1 a ha.1 (by omega)) ?_
  refine z_n 7 (70, [(3, vi (((10 * v) + (G a)) - 48)), (2, vi p), (0, vr 137), (1, vi s)], [vi (I 137 5), vr 137], (I, zPp π, D, 147)) (G := (zr ((10 * v) + (G a))) ∧ (zr (((10 * v) + (G a)) - 48)) ∧ True) rfl ⟨by omega, by omega, trivial⟩ ?_
  refine z_top (b := a) (h5) ?_
  refine z_n 4 (7, [(3, vi (((10 * v) + (G a)) - 48)), (2, vi p), (0, vr 137), (1, vi s)], [], ((zup I 137 5 (a + 1)), zPp π, D, 147)) (G := (zr (a + 1)) ∧ True) rfl ⟨by omega, trivial⟩ ?_
  refine z_sub [(3, vi (((10 * v) + (G a)) - 48)), (2, vi p), (0, vr 137), (1, vi s)] [0, 1, 2, 3] rfl ?_
  exact hk
set_option maxRecDepth 20000 in
theorem m_nu_n {I : zI} {π : Int → Nat} {D : zD} {G : Int → Int} {l a p v s : Int} {r : Option zV} {τ : zS} (h4 : I 137 4 = l) (hl : 0 ≤ l ∧ l ≤ 80) (hG : (∀ p, 0 ≤ p → p < l → I 140 p = G p) ∧ (∀ p, l ≤ p → G p = 0) ∧ ∀ p, 0 ≤ p → 0 ≤ G p ∧ G p ≤ 126) (h5 : I 137 5 = a) (ha : 0 ≤ a ∧ a ≤ 90) (hp : 0 ≤ p ∧ p ≤ 90) (hd : ¬ (a < l ∧ a < p + 2 ∧ 48 ≤ G a ∧ G a ≤ 57)) (hk : zRuns 134 78 [(3, vi v), (2, vi p), (0, vr 137), (1, vi s)] [] (I, zPp π, D, 147) r τ) : zRuns 134 7 [(3, vi v), (2, vi p), (0, vr 137), (1, vi s)] [] (I, zPp π, D, 147) r τ := by
  by_cases d1 : a < l
  · by_cases d2 : a < p + 2
    · refine z_n 2 (11, [(3, vi v), (2, vi p), (0, vr 137), (1, vi s)], [vi (I 137 5)], (I, zPp π, D, 147)) rfl trivial ?_
      refine z_top (b := a) (h5) ?_
      refine z_n 2 (15, [(3, vi v), (2, vi p), (0, vr 137), (1, vi s)], [vi (I 137 4), vi a], (I, zPp π, D, 147)) rfl trivial ?_
      refine z_top (b := l) (h4) ?_
      refine z_br (l ≤ a) 78 18 [] rfl (fun h => absurd h (show ¬ (l ≤ a) from by omega)) (fun hx1 => ?_)
      refine z_n 2 (22, [(3, vi v), (2, vi p), (0, vr 137), (1, vi s)], [vi (I 137 5)], (I, zPp π, D, 147)) rfl trivial ?_
      refine z_top (b := a) (h5) ?_
      refine z_n 3 (25, [(3, vi v), (2, vi p), (0, vr 137), (1, vi s)], [vi (p + 2), vi a], (I, zPp π, D, 147)) (G := (zr (p + 2)) ∧ True) rfl ⟨by omega, trivial⟩ ?_
      refine z_br ((p + 2) ≤ a) 78 28 [] rfl (fun h => absurd h (show ¬ ((p + 2) ≤ a) from by omega)) (fun hx2 => ?_)
      refine z_n 4 (36, [(3, vi v), (2, vi p), (0, vr 137), (1, vi s)], [vi (I 137 5), vr 140], (I, zPp π, D, 147)) rfl trivial ?_
      refine z_top (b := a) (h5) ?_
      refine z_n 1 (37, [(3, vi v), (2, vi p), (0, vr 137), (1, vi s)], [vi (I 140 a)], (I, zPp π, D, 147)) (G := (0 ≤ a ∧ a < 80) ∧ True) rfl ⟨by omega, trivial⟩ ?_
      refine z_top (b := G a) (hG.1 a ha.1 (by omega)) ?_
      refine z_n 2 (41, [(3, vi v), (2, vi p), (0, vr 137), (1, vi s)], [vi 57, vi 48, vi (G a)], (I, zPp π, D, 147)) rfl trivial ?_
      refine z_ci 93 [vi (G a), vi 48, vi 57] [] rfl (m_in0 (by omega)) ?_
      refine z_br ((0 : Int) = 0) 78 47 [] rfl (fun hx3 => ?_) (fun h => absurd (show (0 : Int) = 0 from by decide) h)
      refine z_sub [(3, vi v), (2, vi p), (0, vr 137), (1, vi s)] [0, 1, 2, 3] rfl ?_
      exact hk
    · refine z_n 2 (11, [(3, vi v), (2, vi p), (0, vr 137), (1, vi s)], [vi (I 137 5)], (I, zPp π, D, 147)) rfl trivial ?_
      refine z_top (b := a) (h5) ?_
      refine z_n 2 (15, [(3, vi v), (2, vi p), (0, vr 137), (1, vi s)], [vi (I 137 4), vi a], (I, zPp π, D, 147)) rfl trivial ?_
      refine z_top (b := l) (h4) ?_
      refine z_br (l ≤ a) 78 18 [] rfl (fun h => absurd h (show ¬ (l ≤ a) from by omega)) (fun hx1 => ?_)
      refine z_n 2 (22, [(3, vi v), (2, vi p), (0, vr 137), (1, vi s)], [vi (I 137 5)], (I, zPp π, D, 147)) rfl trivial ?_
      refine z_top (b := a) (h5) ?_
      refine z_n 3 (25, [(3, vi v), (2, vi p), (0, vr 137), (1, vi s)], [vi (p + 2), vi a], (I, zPp π, D, 147)) (G := (zr (p + 2)) ∧ True) rfl ⟨by omega, trivial⟩ ?_
      refine z_br ((p + 2) ≤ a) 78 28 [] rfl (fun hx2 => ?_) (fun h => absurd (show (p + 2) ≤ a from by omega) h)
      refine z_sub [(3, vi v), (2, vi p), (0, vr 137), (1, vi s)] [0, 1, 2, 3] rfl ?_
      exact hk
  · refine z_n 2 (11, [(3, vi v), (2, vi p), (0, vr 137), (1, vi s)], [vi (I 137 5)], (I, zPp π, D, 147)) rfl trivial ?_
    refine z_top (b := a) (h5) ?_
    refine z_n 2 (15, [(3, vi v), (2, vi p), (0, vr 137), (1, vi s)], [vi (I 137 4), vi a], (I, zPp π, D, 147)) rfl trivial ?_
    refine z_top (b := l) (h4) ?_
    refine z_br (l ≤ a) 78 18 [] rfl (fun hx1 => ?_) (fun h => absurd (show l ≤ a from by omega) h)
    refine z_sub [(3, vi v), (2, vi p), (0, vr 137), (1, vi s)] [0, 1, 2, 3] rfl ?_
    exact hk
set_option maxRecDepth 20000 in
theorem m_nu_t {I : zI} {π : Int → Nat} {D : zD} {G : Int → Int} {l a p v s : Int} (h4 : I 137 4 = l) (hl : 0 ≤ l ∧ l ≤ 80) (hG : (∀ p, 0 ≤ p → p < l → I 140 p = G p) ∧ (∀ p, l ≤ p → G p = 0) ∧ ∀ p, 0 ≤ p → 0 ≤ G p ∧ G p ≤ 126) (h5 : I 137 5 = a) (ha : 0 ≤ a ∧ a ≤ 90) (hs : 0 < s) : zRuns 134 78 [(3, vi v), (2, vi p), (0, vr 137), (1, vi s)] [] (I, zPp π, D, 147) (some (vi (if p < a ∧ G a = s then v else -1))) ((zup I 137 5 (a + 1)), zPp π, D, 147) := by
  have hg0 := hG.2.1 a
  refine z_n 2 (82, [(3, vi v), (2, vi p), (0, vr 137), (1, vi s)], [vi (I 137 5)], (I, zPp π, D, 147)) rfl trivial ?_
  refine z_top (b := a) (h5) ?_
  refine z_n 1 (83, [(3, vi v), (2, vi p), (0, vr 137), (1, vi s)], [vi p, vi a], (I, zPp π, D, 147)) rfl trivial ?_
  refine z_br (a ≤ p) 114 86 [] rfl (fun hx1 => ?_) (fun hx1 => ?_)
  · refine z_n 5 (122, [(4, vi 0), (3, vi v), (2, vi p), (0, vr 137), (1, vi s)], [vi (I 137 5), vr 137], (I, zPp π, D, 147)) rfl trivial ?_
    refine z_top (b := a) (h5) ?_
    refine z_n 4 (129, [(4, vi 0), (3, vi v), (2, vi p), (0, vr 137), (1, vi s)], [vi 0], ((zup I 137 5 (a + 1)), zPp π, D, 147)) (G := (zr (a + 1)) ∧ True) rfl ⟨by omega, trivial⟩ ?_
    refine z_br ((0 : Int) = 0) 136 132 [] rfl (fun hx2 => ?_) (fun h => absurd (show (0 : Int) = 0 from by decide) h)
    refine z_n 1 (137, [(4, vi 0), (3, vi v), (2, vi p), (0, vr 137), (1, vi s)], [vi (-1)], ((zup I 137 5 (a + 1)), zPp π, D, 147)) rfl trivial ?_
    first | (exfalso; omega) | exact z_ret rfl (zv1 (by first | rw [if_pos (by omega)] | rw [if_neg (by omega)])) rfl
  · refine z_n 2 (90, [(3, vi v), (2, vi p), (0, vr 137), (1, vi s)], [vi (I 137 5)], (I, zPp π, D, 147)) rfl trivial ?_
    refine z_top (b := a) (h5) ?_
    refine z_n 2 (94, [(3, vi v), (2, vi p), (0, vr 137), (1, vi s)], [vi (I 137 4), vi a], (I, zPp π, D, 147)) rfl trivial ?_
    refine z_top (b := l) (h4) ?_
    refine z_br (l ≤ a) 114 97 [] rfl (fun hx3 => ?_) (fun hx3 => ?_)
    · refine z_n 5 (122, [(4, vi 0), (3, vi v), (2, vi p), (0, vr 137), (1, vi s)], [vi (I 137 5), vr 137], (I, zPp π, D, 147)) rfl trivial ?_
      refine z_top (b := a) (h5) ?_
      refine z_n 4 (129, [(4, vi 0), (3, vi v), (2, vi p), (0, vr 137), (1, vi s)], [vi 0], ((zup I 137 5 (a + 1)), zPp π, D, 147)) (G := (zr (a + 1)) ∧ True) rfl ⟨by omega, trivial⟩ ?_
      refine z_br ((0 : Int) = 0) 136 132 [] rfl (fun hx4 => ?_) (fun h => absurd (show (0 : Int) = 0 from by decide) h)
      refine z_n 1 (137, [(4, vi 0), (3, vi v), (2, vi p), (0, vr 137), (1, vi s)], [vi (-1)], ((zup I 137 5 (a + 1)), zPp π, D, 147)) rfl trivial ?_
      first | (exfalso; omega) | exact z_ret rfl (zv1 (by first | rw [if_pos (by omega)] | rw [if_neg (by omega)])) rfl
    · refine z_n 4 (105, [(3, vi v), (2, vi p), (0, vr 137), (1, vi s)], [vi (I 137 5), vr 140], (I, zPp π, D, 147)) rfl trivial ?_
      refine z_top (b := a) (h5) ?_
      refine z_n 1 (106, [(3, vi v), (2, vi p), (0, vr 137), (1, vi s)], [vi (I 140 a)], (I, zPp π, D, 147)) (G := (0 ≤ a ∧ a < 80) ∧ True) rfl ⟨by omega, trivial⟩ ?_
      refine z_top (b := G a) (hG.1 a ha.1 (by omega)) ?_
      refine z_n 1 (107, [(3, vi v), (2, vi p), (0, vr 137), (1, vi s)], [vi s, vi (G a)], (I, zPp π, D, 147)) rfl trivial ?_
      refine z_br (¬ (G a) = s) 114 110 [] rfl (fun hx5 => ?_) (fun hx5 => ?_)
      · refine z_n 5 (122, [(4, vi 0), (3, vi v), (2, vi p), (0, vr 137), (1, vi s)], [vi (I 137 5), vr 137], (I, zPp π, D, 147)) rfl trivial ?_
        refine z_top (b := a) (h5) ?_
        refine z_n 4 (129, [(4, vi 0), (3, vi v), (2, vi p), (0, vr 137), (1, vi s)], [vi 0], ((zup I 137 5 (a + 1)), zPp π, D, 147)) (G := (zr (a + 1)) ∧ True) rfl ⟨by omega, trivial⟩ ?_
        refine z_br ((0 : Int) = 0) 136 132 [] rfl (fun hx6 => ?_) (fun h => absurd (show (0 : Int) = 0 from by decide) h)
        refine z_n 1 (137, [(4, vi 0), (3, vi v), (2, vi p), (0, vr 137), (1, vi s)], [vi (-1)], ((zup I 137 5 (a + 1)), zPp π, D, 147)) rfl trivial ?_
        first | (exfalso; omega) | exact z_ret rfl (zv1 (by first | rw [if_pos (by omega)] | rw [if_neg (by omega)])) rfl
      · refine z_n 6 (122, [(4, vi 1), (3, vi v), (2, vi p), (0, vr 137), (1, vi s)], [vi (I 137 5), vr 137], (I, zPp π, D, 147)) rfl trivial ?_
        refine z_top (b := a) (h5) ?_
        refine z_n 4 (129, [(4, vi 1), (3, vi v), (2, vi p), (0, vr 137), (1, vi s)], [vi 1], ((zup I 137 5 (a + 1)), zPp π, D, 147)) (G := (zr (a + 1)) ∧ True) rfl ⟨by omega, trivial⟩ ?_
        refine z_br ((1 : Int) = 0) 136 132 [] rfl (fun h => absurd h (show ¬ ((1 : Int) = 0) from by decide)) (fun hx7 => ?_)
        refine z_n 2 (137, [(4, vi 1), (3, vi v), (2, vi p), (0, vr 137), (1, vi s)], [vi v], ((zup I 137 5 (a + 1)), zPp π, D, 147)) rfl trivial ?_
        first | (exfalso; omega) | exact z_ret rfl (zv1 (by first | rw [if_pos (by omega)] | rw [if_neg (by omega)])) rfl
theorem zup_uu {I : zI} {r : Nat} {k a b : Int} : zup (zup I r k a) r k b = zup I r k b := by
  funext q j
  unfold zup
  split <;> rfl
set_option maxRecDepth 20000 in
theorem m_number {I : zI} {π : Int → Nat} {D : zD} {G : Int → Int} {l p s : Int} (h4 : I 137 4 = l) (hl : 0 ≤ l ∧ l ≤ 80) (hG : (∀ p, 0 ≤ p → p < l → I 140 p = G p) ∧ (∀ p, l ≤ p → G p = 0) ∧ ∀ p, 0 ≤ p → 0 ≤ G p ∧ G p ≤ 126) (h5 : I 137 5 = p) (ha : 0 ≤ p ∧ p ≤ 80) (hs : 0 < s) : zMet 134 [vr 137, vi s] (I, zPp π, D, 147) (some (vi (if 0 < zdg G p ∧ G (p + zdg G p) = s then zvln G p (zdg G p) else -1))) ((zup I 137 5 (p + zdg G p + 1)), zPp π, D, 147) := by
  have hg0 := hG.2.1
  have hg1 := hG.2.2
  have hrun : zRuns 134 7 [(3, vi 0), (2, vi p), (0, vr 137), (1, vi s)] [] (I, zPp π, D, 147) (some (vi (if 0 < zdg G p ∧ G (p + zdg G p) = s then zvln G p (zdg G p) else -1))) ((zup I 137 5 (p + zdg G p + 1)), zPp π, D, 147) := by
    by_cases d1 : 48 ≤ G p ∧ G p ≤ 57
    · have p1 : p < l := by by_cases h9 : p < l; exact h9; have := hg0 p (by omega); omega
      refine m_nu_y h4 hl hG h5 (by omega) (by omega) (by omega) ⟨p1, by omega, d1⟩ ?_
      by_cases d2 : 48 ≤ G (p + 1) ∧ G (p + 1) ≤ 57
      · have p2 : p + 1 < l := by by_cases h9 : p + 1 < l; exact h9; have := hg0 (p + 1) (by omega); omega
        refine m_nu_y (a := p + 1) (I := zup I 137 5 (p + 1)) h4 hl hG rfl (by omega) (by omega) (by omega) ⟨p2, by omega, d2⟩ ?_
        rw [zup_uu]
        refine m_nu_n (a := p + 1 + 1) (I := zup I 137 5 (p + 1 + 1)) h4 hl hG rfl (by omega) (by omega) (by omega) ?_
        have ed : zdg G p = 2 := by unfold zdg; rw [if_pos d1, if_pos d2]
        have h := m_nu_t (a := p + 1 + 1) (I := zup I 137 5 (p + 1 + 1)) (π := π) (D := D) (p := p) (v := 10 * (10 * 0 + G p - 48) + G (p + 1) - 48) h4 hl hG rfl (by omega) hs
        rw [zup_uu] at h
        rw [ed, show zvln G p 2 = 10 * (10 * 0 + G p - 48) + G (p + 1) - 48 from by unfold zvln; rw [if_neg (by decide), if_neg (by decide)]; omega, show p + 2 = p + 1 + 1 by omega]
        have ec : (if p < p + 1 + 1 ∧ G (p + 1 + 1) = s then 10 * (10 * 0 + G p - 48) + G (p + 1) - 48 else -1) = (if 0 < (2 : Int) ∧ G (p + 1 + 1) = s then 10 * (10 * 0 + G p - 48) + G (p + 1) - 48 else -1) := by
          by_cases h9 : G (p + 1 + 1) = s
          · rw [if_pos ⟨by omega, h9⟩, if_pos ⟨by decide, h9⟩]
          · rw [if_neg (fun h8 => h9 h8.2), if_neg (fun h8 => h9 h8.2)]
        rw [ec] at h
        exact h
      · refine m_nu_n (a := p + 1) (I := zup I 137 5 (p + 1)) h4 hl hG rfl (by omega) (by omega) (fun h9 => d2 h9.2.2) ?_
        have ed : zdg G p = 1 := by unfold zdg; rw [if_pos d1, if_neg d2]
        have h := m_nu_t (a := p + 1) (I := zup I 137 5 (p + 1)) (π := π) (D := D) (p := p) (v := 10 * 0 + G p - 48) h4 hl hG rfl (by omega) hs
        rw [zup_uu] at h
        rw [ed, show zvln G p 1 = 10 * 0 + G p - 48 from by unfold zvln; rw [if_neg (by decide), if_pos rfl]; omega]
        have ec : (if p < p + 1 ∧ G (p + 1) = s then 10 * 0 + G p - 48 else -1) = (if 0 < (1 : Int) ∧ G (p + 1) = s then 10 * 0 + G p - 48 else -1) := by
          by_cases h9 : G (p + 1) = s
          · rw [if_pos ⟨by omega, h9⟩, if_pos ⟨by decide, h9⟩]
          · rw [if_neg (fun h8 => h9 h8.2), if_neg (fun h8 => h9 h8.2)]
        rw [ec] at h
        exact h
    · refine m_nu_n h4 hl hG h5 (by omega) (by omega) (fun h9 => d1 h9.2.2) ?_
      have ed : zdg G p = 0 := by unfold zdg; rw [if_neg d1]
      have h := m_nu_t (π := π) (D := D) (p := p) (v := 0) h4 hl hG h5 (by omega) hs
      rw [if_neg (by omega)] at h
      rw [ed, if_neg (fun h9 => absurd h9.1 (by decide)), show p + 0 + 1 = p + 1 by omega]
      exact h
  refine z_n 2 (4, [(0, vr 137), (1, vi s)], [vi (I 137 5)], (I, zPp π, D, 147)) rfl trivial ?_
  refine z_top (b := p) (h5) ?_
  refine z_n 3 (7, [(3, vi 0), (2, vi p), (0, vr 137), (1, vi s)], [], (I, zPp π, D, 147)) rfl trivial ?_
  refine z_sub [(3, vi 0), (2, vi p), (0, vr 137), (1, vi s)] [0, 1, 2, 3] rfl ?_
  exact hrun
theorem zvln_b {G : Int → Int} {p : Int} (h : 0 < zdg G p) : 0 ≤ zvln G p (zdg G p) := by
  unfold zdg at h ⊢
  by_cases d1 : 48 ≤ G p ∧ G p ≤ 57
  · rw [if_pos d1]
    by_cases d2 : 48 ≤ G (p + 1) ∧ G (p + 1) ≤ 57
    · rw [if_pos d2]
      unfold zvln
      rw [if_neg (by decide), if_neg (by decide)]
      omega
    · rw [if_neg d2]
      unfold zvln
      rw [if_neg (by decide), if_pos rfl]
      omega
  · rw [if_neg d1] at h
    omega
theorem zLn_s {I : zI} {F Pl Q u d : Int → Int} {m a b : Int} (w : zW1 F) (v : zW2 F Pl Q) (hm : 0 ≤ m) (h : zLn I F Q (zOut m u d)) (ha : zIs F Pl a) (hb : zIs F Pl b) : zLn (zup (zup I 142 (Pl a - F 9 * F 6) 1) 142 (Pl b - F 9 * F 6) 1) F Q (zOut (m + 1) (zu1 u m a) (zu1 d m b)) := by
  have hzb := zns_b w
  have va := v.1 a ha.1.1 ha.1.2
  have vb := v.1 b hb.1.1 hb.1.2
  have ha2 := ha.2
  have hb2 := hb.2
  refine ⟨h.1, h.2.1, fun k k0 k1 => ?_⟩
  have hk := h.2.2 k k0 k1
  have vk := v.2.1 (F 9 * F 6 + k) (by omega) (by omega)
  have key : zOut (m + 1) (zu1 u m a) (zu1 d m b) (Q (F 9 * F 6 + k)) ↔ (zOut m u d (Q (F 9 * F 6 + k)) ∨ k = Pl a - F 9 * F 6 ∨ k = Pl b - F 9 * F 6) := by
    rw [zOut_s hm, zOut_u (Int.le_refl _)]
    have e1 : zu1 u m a m = a := if_pos rfl
    have e2 : zu1 d m b m = b := if_pos rfl
    rw [e1, e2]
    constructor
    · rintro (h9 | h9 | h9)
      · exact Or.inl h9
      · rw [h9] at vk; exact Or.inr (Or.inl (by omega))
      · rw [h9] at vk; exact Or.inr (Or.inr (by omega))
    · rintro (h9 | h9 | h9)
      · exact Or.inl h9
      · exact Or.inr (Or.inl (by rw [h9, show F 9 * F 6 + (Pl a - F 9 * F 6) = Pl a by omega]; exact va.2.2))
      · exact Or.inr (Or.inr (by rw [h9, show F 9 * F 6 + (Pl b - F 9 * F 6) = Pl b by omega]; exact vb.2.2))
  rw [zup_at, zup_at, key]
  by_cases e2 : k = Pl b - F 9 * F 6
  · rw [if_pos e2]; exact Or.inl ⟨Or.inr (Or.inr e2), rfl⟩
  · rw [if_neg e2]
    by_cases e1 : k = Pl a - F 9 * F 6
    · rw [if_pos e1]; exact Or.inl ⟨Or.inr (Or.inl e1), rfl⟩
    · rw [if_neg e1]
      rcases hk with hk | hk
      · exact Or.inl ⟨Or.inl hk.1, hk.2⟩
      · exact Or.inr ⟨fun h9 => by rcases h9 with h9 | h9 | h9; exact hk.1 h9; exact e1 h9; exact e2 h9, hk.2⟩
theorem zLn_c {I J : zI} {F Q : Int → Int} {O : Int → Prop} (h : zLn I F Q O) (h1 : J 137 10 = I 137 10) (h2 : J 141 = I 141) (h3 : J 142 = I 142) : zLn J F Q O := by
  unfold zLn
  rw [h1, h2, h3]
  exact h
set_option maxRecDepth 20000 in
theorem m_rb_A {I : zI} {π : Int → Nat} {D : zD} {G : Int → Int} {l p : Int}  (h4 : I 137 4 = l) (hl : 0 ≤ l ∧ l ≤ 80) (hG : (∀ p, 0 ≤ p → p < l → I 140 p = G p) ∧ (∀ p, l ≤ p → G p = 0) ∧ ∀ p, 0 ≤ p → 0 ≤ G p ∧ G p ≤ 126) (h5 : I 137 5 = p) (hp : 0 ≤ p ∧ p < l) (hq : ¬ (0 < zdg G p ∧ G (p + zdg G p) = 45)) : ∃ J, zMet 135 [vr 137] (I, zPp π, D, 147) none (J, zPp π, D, 147) ∧ J 137 8 = 1 ∧ zMk J I := by
  have hn1 := m_number (π := π) (D := D) h4 hl hG h5 (by omega) (show (0 : Int) < 45 by decide)
  rw [if_neg hq] at hn1
  refine ⟨(zup (zup (zup (zup I 137 5 (p + zdg G p + 1)) 137 6 (-1)) 137 7 (-1)) 137 8 1), ?_, rfl, ⟨fun r hr => by rw [zup_ne (by omega), zup_ne (by omega), zup_ne (by omega), zup_ne (by omega)], by rw [zup_ne (by decide), zup_ne (by decide), zup_ne (by decide), zup_ne (by decide)], by rw [zup_ne (by decide), zup_ne (by decide), zup_ne (by decide), zup_ne (by decide)], by rw [zup_ne (by decide), zup_ne (by decide), zup_ne (by decide), zup_ne (by decide)], rfl, rfl⟩⟩
  refine z_n 3 (4, [(0, vr 137)], [vi 45, vr 137, vr 137], (I, zPp π, D, 147)) rfl trivial ?_
  refine z_ci 134 [vr 137, vi 45] [vr 137] rfl (hn1) ?_
  refine z_n 5 (16, [(0, vr 137)], [vi (-1), vi (-1), vr 137], ((zup (zup I 137 5 (p + zdg G p + 1)) 137 6 (-1)), zPp π, D, 147)) rfl trivial ?_
  refine z_br (¬ (-1 : Int) = (-1)) 23 19 [vr 137] rfl (fun h => absurd h (show ¬ (¬ (-1 : Int) = (-1)) from by decide)) (fun hx1 => ?_)
  refine z_n 7 (38, [(0, vr 137)], [vi (-1), vi (-1), vr 137], ((zup (zup (zup I 137 5 (p + zdg G p + 1)) 137 6 (-1)) 137 7 (-1)), zPp π, D, 147)) rfl trivial ?_
  refine z_br (¬ (-1 : Int) = (-1)) 45 41 [vr 137] rfl (fun h => absurd h (show ¬ (¬ (-1 : Int) = (-1)) from by decide)) (fun hx2 => ?_)
  refine z_n 5 (64, [(0, vr 137)], [vi 1], ((zup (zup (zup (zup I 137 5 (p + zdg G p + 1)) 137 6 (-1)) 137 7 (-1)) 137 8 1), zPp π, D, 147)) rfl trivial ?_
  refine z_br (¬ (1 : Int) = 0) 95 67 [] rfl (fun hx3 => ?_) (fun h => absurd (show ¬ (1 : Int) = 0 from by decide) h)
  exact z_ret rfl rfl rfl
set_option maxRecDepth 20000 in
theorem m_rb_B {I : zI} {π : Int → Nat} {D : zD} {G : Int → Int} {l p : Int}  (h4 : I 137 4 = l) (hl : 0 ≤ l ∧ l ≤ 80) (hG : (∀ p, 0 ≤ p → p < l → I 140 p = G p) ∧ (∀ p, l ≤ p → G p = 0) ∧ ∀ p, 0 ≤ p → 0 ≤ G p ∧ G p ≤ 126) (h5 : I 137 5 = p) (hp : 0 ≤ p ∧ p < l) (hq : 0 < zdg G p ∧ G (p + zdg G p) = 45) (hq2 : ¬ (0 < zdg G (p + zdg G p + 1) ∧ G ((p + zdg G p + 1) + zdg G (p + zdg G p + 1)) = 59)) : ∃ J, zMet 135 [vr 137] (I, zPp π, D, 147) none (J, zPp π, D, 147) ∧ J 137 8 = 1 ∧ zMk J I := by
  have hn1 := m_number (π := π) (D := D) h4 hl hG h5 (by omega) (show (0 : Int) < 45 by decide)
  rw [if_pos hq] at hn1
  have hz1 := zvln_b hq.1
  have hd1 := zdg_b (G := G) (p := p)
  have hd2 := zdg_b (G := G) (p := (p + zdg G p + 1))
  have hlt : p + zdg G p < l := by by_cases h9 : p + zdg G p < l; exact h9; have := hG.2.1 _ (show l ≤ p + zdg G p by omega); have := hq.2; omega
  obtain ⟨f1, e1⟩ : ∃ f1, f1 = zvln G p (zdg G p) := ⟨_, rfl⟩
  rw [← e1] at hn1 hz1
  have hn2 := m_number (I := (zup (zup I 137 5 (p + zdg G p + 1)) 137 6 f1)) (π := π) (D := D) (p := (p + zdg G p + 1)) (l := l) h4 hl hG rfl (by omega) (show (0 : Int) < 59 by decide)
  rw [if_neg hq2] at hn2
  refine ⟨(zup (zup (zup (zup (zup I 137 5 (p + zdg G p + 1)) 137 6 f1) 137 5 ((p + zdg G p + 1) + zdg G (p + zdg G p + 1) + 1)) 137 7 (-1)) 137 8 1), ?_, rfl, ⟨fun r hr => by rw [zup_ne (by omega), zup_ne (by omega), zup_ne (by omega), zup_ne (by omega), zup_ne (by omega)], by rw [zup_ne (by decide), zup_ne (by decide), zup_ne (by decide), zup_ne (by decide), zup_ne (by decide)], by rw [zup_ne (by decide), zup_ne (by decide), zup_ne (by decide), zup_ne (by decide), zup_ne (by decide)], by rw [zup_ne (by decide), zup_ne (by decide), zup_ne (by decide), zup_ne (by decide), zup_ne (by decide)], rfl, rfl⟩⟩
  refine z_n 3 (4, [(0, vr 137)], [vi 45, vr 137, vr 137], (I, zPp π, D, 147)) rfl trivial ?_
  refine z_ci 134 [vr 137, vi 45] [vr 137] rfl (hn1) ?_
  refine z_n 5 (16, [(0, vr 137)], [vi (-1), vi f1, vr 137], ((zup (zup I 137 5 (p + zdg G p + 1)) 137 6 f1), zPp π, D, 147)) rfl trivial ?_
  refine z_br (¬ f1 = (-1)) 23 19 [vr 137] rfl (fun hx1 => ?_) (fun h => absurd (show ¬ f1 = (-1) from by omega) h)
  refine z_n 2 (26, [(0, vr 137)], [vi 59, vr 137, vr 137], ((zup (zup I 137 5 (p + zdg G p + 1)) 137 6 f1), zPp π, D, 147)) rfl trivial ?_
  refine z_ci 134 [vr 137, vi 59] [vr 137] rfl (hn2) ?_
  refine z_n 5 (38, [(0, vr 137)], [vi (-1), vi (-1), vr 137], ((zup (zup (zup (zup I 137 5 (p + zdg G p + 1)) 137 6 f1) 137 5 ((p + zdg G p + 1) + zdg G (p + zdg G p + 1) + 1)) 137 7 (-1)), zPp π, D, 147)) rfl trivial ?_
  refine z_br (¬ (-1 : Int) = (-1)) 45 41 [vr 137] rfl (fun h => absurd h (show ¬ (¬ (-1 : Int) = (-1)) from by decide)) (fun hx2 => ?_)
  refine z_n 5 (64, [(0, vr 137)], [vi 1], ((zup (zup (zup (zup (zup I 137 5 (p + zdg G p + 1)) 137 6 f1) 137 5 ((p + zdg G p + 1) + zdg G (p + zdg G p + 1) + 1)) 137 7 (-1)) 137 8 1), zPp π, D, 147)) rfl trivial ?_
  refine z_br (¬ (1 : Int) = 0) 95 67 [] rfl (fun hx3 => ?_) (fun h => absurd (show ¬ (1 : Int) = 0 from by decide) h)
  exact z_ret rfl rfl rfl
set_option maxRecDepth 20000 in
theorem m_rb_C {I : zI} {π : Int → Nat} {D : zD} {G : Int → Int} {l p res : Int}  (h4 : I 137 4 = l) (hl : 0 ≤ l ∧ l ≤ 80) (hG : (∀ p, 0 ≤ p → p < l → I 140 p = G p) ∧ (∀ p, l ≤ p → G p = 0) ∧ ∀ p, 0 ≤ p → 0 ≤ G p ∧ G p ≤ 126) (h5 : I 137 5 = p) {F Pl Q u d : Int → Int} {m : Int} (w : zW1 F) (v : zW2 F Pl Q) (hln : zLn I F Q (zOut m u d)) (hp : 0 ≤ p ∧ p < l) (hq : 0 < zdg G p ∧ G (p + zdg G p) = 45) (hq2 : 0 < zdg G (p + zdg G p + 1) ∧ G ((p + zdg G p + 1) + zdg G (p + zdg G p + 1)) = 59) (hz : zReas F Pl Q m u d (zvln G p (zdg G p)) (zvln G (p + zdg G p + 1) (zdg G (p + zdg G p + 1))) res) (hr : ¬ res = 0) : ∃ J, zMet 135 [vr 137] (I, zPp π, D, 147) none (J, zPp π, D, 147) ∧ J 137 8 = res ∧ zMk J I := by
  have hn1 := m_number (π := π) (D := D) h4 hl hG h5 (by omega) (show (0 : Int) < 45 by decide)
  rw [if_pos hq] at hn1
  have hz1 := zvln_b hq.1
  have hd1 := zdg_b (G := G) (p := p)
  have hd2 := zdg_b (G := G) (p := (p + zdg G p + 1))
  have hlt : p + zdg G p < l := by by_cases h9 : p + zdg G p < l; exact h9; have := hG.2.1 _ (show l ≤ p + zdg G p by omega); have := hq.2; omega
  obtain ⟨f1, e1⟩ : ∃ f1, f1 = zvln G p (zdg G p) := ⟨_, rfl⟩
  rw [← e1] at hn1 hz1
  have hn2 := m_number (I := (zup (zup I 137 5 (p + zdg G p + 1)) 137 6 f1)) (π := π) (D := D) (p := (p + zdg G p + 1)) (l := l) h4 hl hG rfl (by omega) (show (0 : Int) < 59 by decide)
  rw [if_pos hq2] at hn2
  have hz2 := zvln_b hq2.1
  obtain ⟨f2, e2⟩ : ∃ f2, f2 = zvln G (p + zdg G p + 1) (zdg G (p + zdg G p + 1)) := ⟨_, rfl⟩
  rw [← e2] at hn2 hz2
  rw [← e1, ← e2] at hz
  have hl3 : zLn (zup (zup (zup (zup I 137 5 (p + zdg G p + 1)) 137 6 f1) 137 5 ((p + zdg G p + 1) + zdg G (p + zdg G p + 1) + 1)) 137 7 f2) F Q (zOut m u d) := zLn_c hln rfl rfl rfl
  have href := m_refusal (π := π) (D := D) w v hl3 hz
  refine ⟨(zup (zup (zup (zup (zup I 137 5 (p + zdg G p + 1)) 137 6 f1) 137 5 ((p + zdg G p + 1) + zdg G (p + zdg G p + 1) + 1)) 137 7 f2) 137 8 res), ?_, rfl, ⟨fun r hr => by rw [zup_ne (by omega), zup_ne (by omega), zup_ne (by omega), zup_ne (by omega), zup_ne (by omega)], by rw [zup_ne (by decide), zup_ne (by decide), zup_ne (by decide), zup_ne (by decide), zup_ne (by decide)], by rw [zup_ne (by decide), zup_ne (by decide), zup_ne (by decide), zup_ne (by decide), zup_ne (by decide)], by rw [zup_ne (by decide), zup_ne (by decide), zup_ne (by decide), zup_ne (by decide), zup_ne (by decide)], rfl, rfl⟩⟩
  refine z_n 3 (4, [(0, vr 137)], [vi 45, vr 137, vr 137], (I, zPp π, D, 147)) rfl trivial ?_
  refine z_ci 134 [vr 137, vi 45] [vr 137] rfl (hn1) ?_
  refine z_n 5 (16, [(0, vr 137)], [vi (-1), vi f1, vr 137], ((zup (zup I 137 5 (p + zdg G p + 1)) 137 6 f1), zPp π, D, 147)) rfl trivial ?_
  refine z_br (¬ f1 = (-1)) 23 19 [vr 137] rfl (fun hx1 => ?_) (fun h => absurd (show ¬ f1 = (-1) from by omega) h)
  refine z_n 2 (26, [(0, vr 137)], [vi 59, vr 137, vr 137], ((zup (zup I 137 5 (p + zdg G p + 1)) 137 6 f1), zPp π, D, 147)) rfl trivial ?_
  refine z_ci 134 [vr 137, vi 59] [vr 137] rfl (hn2) ?_
  refine z_n 5 (38, [(0, vr 137)], [vi (-1), vi f2, vr 137], ((zup (zup (zup (zup I 137 5 (p + zdg G p + 1)) 137 6 f1) 137 5 ((p + zdg G p + 1) + zdg G (p + zdg G p + 1) + 1)) 137 7 f2), zPp π, D, 147)) rfl trivial ?_
  refine z_br (¬ f2 = (-1)) 45 41 [vr 137] rfl (fun hx2 => ?_) (fun h => absurd (show ¬ f2 = (-1) from by omega) h)
  refine z_n 5 (54, [(0, vr 137)], [vi f2, vi ((zup (zup (zup I 137 5 (p + zdg G p + 1)) 137 6 f1) 137 5 ((p + zdg G p + 1) + zdg G (p + zdg G p + 1) + 1)) 137 6), vr 137, vr 137], ((zup (zup (zup (zup I 137 5 (p + zdg G p + 1)) 137 6 f1) 137 5 ((p + zdg G p + 1) + zdg G (p + zdg G p + 1) + 1)) 137 7 f2), zPp π, D, 147)) rfl trivial ?_
  refine z_ci 103 [vr 137, vi ((zup (zup (zup I 137 5 (p + zdg G p + 1)) 137 6 f1) 137 5 ((p + zdg G p + 1) + zdg G (p + zdg G p + 1) + 1)) 137 6), vi f2] [vr 137] rfl (href) ?_
  refine z_n 3 (64, [(0, vr 137)], [vi res], ((zup (zup (zup (zup (zup I 137 5 (p + zdg G p + 1)) 137 6 f1) 137 5 ((p + zdg G p + 1) + zdg G (p + zdg G p + 1) + 1)) 137 7 f2) 137 8 res), zPp π, D, 147)) rfl trivial ?_
  refine z_br (¬ res = 0) 95 67 [] rfl (fun hx3 => ?_) (fun h => absurd (show ¬ res = 0 from hr) h)
  exact z_ret rfl rfl rfl
set_option maxRecDepth 20000 in
theorem m_rb_D {I : zI} {π : Int → Nat} {D : zD} {G : Int → Int} {l p : Int}  (h4 : I 137 4 = l) (hl : 0 ≤ l ∧ l ≤ 80) (hG : (∀ p, 0 ≤ p → p < l → I 140 p = G p) ∧ (∀ p, l ≤ p → G p = 0) ∧ ∀ p, 0 ≤ p → 0 ≤ G p ∧ G p ≤ 126) (h5 : I 137 5 = p) {F Pl Q u d : Int → Int} {m : Int} (w : zW1 F) (v : zW2 F Pl Q) (hln : zLn I F Q (zOut m u d)) (hp : 0 ≤ p ∧ p < l) (hm : 0 ≤ m) (hq : 0 < zdg G p ∧ G (p + zdg G p) = 45) (hq2 : 0 < zdg G (p + zdg G p + 1) ∧ G ((p + zdg G p + 1) + zdg G (p + zdg G p + 1)) = 59) (hz : zReas F Pl Q m u d (zvln G p (zdg G p)) (zvln G (p + zdg G p + 1) (zdg G (p + zdg G p + 1))) 0) : ∃ J, zMet 135 [vr 137] (I, zPp π, D, 147) none (J, zPp π, D, 147) ∧ J 137 8 = 0 ∧ zMk J I ∧ J 137 5 = (p + zdg G p + 1) + zdg G (p + zdg G p + 1) + 1 ∧ J 137 6 = zvln G p (zdg G p) ∧ J 137 7 = zvln G (p + zdg G p + 1) (zdg G (p + zdg G p + 1)) ∧ zLn J F Q (zOut (m + 1) (zu1 u m (zvln G p (zdg G p))) (zu1 d m (zvln G (p + zdg G p + 1) (zdg G (p + zdg G p + 1))))) := by
  have hn1 := m_number (π := π) (D := D) h4 hl hG h5 (by omega) (show (0 : Int) < 45 by decide)
  rw [if_pos hq] at hn1
  have hz1 := zvln_b hq.1
  have hd1 := zdg_b (G := G) (p := p)
  have hd2 := zdg_b (G := G) (p := (p + zdg G p + 1))
  have hlt : p + zdg G p < l := by by_cases h9 : p + zdg G p < l; exact h9; have := hG.2.1 _ (show l ≤ p + zdg G p by omega); have := hq.2; omega
  obtain ⟨f1, e1⟩ : ∃ f1, f1 = zvln G p (zdg G p) := ⟨_, rfl⟩
  rw [← e1] at hn1 hz1
  have hn2 := m_number (I := (zup (zup I 137 5 (p + zdg G p + 1)) 137 6 f1)) (π := π) (D := D) (p := (p + zdg G p + 1)) (l := l) h4 hl hG rfl (by omega) (show (0 : Int) < 59 by decide)
  rw [if_pos hq2] at hn2
  have hz2 := zvln_b hq2.1
  obtain ⟨f2, e2⟩ : ∃ f2, f2 = zvln G (p + zdg G p + 1) (zdg G (p + zdg G p + 1)) := ⟨_, rfl⟩
  rw [← e2] at hn2 hz2
  rw [← e1, ← e2] at hz
  have hz0 := zReas_0 hz
  have hzb := zns_b w
  have hf1 := hz0.1.2
  have hf2 := hz0.2.1.2
  have hl3 : zLn (zup (zup (zup (zup I 137 5 (p + zdg G p + 1)) 137 6 f1) 137 5 ((p + zdg G p + 1) + zdg G (p + zdg G p + 1) + 1)) 137 7 f2) F Q (zOut m u d) := zLn_c hln rfl rfl rfl
  have href := m_refusal (π := π) (D := D) w v hl3 hz
  have hl4 : zLn (zup (zup (zup (zup (zup I 137 5 (p + zdg G p + 1)) 137 6 f1) 137 5 ((p + zdg G p + 1) + zdg G (p + zdg G p + 1) + 1)) 137 7 f2) 137 8 0) F Q (zOut m u d) := zLn_c hln rfl rfl rfl
  refine ⟨(zup (zup (zup (zup (zup (zup (zup I 137 5 (p + zdg G p + 1)) 137 6 f1) 137 5 ((p + zdg G p + 1) + zdg G (p + zdg G p + 1) + 1)) 137 7 f2) 137 8 0) 142 (Pl f1 - F 9 * F 6) 1) 142 (Pl f2 - F 9 * F 6) 1), ?_, rfl, ⟨fun r hr => by rw [zup_ne (by omega), zup_ne (by omega), zup_ne (by omega), zup_ne (by omega), zup_ne (by omega), zup_ne (by omega), zup_ne (by omega)], by rw [zup_ne (by decide), zup_ne (by decide), zup_ne (by decide), zup_ne (by decide), zup_ne (by decide), zup_ne (by decide), zup_ne (by decide)], by rw [zup_ne (by decide), zup_ne (by decide), zup_ne (by decide), zup_ne (by decide), zup_ne (by decide), zup_ne (by decide), zup_ne (by decide)], by rw [zup_ne (by decide), zup_ne (by decide), zup_ne (by decide), zup_ne (by decide), zup_ne (by decide), zup_ne (by decide), zup_ne (by decide)], rfl, rfl⟩, rfl, e1, e2, ?_⟩
  · skip
    refine z_n 3 (4, [(0, vr 137)], [vi 45, vr 137, vr 137], (I, zPp π, D, 147)) rfl trivial ?_
    refine z_ci 134 [vr 137, vi 45] [vr 137] rfl (hn1) ?_
    refine z_n 5 (16, [(0, vr 137)], [vi (-1), vi f1, vr 137], ((zup (zup I 137 5 (p + zdg G p + 1)) 137 6 f1), zPp π, D, 147)) rfl trivial ?_
    refine z_br (¬ f1 = (-1)) 23 19 [vr 137] rfl (fun hx1 => ?_) (fun h => absurd (show ¬ f1 = (-1) from by omega) h)
    refine z_n 2 (26, [(0, vr 137)], [vi 59, vr 137, vr 137], ((zup (zup I 137 5 (p + zdg G p + 1)) 137 6 f1), zPp π, D, 147)) rfl trivial ?_
    refine z_ci 134 [vr 137, vi 59] [vr 137] rfl (hn2) ?_
    refine z_n 5 (38, [(0, vr 137)], [vi (-1), vi f2, vr 137], ((zup (zup (zup (zup I 137 5 (p + zdg G p + 1)) 137 6 f1) 137 5 ((p + zdg G p + 1) + zdg G (p + zdg G p + 1) + 1)) 137 7 f2), zPp π, D, 147)) rfl trivial ?_
    refine z_br (¬ f2 = (-1)) 45 41 [vr 137] rfl (fun hx2 => ?_) (fun h => absurd (show ¬ f2 = (-1) from by omega) h)
    refine z_n 5 (54, [(0, vr 137)], [vi f2, vi ((zup (zup (zup I 137 5 (p + zdg G p + 1)) 137 6 f1) 137 5 ((p + zdg G p + 1) + zdg G (p + zdg G p + 1) + 1)) 137 6), vr 137, vr 137], ((zup (zup (zup (zup I 137 5 (p + zdg G p + 1)) 137 6 f1) 137 5 ((p + zdg G p + 1) + zdg G (p + zdg G p + 1) + 1)) 137 7 f2), zPp π, D, 147)) rfl trivial ?_
    refine z_ci 103 [vr 137, vi ((zup (zup (zup I 137 5 (p + zdg G p + 1)) 137 6 f1) 137 5 ((p + zdg G p + 1) + zdg G (p + zdg G p + 1) + 1)) 137 6), vi f2] [vr 137] rfl (href) ?_
    refine z_n 3 (64, [(0, vr 137)], [vi 0], ((zup (zup (zup (zup (zup I 137 5 (p + zdg G p + 1)) 137 6 f1) 137 5 ((p + zdg G p + 1) + zdg G (p + zdg G p + 1) + 1)) 137 7 f2) 137 8 0), zPp π, D, 147)) rfl trivial ?_
    refine z_br (¬ (0 : Int) = 0) 95 67 [] rfl (fun h => absurd h (show ¬ (¬ (0 : Int) = 0) from by decide)) (fun hx3 => ?_)
    refine z_n 5 (76, [(0, vr 137)], [vi ((zup (zup (zup (zup I 137 5 (p + zdg G p + 1)) 137 6 f1) 137 5 ((p + zdg G p + 1) + zdg G (p + zdg G p + 1) + 1)) 137 7 f2) 137 6), vr 137, vr 142], ((zup (zup (zup (zup (zup I 137 5 (p + zdg G p + 1)) 137 6 f1) 137 5 ((p + zdg G p + 1) + zdg G (p + zdg G p + 1) + 1)) 137 7 f2) 137 8 0), zPp π, D, 147)) rfl trivial ?_
    refine z_ci 101 [vr 137, vi ((zup (zup (zup (zup I 137 5 (p + zdg G p + 1)) 137 6 f1) 137 5 ((p + zdg G p + 1) + zdg G (p + zdg G p + 1) + 1)) 137 7 f2) 137 6)] [vr 142] rfl (m_no1 w v hl4 hz0.1) ?_
    refine z_n 7 (90, [(0, vr 137)], [vi ((zup (zup (zup (zup I 137 5 (p + zdg G p + 1)) 137 6 f1) 137 5 ((p + zdg G p + 1) + zdg G (p + zdg G p + 1) + 1)) 137 7 f2) 137 7), vr 137, vr 142], ((zup (zup (zup (zup (zup (zup I 137 5 (p + zdg G p + 1)) 137 6 f1) 137 5 ((p + zdg G p + 1) + zdg G (p + zdg G p + 1) + 1)) 137 7 f2) 137 8 0) 142 (Pl f1 - F 9 * F 6) 1), zPp π, D, 147)) (G := ((0 ≤ (Pl f1 - F 9 * F 6) ∧ (Pl f1 - F 9 * F 6) < 9) ∧ (1 = 0 ∨ 1 = 1)) ∧ True) rfl ⟨⟨⟨by omega, by omega⟩, Or.inr rfl⟩, trivial⟩ ?_
    refine z_ci 101 [vr 137, vi ((zup (zup (zup (zup I 137 5 (p + zdg G p + 1)) 137 6 f1) 137 5 ((p + zdg G p + 1) + zdg G (p + zdg G p + 1) + 1)) 137 7 f2) 137 7)] [vr 142] rfl (m_no1g w v hl4.1 hl4.2.1 hz0.2.1) ?_
    refine z_n 2 (95, [(0, vr 137)], [], ((zup (zup (zup (zup (zup (zup (zup I 137 5 (p + zdg G p + 1)) 137 6 f1) 137 5 ((p + zdg G p + 1) + zdg G (p + zdg G p + 1) + 1)) 137 7 f2) 137 8 0) 142 (Pl f1 - F 9 * F 6) 1) 142 (Pl f2 - F 9 * F 6) 1), zPp π, D, 147)) (G := ((0 ≤ (Pl f2 - F 9 * F 6) ∧ (Pl f2 - F 9 * F 6) < 9) ∧ (1 = 0 ∨ 1 = 1)) ∧ True) rfl ⟨⟨⟨by omega, by omega⟩, Or.inr rfl⟩, trivial⟩ ?_
    exact z_ret rfl rfl rfl
  · rw [← e1, ← e2]
    exact zLn_s w v hm hl4 hz0.1 hz0.2.1
set_option maxRecDepth 20000 in
theorem m_fa_l {π : Int → Nat} {D : zD} {F Pl Q G : Int → Int} {l : Int} {q : zCo} (w : zW1 F) (v : zW2 F Pl Q) (hl : 0 ≤ l ∧ l ≤ 80) : ∀ (N : Nat) (p m : Int) (u d : Int → Int) (c : Int) (I : zI), zCk F Pl Q G l N p m u d c q → 0 ≤ m → 0 ≤ p → zLn I F Q (zOut m u d) → I 137 4 = l → I 137 5 = p → ((∀ p, 0 ≤ p → p < l → I 140 p = G p) ∧ (∀ p, l ≤ p → G p = 0) ∧ ∀ p, 0 ≤ p → 0 ≤ G p ∧ G p ≤ 126) → ∃ J, zRuns 136 9 [(0, vr 137)] [] (I, zPp π, D, 147) (some (vi (if q.1 = 0 then -1004 else q.2.1))) (J, zPp π, D, 147) ∧ zMk J I ∧ (¬ q.1 = 0 → J 137 8 = q.1) := by
  intro N
  induction N with
  | zero =>
    intro p m u d c I hck hm hp hln h4 h5 hG
    obtain ⟨hlp, rfl⟩ := hck
    refine ⟨I, ?_, zMk_r, fun h9 => absurd rfl h9⟩
    refine z_n 2 (13, [(0, vr 137)], [vi (I 137 5)], (I, zPp π, D, 147)) rfl trivial ?_
    refine z_top (b := p) (h5) ?_
    refine z_n 2 (17, [(0, vr 137)], [vi (I 137 4), vi p], (I, zPp π, D, 147)) rfl trivial ?_
    refine z_top (b := l) (h4) ?_
    refine z_br (l ≤ p) 41 20 [] rfl (fun hx1 => ?_) (fun h => absurd (show l ≤ p from by omega) h)
    refine z_n 1 (44, [(0, vr 137)], [vi (-1004)], (I, zPp π, D, 147)) rfl trivial ?_
    exact z_ret rfl rfl rfl
  | succ N ih =>
  intro p m u d c I hck hm hp hln h4 h5 hG
  rcases hck with ⟨hlp, rfl⟩ | ⟨hpl, ⟨hz, rfl⟩ | ⟨hz, res, hres, ⟨hr, rfl⟩ | ⟨hr, hck⟩⟩⟩
  · refine ⟨I, ?_, zMk_r, fun h9 => absurd rfl h9⟩
    refine z_n 2 (13, [(0, vr 137)], [vi (I 137 5)], (I, zPp π, D, 147)) rfl trivial ?_
    refine z_top (b := p) (h5) ?_
    refine z_n 2 (17, [(0, vr 137)], [vi (I 137 4), vi p], (I, zPp π, D, 147)) rfl trivial ?_
    refine z_top (b := l) (h4) ?_
    refine z_br (l ≤ p) 41 20 [] rfl (fun hx1 => ?_) (fun h => absurd (show l ≤ p from by omega) h)
    refine z_n 1 (44, [(0, vr 137)], [vi (-1004)], (I, zPp π, D, 147)) rfl trivial ?_
    exact z_ret rfl rfl rfl
  · have hJx : ∃ J, zMet 135 [vr 137] (I, zPp π, D, 147) none (J, zPp π, D, 147) ∧ J 137 8 = 1 ∧ zMk J I := by
      by_cases hq : 0 < zdg G p ∧ G (p + zdg G p) = 45
      · by_cases hq2 : 0 < zdg G (p + zdg G p + 1) ∧ G ((p + zdg G p + 1) + zdg G (p + zdg G p + 1)) = 59
        · exact absurd ⟨hq.2, hq2.2, hq.1, hq2.1⟩ hz
        · exact m_rb_B h4 hl hG h5 ⟨hp, hpl⟩ hq hq2
      · exact m_rb_A h4 hl hG h5 ⟨hp, hpl⟩ hq
    obtain ⟨J, hJ, hJ8, hJm⟩ := hJx
    refine ⟨J, ?_, hJm, fun _ => hJ8⟩
    refine z_n 2 (13, [(0, vr 137)], [vi (I 137 5)], (I, zPp π, D, 147)) rfl trivial ?_
    refine z_top (b := p) (h5) ?_
    refine z_n 2 (17, [(0, vr 137)], [vi (I 137 4), vi p], (I, zPp π, D, 147)) rfl trivial ?_
    refine z_top (b := l) (h4) ?_
    refine z_br (l ≤ p) 41 20 [] rfl (fun h => absurd h (show ¬ (l ≤ p) from by omega)) (fun hx1 => ?_)
    refine z_n 2 (24, [(0, vr 137)], [vi (I 137 5)], (I, zPp π, D, 147)) rfl trivial ?_
    refine z_top (b := p) (h5) ?_
    refine z_n 2 (26, [(1, vi p), (0, vr 137)], [vr 137], (I, zPp π, D, 147)) rfl trivial ?_
    refine z_cv 135 [vr 137] [] rfl (hJ) ?_
    refine z_n 2 (33, [(1, vi p), (0, vr 137)], [vi (J 137 8)], (J, zPp π, D, 147)) rfl trivial ?_
    refine z_top (b := 1) (hJ8) ?_
    refine z_br ((1 : Int) ≤ 0) 38 36 [] rfl (fun h => absurd h (show ¬ ((1 : Int) ≤ 0) from by decide)) (fun hx2 => ?_)
    refine z_n 1 (37, [(1, vi p), (0, vr 137)], [vi p], (J, zPp π, D, 147)) rfl trivial ?_
    exact z_ret rfl (zv1 (rfl)) rfl
  · obtain ⟨J, hJ, hJ8, hJm⟩ := m_rb_C (π := π) (D := D) h4 hl hG h5 w v hln ⟨hp, hpl⟩ ⟨hz.2.2.1, hz.1⟩ ⟨hz.2.2.2, hz.2.1⟩ hres hr
    have hr0 : 0 < res := by rcases hres with ⟨h9, _⟩ | ⟨_, _, ⟨h9, _⟩ | ⟨_, _, ⟨h9, _⟩ | ⟨_, ⟨h9, _⟩ | ⟨h9, _⟩⟩⟩⟩ <;> omega
    refine ⟨J, ?_, hJm, fun _ => hJ8⟩
    refine z_n 2 (13, [(0, vr 137)], [vi (I 137 5)], (I, zPp π, D, 147)) rfl trivial ?_
    refine z_top (b := p) (h5) ?_
    refine z_n 2 (17, [(0, vr 137)], [vi (I 137 4), vi p], (I, zPp π, D, 147)) rfl trivial ?_
    refine z_top (b := l) (h4) ?_
    refine z_br (l ≤ p) 41 20 [] rfl (fun h => absurd h (show ¬ (l ≤ p) from by omega)) (fun hx1 => ?_)
    refine z_n 2 (24, [(0, vr 137)], [vi (I 137 5)], (I, zPp π, D, 147)) rfl trivial ?_
    refine z_top (b := p) (h5) ?_
    refine z_n 2 (26, [(1, vi p), (0, vr 137)], [vr 137], (I, zPp π, D, 147)) rfl trivial ?_
    refine z_cv 135 [vr 137] [] rfl (hJ) ?_
    refine z_n 2 (33, [(1, vi p), (0, vr 137)], [vi (J 137 8)], (J, zPp π, D, 147)) rfl trivial ?_
    refine z_top (b := res) (hJ8) ?_
    refine z_br (res ≤ 0) 38 36 [] rfl (fun h => absurd h (show ¬ (res ≤ 0) from by omega)) (fun hx2 => ?_)
    refine z_n 1 (37, [(1, vi p), (0, vr 137)], [vi p], (J, zPp π, D, 147)) rfl trivial ?_
    exact z_ret rfl (zv1 ((if_neg hr).symm)) rfl
  · subst hr
    obtain ⟨J, hJ, hJ8, hJm, hJ5, hJ6, hJ7, hJl⟩ := m_rb_D (π := π) (D := D) h4 hl hG h5 w v hln ⟨hp, hpl⟩ hm ⟨hz.2.2.1, hz.1⟩ ⟨hz.2.2.2, hz.2.1⟩ hres
    have hd1 := zdg_b (G := G) (p := p)
    have hd2 := zdg_b (G := G) (p := (p + zdg G p + 1))
    obtain ⟨K, hrun, hKm, hK8⟩ := ih (zen G p + 1) (m + 1) _ _ (c + 1) J hck (by omega) (by show 0 ≤ (p + zdg G p + 1) + zdg G (p + zdg G p + 1) + 1; omega) hJl (hJm.2.2.2.2.2.trans h4) hJ5 (by rw [hJm.2.2.2.1]; exact hG)
    refine ⟨K, ?_, zMk_t hKm hJm, hK8⟩
    refine z_n 2 (13, [(0, vr 137)], [vi (I 137 5)], (I, zPp π, D, 147)) rfl trivial ?_
    refine z_top (b := p) (h5) ?_
    refine z_n 2 (17, [(0, vr 137)], [vi (I 137 4), vi p], (I, zPp π, D, 147)) rfl trivial ?_
    refine z_top (b := l) (h4) ?_
    refine z_br (l ≤ p) 41 20 [] rfl (fun h => absurd h (show ¬ (l ≤ p) from by omega)) (fun hx1 => ?_)
    refine z_n 2 (24, [(0, vr 137)], [vi (I 137 5)], (I, zPp π, D, 147)) rfl trivial ?_
    refine z_top (b := p) (h5) ?_
    refine z_n 2 (26, [(1, vi p), (0, vr 137)], [vr 137], (I, zPp π, D, 147)) rfl trivial ?_
    refine z_cv 135 [vr 137] [] rfl (hJ) ?_
    refine z_n 2 (33, [(1, vi p), (0, vr 137)], [vi (J 137 8)], (J, zPp π, D, 147)) rfl trivial ?_
    refine z_top (b := 0) (hJ8) ?_
    refine z_br ((0 : Int) ≤ 0) 38 36 [] rfl (fun hx2 => ?_) (fun h => absurd (show (0 : Int) ≤ 0 from by decide) h)
    refine z_n 1 (9, [(1, vi p), (0, vr 137)], [], (J, zPp π, D, 147)) rfl trivial ?_
    refine z_sub [(0, vr 137)] [1] rfl ?_
    exact hrun
set_option maxRecDepth 20000 in
theorem m_Rfaulty {I : zI} {π : Int → Nat} {D : zD} {X : zI} {G : Int → Int} {l : Int} {q : zCo}  (e : zEq (I 138) X) (ci : zCI X) (hq : zCk (X 0) (X 4) (X 6) G l 80 0 (X 7 2) (X 9) (X 11) 0 q) (h4 : I 137 4 = l) (hl : 0 ≤ l ∧ l ≤ 80) (hG : ((∀ p, 0 ≤ p → p < l → I 140 p = G p) ∧ (∀ p, l ≤ p → G p = 0) ∧ ∀ p, 0 ≤ p → 0 ≤ G p ∧ G p ≤ 126)) : ∃ J, zMet 136 [vr 137] (I, zPp π, D, 147) (some (vi (if q.1 = 0 then -1004 else q.2.1))) (J, zPp π, D, 147) ∧ zMk J I ∧ (¬ q.1 = 0 → J 137 8 = q.1) := by
  obtain ⟨⟨m0, m1, m2, m3, m4, m5, m6⟩, mc, ⟨mb, mk⟩, ⟨ml, mg⟩, mt⟩ := id e
  obtain ⟨⟨w, v, hsp, ⟨⟨hl0, hl1⟩, hlg, hps⟩, hpt, hp0⟩, hm, hd⟩ := id ci
  have hzb := zns_b w
  have hm4 := zdis_le w v hd hm
  have hl2 := zlb_b w
  obtain ⟨⟨w1, w2⟩, ⟨w3, w4⟩, ⟨w5, w6⟩, ⟨w7, w8⟩, ⟨w9, w10⟩, w11, ⟨⟨w12, w12b⟩, w12c⟩, ⟨w13, w14⟩, ⟨w15, w16⟩⟩ := id w
  obtain ⟨J, hJ, hln, hmk, e2⟩ := m_ln (π := π) (D := D) e ci
  obtain ⟨⟨j0, j1, j2, j3, j4, j5, j6⟩, jc, ⟨jb, jk⟩, ⟨jl, jg⟩, jt⟩ := id e2
  have hmk2 := hmk.2.2.2.2.1
  have hmk4 := hmk.2.2.2.2.2
  have hl10 := hln.1
  obtain ⟨K, hrun, hKm, hK8⟩ := m_fa_l (π := π) (D := D) w v hl 80 0 (X 7 2) (X 9) (X 11) 0 (zup J 137 5 0) hq hm (by omega) (zLn_c hln rfl rfl rfl) (hmk4.trans h4) rfl (by rw [zup_ne (by decide), hmk.2.2.2.1]; exact hG)
  refine ⟨K, ?_, zMk_t hKm (zMk_t ⟨fun r hr => zup_ne (by omega), zup_ne (by decide), zup_ne (by decide), zup_ne (by decide), rfl, rfl⟩ hmk), hK8⟩
  refine z_n 1 (1, [(0, vr 137)], [vr 137], (I, zPp π, D, 147)) rfl trivial ?_
  refine z_cv 100 [vr 137] [] rfl (hJ) ?_
  refine z_n 3 (9, [(0, vr 137)], [], ((zup J 137 5 0), zPp π, D, 147)) rfl trivial ?_
  refine z_sub [(0, vr 137)] [0] rfl ?_
  exact hrun
set_option maxRecDepth 20000 in
theorem m_Rfaultx {I : zI} {π : Int → Nat} {D : zD} {a : Int} (hq : ¬ (0 ≤ a ∧ a ≤ 1)) : zMet 137 [vr 137, vi a] (I, zPp π, D, 147) (some (vi (-1001))) (I, zPp π, D, 147) := by
  refine z_n 3 (3, [(0, vr 137), (1, vi a)], [vi 1, vi 0, vi a], (I, zPp π, D, 147)) rfl trivial ?_
  refine z_ci 93 [vi a, vi 0, vi 1] [] rfl (m_in0 (by omega)) ?_
  refine z_br (¬ (0 : Int) = 0) 13 9 [] rfl (fun h => absurd h (show ¬ (¬ (0 : Int) = 0) from by decide)) (fun hx1 => ?_)
  refine z_n 1 (12, [(0, vr 137), (1, vi a)], [vi (-1001)], (I, zPp π, D, 147)) rfl trivial ?_
  first | exact z_ret rfl (zv1 (by omega)) rfl | (exfalso; omega)
set_option maxRecDepth 20000 in
theorem m_Rfault0z {I : zI} {π : Int → Nat} {D : zD} {X : zI} {G : Int → Int} {l : Int} {q : zCo}  (e : zEq (I 138) X) (ci : zCI X) (hq : zCk (X 0) (X 4) (X 6) G l 80 0 (X 7 2) (X 9) (X 11) 0 q) (h4 : I 137 4 = l) (hl : 0 ≤ l ∧ l ≤ 80) (hG : ((∀ p, 0 ≤ p → p < l → I 140 p = G p) ∧ (∀ p, l ≤ p → G p = 0) ∧ ∀ p, 0 ≤ p → 0 ≤ G p ∧ G p ≤ 126)) (hz : q.1 = 0) : ∃ J, zMet 137 [vr 137, vi 0] (I, zPp π, D, 147) (some (vi (-1004))) (J, zPp π, D, 147) ∧ zMk J I := by
  obtain ⟨J, hJ, hmk, hJ8⟩ := m_Rfaulty (π := π) (D := D) e ci hq h4 hl hG
  rw [if_pos hz] at hJ
  refine ⟨J, ?_, hmk⟩
  refine z_n 3 (3, [(0, vr 137), (1, vi 0)], [vi 1, vi 0, vi 0], (I, zPp π, D, 147)) rfl trivial ?_
  refine z_ci 93 [vi 0, vi 0, vi 1] [] rfl (m_in1 (by decide) (by decide)) ?_
  refine z_br (¬ (1 : Int) = 0) 13 9 [] rfl (fun hx1 => ?_) (fun h => absurd (show ¬ (1 : Int) = 0 from by decide) h)
  refine z_n 1 (14, [(0, vr 137), (1, vi 0)], [vr 137], (I, zPp π, D, 147)) rfl trivial ?_
  refine z_ci 136 [vr 137] [] rfl (hJ) ?_
  refine z_n 3 (22, [(2, vi (-1004)), (0, vr 137), (1, vi 0)], [vi (-1004), vi (-1004)], (J, zPp π, D, 147)) rfl trivial ?_
  refine z_br ((-1004 : Int) = (-1004)) 29 25 [] rfl (fun hx2 => ?_) (fun h => absurd (show (-1004 : Int) = (-1004) from by decide) h)
  refine z_n 2 (37, [(2, vi (-1004)), (0, vr 137), (1, vi 0)], [vi (-1004)], (J, zPp π, D, 147)) rfl trivial ?_
  exact z_ret rfl rfl rfl
set_option maxRecDepth 20000 in
theorem m_Rfault0n {I : zI} {π : Int → Nat} {D : zD} {X : zI} {G : Int → Int} {l : Int} {q : zCo}  (e : zEq (I 138) X) (ci : zCI X) (hq : zCk (X 0) (X 4) (X 6) G l 80 0 (X 7 2) (X 9) (X 11) 0 q) (h4 : I 137 4 = l) (hl : 0 ≤ l ∧ l ≤ 80) (hG : ((∀ p, 0 ≤ p → p < l → I 140 p = G p) ∧ (∀ p, l ≤ p → G p = 0) ∧ ∀ p, 0 ≤ p → 0 ≤ G p ∧ G p ≤ 126)) (hz : ¬ q.1 = 0) (hp : 0 ≤ q.2.1) : ∃ J, zMet 137 [vr 137, vi 0] (I, zPp π, D, 147) (some (vi q.2.1)) (J, zPp π, D, 147) ∧ zMk J I := by
  obtain ⟨J, hJ, hmk, hJ8⟩ := m_Rfaulty (π := π) (D := D) e ci hq h4 hl hG
  rw [if_neg hz] at hJ
  have hJ8 := hJ8 hz
  refine ⟨J, ?_, hmk⟩
  refine z_n 3 (3, [(0, vr 137), (1, vi 0)], [vi 1, vi 0, vi 0], (I, zPp π, D, 147)) rfl trivial ?_
  refine z_ci 93 [vi 0, vi 0, vi 1] [] rfl (m_in1 (by decide) (by decide)) ?_
  refine z_br (¬ (1 : Int) = 0) 13 9 [] rfl (fun hx1 => ?_) (fun h => absurd (show ¬ (1 : Int) = 0 from by decide) h)
  refine z_n 1 (14, [(0, vr 137), (1, vi 0)], [vr 137], (I, zPp π, D, 147)) rfl trivial ?_
  refine z_ci 136 [vr 137] [] rfl (hJ) ?_
  refine z_n 3 (22, [(2, vi q.2.1), (0, vr 137), (1, vi 0)], [vi (-1004), vi q.2.1], (J, zPp π, D, 147)) rfl trivial ?_
  refine z_br (q.2.1 = (-1004)) 29 25 [] rfl (fun h => absurd h (show ¬ (q.2.1 = (-1004)) from by omega)) (fun hx2 => ?_)
  refine z_n 1 (26, [(2, vi q.2.1), (0, vr 137), (1, vi 0)], [vi 0], (J, zPp π, D, 147)) rfl trivial ?_
  refine z_br (¬ (0 : Int) = 0) 33 29 [] rfl (fun h => absurd h (show ¬ (¬ (0 : Int) = 0) from by decide)) (fun hx3 => ?_)
  refine z_n 2 (37, [(2, vi q.2.1), (0, vr 137), (1, vi 0)], [vi q.2.1], (J, zPp π, D, 147)) rfl trivial ?_
  exact z_ret rfl rfl rfl
set_option maxRecDepth 20000 in
theorem m_Rfault1z {I : zI} {π : Int → Nat} {D : zD} {X : zI} {G : Int → Int} {l : Int} {q : zCo}  (e : zEq (I 138) X) (ci : zCI X) (hq : zCk (X 0) (X 4) (X 6) G l 80 0 (X 7 2) (X 9) (X 11) 0 q) (h4 : I 137 4 = l) (hl : 0 ≤ l ∧ l ≤ 80) (hG : ((∀ p, 0 ≤ p → p < l → I 140 p = G p) ∧ (∀ p, l ≤ p → G p = 0) ∧ ∀ p, 0 ≤ p → 0 ≤ G p ∧ G p ≤ 126)) (hz : q.1 = 0) : ∃ J, zMet 137 [vr 137, vi 1] (I, zPp π, D, 147) (some (vi (-1004))) (J, zPp π, D, 147) ∧ zMk J I := by
  obtain ⟨J, hJ, hmk, hJ8⟩ := m_Rfaulty (π := π) (D := D) e ci hq h4 hl hG
  rw [if_pos hz] at hJ
  refine ⟨J, ?_, hmk⟩
  refine z_n 3 (3, [(0, vr 137), (1, vi 1)], [vi 1, vi 0, vi 1], (I, zPp π, D, 147)) rfl trivial ?_
  refine z_ci 93 [vi 1, vi 0, vi 1] [] rfl (m_in1 (by decide) (by decide)) ?_
  refine z_br (¬ (1 : Int) = 0) 13 9 [] rfl (fun hx1 => ?_) (fun h => absurd (show ¬ (1 : Int) = 0 from by decide) h)
  refine z_n 1 (14, [(0, vr 137), (1, vi 1)], [vr 137], (I, zPp π, D, 147)) rfl trivial ?_
  refine z_ci 136 [vr 137] [] rfl (hJ) ?_
  refine z_n 3 (22, [(2, vi (-1004)), (0, vr 137), (1, vi 1)], [vi (-1004), vi (-1004)], (J, zPp π, D, 147)) rfl trivial ?_
  refine z_br ((-1004 : Int) = (-1004)) 29 25 [] rfl (fun hx2 => ?_) (fun h => absurd (show (-1004 : Int) = (-1004) from by decide) h)
  refine z_n 2 (37, [(2, vi (-1004)), (0, vr 137), (1, vi 1)], [vi (-1004)], (J, zPp π, D, 147)) rfl trivial ?_
  exact z_ret rfl rfl rfl
set_option maxRecDepth 20000 in
theorem m_Rfault1n {I : zI} {π : Int → Nat} {D : zD} {X : zI} {G : Int → Int} {l : Int} {q : zCo}  (e : zEq (I 138) X) (ci : zCI X) (hq : zCk (X 0) (X 4) (X 6) G l 80 0 (X 7 2) (X 9) (X 11) 0 q) (h4 : I 137 4 = l) (hl : 0 ≤ l ∧ l ≤ 80) (hG : ((∀ p, 0 ≤ p → p < l → I 140 p = G p) ∧ (∀ p, l ≤ p → G p = 0) ∧ ∀ p, 0 ≤ p → 0 ≤ G p ∧ G p ≤ 126)) (hz : ¬ q.1 = 0) (hp : 0 ≤ q.2.1) : ∃ J, zMet 137 [vr 137, vi 1] (I, zPp π, D, 147) (some (vi q.1)) (J, zPp π, D, 147) ∧ zMk J I := by
  obtain ⟨J, hJ, hmk, hJ8⟩ := m_Rfaulty (π := π) (D := D) e ci hq h4 hl hG
  rw [if_neg hz] at hJ
  have hJ8 := hJ8 hz
  refine ⟨J, ?_, hmk⟩
  refine z_n 3 (3, [(0, vr 137), (1, vi 1)], [vi 1, vi 0, vi 1], (I, zPp π, D, 147)) rfl trivial ?_
  refine z_ci 93 [vi 1, vi 0, vi 1] [] rfl (m_in1 (by decide) (by decide)) ?_
  refine z_br (¬ (1 : Int) = 0) 13 9 [] rfl (fun hx1 => ?_) (fun h => absurd (show ¬ (1 : Int) = 0 from by decide) h)
  refine z_n 1 (14, [(0, vr 137), (1, vi 1)], [vr 137], (I, zPp π, D, 147)) rfl trivial ?_
  refine z_ci 136 [vr 137] [] rfl (hJ) ?_
  refine z_n 3 (22, [(2, vi q.2.1), (0, vr 137), (1, vi 1)], [vi (-1004), vi q.2.1], (J, zPp π, D, 147)) rfl trivial ?_
  refine z_br (q.2.1 = (-1004)) 29 25 [] rfl (fun h => absurd h (show ¬ (q.2.1 = (-1004)) from by omega)) (fun hx2 => ?_)
  refine z_n 1 (26, [(2, vi q.2.1), (0, vr 137), (1, vi 1)], [vi 1], (J, zPp π, D, 147)) rfl trivial ?_
  refine z_br (¬ (1 : Int) = 0) 33 29 [] rfl (fun hx3 => ?_) (fun h => absurd (show ¬ (1 : Int) = 0 from by decide) h)
  refine z_n 2 (37, [(2, vi q.2.1), (0, vr 137), (1, vi 1)], [vi (J 137 8)], (J, zPp π, D, 147)) rfl trivial ?_
  refine z_top (b := q.1) (hJ8) ?_
  exact z_ret rfl rfl rfl
