/-- the sign at a place, 0 behind the end -/
def zsg (T : Int → Int) (l p : Int) : Int := if p < l then T p else 0
/-- how many digits begin at a place, two at most -/
def zdg (G : Int → Int) (p : Int) : Int := if 48 ≤ G p ∧ G p ≤ 57 then (if 48 ≤ G (p + 1) ∧ G (p + 1) ≤ 57 then 2 else 1) else 0
theorem zdg_b {G : Int → Int} {p : Int} : 0 ≤ zdg G p ∧ zdg G p ≤ 2 := by
  unfold zdg
  split
  · split <;> omega
  · omega
/-- the number of so many digits -/
def zvln (G : Int → Int) (p d : Int) : Int := if d = 0 then 0 else if d = 1 then G p - 48 else (G p - 48) * 10 + G (p + 1) - 48
/-- where the dash, where the end is sought -/
abbrev zda (G : Int → Int) (p : Int) : Int := p + zdg G p
abbrev zen (G : Int → Int) (p : Int) : Int := p + zdg G p + 1 + zdg G (p + zdg G p + 1)
abbrev zua (G : Int → Int) (p : Int) : Int := zvln G p (zdg G p)
abbrev zub (G : Int → Int) (p : Int) : Int := zvln G (p + zdg G p + 1) (zdg G (p + zdg G p + 1))
/-- a bump stands there -/
def zfm (G : Int → Int) (p : Int) : Prop := G (zda G p) = 45 ∧ G (zen G p) = 59 ∧ 0 < zdg G p ∧ 0 < zdg G (p + zdg G p + 1)
theorem zsg_b {T : Int → Int} {l p : Int} (hl : l ≤ 80) (ht : ∀ p, 0 ≤ p → p < 80 → 0 ≤ T p ∧ T p ≤ 126) (hp : 0 ≤ p) : 0 ≤ zsg T l p ∧ zsg T l p ≤ 126 := by
  unfold zsg
  split
  · exact ht p hp (by omega)
  · omega
/-- the numbers read last -/
def zRd (I : zI) (a b c : Int) : zI := zup (zup (zup I 129 6 a) 129 7 b) 129 8 c
theorem zRd_id {I : zI} : zRd I (I 129 6) (I 129 7) (I 129 8) = I := by
  unfold zRd
  rw [zup_id]
  have h : zup I 129 7 (I 129 7) = I := zup_id
  rw [h]
  exact zup_id
set_option maxRecDepth 20000 in
theorem m_append {I : zI} {π : Int → Nat} {D : zD} {c : Int} (hl : 0 ≤ I 129 0 ∧ I 129 0 < 80) : zMet 59 [vr 129, vi c] (I, zPp π, D, 147) none ((zup (zup I 136 (I 129 0) c) 129 0 (I 129 0 + 1)), zPp π, D, 147) := by
  refine z_n 3 (6, [(0, vr 129), (1, vi c)], [vi 80, vi (I 129 0)], (I, zPp π, D, 147)) rfl trivial ?_
  refine z_br (80 ≤ (I 129 0)) 31 9 [] rfl (fun h => absurd h (show ¬ (80 ≤ (I 129 0)) from by omega)) (fun hx1 => ?_)
  refine z_n 5 (18, [(0, vr 129), (1, vi c)], [vi c, vi (I 129 0), vr 135], (I, zPp π, D, 147)) rfl trivial ?_
  refine z_cv 2 [vr 135, vi (I 129 0), vi c] [] rfl (m_put (n := 80) ⟨rfl, rfl, rfl, rfl⟩ (by omega) (by omega)) ?_
  refine z_n 6 (31, [(0, vr 129), (1, vi c)], [], ((zup (zup I 136 (I 129 0) c) 129 0 ((I 129 0) + 1)), zPp π, D, 147)) (G := (zr ((I 129 0) + 1)) ∧ True) rfl ⟨by omega, trivial⟩ ?_
  first | exact z_ret rfl rfl rfl | exact z_ret rfl (zv1 (by omega)) rfl | (exfalso; omega)
set_option maxRecDepth 20000 in
theorem m_sign {I : zI} {π : Int → Nat} {D : zD} {p q : Int} (hl : 0 ≤ I 129 0 ∧ I 129 0 ≤ 80) (hp : 0 ≤ p) (e : q = p) : zMet 64 [vr 129, vi q] (I, zPp π, D, 147) (some (vi (zsg (I 136) (I 129 0) p))) (I, zPp π, D, 147) := by
  subst e
  refine z_n 3 (5, [(0, vr 129), (1, vi q)], [vi (I 129 0), vi q], (I, zPp π, D, 147)) rfl trivial ?_
  refine z_br ((I 129 0) ≤ q) 19 8 [] rfl (fun hx1 => ?_) (fun hx1 => ?_)
  · refine z_n 1 (20, [(0, vr 129), (1, vi q)], [vi 0], (I, zPp π, D, 147)) rfl trivial ?_
    exact z_ret rfl (zv1 (by unfold zsg; first | rw [if_pos (by omega)] | rw [if_neg (by omega)])) rfl
  · refine z_n 3 (13, [(0, vr 129), (1, vi q)], [vi q, vr 135], (I, zPp π, D, 147)) rfl trivial ?_
    refine z_ci 1 [vr 135, vi q] [] rfl (m_get (n := 80) ⟨rfl, rfl, rfl, rfl⟩ (by omega) (by omega)) ?_
    refine z_n 1 (20, [(0, vr 129), (1, vi q)], [vi (I 136 q)], (I, zPp π, D, 147)) rfl trivial ?_
    exact z_ret rfl (zv1 (by unfold zsg; first | rw [if_pos (by omega)] | rw [if_neg (by omega)])) rfl
set_option maxRecDepth 20000 in
theorem m_dig {I : zI} {π : Int → Nat} {D : zD} {p : Int} (hl : 0 ≤ I 129 0 ∧ I 129 0 ≤ 80) (h0 : 0 ≤ p ∧ p ≤ 1000) : zMet 62 [vr 129, vi p] (I, zPp π, D, 147) (some (vi (zdg (zsg (I 136) (I 129 0)) p))) (I, zPp π, D, 147) := by
  refine z_n 4 (4, [(2, vi 0), (0, vr 129), (1, vi p)], [vi 2, vi 0], (I, zPp π, D, 147)) rfl trivial ?_
  refine z_br (2 ≤ (0 : Int)) 37 7 [] rfl (fun h => absurd h (show ¬ (2 ≤ (0 : Int)) from by decide)) (fun hx1 => ?_)
  refine z_n 4 (11, [(2, vi 0), (0, vr 129), (1, vi p)], [vi (p + 0), vr 129], (I, zPp π, D, 147)) (G := (zr (p + 0)) ∧ True) rfl ⟨by omega, trivial⟩ ?_
  refine z_ci 64 [vr 129, vi (p + 0)] [] rfl (m_sign hl (p := p) (by omega) (by omega)) ?_
  refine z_n 1 (16, [(2, vi 0), (0, vr 129), (1, vi p)], [vi 48, vi (zsg (I 136) (I 129 0) p)], (I, zPp π, D, 147)) rfl trivial ?_
  refine z_br ((zsg (I 136) (I 129 0) p) < 48) 37 19 [] rfl (fun hx2 => ?_) (fun hx2 => ?_)
  · refine z_n 1 (38, [(2, vi 0), (0, vr 129), (1, vi p)], [vi 0], (I, zPp π, D, 147)) rfl trivial ?_
    exact z_ret rfl (zv1 (by unfold zdg; omega)) rfl
  · refine z_n 4 (23, [(2, vi 0), (0, vr 129), (1, vi p)], [vi (p + 0), vr 129], (I, zPp π, D, 147)) (G := (zr (p + 0)) ∧ True) rfl ⟨by omega, trivial⟩ ?_
    refine z_ci 64 [vr 129, vi (p + 0)] [] rfl (m_sign hl (p := p) (by omega) (by omega)) ?_
    refine z_n 1 (28, [(2, vi 0), (0, vr 129), (1, vi p)], [vi 57, vi (zsg (I 136) (I 129 0) p)], (I, zPp π, D, 147)) rfl trivial ?_
    refine z_br (57 < (zsg (I 136) (I 129 0) p)) 37 31 [] rfl (fun hx3 => ?_) (fun hx3 => ?_)
    · refine z_n 1 (38, [(2, vi 0), (0, vr 129), (1, vi p)], [vi 0], (I, zPp π, D, 147)) rfl trivial ?_
      exact z_ret rfl (zv1 (by unfold zdg; omega)) rfl
    · refine z_n 4 (4, [(2, vi 1), (0, vr 129), (1, vi p)], [vi 2, vi 1], (I, zPp π, D, 147)) (G := (zr 1) ∧ True) rfl ⟨by omega, trivial⟩ ?_
      refine z_br (2 ≤ (1 : Int)) 37 7 [] rfl (fun h => absurd h (show ¬ (2 ≤ (1 : Int)) from by decide)) (fun hx4 => ?_)
      refine z_n 4 (11, [(2, vi 1), (0, vr 129), (1, vi p)], [vi (p + 1), vr 129], (I, zPp π, D, 147)) (G := (zr (p + 1)) ∧ True) rfl ⟨by omega, trivial⟩ ?_
      refine z_ci 64 [vr 129, vi (p + 1)] [] rfl (m_sign hl (p := p + 1) (by omega) (by omega)) ?_
      refine z_n 1 (16, [(2, vi 1), (0, vr 129), (1, vi p)], [vi 48, vi (zsg (I 136) (I 129 0) (p + 1))], (I, zPp π, D, 147)) rfl trivial ?_
      refine z_br ((zsg (I 136) (I 129 0) (p + 1)) < 48) 37 19 [] rfl (fun hx5 => ?_) (fun hx5 => ?_)
      · refine z_n 1 (38, [(2, vi 1), (0, vr 129), (1, vi p)], [vi 1], (I, zPp π, D, 147)) rfl trivial ?_
        exact z_ret rfl (zv1 (by unfold zdg; omega)) rfl
      · refine z_n 4 (23, [(2, vi 1), (0, vr 129), (1, vi p)], [vi (p + 1), vr 129], (I, zPp π, D, 147)) (G := (zr (p + 1)) ∧ True) rfl ⟨by omega, trivial⟩ ?_
        refine z_ci 64 [vr 129, vi (p + 1)] [] rfl (m_sign hl (p := p + 1) (by omega) (by omega)) ?_
        refine z_n 1 (28, [(2, vi 1), (0, vr 129), (1, vi p)], [vi 57, vi (zsg (I 136) (I 129 0) (p + 1))], (I, zPp π, D, 147)) rfl trivial ?_
        refine z_br (57 < (zsg (I 136) (I 129 0) (p + 1))) 37 31 [] rfl (fun hx6 => ?_) (fun hx6 => ?_)
        · refine z_n 1 (38, [(2, vi 1), (0, vr 129), (1, vi p)], [vi 1], (I, zPp π, D, 147)) rfl trivial ?_
          exact z_ret rfl (zv1 (by unfold zdg; omega)) rfl
        · refine z_n 4 (4, [(2, vi 2), (0, vr 129), (1, vi p)], [vi 2, vi 2], (I, zPp π, D, 147)) (G := (zr 2) ∧ True) rfl ⟨by omega, trivial⟩ ?_
          refine z_br (2 ≤ (2 : Int)) 37 7 [] rfl (fun hx7 => ?_) (fun h => absurd (show 2 ≤ (2 : Int) from by decide) h)
          refine z_n 1 (38, [(2, vi 2), (0, vr 129), (1, vi p)], [vi 2], (I, zPp π, D, 147)) rfl trivial ?_
          exact z_ret rfl (zv1 (by unfold zdg; omega)) rfl
set_option maxRecDepth 20000 in
theorem m_num0 {I : zI} {π : Int → Nat} {D : zD} {p q : Int} (hl : 0 ≤ I 129 0 ∧ I 129 0 ≤ 80) (ht : ∀ p, 0 ≤ p → p < 80 → 0 ≤ I 136 p ∧ I 136 p ≤ 126) (h0 : 0 ≤ p ∧ p ≤ 1000) (e : q = p + 0) : zMet 63 [vr 129, vi p, vi q] (I, zPp π, D, 147) (some (vi (zvln (zsg (I 136) (I 129 0)) p 0))) (I, zPp π, D, 147) := by
  have b0 := zsg_b (l := I 129 0) (p := p) hl.2 ht h0.1
  have b1 := zsg_b (l := I 129 0) (p := p + 1) hl.2 ht (by omega)
  refine z_n 6 (8, [(4, vi p), (3, vi 0), (0, vr 129), (1, vi p), (2, vi q)], [vi q, vi p], (I, zPp π, D, 147)) rfl trivial ?_
  refine z_br (q ≤ p) 32 11 [] rfl (fun hx1 => ?_) (fun h => absurd (show q ≤ p from by omega) h)
  refine z_n 1 (33, [(4, vi p), (3, vi 0), (0, vr 129), (1, vi p), (2, vi q)], [vi 0], (I, zPp π, D, 147)) rfl trivial ?_
  exact z_ret rfl (zv1 (by unfold zvln; omega)) rfl
set_option maxRecDepth 20000 in
theorem m_num1 {I : zI} {π : Int → Nat} {D : zD} {p q : Int} (hl : 0 ≤ I 129 0 ∧ I 129 0 ≤ 80) (ht : ∀ p, 0 ≤ p → p < 80 → 0 ≤ I 136 p ∧ I 136 p ≤ 126) (h0 : 0 ≤ p ∧ p ≤ 1000) (e : q = p + 1) : zMet 63 [vr 129, vi p, vi q] (I, zPp π, D, 147) (some (vi (zvln (zsg (I 136) (I 129 0)) p 1))) (I, zPp π, D, 147) := by
  have b0 := zsg_b (l := I 129 0) (p := p) hl.2 ht h0.1
  have b1 := zsg_b (l := I 129 0) (p := p + 1) hl.2 ht (by omega)
  refine z_n 6 (8, [(4, vi p), (3, vi 0), (0, vr 129), (1, vi p), (2, vi q)], [vi q, vi p], (I, zPp π, D, 147)) rfl trivial ?_
  refine z_br (q ≤ p) 32 11 [] rfl (fun h => absurd h (show ¬ (q ≤ p) from by omega)) (fun hx1 => ?_)
  refine z_n 5 (18, [(4, vi p), (3, vi 0), (0, vr 129), (1, vi p), (2, vi q)], [vi p, vr 129, vi 0], (I, zPp π, D, 147)) (G := (zr 0) ∧ True) rfl ⟨by omega, trivial⟩ ?_
  refine z_ci 64 [vr 129, vi p] [vi 0] rfl (m_sign hl (p := p) (by omega) (by omega)) ?_
  refine z_n 8 (8, [(4, vi (p + 1)), (3, vi ((0 + (zsg (I 136) (I 129 0) p)) - 48)), (0, vr 129), (1, vi p), (2, vi q)], [vi q, vi (p + 1)], (I, zPp π, D, 147)) (G := (zr (0 + (zsg (I 136) (I 129 0) p))) ∧ (zr ((0 + (zsg (I 136) (I 129 0) p)) - 48)) ∧ (zr (p + 1)) ∧ True) rfl ⟨by omega, by omega, by omega, trivial⟩ ?_
  refine z_br (q ≤ (p + 1)) 32 11 [] rfl (fun hx2 => ?_) (fun h => absurd (show q ≤ (p + 1) from by omega) h)
  refine z_n 1 (33, [(4, vi (p + 1)), (3, vi ((0 + (zsg (I 136) (I 129 0) p)) - 48)), (0, vr 129), (1, vi p), (2, vi q)], [vi ((0 + (zsg (I 136) (I 129 0) p)) - 48)], (I, zPp π, D, 147)) rfl trivial ?_
  exact z_ret rfl (zv1 (by unfold zvln; omega)) rfl
set_option maxRecDepth 20000 in
theorem m_num2 {I : zI} {π : Int → Nat} {D : zD} {p q : Int} (hl : 0 ≤ I 129 0 ∧ I 129 0 ≤ 80) (ht : ∀ p, 0 ≤ p → p < 80 → 0 ≤ I 136 p ∧ I 136 p ≤ 126) (h0 : 0 ≤ p ∧ p ≤ 1000) (e : q = p + 2) : zMet 63 [vr 129, vi p, vi q] (I, zPp π, D, 147) (some (vi (zvln (zsg (I 136) (I 129 0)) p 2))) (I, zPp π, D, 147) := by
  have b0 := zsg_b (l := I 129 0) (p := p) hl.2 ht h0.1
  have b1 := zsg_b (l := I 129 0) (p := p + 1) hl.2 ht (by omega)
  refine z_n 6 (8, [(4, vi p), (3, vi 0), (0, vr 129), (1, vi p), (2, vi q)], [vi q, vi p], (I, zPp π, D, 147)) rfl trivial ?_
  refine z_br (q ≤ p) 32 11 [] rfl (fun h => absurd h (show ¬ (q ≤ p) from by omega)) (fun hx1 => ?_)
  refine z_n 5 (18, [(4, vi p), (3, vi 0), (0, vr 129), (1, vi p), (2, vi q)], [vi p, vr 129, vi 0], (I, zPp π, D, 147)) (G := (zr 0) ∧ True) rfl ⟨by omega, trivial⟩ ?_
  refine z_ci 64 [vr 129, vi p] [vi 0] rfl (m_sign hl (p := p) (by omega) (by omega)) ?_
  refine z_n 8 (8, [(4, vi (p + 1)), (3, vi ((0 + (zsg (I 136) (I 129 0) p)) - 48)), (0, vr 129), (1, vi p), (2, vi q)], [vi q, vi (p + 1)], (I, zPp π, D, 147)) (G := (zr (0 + (zsg (I 136) (I 129 0) p))) ∧ (zr ((0 + (zsg (I 136) (I 129 0) p)) - 48)) ∧ (zr (p + 1)) ∧ True) rfl ⟨by omega, by omega, by omega, trivial⟩ ?_
  refine z_br (q ≤ (p + 1)) 32 11 [] rfl (fun h => absurd h (show ¬ (q ≤ (p + 1)) from by omega)) (fun hx2 => ?_)
  refine z_n 5 (18, [(4, vi (p + 1)), (3, vi ((0 + (zsg (I 136) (I 129 0) p)) - 48)), (0, vr 129), (1, vi p), (2, vi q)], [vi (p + 1), vr 129, vi (((0 + (zsg (I 136) (I 129 0) p)) - 48) * 10)], (I, zPp π, D, 147)) (G := (zr (((0 + (zsg (I 136) (I 129 0) p)) - 48) * 10)) ∧ True) rfl ⟨by omega, trivial⟩ ?_
  refine z_ci 64 [vr 129, vi (p + 1)] [vi (((0 + (zsg (I 136) (I 129 0) p)) - 48) * 10)] rfl (m_sign hl (p := p + 1) (by omega) (by omega)) ?_
  refine z_n 8 (8, [(4, vi ((p + 1) + 1)), (3, vi (((((0 + (zsg (I 136) (I 129 0) p)) - 48) * 10) + (zsg (I 136) (I 129 0) (p + 1))) - 48)), (0, vr 129), (1, vi p), (2, vi q)], [vi q, vi ((p + 1) + 1)], (I, zPp π, D, 147)) (G := (zr ((((0 + (zsg (I 136) (I 129 0) p)) - 48) * 10) + (zsg (I 136) (I 129 0) (p + 1)))) ∧ (zr (((((0 + (zsg (I 136) (I 129 0) p)) - 48) * 10) + (zsg (I 136) (I 129 0) (p + 1))) - 48)) ∧ (zr ((p + 1) + 1)) ∧ True) rfl ⟨by omega, by omega, by omega, trivial⟩ ?_
  refine z_br (q ≤ ((p + 1) + 1)) 32 11 [] rfl (fun hx3 => ?_) (fun h => absurd (show q ≤ ((p + 1) + 1) from by omega) h)
  refine z_n 1 (33, [(4, vi ((p + 1) + 1)), (3, vi (((((0 + (zsg (I 136) (I 129 0) p)) - 48) * 10) + (zsg (I 136) (I 129 0) (p + 1))) - 48)), (0, vr 129), (1, vi p), (2, vi q)], [vi (((((0 + (zsg (I 136) (I 129 0) p)) - 48) * 10) + (zsg (I 136) (I 129 0) (p + 1))) - 48)], (I, zPp π, D, 147)) rfl trivial ?_
  exact z_ret rfl (zv1 (by unfold zvln; omega)) rfl
theorem m_num {I : zI} {π : Int → Nat} {D : zD} {p q d : Int} (hl : 0 ≤ I 129 0 ∧ I 129 0 ≤ 80) (ht : ∀ p, 0 ≤ p → p < 80 → 0 ≤ I 136 p ∧ I 136 p ≤ 126) (h0 : 0 ≤ p ∧ p ≤ 1000) (hd : 0 ≤ d ∧ d ≤ 2) (e : q = p + d) : zMet 63 [vr 129, vi p, vi q] (I, zPp π, D, 147) (some (vi (zvln (zsg (I 136) (I 129 0)) p d))) (I, zPp π, D, 147) := by
  rcases (show d = 0 ∨ d = 1 ∨ d = 2 by omega) with h | h | h
  · subst h; exact m_num0 hl ht h0 e
  · subst h; exact m_num1 hl ht h0 e
  · subst h; exact m_num2 hl ht h0 e
set_option maxRecDepth 20000 in
theorem m_read1 {I : zI} {π : Int → Nat} {D : zD} {p : Int} (hl : 0 ≤ I 129 0 ∧ I 129 0 ≤ 80) (ht : ∀ p, 0 ≤ p → p < 80 → 0 ≤ I 136 p ∧ I 136 p ≤ 126) (h0 : 0 ≤ p ∧ p ≤ 80) (h : zfm (zsg (I 136) (I 129 0)) p) : zMet 61 [vr 129, vi p] (I, zPp π, D, 147) (some (vi 1)) ((zRd I (zua (zsg (I 136) (I 129 0)) p) (zub (zsg (I 136) (I 129 0)) p) (zen (zsg (I 136) (I 129 0)) p + 1)), zPp π, D, 147) := by
  obtain ⟨f1, f2, f3, f4⟩ := h
  have b1 := zdg_b (G := (zsg (I 136) (I 129 0))) (p := p)
  have b2 := zdg_b (G := (zsg (I 136) (I 129 0))) (p := p + (zdg (zsg (I 136) (I 129 0)) p) + 1)
  refine z_n 3 (3, [(0, vr 129), (1, vi p)], [vi p, vr 129, vi p], (I, zPp π, D, 147)) rfl trivial ?_
  refine z_ci 62 [vr 129, vi p] [vi p] rfl (m_dig hl ⟨by omega, by omega⟩) ?_
  refine z_n 9 (15, [(2, vi (p + (zdg (zsg (I 136) (I 129 0)) p))), (0, vr 129), (1, vi p)], [vi ((p + (zdg (zsg (I 136) (I 129 0)) p)) + 1), vr 129, vi ((p + (zdg (zsg (I 136) (I 129 0)) p)) + 1)], (I, zPp π, D, 147)) (G := (zr (p + (zdg (zsg (I 136) (I 129 0)) p))) ∧ (zr ((p + (zdg (zsg (I 136) (I 129 0)) p)) + 1)) ∧ (zr ((p + (zdg (zsg (I 136) (I 129 0)) p)) + 1)) ∧ True) rfl ⟨by omega, by omega, by omega, trivial⟩ ?_
  refine z_ci 62 [vr 129, vi ((p + (zdg (zsg (I 136) (I 129 0)) p)) + 1)] [vi ((p + (zdg (zsg (I 136) (I 129 0)) p)) + 1)] rfl (m_dig hl (p := p + (zdg (zsg (I 136) (I 129 0)) p) + 1) ⟨by omega, by omega⟩) ?_
  refine z_n 4 (22, [(3, vi (((p + (zdg (zsg (I 136) (I 129 0)) p)) + 1) + (zdg (zsg (I 136) (I 129 0)) (p + (zdg (zsg (I 136) (I 129 0)) p) + 1)))), (2, vi (p + (zdg (zsg (I 136) (I 129 0)) p))), (0, vr 129), (1, vi p)], [vi (p + (zdg (zsg (I 136) (I 129 0)) p)), vr 129], (I, zPp π, D, 147)) (G := (zr (((p + (zdg (zsg (I 136) (I 129 0)) p)) + 1) + (zdg (zsg (I 136) (I 129 0)) (p + (zdg (zsg (I 136) (I 129 0)) p) + 1)))) ∧ True) rfl ⟨by omega, trivial⟩ ?_
  refine z_ci 64 [vr 129, vi (p + (zdg (zsg (I 136) (I 129 0)) p))] [] rfl (m_sign hl (p := p + (zdg (zsg (I 136) (I 129 0)) p)) (by omega) rfl) ?_
  refine z_n 1 (27, [(3, vi (((p + (zdg (zsg (I 136) (I 129 0)) p)) + 1) + (zdg (zsg (I 136) (I 129 0)) (p + (zdg (zsg (I 136) (I 129 0)) p) + 1)))), (2, vi (p + (zdg (zsg (I 136) (I 129 0)) p))), (0, vr 129), (1, vi p)], [vi 45, vi (zsg (I 136) (I 129 0) (p + (zdg (zsg (I 136) (I 129 0)) p)))], (I, zPp π, D, 147)) rfl trivial ?_
  refine z_br (¬ (zsg (I 136) (I 129 0) (p + (zdg (zsg (I 136) (I 129 0)) p))) = 45) 40 30 [] rfl (fun h => absurd h (show ¬ (¬ (zsg (I 136) (I 129 0) (p + (zdg (zsg (I 136) (I 129 0)) p))) = 45) from fun h9 => h9 f1)) (fun hx1 => ?_)
  refine z_n 2 (32, [(3, vi (((p + (zdg (zsg (I 136) (I 129 0)) p)) + 1) + (zdg (zsg (I 136) (I 129 0)) (p + (zdg (zsg (I 136) (I 129 0)) p) + 1)))), (2, vi (p + (zdg (zsg (I 136) (I 129 0)) p))), (0, vr 129), (1, vi p)], [vi (((p + (zdg (zsg (I 136) (I 129 0)) p)) + 1) + (zdg (zsg (I 136) (I 129 0)) (p + (zdg (zsg (I 136) (I 129 0)) p) + 1))), vr 129], (I, zPp π, D, 147)) rfl trivial ?_
  refine z_ci 64 [vr 129, vi (((p + (zdg (zsg (I 136) (I 129 0)) p)) + 1) + (zdg (zsg (I 136) (I 129 0)) (p + (zdg (zsg (I 136) (I 129 0)) p) + 1)))] [] rfl (m_sign hl (p := p + (zdg (zsg (I 136) (I 129 0)) p) + 1 + (zdg (zsg (I 136) (I 129 0)) (p + (zdg (zsg (I 136) (I 129 0)) p) + 1))) (by omega) rfl) ?_
  refine z_n 1 (37, [(3, vi (((p + (zdg (zsg (I 136) (I 129 0)) p)) + 1) + (zdg (zsg (I 136) (I 129 0)) (p + (zdg (zsg (I 136) (I 129 0)) p) + 1)))), (2, vi (p + (zdg (zsg (I 136) (I 129 0)) p))), (0, vr 129), (1, vi p)], [vi 59, vi (zsg (I 136) (I 129 0) (p + (zdg (zsg (I 136) (I 129 0)) p) + 1 + (zdg (zsg (I 136) (I 129 0)) (p + (zdg (zsg (I 136) (I 129 0)) p) + 1))))], (I, zPp π, D, 147)) rfl trivial ?_
  refine z_br ((zsg (I 136) (I 129 0) (p + (zdg (zsg (I 136) (I 129 0)) p) + 1 + (zdg (zsg (I 136) (I 129 0)) (p + (zdg (zsg (I 136) (I 129 0)) p) + 1)))) = 59) 42 40 [] rfl (fun hx2 => ?_) (fun h => absurd (show (zsg (I 136) (I 129 0) (p + (zdg (zsg (I 136) (I 129 0)) p) + 1 + (zdg (zsg (I 136) (I 129 0)) (p + (zdg (zsg (I 136) (I 129 0)) p) + 1)))) = 59 from f2) h)
  refine z_n 4 (46, [(3, vi (((p + (zdg (zsg (I 136) (I 129 0)) p)) + 1) + (zdg (zsg (I 136) (I 129 0)) (p + (zdg (zsg (I 136) (I 129 0)) p) + 1)))), (2, vi (p + (zdg (zsg (I 136) (I 129 0)) p))), (0, vr 129), (1, vi p)], [vi (p + (zdg (zsg (I 136) (I 129 0)) p)), vi p, vr 129, vr 129], (I, zPp π, D, 147)) rfl trivial ?_
  refine z_ci 63 [vr 129, vi p, vi (p + (zdg (zsg (I 136) (I 129 0)) p))] [vr 129] rfl (m_num hl ht (p := p) (d := (zdg (zsg (I 136) (I 129 0)) p)) ⟨by omega, by omega⟩ ⟨by omega, by omega⟩ rfl) ?_
  refine z_n 7 (58, [(3, vi (((p + (zdg (zsg (I 136) (I 129 0)) p)) + 1) + (zdg (zsg (I 136) (I 129 0)) (p + (zdg (zsg (I 136) (I 129 0)) p) + 1)))), (2, vi (p + (zdg (zsg (I 136) (I 129 0)) p))), (0, vr 129), (1, vi p)], [vi (((p + (zdg (zsg (I 136) (I 129 0)) p)) + 1) + (zdg (zsg (I 136) (I 129 0)) (p + (zdg (zsg (I 136) (I 129 0)) p) + 1))), vi ((p + (zdg (zsg (I 136) (I 129 0)) p)) + 1), vr 129, vr 129], ((zup I 129 6 (zvln (zsg (I 136) (I 129 0)) p (zdg (zsg (I 136) (I 129 0)) p))), zPp π, D, 147)) (G := (zr ((p + (zdg (zsg (I 136) (I 129 0)) p)) + 1)) ∧ True) rfl ⟨by omega, trivial⟩ ?_
  refine z_ci 63 [vr 129, vi ((p + (zdg (zsg (I 136) (I 129 0)) p)) + 1), vi (((p + (zdg (zsg (I 136) (I 129 0)) p)) + 1) + (zdg (zsg (I 136) (I 129 0)) (p + (zdg (zsg (I 136) (I 129 0)) p) + 1)))] [vr 129] rfl (m_num (I := (zup I 129 6 (zvln (zsg (I 136) (I 129 0)) p (zdg (zsg (I 136) (I 129 0)) p)))) hl ht (p := p + (zdg (zsg (I 136) (I 129 0)) p) + 1) (d := (zdg (zsg (I 136) (I 129 0)) (p + (zdg (zsg (I 136) (I 129 0)) p) + 1))) ⟨by omega, by omega⟩ ⟨by omega, by omega⟩ rfl) ?_
  refine z_n 8 (73, [(3, vi (((p + (zdg (zsg (I 136) (I 129 0)) p)) + 1) + (zdg (zsg (I 136) (I 129 0)) (p + (zdg (zsg (I 136) (I 129 0)) p) + 1)))), (2, vi (p + (zdg (zsg (I 136) (I 129 0)) p))), (0, vr 129), (1, vi p)], [vi p, vi (p + (zdg (zsg (I 136) (I 129 0)) p))], ((zup (zup (zup I 129 6 (zvln (zsg (I 136) (I 129 0)) p (zdg (zsg (I 136) (I 129 0)) p))) 129 7 (zvln (zsg (I 136) (I 129 0)) (p + (zdg (zsg (I 136) (I 129 0)) p) + 1) (zdg (zsg (I 136) (I 129 0)) (p + (zdg (zsg (I 136) (I 129 0)) p) + 1)))) 129 8 ((((p + (zdg (zsg (I 136) (I 129 0)) p)) + 1) + (zdg (zsg (I 136) (I 129 0)) (p + (zdg (zsg (I 136) (I 129 0)) p) + 1))) + 1)), zPp π, D, 147)) (G := (zr ((((p + (zdg (zsg (I 136) (I 129 0)) p)) + 1) + (zdg (zsg (I 136) (I 129 0)) (p + (zdg (zsg (I 136) (I 129 0)) p) + 1))) + 1)) ∧ True) rfl ⟨by omega, trivial⟩ ?_
  refine z_br ((p + (zdg (zsg (I 136) (I 129 0)) p)) ≤ p) 87 76 [] rfl (fun h => absurd h (show ¬ ((p + (zdg (zsg (I 136) (I 129 0)) p)) ≤ p) from by omega)) (fun hx3 => ?_)
  refine z_n 4 (80, [(3, vi (((p + (zdg (zsg (I 136) (I 129 0)) p)) + 1) + (zdg (zsg (I 136) (I 129 0)) (p + (zdg (zsg (I 136) (I 129 0)) p) + 1)))), (2, vi (p + (zdg (zsg (I 136) (I 129 0)) p))), (0, vr 129), (1, vi p)], [vi ((p + (zdg (zsg (I 136) (I 129 0)) p)) + 1), vi (((p + (zdg (zsg (I 136) (I 129 0)) p)) + 1) + (zdg (zsg (I 136) (I 129 0)) (p + (zdg (zsg (I 136) (I 129 0)) p) + 1)))], ((zup (zup (zup I 129 6 (zvln (zsg (I 136) (I 129 0)) p (zdg (zsg (I 136) (I 129 0)) p))) 129 7 (zvln (zsg (I 136) (I 129 0)) (p + (zdg (zsg (I 136) (I 129 0)) p) + 1) (zdg (zsg (I 136) (I 129 0)) (p + (zdg (zsg (I 136) (I 129 0)) p) + 1)))) 129 8 ((((p + (zdg (zsg (I 136) (I 129 0)) p)) + 1) + (zdg (zsg (I 136) (I 129 0)) (p + (zdg (zsg (I 136) (I 129 0)) p) + 1))) + 1)), zPp π, D, 147)) (G := (zr ((p + (zdg (zsg (I 136) (I 129 0)) p)) + 1)) ∧ True) rfl ⟨by omega, trivial⟩ ?_
  refine z_br ((((p + (zdg (zsg (I 136) (I 129 0)) p)) + 1) + (zdg (zsg (I 136) (I 129 0)) (p + (zdg (zsg (I 136) (I 129 0)) p) + 1))) ≤ ((p + (zdg (zsg (I 136) (I 129 0)) p)) + 1)) 87 83 [] rfl (fun h => absurd h (show ¬ ((((p + (zdg (zsg (I 136) (I 129 0)) p)) + 1) + (zdg (zsg (I 136) (I 129 0)) (p + (zdg (zsg (I 136) (I 129 0)) p) + 1))) ≤ ((p + (zdg (zsg (I 136) (I 129 0)) p)) + 1)) from by omega)) (fun hx4 => ?_)
  refine z_n 2 (88, [(3, vi (((p + (zdg (zsg (I 136) (I 129 0)) p)) + 1) + (zdg (zsg (I 136) (I 129 0)) (p + (zdg (zsg (I 136) (I 129 0)) p) + 1)))), (2, vi (p + (zdg (zsg (I 136) (I 129 0)) p))), (0, vr 129), (1, vi p)], [vi 1], ((zup (zup (zup I 129 6 (zvln (zsg (I 136) (I 129 0)) p (zdg (zsg (I 136) (I 129 0)) p))) 129 7 (zvln (zsg (I 136) (I 129 0)) (p + (zdg (zsg (I 136) (I 129 0)) p) + 1) (zdg (zsg (I 136) (I 129 0)) (p + (zdg (zsg (I 136) (I 129 0)) p) + 1)))) 129 8 ((((p + (zdg (zsg (I 136) (I 129 0)) p)) + 1) + (zdg (zsg (I 136) (I 129 0)) (p + (zdg (zsg (I 136) (I 129 0)) p) + 1))) + 1)), zPp π, D, 147)) rfl trivial ?_
  exact z_ret rfl rfl rfl
set_option maxRecDepth 20000 in
theorem m_read0a {I : zI} {π : Int → Nat} {D : zD} {p : Int} (hl : 0 ≤ I 129 0 ∧ I 129 0 ≤ 80) (ht : ∀ p, 0 ≤ p → p < 80 → 0 ≤ I 136 p ∧ I 136 p ≤ 126) (h0 : 0 ≤ p ∧ p ≤ 80) (hq : ¬ (zsg (I 136) (I 129 0) (zda (zsg (I 136) (I 129 0)) p) = 45 ∧ zsg (I 136) (I 129 0) (zen (zsg (I 136) (I 129 0)) p) = 59)) : zMet 61 [vr 129, vi p] (I, zPp π, D, 147) (some (vi 0)) (I, zPp π, D, 147) := by
  have b1 := zdg_b (G := (zsg (I 136) (I 129 0))) (p := p)
  have b2 := zdg_b (G := (zsg (I 136) (I 129 0))) (p := p + (zdg (zsg (I 136) (I 129 0)) p) + 1)
  refine z_n 3 (3, [(0, vr 129), (1, vi p)], [vi p, vr 129, vi p], (I, zPp π, D, 147)) rfl trivial ?_
  refine z_ci 62 [vr 129, vi p] [vi p] rfl (m_dig hl ⟨by omega, by omega⟩) ?_
  refine z_n 9 (15, [(2, vi (p + (zdg (zsg (I 136) (I 129 0)) p))), (0, vr 129), (1, vi p)], [vi ((p + (zdg (zsg (I 136) (I 129 0)) p)) + 1), vr 129, vi ((p + (zdg (zsg (I 136) (I 129 0)) p)) + 1)], (I, zPp π, D, 147)) (G := (zr (p + (zdg (zsg (I 136) (I 129 0)) p))) ∧ (zr ((p + (zdg (zsg (I 136) (I 129 0)) p)) + 1)) ∧ (zr ((p + (zdg (zsg (I 136) (I 129 0)) p)) + 1)) ∧ True) rfl ⟨by omega, by omega, by omega, trivial⟩ ?_
  refine z_ci 62 [vr 129, vi ((p + (zdg (zsg (I 136) (I 129 0)) p)) + 1)] [vi ((p + (zdg (zsg (I 136) (I 129 0)) p)) + 1)] rfl (m_dig hl (p := p + (zdg (zsg (I 136) (I 129 0)) p) + 1) ⟨by omega, by omega⟩) ?_
  refine z_n 4 (22, [(3, vi (((p + (zdg (zsg (I 136) (I 129 0)) p)) + 1) + (zdg (zsg (I 136) (I 129 0)) (p + (zdg (zsg (I 136) (I 129 0)) p) + 1)))), (2, vi (p + (zdg (zsg (I 136) (I 129 0)) p))), (0, vr 129), (1, vi p)], [vi (p + (zdg (zsg (I 136) (I 129 0)) p)), vr 129], (I, zPp π, D, 147)) (G := (zr (((p + (zdg (zsg (I 136) (I 129 0)) p)) + 1) + (zdg (zsg (I 136) (I 129 0)) (p + (zdg (zsg (I 136) (I 129 0)) p) + 1)))) ∧ True) rfl ⟨by omega, trivial⟩ ?_
  refine z_ci 64 [vr 129, vi (p + (zdg (zsg (I 136) (I 129 0)) p))] [] rfl (m_sign hl (p := p + (zdg (zsg (I 136) (I 129 0)) p)) (by omega) rfl) ?_
  refine z_n 1 (27, [(3, vi (((p + (zdg (zsg (I 136) (I 129 0)) p)) + 1) + (zdg (zsg (I 136) (I 129 0)) (p + (zdg (zsg (I 136) (I 129 0)) p) + 1)))), (2, vi (p + (zdg (zsg (I 136) (I 129 0)) p))), (0, vr 129), (1, vi p)], [vi 45, vi (zsg (I 136) (I 129 0) (p + (zdg (zsg (I 136) (I 129 0)) p)))], (I, zPp π, D, 147)) rfl trivial ?_
  refine z_br (¬ (zsg (I 136) (I 129 0) (p + (zdg (zsg (I 136) (I 129 0)) p))) = 45) 40 30 [] rfl (fun hx1 => ?_) (fun hx1 => ?_)
  · refine z_n 1 (41, [(3, vi (((p + (zdg (zsg (I 136) (I 129 0)) p)) + 1) + (zdg (zsg (I 136) (I 129 0)) (p + (zdg (zsg (I 136) (I 129 0)) p) + 1)))), (2, vi (p + (zdg (zsg (I 136) (I 129 0)) p))), (0, vr 129), (1, vi p)], [vi 0], (I, zPp π, D, 147)) rfl trivial ?_
    exact z_ret rfl rfl rfl
  · refine z_n 2 (32, [(3, vi (((p + (zdg (zsg (I 136) (I 129 0)) p)) + 1) + (zdg (zsg (I 136) (I 129 0)) (p + (zdg (zsg (I 136) (I 129 0)) p) + 1)))), (2, vi (p + (zdg (zsg (I 136) (I 129 0)) p))), (0, vr 129), (1, vi p)], [vi (((p + (zdg (zsg (I 136) (I 129 0)) p)) + 1) + (zdg (zsg (I 136) (I 129 0)) (p + (zdg (zsg (I 136) (I 129 0)) p) + 1))), vr 129], (I, zPp π, D, 147)) rfl trivial ?_
    refine z_ci 64 [vr 129, vi (((p + (zdg (zsg (I 136) (I 129 0)) p)) + 1) + (zdg (zsg (I 136) (I 129 0)) (p + (zdg (zsg (I 136) (I 129 0)) p) + 1)))] [] rfl (m_sign hl (p := p + (zdg (zsg (I 136) (I 129 0)) p) + 1 + (zdg (zsg (I 136) (I 129 0)) (p + (zdg (zsg (I 136) (I 129 0)) p) + 1))) (by omega) rfl) ?_
    refine z_n 1 (37, [(3, vi (((p + (zdg (zsg (I 136) (I 129 0)) p)) + 1) + (zdg (zsg (I 136) (I 129 0)) (p + (zdg (zsg (I 136) (I 129 0)) p) + 1)))), (2, vi (p + (zdg (zsg (I 136) (I 129 0)) p))), (0, vr 129), (1, vi p)], [vi 59, vi (zsg (I 136) (I 129 0) (p + (zdg (zsg (I 136) (I 129 0)) p) + 1 + (zdg (zsg (I 136) (I 129 0)) (p + (zdg (zsg (I 136) (I 129 0)) p) + 1))))], (I, zPp π, D, 147)) rfl trivial ?_
    refine z_br ((zsg (I 136) (I 129 0) (p + (zdg (zsg (I 136) (I 129 0)) p) + 1 + (zdg (zsg (I 136) (I 129 0)) (p + (zdg (zsg (I 136) (I 129 0)) p) + 1)))) = 59) 42 40 [] rfl (fun h => absurd h (show ¬ ((zsg (I 136) (I 129 0) (p + (zdg (zsg (I 136) (I 129 0)) p) + 1 + (zdg (zsg (I 136) (I 129 0)) (p + (zdg (zsg (I 136) (I 129 0)) p) + 1)))) = 59) from fun h9 => hq ⟨Classical.not_not.mp (by assumption), h9⟩)) (fun hx2 => ?_)
    refine z_n 1 (41, [(3, vi (((p + (zdg (zsg (I 136) (I 129 0)) p)) + 1) + (zdg (zsg (I 136) (I 129 0)) (p + (zdg (zsg (I 136) (I 129 0)) p) + 1)))), (2, vi (p + (zdg (zsg (I 136) (I 129 0)) p))), (0, vr 129), (1, vi p)], [vi 0], (I, zPp π, D, 147)) rfl trivial ?_
    exact z_ret rfl rfl rfl
set_option maxRecDepth 20000 in
theorem m_read0b {I : zI} {π : Int → Nat} {D : zD} {p : Int} (hl : 0 ≤ I 129 0 ∧ I 129 0 ≤ 80) (ht : ∀ p, 0 ≤ p → p < 80 → 0 ≤ I 136 p ∧ I 136 p ≤ 126) (h0 : 0 ≤ p ∧ p ≤ 80) (f1 : zsg (I 136) (I 129 0) (zda (zsg (I 136) (I 129 0)) p) = 45) (f2 : zsg (I 136) (I 129 0) (zen (zsg (I 136) (I 129 0)) p) = 59) (h : ¬ (0 < zdg (zsg (I 136) (I 129 0)) p ∧ 0 < zdg (zsg (I 136) (I 129 0)) (p + zdg (zsg (I 136) (I 129 0)) p + 1))) : zMet 61 [vr 129, vi p] (I, zPp π, D, 147) (some (vi 0)) ((zRd I (zua (zsg (I 136) (I 129 0)) p) (zub (zsg (I 136) (I 129 0)) p) (zen (zsg (I 136) (I 129 0)) p + 1)), zPp π, D, 147) := by
  have b1 := zdg_b (G := (zsg (I 136) (I 129 0))) (p := p)
  have b2 := zdg_b (G := (zsg (I 136) (I 129 0))) (p := p + (zdg (zsg (I 136) (I 129 0)) p) + 1)
  refine z_n 3 (3, [(0, vr 129), (1, vi p)], [vi p, vr 129, vi p], (I, zPp π, D, 147)) rfl trivial ?_
  refine z_ci 62 [vr 129, vi p] [vi p] rfl (m_dig hl ⟨by omega, by omega⟩) ?_
  refine z_n 9 (15, [(2, vi (p + (zdg (zsg (I 136) (I 129 0)) p))), (0, vr 129), (1, vi p)], [vi ((p + (zdg (zsg (I 136) (I 129 0)) p)) + 1), vr 129, vi ((p + (zdg (zsg (I 136) (I 129 0)) p)) + 1)], (I, zPp π, D, 147)) (G := (zr (p + (zdg (zsg (I 136) (I 129 0)) p))) ∧ (zr ((p + (zdg (zsg (I 136) (I 129 0)) p)) + 1)) ∧ (zr ((p + (zdg (zsg (I 136) (I 129 0)) p)) + 1)) ∧ True) rfl ⟨by omega, by omega, by omega, trivial⟩ ?_
  refine z_ci 62 [vr 129, vi ((p + (zdg (zsg (I 136) (I 129 0)) p)) + 1)] [vi ((p + (zdg (zsg (I 136) (I 129 0)) p)) + 1)] rfl (m_dig hl (p := p + (zdg (zsg (I 136) (I 129 0)) p) + 1) ⟨by omega, by omega⟩) ?_
  refine z_n 4 (22, [(3, vi (((p + (zdg (zsg (I 136) (I 129 0)) p)) + 1) + (zdg (zsg (I 136) (I 129 0)) (p + (zdg (zsg (I 136) (I 129 0)) p) + 1)))), (2, vi (p + (zdg (zsg (I 136) (I 129 0)) p))), (0, vr 129), (1, vi p)], [vi (p + (zdg (zsg (I 136) (I 129 0)) p)), vr 129], (I, zPp π, D, 147)) (G := (zr (((p + (zdg (zsg (I 136) (I 129 0)) p)) + 1) + (zdg (zsg (I 136) (I 129 0)) (p + (zdg (zsg (I 136) (I 129 0)) p) + 1)))) ∧ True) rfl ⟨by omega, trivial⟩ ?_
  refine z_ci 64 [vr 129, vi (p + (zdg (zsg (I 136) (I 129 0)) p))] [] rfl (m_sign hl (p := p + (zdg (zsg (I 136) (I 129 0)) p)) (by omega) rfl) ?_
  refine z_n 1 (27, [(3, vi (((p + (zdg (zsg (I 136) (I 129 0)) p)) + 1) + (zdg (zsg (I 136) (I 129 0)) (p + (zdg (zsg (I 136) (I 129 0)) p) + 1)))), (2, vi (p + (zdg (zsg (I 136) (I 129 0)) p))), (0, vr 129), (1, vi p)], [vi 45, vi (zsg (I 136) (I 129 0) (p + (zdg (zsg (I 136) (I 129 0)) p)))], (I, zPp π, D, 147)) rfl trivial ?_
  refine z_br (¬ (zsg (I 136) (I 129 0) (p + (zdg (zsg (I 136) (I 129 0)) p))) = 45) 40 30 [] rfl (fun h => absurd h (show ¬ (¬ (zsg (I 136) (I 129 0) (p + (zdg (zsg (I 136) (I 129 0)) p))) = 45) from fun h9 => h9 f1)) (fun hx1 => ?_)
  refine z_n 2 (32, [(3, vi (((p + (zdg (zsg (I 136) (I 129 0)) p)) + 1) + (zdg (zsg (I 136) (I 129 0)) (p + (zdg (zsg (I 136) (I 129 0)) p) + 1)))), (2, vi (p + (zdg (zsg (I 136) (I 129 0)) p))), (0, vr 129), (1, vi p)], [vi (((p + (zdg (zsg (I 136) (I 129 0)) p)) + 1) + (zdg (zsg (I 136) (I 129 0)) (p + (zdg (zsg (I 136) (I 129 0)) p) + 1))), vr 129], (I, zPp π, D, 147)) rfl trivial ?_
  refine z_ci 64 [vr 129, vi (((p + (zdg (zsg (I 136) (I 129 0)) p)) + 1) + (zdg (zsg (I 136) (I 129 0)) (p + (zdg (zsg (I 136) (I 129 0)) p) + 1)))] [] rfl (m_sign hl (p := p + (zdg (zsg (I 136) (I 129 0)) p) + 1 + (zdg (zsg (I 136) (I 129 0)) (p + (zdg (zsg (I 136) (I 129 0)) p) + 1))) (by omega) rfl) ?_
  refine z_n 1 (37, [(3, vi (((p + (zdg (zsg (I 136) (I 129 0)) p)) + 1) + (zdg (zsg (I 136) (I 129 0)) (p + (zdg (zsg (I 136) (I 129 0)) p) + 1)))), (2, vi (p + (zdg (zsg (I 136) (I 129 0)) p))), (0, vr 129), (1, vi p)], [vi 59, vi (zsg (I 136) (I 129 0) (p + (zdg (zsg (I 136) (I 129 0)) p) + 1 + (zdg (zsg (I 136) (I 129 0)) (p + (zdg (zsg (I 136) (I 129 0)) p) + 1))))], (I, zPp π, D, 147)) rfl trivial ?_
  refine z_br ((zsg (I 136) (I 129 0) (p + (zdg (zsg (I 136) (I 129 0)) p) + 1 + (zdg (zsg (I 136) (I 129 0)) (p + (zdg (zsg (I 136) (I 129 0)) p) + 1)))) = 59) 42 40 [] rfl (fun hx2 => ?_) (fun h => absurd (show (zsg (I 136) (I 129 0) (p + (zdg (zsg (I 136) (I 129 0)) p) + 1 + (zdg (zsg (I 136) (I 129 0)) (p + (zdg (zsg (I 136) (I 129 0)) p) + 1)))) = 59 from f2) h)
  refine z_n 4 (46, [(3, vi (((p + (zdg (zsg (I 136) (I 129 0)) p)) + 1) + (zdg (zsg (I 136) (I 129 0)) (p + (zdg (zsg (I 136) (I 129 0)) p) + 1)))), (2, vi (p + (zdg (zsg (I 136) (I 129 0)) p))), (0, vr 129), (1, vi p)], [vi (p + (zdg (zsg (I 136) (I 129 0)) p)), vi p, vr 129, vr 129], (I, zPp π, D, 147)) rfl trivial ?_
  refine z_ci 63 [vr 129, vi p, vi (p + (zdg (zsg (I 136) (I 129 0)) p))] [vr 129] rfl (m_num hl ht (p := p) (d := (zdg (zsg (I 136) (I 129 0)) p)) ⟨by omega, by omega⟩ ⟨by omega, by omega⟩ rfl) ?_
  refine z_n 7 (58, [(3, vi (((p + (zdg (zsg (I 136) (I 129 0)) p)) + 1) + (zdg (zsg (I 136) (I 129 0)) (p + (zdg (zsg (I 136) (I 129 0)) p) + 1)))), (2, vi (p + (zdg (zsg (I 136) (I 129 0)) p))), (0, vr 129), (1, vi p)], [vi (((p + (zdg (zsg (I 136) (I 129 0)) p)) + 1) + (zdg (zsg (I 136) (I 129 0)) (p + (zdg (zsg (I 136) (I 129 0)) p) + 1))), vi ((p + (zdg (zsg (I 136) (I 129 0)) p)) + 1), vr 129, vr 129], ((zup I 129 6 (zvln (zsg (I 136) (I 129 0)) p (zdg (zsg (I 136) (I 129 0)) p))), zPp π, D, 147)) (G := (zr ((p + (zdg (zsg (I 136) (I 129 0)) p)) + 1)) ∧ True) rfl ⟨by omega, trivial⟩ ?_
  refine z_ci 63 [vr 129, vi ((p + (zdg (zsg (I 136) (I 129 0)) p)) + 1), vi (((p + (zdg (zsg (I 136) (I 129 0)) p)) + 1) + (zdg (zsg (I 136) (I 129 0)) (p + (zdg (zsg (I 136) (I 129 0)) p) + 1)))] [vr 129] rfl (m_num (I := (zup I 129 6 (zvln (zsg (I 136) (I 129 0)) p (zdg (zsg (I 136) (I 129 0)) p)))) hl ht (p := p + (zdg (zsg (I 136) (I 129 0)) p) + 1) (d := (zdg (zsg (I 136) (I 129 0)) (p + (zdg (zsg (I 136) (I 129 0)) p) + 1))) ⟨by omega, by omega⟩ ⟨by omega, by omega⟩ rfl) ?_
  refine z_n 8 (73, [(3, vi (((p + (zdg (zsg (I 136) (I 129 0)) p)) + 1) + (zdg (zsg (I 136) (I 129 0)) (p + (zdg (zsg (I 136) (I 129 0)) p) + 1)))), (2, vi (p + (zdg (zsg (I 136) (I 129 0)) p))), (0, vr 129), (1, vi p)], [vi p, vi (p + (zdg (zsg (I 136) (I 129 0)) p))], ((zup (zup (zup I 129 6 (zvln (zsg (I 136) (I 129 0)) p (zdg (zsg (I 136) (I 129 0)) p))) 129 7 (zvln (zsg (I 136) (I 129 0)) (p + (zdg (zsg (I 136) (I 129 0)) p) + 1) (zdg (zsg (I 136) (I 129 0)) (p + (zdg (zsg (I 136) (I 129 0)) p) + 1)))) 129 8 ((((p + (zdg (zsg (I 136) (I 129 0)) p)) + 1) + (zdg (zsg (I 136) (I 129 0)) (p + (zdg (zsg (I 136) (I 129 0)) p) + 1))) + 1)), zPp π, D, 147)) (G := (zr ((((p + (zdg (zsg (I 136) (I 129 0)) p)) + 1) + (zdg (zsg (I 136) (I 129 0)) (p + (zdg (zsg (I 136) (I 129 0)) p) + 1))) + 1)) ∧ True) rfl ⟨by omega, trivial⟩ ?_
  refine z_br ((p + (zdg (zsg (I 136) (I 129 0)) p)) ≤ p) 87 76 [] rfl (fun hx3 => ?_) (fun hx3 => ?_)
  · refine z_n 1 (88, [(3, vi (((p + (zdg (zsg (I 136) (I 129 0)) p)) + 1) + (zdg (zsg (I 136) (I 129 0)) (p + (zdg (zsg (I 136) (I 129 0)) p) + 1)))), (2, vi (p + (zdg (zsg (I 136) (I 129 0)) p))), (0, vr 129), (1, vi p)], [vi 0], ((zup (zup (zup I 129 6 (zvln (zsg (I 136) (I 129 0)) p (zdg (zsg (I 136) (I 129 0)) p))) 129 7 (zvln (zsg (I 136) (I 129 0)) (p + (zdg (zsg (I 136) (I 129 0)) p) + 1) (zdg (zsg (I 136) (I 129 0)) (p + (zdg (zsg (I 136) (I 129 0)) p) + 1)))) 129 8 ((((p + (zdg (zsg (I 136) (I 129 0)) p)) + 1) + (zdg (zsg (I 136) (I 129 0)) (p + (zdg (zsg (I 136) (I 129 0)) p) + 1))) + 1)), zPp π, D, 147)) rfl trivial ?_
    first | exact z_ret rfl rfl rfl | (exfalso; omega)
  · refine z_n 4 (80, [(3, vi (((p + (zdg (zsg (I 136) (I 129 0)) p)) + 1) + (zdg (zsg (I 136) (I 129 0)) (p + (zdg (zsg (I 136) (I 129 0)) p) + 1)))), (2, vi (p + (zdg (zsg (I 136) (I 129 0)) p))), (0, vr 129), (1, vi p)], [vi ((p + (zdg (zsg (I 136) (I 129 0)) p)) + 1), vi (((p + (zdg (zsg (I 136) (I 129 0)) p)) + 1) + (zdg (zsg (I 136) (I 129 0)) (p + (zdg (zsg (I 136) (I 129 0)) p) + 1)))], ((zup (zup (zup I 129 6 (zvln (zsg (I 136) (I 129 0)) p (zdg (zsg (I 136) (I 129 0)) p))) 129 7 (zvln (zsg (I 136) (I 129 0)) (p + (zdg (zsg (I 136) (I 129 0)) p) + 1) (zdg (zsg (I 136) (I 129 0)) (p + (zdg (zsg (I 136) (I 129 0)) p) + 1)))) 129 8 ((((p + (zdg (zsg (I 136) (I 129 0)) p)) + 1) + (zdg (zsg (I 136) (I 129 0)) (p + (zdg (zsg (I 136) (I 129 0)) p) + 1))) + 1)), zPp π, D, 147)) (G := (zr ((p + (zdg (zsg (I 136) (I 129 0)) p)) + 1)) ∧ True) rfl ⟨by omega, trivial⟩ ?_
    refine z_br ((((p + (zdg (zsg (I 136) (I 129 0)) p)) + 1) + (zdg (zsg (I 136) (I 129 0)) (p + (zdg (zsg (I 136) (I 129 0)) p) + 1))) ≤ ((p + (zdg (zsg (I 136) (I 129 0)) p)) + 1)) 87 83 [] rfl (fun hx4 => ?_) (fun hx4 => ?_)
    · refine z_n 1 (88, [(3, vi (((p + (zdg (zsg (I 136) (I 129 0)) p)) + 1) + (zdg (zsg (I 136) (I 129 0)) (p + (zdg (zsg (I 136) (I 129 0)) p) + 1)))), (2, vi (p + (zdg (zsg (I 136) (I 129 0)) p))), (0, vr 129), (1, vi p)], [vi 0], ((zup (zup (zup I 129 6 (zvln (zsg (I 136) (I 129 0)) p (zdg (zsg (I 136) (I 129 0)) p))) 129 7 (zvln (zsg (I 136) (I 129 0)) (p + (zdg (zsg (I 136) (I 129 0)) p) + 1) (zdg (zsg (I 136) (I 129 0)) (p + (zdg (zsg (I 136) (I 129 0)) p) + 1)))) 129 8 ((((p + (zdg (zsg (I 136) (I 129 0)) p)) + 1) + (zdg (zsg (I 136) (I 129 0)) (p + (zdg (zsg (I 136) (I 129 0)) p) + 1))) + 1)), zPp π, D, 147)) rfl trivial ?_
      first | exact z_ret rfl rfl rfl | (exfalso; omega)
    · refine z_n 2 (88, [(3, vi (((p + (zdg (zsg (I 136) (I 129 0)) p)) + 1) + (zdg (zsg (I 136) (I 129 0)) (p + (zdg (zsg (I 136) (I 129 0)) p) + 1)))), (2, vi (p + (zdg (zsg (I 136) (I 129 0)) p))), (0, vr 129), (1, vi p)], [vi 1], ((zup (zup (zup I 129 6 (zvln (zsg (I 136) (I 129 0)) p (zdg (zsg (I 136) (I 129 0)) p))) 129 7 (zvln (zsg (I 136) (I 129 0)) (p + (zdg (zsg (I 136) (I 129 0)) p) + 1) (zdg (zsg (I 136) (I 129 0)) (p + (zdg (zsg (I 136) (I 129 0)) p) + 1)))) 129 8 ((((p + (zdg (zsg (I 136) (I 129 0)) p)) + 1) + (zdg (zsg (I 136) (I 129 0)) (p + (zdg (zsg (I 136) (I 129 0)) p) + 1))) + 1)), zPp π, D, 147)) rfl trivial ?_
      first | exact z_ret rfl rfl rfl | (exfalso; omega)
theorem m_read0 {I : zI} {π : Int → Nat} {D : zD} {p : Int} (hl : 0 ≤ I 129 0 ∧ I 129 0 ≤ 80) (ht : ∀ p, 0 ≤ p → p < 80 → 0 ≤ I 136 p ∧ I 136 p ≤ 126) (h0 : 0 ≤ p ∧ p ≤ 80) (h : ¬ zfm (zsg (I 136) (I 129 0)) p) : ∃ a b c, zMet 61 [vr 129, vi p] (I, zPp π, D, 147) (some (vi 0)) (zRd I a b c, zPp π, D, 147) := by
  by_cases h1 : zsg (I 136) (I 129 0) (zda (zsg (I 136) (I 129 0)) p) = 45 ∧ zsg (I 136) (I 129 0) (zen (zsg (I 136) (I 129 0)) p) = 59
  · exact ⟨_, _, _, m_read0b hl ht h0 h1.1 h1.2 (fun h2 => h ⟨h1.1, h1.2, h2⟩)⟩
  · refine ⟨I 129 6, I 129 7, I 129 8, ?_⟩
    rw [zRd_id]
    exact m_read0a hl ht h0 h1
