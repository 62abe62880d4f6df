/-- the chart with another race -/
def zRcX (X : zI) (m : Int) (u d : Int → Int) : zI := fun r j => if r = 7 ∧ j = 2 then m else if r = 9 then u j else if r = 11 then d j else X r j
theorem zRcX_o {X : zI} {m : Int} {u d : Int → Int} {r : Nat} (h : r ≠ 7 ∧ r ≠ 9 ∧ r ≠ 11) : zRcX X m u d r = X r := by
  funext j
  unfold zRcX
  rw [if_neg (fun h9 => h.1 h9.1), if_neg h.2.1, if_neg h.2.2]
theorem zRcX_i {X : zI} : zRcX X (X 7 2) (X 9) (X 11) = X := by
  funext r j
  unfold zRcX
  split
  · next h => rw [h.1, h.2]
  · split
    · next h => rw [h]
    · split
      · next h => rw [h]
      · rfl
theorem zEq_pu {mm : Int → Int} {X : zI} {m a b : Int} {u d : Int → Int} (e : zEq mm (zRcX X m u d)) (h : 0 ≤ m ∧ m < 4) (hN : X 0 5 ≤ 24) : zEq (zu1 (zu1 (zu1 mm (56 + m) a) (68 + m) b) 55 (m + 1)) (zRcX X (m + 1) (zu1 u m a) (zu1 d m b)) := by
  obtain ⟨⟨m0, m1, m2, m3, m4, m5, m6⟩, mc, ⟨mb, mk⟩, ⟨ml, mg⟩, mt⟩ := e
  have z : ∀ j, j ≠ 56 + m → j ≠ 68 + m → j ≠ 55 → (zu1 (zu1 (zu1 mm (56 + m) a) (68 + m) b) 55 (m + 1)) j = mm j := by
    intro j h1 h2 h3
    unfold zu1
    rw [if_neg h3, if_neg h2, if_neg h1]
  unfold zEq
  rw [zRcX_o (r := 0) (by decide)] at m0 m1 m2 m3 m4 m5 m6 mc mt
  rw [zRcX_o (r := 2) (by decide), zRcX_o (r := 4) (by decide)] at mc
  rw [zRcX_o (r := 12) (by decide)] at ml mg
  rw [zRcX_o (r := 14) (by decide), zRcX_o (r := 16) (by decide), zRcX_o (r := 18) (by decide)] at mg
  rw [zRcX_o (r := 22) (by decide)] at mt
  rw [zRcX_o (r := 0) (by decide), zRcX_o (r := 2) (by decide), zRcX_o (r := 4) (by decide), zRcX_o (r := 12) (by decide), zRcX_o (r := 14) (by decide), zRcX_o (r := 16) (by decide), zRcX_o (r := 18) (by decide), zRcX_o (r := 22) (by decide)]
  refine ⟨⟨(z 0 (by omega) (by omega) (by omega)).trans m0, (z 1 (by omega) (by omega) (by omega)).trans m1, (z 2 (by omega) (by omega) (by omega)).trans m2, (z 3 (by omega) (by omega) (by omega)).trans m3, (z 4 (by omega) (by omega) (by omega)).trans m4, (z 5 (by omega) (by omega) (by omega)).trans m5, (z 6 (by omega) (by omega) (by omega)).trans m6⟩, fun c c0 c1 => ?_, ⟨?_, fun j j0 j1 => ?_⟩, ⟨(z 80 (by omega) (by omega) (by omega)).trans ml, fun j j0 j1 => ?_⟩, fun t c t0 t1 c0 c1 => ?_⟩
  · rw [z _ (by omega) (by omega) (by omega), z _ (by omega) (by omega) (by omega)]; exact mc c c0 c1
  · unfold zu1; rw [if_pos rfl]; rfl
  · have j1' : j < m + 1 := j1
    show _ = zu1 u m a j ∧ _ = zu1 d m b j
    by_cases hj : j = m
    · subst hj
      unfold zu1
      refine ⟨?_, ?_⟩
      · rw [if_neg (by omega), if_neg (by omega), if_pos rfl, if_pos rfl]
      · rw [if_neg (by omega), if_pos rfl, if_pos rfl]
    · rw [z _ (by omega) (by omega) (by omega), z _ (by omega) (by omega) (by omega)]
      have := mk j j0 (show j < m by omega)
      unfold zu1
      rw [if_neg hj, if_neg hj]
      exact this
  · rw [z _ (by omega) (by omega) (by omega), z _ (by omega) (by omega) (by omega), z _ (by omega) (by omega) (by omega)]; exact mg j j0 j1
  · rw [z _ (by omega) (by omega) (by omega)]; exact mt t c t0 t1 c0 c1
theorem zCI_rc {X : zI} {m : Int} {u d : Int → Int} (ci : zCI X) (hm : 0 ≤ m) (hd : zDis (X 0) (X 4) m u d) : zCI (zRcX X m u d) := by
  unfold zCI zCJ zLg zPA
  rw [zRcX_o (r := 0) (by decide), zRcX_o (r := 2) (by decide), zRcX_o (r := 4) (by decide), zRcX_o (r := 6) (by decide), zRcX_o (r := 12) (by decide), zRcX_o (r := 16) (by decide), zRcX_o (r := 18) (by decide), zRcX_o (r := 20) (by decide), zRcX_o (r := 22) (by decide)]
  exact ⟨ci.1, hm, hd⟩
theorem zCk_p {F Pl Q G : Int → Int} {l : Int} {q : zCo} : ∀ (N : Nat) (p m : Int) (u d : Int → Int) (c : Int), zCk F Pl Q G l N p m u d c q → 0 ≤ p → 0 ≤ q.2.1 := by
  intro N
  induction N with
  | zero => rintro p m u d c ⟨_, rfl⟩ hp; exact hp
  | succ N ih =>
    rintro p m u d c (⟨_, rfl⟩ | ⟨_, ⟨_, rfl⟩ | ⟨_, res, _, ⟨_, rfl⟩ | ⟨_, h⟩⟩⟩) hp
    · exact hp
    · exact hp
    · exact hp
    · have hd1 := zdg_b (G := G) (p := p)
      have hd2 := zdg_b (G := G) (p := p + zdg G p + 1)
      exact ih _ _ _ _ _ h (by show 0 ≤ p + zdg G p + 1 + zdg G (p + zdg G p + 1) + 1; omega)
set_option maxRecDepth 20000 in
theorem m_en_l {X : zI} {G : Int → Int} {l : Int} {q : zCo} {π : Int → Nat} {D : zD} (w : zW1 (X 0)) (v : zW2 (X 0) (X 4) (X 6)) (hl : 0 ≤ l ∧ l ≤ 80) : ∀ (N : Nat) (p m : Int) (u d : Int → Int) (c : Int) (I : zI), zCk (X 0) (X 4) (X 6) G l N p m u d c q → q.1 = 0 → 0 ≤ m → zDis (X 0) (X 4) m u d → 0 ≤ p → (0 ≤ c ∧ c + N ≤ 80) → zLn I (X 0) (X 6) (zOut m u d) → I 137 4 = l → I 137 5 = p → ((∀ p, 0 ≤ p → p < l → I 140 p = G p) ∧ (∀ p, l ≤ p → G p = 0) ∧ ∀ p, 0 ≤ p → 0 ≤ G p ∧ G p ≤ 126) → zEq (I 138) (zRcX X m u d) → ∃ J, zRuns 138 29 [(1, vi c), (0, vr 137)] [] (I, zPp π, D, 147) (some (vi q.2.2.2.2.2)) (J, zPp π, D, 147) ∧ ((∀ r, r < 137 → J r = I r) ∧ J 139 = I 139 ∧ J 140 = I 140 ∧ J 137 2 = I 137 2 ∧ J 137 4 = I 137 4) ∧ zEq (J 138) (zRcX X q.2.2.1 q.2.2.2.1 q.2.2.2.2.1) ∧ 0 ≤ q.2.2.1 ∧ zDis (X 0) (X 4) q.2.2.1 q.2.2.2.1 q.2.2.2.2.1 := by
  intro N
  induction N with
  | zero =>
    intro p m u d c I hck hq0 hm hd hp hc hln h4 h5 hG e
    obtain ⟨hlp, rfl⟩ := hck
    refine ⟨I, ?_, ⟨fun _ _ => rfl, rfl, rfl, rfl, rfl⟩, e, hm, hd⟩
    refine z_n 2 (33, [(1, vi c), (0, vr 137)], [vi (I 137 5)], (I, zPp π, D, 147)) rfl trivial ?_
    refine z_top (b := p) (h5) ?_
    refine z_n 2 (37, [(1, vi c), (0, vr 137)], [vi (I 137 4), vi p], (I, zPp π, D, 147)) rfl trivial ?_
    refine z_top (b := l) (h4) ?_
    refine z_br (l ≤ p) 63 40 [] rfl (fun hx1 => ?_) (fun h => absurd (show l ≤ p from by omega) h)
    refine z_n 1 (64, [(1, vi c), (0, vr 137)], [vi c], (I, zPp π, D, 147)) rfl trivial ?_
    exact z_ret rfl rfl rfl
  | succ N ih =>
  intro p m u d c I hck hq0 hm hd hp hc hln h4 h5 hG e
  rcases hck with ⟨hlp, rfl⟩ | ⟨hpl, ⟨hz, rfl⟩ | ⟨hz, res, hres, ⟨hr, rfl⟩ | ⟨hr, hck⟩⟩⟩
  · refine ⟨I, ?_, ⟨fun _ _ => rfl, rfl, rfl, rfl, rfl⟩, e, hm, hd⟩
    refine z_n 2 (33, [(1, vi c), (0, vr 137)], [vi (I 137 5)], (I, zPp π, D, 147)) rfl trivial ?_
    refine z_top (b := p) (h5) ?_
    refine z_n 2 (37, [(1, vi c), (0, vr 137)], [vi (I 137 4), vi p], (I, zPp π, D, 147)) rfl trivial ?_
    refine z_top (b := l) (h4) ?_
    refine z_br (l ≤ p) 63 40 [] rfl (fun hx1 => ?_) (fun h => absurd (show l ≤ p from by omega) h)
    refine z_n 1 (64, [(1, vi c), (0, vr 137)], [vi c], (I, zPp π, D, 147)) rfl trivial ?_
    exact z_ret rfl rfl rfl
  · exact absurd hq0 (show ¬ (1 : Int) = 0 by decide)
  · exact absurd hq0 hr
  · subst hr
    obtain ⟨J, hJ, hJ8, hJm, hJ5, hJ6, hJ7, hJl⟩ := m_rb_D (π := π) (D := D) h4 hl hG h5 w v hln ⟨hp, hpl⟩ hm ⟨hz.2.2.1, hz.1⟩ ⟨hz.2.2.2, hz.2.1⟩ hres
    have hd1 := zdg_b (G := G) (p := p)
    have hd2 := zdg_b (G := G) (p := (p + zdg G p + 1))
    have hm4 := zdis_push4 w v hm hd hres
    have hb7 : J 138 55 = m := by rw [hJm.2.1]; exact e.2.2.1.1
    have e2 := zEq_pu (a := (zvln G p (zdg G p))) (b := (zvln G (p + zdg G p + 1) (zdg G (p + zdg G p + 1)))) e ⟨hm, hm4⟩ (by have := w.1; omega)
    rw [← hJm.2.1] at e2
    obtain ⟨K, hrun, hKf, hKe, hKm, hKd⟩ := ih (zen G p + 1) (m + 1) _ _ (c + 1) (zup (zup (zup J 138 (56 + m) (zvln G p (zdg G p))) 138 (68 + m) (zvln G (p + zdg G p + 1) (zdg G (p + zdg G p + 1)))) 138 55 (m + 1)) hck hq0 (by omega) (zdis_push hd (zReas_0 hres)) (by show 0 ≤ (p + zdg G p + 1) + zdg G (p + zdg G p + 1) + 1; omega) (by omega) (zLn_c hJl rfl rfl rfl) (hJm.2.2.2.2.2.trans h4) hJ5 (by rw [zup_ne (by decide), zup_ne (by decide), zup_ne (by decide), hJm.2.2.2.1]; exact hG) (by rw [zup_u, zup_u, zup_u]; exact e2)
    refine ⟨K, ?_, ⟨fun r hr => by rw [hKf.1 r hr, zup_ne (by omega), zup_ne (by omega), zup_ne (by omega)]; exact hJm.1 r hr, by rw [hKf.2.1, zup_ne (by decide), zup_ne (by decide), zup_ne (by decide)]; exact hJm.2.2.1, by rw [hKf.2.2.1, zup_ne (by decide), zup_ne (by decide), zup_ne (by decide)]; exact hJm.2.2.2.1, hKf.2.2.2.1.trans hJm.2.2.2.2.1, hKf.2.2.2.2.trans hJm.2.2.2.2.2⟩, hKe, hKm, hKd⟩
    refine z_n 2 (33, [(1, vi c), (0, vr 137)], [vi (I 137 5)], (I, zPp π, D, 147)) rfl trivial ?_
    refine z_top (b := p) (h5) ?_
    refine z_n 2 (37, [(1, vi c), (0, vr 137)], [vi (I 137 4), vi p], (I, zPp π, D, 147)) rfl trivial ?_
    refine z_top (b := l) (h4) ?_
    refine z_br (l ≤ p) 63 40 [] rfl (fun h => absurd h (show ¬ (l ≤ p) from by omega)) (fun hx1 => ?_)
    refine z_n 1 (41, [(1, vi c), (0, vr 137)], [vr 137], (I, zPp π, D, 147)) rfl trivial ?_
    refine z_cv 135 [vr 137] [] rfl (hJ) ?_
    refine z_n 3 (49, [(1, vi c), (0, vr 137)], [vi (J 137 6), vr 137], (J, zPp π, D, 147)) rfl trivial ?_
    refine z_top (b := (zvln G p (zdg G p))) (hJ6) ?_
    refine z_n 2 (53, [(1, vi c), (0, vr 137)], [vi (J 137 7), vi (zvln G p (zdg G p)), vr 137], (J, zPp π, D, 147)) rfl trivial ?_
    refine z_top (b := (zvln G (p + zdg G p + 1) (zdg G (p + zdg G p + 1)))) (hJ7) ?_
    refine z_ci 104 [vr 137, vi (zvln G p (zdg G p)), vi (zvln G (p + zdg G p + 1) (zdg G (p + zdg G p + 1)))] [] rfl (m_puts (m := m) hb7 (by omega)) ?_
    refine z_n 3 (29, [(1, vi (c + 1)), (0, vr 137)], [], ((zup (zup (zup J 138 (56 + m) (zvln G p (zdg G p))) 138 (68 + m) (zvln G (p + zdg G p + 1) (zdg G (p + zdg G p + 1)))) 138 55 (m + 1)), zPp π, D, 147)) (G := (zr (c + 1)) ∧ True) rfl ⟨by omega, trivial⟩ ?_
    refine z_sub [(1, vi (c + 1)), (0, vr 137)] [0, 1] rfl ?_
    exact hrun
set_option maxRecDepth 20000 in
theorem m_Renter0 {I : zI} {π : Int → Nat} {D : zD} {X : zI} {G : Int → Int} {l : Int} {q : zCo}  (e : zEq (I 138) X) (ci : zCI X) (hq : zCk (X 0) (X 4) (X 6) G l 80 0 (X 7 2) (X 9) (X 11) 0 q) (h4 : I 137 4 = l) (hl : 0 ≤ l ∧ l ≤ 80) (hG : ((∀ p, 0 ≤ p → p < l → I 140 p = G p) ∧ (∀ p, l ≤ p → G p = 0) ∧ ∀ p, 0 ≤ p → 0 ≤ G p ∧ G p ≤ 126)) (hz : ¬ q.1 = 0) : ∃ J, zMet 138 [vr 137] (I, zPp π, D, 147) (some (vi (-1002))) (J, zPp π, D, 147) ∧ zMk J I := by
  obtain ⟨J, hJ, hmk, hJ8⟩ := m_Rfaulty (π := π) (D := D) e ci hq h4 hl hG
  rw [if_neg hz] at hJ
  have hqp := zCk_p 80 _ _ _ _ _ hq (by omega)
  refine ⟨J, ?_, hmk⟩
  refine z_n 1 (1, [(0, vr 137)], [vr 137], (I, zPp π, D, 147)) rfl trivial ?_
  refine z_ci 136 [vr 137] [] rfl (hJ) ?_
  refine z_n 1 (7, [(0, vr 137)], [vi (-1004), vi q.2.1], (J, zPp π, D, 147)) rfl trivial ?_
  refine z_br (q.2.1 = (-1004)) 14 10 [] rfl (fun h => absurd h (show ¬ (q.2.1 = (-1004)) from by omega)) (fun hx1 => ?_)
  refine z_n 1 (13, [(0, vr 137)], [vi (-1002)], (J, zPp π, D, 147)) rfl trivial ?_
  exact z_ret rfl rfl rfl
set_option maxRecDepth 20000 in
theorem m_Renter1 {I : zI} {π : Int → Nat} {D : zD} {X : zI} {G : Int → Int} {l : Int} {q : zCo}  (e : zEq (I 138) X) (ci : zCI X) (hs : 0 ≤ I 137 2 ∧ I 137 2 ≤ 4) (hq : zCk (X 0) (X 4) (X 6) G l 80 0 (X 7 2) (X 9) (X 11) 0 q) (h4 : I 137 4 = l) (hl : 0 ≤ l ∧ l ≤ 80) (hG : ((∀ p, 0 ≤ p → p < l → I 140 p = G p) ∧ (∀ p, l ≤ p → G p = 0) ∧ ∀ p, 0 ≤ p → 0 ≤ G p ∧ G p ≤ 126)) (hz : q.1 = 0) : ∃ J1 J K, zMet 138 [vr 137] (I, zPp π, D, 147) (some (vi q.2.2.2.2.2)) (K, zPp π, D, 147) ∧ zMk J1 I ∧ zRcd J J1 ∧ ((∀ r, r < 137 → K r = J r) ∧ K 139 = J 139 ∧ K 140 = J 140 ∧ K 137 2 = J 137 2 ∧ K 137 4 = J 137 4) ∧ zEq (K 138) (zRcX X q.2.2.1 q.2.2.2.1 q.2.2.2.2.1) ∧ 0 ≤ q.2.2.1 ∧ zDis (X 0) (X 4) q.2.2.1 q.2.2.2.1 q.2.2.2.2.1 := by
  obtain ⟨J1, hJ1, hm1, hJ8⟩ := m_Rfaulty (π := π) (D := D) e ci hq h4 hl hG
  rw [if_pos hz] at hJ1
  obtain ⟨J, hJ, hR⟩ := m_rec (I := J1) (π := π) (D := D) (by rw [hm1.2.2.2.2.1]; exact hs)
  have e2 : zEq (J 138) X := by rw [hR.1 138 (by decide) (by decide), hm1.2.1]; exact e
  obtain ⟨L, hL, hln, hm3, e3⟩ := m_ln (π := π) (D := D) e2 ci
  obtain ⟨K, hrun, hKf, hKe, hKm, hKd⟩ := m_en_l (π := π) (D := D) ci.1.1 ci.1.2.1 hl 80 0 (X 7 2) (X 9) (X 11) 0 (zup L 137 5 0) hq hz ci.2.1 ci.2.2 (by omega) (by omega) (zLn_c hln rfl rfl rfl) ((hm3.2.2.2.2.2.trans (hR.2.1 4 (by decide))).trans (hm1.2.2.2.2.2.trans h4)) rfl (by rw [zup_ne (by decide), hm3.2.2.2.1, hR.1 140 (by decide) (by decide), hm1.2.2.2.1]; exact hG) (by rw [zup_ne (by decide), zRcX_i]; exact e3)
  refine ⟨J1, J, K, ?_, hm1, hR, ⟨fun r hr => by rw [hKf.1 r hr, zup_ne (by omega)]; exact hm3.1 r hr, by rw [hKf.2.1, zup_ne (by decide)]; exact hm3.2.2.1, by rw [hKf.2.2.1, zup_ne (by decide)]; exact hm3.2.2.2.1, hKf.2.2.2.1.trans hm3.2.2.2.2.1, hKf.2.2.2.2.trans hm3.2.2.2.2.2⟩, hKe, hKm, hKd⟩
  refine z_n 1 (1, [(0, vr 137)], [vr 137], (I, zPp π, D, 147)) rfl trivial ?_
  refine z_ci 136 [vr 137] [] rfl (hJ1) ?_
  refine z_n 1 (7, [(0, vr 137)], [vi (-1004), vi (-1004)], (J1, zPp π, D, 147)) rfl trivial ?_
  refine z_br ((-1004 : Int) = (-1004)) 14 10 [] rfl (fun hx1 => ?_) (fun h => absurd (show (-1004 : Int) = (-1004) from by decide) h)
  refine z_n 1 (15, [(0, vr 137)], [vr 137], (J1, zPp π, D, 147)) rfl trivial ?_
  refine z_cv 96 [vr 137] [] rfl (hJ) ?_
  refine z_n 1 (19, [(0, vr 137)], [vr 137], (J, zPp π, D, 147)) rfl trivial ?_
  refine z_cv 100 [vr 137] [] rfl (hL) ?_
  refine z_n 5 (29, [(1, vi 0), (0, vr 137)], [], ((zup L 137 5 0), zPp π, D, 147)) rfl trivial ?_
  refine z_sub [(1, vi 0), (0, vr 137)] [0, 1] rfl ?_
  exact hrun
