/-- a state kept -/
noncomputable def zKe (I : zI) (π : Int → Nat) : zI := zcpC (zup I 25 1 (zkp (I 25 1))) (zkd π (I 25 1)) 2
theorem zkd_in {π : Int → Nat} (hπ : zPi π) {k : Int} (h : 0 ≤ k) : zkd π k = 27 ∨ zkd π k = 50 ∨ zkd π k = 73 ∨ zkd π k = 96 := by
  unfold zkd
  split
  · exact hπ k h (by omega)
  · exact hπ 0 (by omega) (by omega)
theorem zKe_lt {I : zI} {π : Int → Nat} (hπ : zPi π) (hk : 0 ≤ I 25 1 ∧ I 25 1 ≤ 4) {r : Nat} (h : r < 25) : zKe I π r = I r := by
  have := zkd_in hπ hk.1
  unfold zKe
  rw [zcpC_out (by omega)]
  exact zup_ne (by omega)
theorem zKe_gt {I : zI} {π : Int → Nat} (hπ : zPi π) (hk : 0 ≤ I 25 1 ∧ I 25 1 ≤ 4) {r : Nat} (h : 119 ≤ r) : zKe I π r = I r := by
  have := zkd_in hπ hk.1
  unfold zKe
  rw [zcpC_out (by omega)]
  exact zup_ne (by omega)
theorem z_tsd {y pc t len a b : Nat} {L : zL} {st : List zV} {σ τ : zS} {r : Option zV} {d lo hi : Int} {offs : Array Int} {x : Int} (hi' : zi y pc = some (.tableswitch d lo hi offs, len, a, b)) (hx : x < lo ∨ hi < x) (e : pc + d.toNat = t) (kk : zRuns y t L st σ r τ) : zRuns y pc L (vi x :: st) σ r τ := by
  subst e
  refine z_s (g := none) (σ1 := σ) (L1 := L) (pc1 := pc + d.toNat) (st1 := st) ?_ (fun P hP => by cases hP) kk
  simp only [zst, hi', zx, if_pos hx]
set_option maxRecDepth 20000 in
theorem m_begin0 {I : zI} {π : Int → Nat} {D : zD} {a b c : Int} (hq : ¬ ((2 ≤ a ∧ a ≤ 24) ∧ (3 ≤ b ∧ b ≤ 8) ∧ (1 ≤ c ∧ c ≤ 6))) : zMet 58 [vr 1, vi a, vi b, vi c] (I, zPp π, D, 137) (some (vi (-1001))) (I, zPp π, D, 137) := by
  refine z_n 2 (2, [(0, vr 1), (1, vi a), (2, vi b), (3, vi c)], [vi 2, vi a], (I, zPp π, D, 137)) rfl trivial ?_
  refine z_br (a < 2) 33 5 [] rfl (fun hx1 => ?_) (fun hx1 => ?_)
  · refine z_n 1 (36, [(0, vr 1), (1, vi a), (2, vi b), (3, vi c)], [vi (-1001)], (I, zPp π, D, 137)) rfl trivial ?_
    exact z_ret rfl rfl rfl
  · refine z_n 2 (8, [(0, vr 1), (1, vi a), (2, vi b), (3, vi c)], [vi 24, vi a], (I, zPp π, D, 137)) rfl trivial ?_
    refine z_br (24 < a) 33 11 [] rfl (fun hx2 => ?_) (fun hx2 => ?_)
    · refine z_n 1 (36, [(0, vr 1), (1, vi a), (2, vi b), (3, vi c)], [vi (-1001)], (I, zPp π, D, 137)) rfl trivial ?_
      exact z_ret rfl rfl rfl
    · refine z_n 2 (13, [(0, vr 1), (1, vi a), (2, vi b), (3, vi c)], [vi 3, vi b], (I, zPp π, D, 137)) rfl trivial ?_
      refine z_br (b < 3) 33 16 [] rfl (fun hx3 => ?_) (fun hx3 => ?_)
      · refine z_n 1 (36, [(0, vr 1), (1, vi a), (2, vi b), (3, vi c)], [vi (-1001)], (I, zPp π, D, 137)) rfl trivial ?_
        exact z_ret rfl rfl rfl
      · refine z_n 2 (19, [(0, vr 1), (1, vi a), (2, vi b), (3, vi c)], [vi 8, vi b], (I, zPp π, D, 137)) rfl trivial ?_
        refine z_br (8 < b) 33 22 [] rfl (fun hx4 => ?_) (fun hx4 => ?_)
        · refine z_n 1 (36, [(0, vr 1), (1, vi a), (2, vi b), (3, vi c)], [vi (-1001)], (I, zPp π, D, 137)) rfl trivial ?_
          exact z_ret rfl rfl rfl
        · refine z_n 2 (24, [(0, vr 1), (1, vi a), (2, vi b), (3, vi c)], [vi 1, vi c], (I, zPp π, D, 137)) rfl trivial ?_
          refine z_br (c < 1) 33 27 [] rfl (fun hx5 => ?_) (fun hx5 => ?_)
          · refine z_n 1 (36, [(0, vr 1), (1, vi a), (2, vi b), (3, vi c)], [vi (-1001)], (I, zPp π, D, 137)) rfl trivial ?_
            exact z_ret rfl rfl rfl
          · refine z_n 2 (30, [(0, vr 1), (1, vi a), (2, vi b), (3, vi c)], [vi 6, vi c], (I, zPp π, D, 137)) rfl trivial ?_
            refine z_br (c ≤ 6) 37 33 [] rfl (fun h => absurd h (show ¬ (c ≤ 6) from by omega)) (fun hx6 => ?_)
            refine z_n 1 (36, [(0, vr 1), (1, vi a), (2, vi b), (3, vi c)], [vi (-1001)], (I, zPp π, D, 137)) rfl trivial ?_
            exact z_ret rfl rfl rfl
set_option maxRecDepth 20000 in
theorem m_begin1 {I : zI} {π : Int → Nat} {D : zD} {a b c : Int} {J : zI}  (hq : (2 ≤ a ∧ a ≤ 24) ∧ (3 ≤ b ∧ b ≤ 8) ∧ (1 ≤ c ∧ c ≤ 6)) (hP : ∀ c, 0 ≤ c → c < 24 → 0 ≤ I 6 c ∧ I 6 c < 24) (hπ : zPi π) (hk : 0 ≤ I 25 1 ∧ I 25 1 ≤ 4) (eJ : J = zKe I π) : zMet 58 [vr 1, vi a, vi b, vi c] (I, zPp π, D, 137) (some (vi ((a + b - 1) / b))) ((zBeg (zup (zup (zup (zup J 2 5 a) 2 6 b) 2 7 c) 2 8 0)), zPp (zkr π (I 25 1)), D, 137) := by
  have hkp : zMet 38 [vr 25, vr 2] (I, zPp π, D, 137) none (J, zPp (zkr π (I 25 1)), D, 137) := by rw [eJ]; exact m_keep hπ hk
  have hJ : ∀ r, r < 25 → J r = I r := by rw [eJ]; exact fun r h => zKe_lt hπ hk h
  have hPJ : ∀ c, 0 ≤ c → c < 24 → 0 ≤ J 6 c ∧ J 6 c < 24 := by rw [hJ 6 (by decide)]; exact hP
  refine z_n 2 (2, [(0, vr 1), (1, vi a), (2, vi b), (3, vi c)], [vi 2, vi a], (I, zPp π, D, 137)) rfl trivial ?_
  refine z_br (a < 2) 33 5 [] rfl (fun h => absurd h (show ¬ (a < 2) from by omega)) (fun hx1 => ?_)
  refine z_n 2 (8, [(0, vr 1), (1, vi a), (2, vi b), (3, vi c)], [vi 24, vi a], (I, zPp π, D, 137)) rfl trivial ?_
  refine z_br (24 < a) 33 11 [] rfl (fun h => absurd h (show ¬ (24 < a) from by omega)) (fun hx2 => ?_)
  refine z_n 2 (13, [(0, vr 1), (1, vi a), (2, vi b), (3, vi c)], [vi 3, vi b], (I, zPp π, D, 137)) rfl trivial ?_
  refine z_br (b < 3) 33 16 [] rfl (fun h => absurd h (show ¬ (b < 3) from by omega)) (fun hx3 => ?_)
  refine z_n 2 (19, [(0, vr 1), (1, vi a), (2, vi b), (3, vi c)], [vi 8, vi b], (I, zPp π, D, 137)) rfl trivial ?_
  refine z_br (8 < b) 33 22 [] rfl (fun h => absurd h (show ¬ (8 < b) from by omega)) (fun hx4 => ?_)
  refine z_n 2 (24, [(0, vr 1), (1, vi a), (2, vi b), (3, vi c)], [vi 1, vi c], (I, zPp π, D, 137)) rfl trivial ?_
  refine z_br (c < 1) 33 27 [] rfl (fun h => absurd h (show ¬ (c < 1) from by omega)) (fun hx5 => ?_)
  refine z_n 2 (30, [(0, vr 1), (1, vi a), (2, vi b), (3, vi c)], [vi 6, vi c], (I, zPp π, D, 137)) rfl trivial ?_
  refine z_br (c ≤ 6) 37 33 [] rfl (fun hx6 => ?_) (fun h => absurd (show c ≤ 6 from by omega) h)
  refine z_n 4 (45, [(0, vr 1), (1, vi a), (2, vi b), (3, vi c)], [vr 2, vr 25], (I, zPp π, D, 137)) rfl trivial ?_
  refine z_cv 38 [vr 25, vr 2] [] rfl (hkp) ?_
  refine z_n 5 (55, [(0, vr 1), (1, vi a), (2, vi b), (3, vi c)], [vi c, vi b, vi a, vr 2], (J, zPp (zkr π (I 25 1)), D, 137)) rfl trivial ?_
  refine z_cv 5 [vr 2, vi a, vi b, vi c] [] rfl (m_anew (I := J) hq.1 hq.2.1 hq.2.2 hPJ) ?_
  refine z_n 2 (62, [(0, vr 1), (1, vi a), (2, vi b), (3, vi c)], [vr 2], ((zBeg (zup (zup (zup (zup J 2 5 a) 2 6 b) 2 7 c) 2 8 0)), zPp (zkr π (I 25 1)), D, 137)) rfl trivial ?_
  refine z_ci 9 [vr 2] [] rfl (m_div2 (I := zBeg (zup (zup (zup (zup J 2 5 a) 2 6 b) 2 7 c) 2 8 0)) (show 0 ≤ a ∧ a ≤ 24 from by omega) (show 3 ≤ b ∧ b ≤ 8 from hq.2.1)) ?_
  exact z_ret rfl rfl rfl
set_option maxRecDepth 20000 in
theorem m_setSpeed0 {I : zI} {π : Int → Nat} {D : zD} {c x : Int} (hq : ¬ ((0 ≤ c ∧ c < I 2 5) ∧ (1 ≤ x ∧ x ≤ 1000))) : zMet 59 [vr 1, vi c, vi x] (I, zPp π, D, 137) (some (vi (-1001))) (I, zPp π, D, 137) := by
  refine z_n 3 (5, [(0, vr 1), (1, vi c), (2, vi x)], [vi c, vr 2], (I, zPp π, D, 137)) rfl trivial ?_
  by_cases hx1 : 0 ≤ c ∧ c < I 2 5
  · refine z_ci 6 [vr 2, vi c] [] rfl (m_hasCrew1 hx1) ?_
    refine z_br ((1 : Int) = 0) 23 11 [] rfl (fun h => absurd h (show ¬ ((1 : Int) = 0) from by decide)) (fun hx2 => ?_)
    refine z_n 2 (13, [(0, vr 1), (1, vi c), (2, vi x)], [vi 1, vi x], (I, zPp π, D, 137)) rfl trivial ?_
    refine z_br (x < 1) 23 16 [] rfl (fun hx3 => ?_) (fun hx3 => ?_)
    · refine z_n 1 (26, [(0, vr 1), (1, vi c), (2, vi x)], [vi (-1001)], (I, zPp π, D, 137)) rfl trivial ?_
      first | exact z_ret rfl rfl rfl | exact z_ret rfl (zv1 (by omega)) rfl | (exfalso; omega)
    · refine z_n 2 (20, [(0, vr 1), (1, vi c), (2, vi x)], [vi 1000, vi x], (I, zPp π, D, 137)) rfl trivial ?_
      refine z_br (x ≤ 1000) 27 23 [] rfl (fun h => absurd h (show ¬ (x ≤ 1000) from by omega)) (fun hx4 => ?_)
      refine z_n 1 (26, [(0, vr 1), (1, vi c), (2, vi x)], [vi (-1001)], (I, zPp π, D, 137)) rfl trivial ?_
      first | exact z_ret rfl rfl rfl | exact z_ret rfl (zv1 (by omega)) rfl | (exfalso; omega)
  · refine z_ci 6 [vr 2, vi c] [] rfl (m_hasCrew0 hx1) ?_
    refine z_br ((0 : Int) = 0) 23 11 [] rfl (fun hx5 => ?_) (fun h => absurd (show (0 : Int) = 0 from by decide) h)
    refine z_n 1 (26, [(0, vr 1), (1, vi c), (2, vi x)], [vi (-1001)], (I, zPp π, D, 137)) rfl trivial ?_
    first | exact z_ret rfl rfl rfl | exact z_ret rfl (zv1 (by omega)) rfl | (exfalso; omega)
set_option maxRecDepth 20000 in
theorem m_setSpeed1 {I : zI} {π : Int → Nat} {D : zD} {c x : Int} {J : zI}  (hq : (0 ≤ c ∧ c < I 2 5) ∧ (1 ≤ x ∧ x ≤ 1000)) (hN : I 2 5 ≤ 24) (hπ : zPi π) (hk : 0 ≤ I 25 1 ∧ I 25 1 ≤ 4) (eJ : J = zKe I π) : zMet 59 [vr 1, vi c, vi x] (I, zPp π, D, 137) (some (vi (I 4 c))) ((zup J 4 c x), zPp (zkr π (I 25 1)), D, 137) := by
  have hkp : zMet 38 [vr 25, vr 2] (I, zPp π, D, 137) none (J, zPp (zkr π (I 25 1)), D, 137) := by rw [eJ]; exact m_keep hπ hk
  have hJ : ∀ r, r < 25 → J r = I r := by rw [eJ]; exact fun r h => zKe_lt hπ hk h
  refine z_n 3 (5, [(0, vr 1), (1, vi c), (2, vi x)], [vi c, vr 2], (I, zPp π, D, 137)) rfl trivial ?_
  refine z_ci 6 [vr 2, vi c] [] rfl (m_hasCrew1 hq.1) ?_
  refine z_br ((1 : Int) = 0) 23 11 [] rfl (fun h => absurd h (show ¬ ((1 : Int) = 0) from by decide)) (fun hx1 => ?_)
  refine z_n 2 (13, [(0, vr 1), (1, vi c), (2, vi x)], [vi 1, vi x], (I, zPp π, D, 137)) rfl trivial ?_
  refine z_br (x < 1) 23 16 [] rfl (fun h => absurd h (show ¬ (x < 1) from by omega)) (fun hx2 => ?_)
  refine z_n 2 (20, [(0, vr 1), (1, vi c), (2, vi x)], [vi 1000, vi x], (I, zPp π, D, 137)) rfl trivial ?_
  refine z_br (x ≤ 1000) 27 23 [] rfl (fun hx3 => ?_) (fun h => absurd (show x ≤ 1000 from by omega) h)
  refine z_n 4 (35, [(0, vr 1), (1, vi c), (2, vi x)], [vr 2, vr 25], (I, zPp π, D, 137)) rfl trivial ?_
  refine z_cv 38 [vr 25, vr 2] [] rfl (hkp) ?_
  refine z_n 4 (46, [(0, vr 1), (1, vi c), (2, vi x)], [vi c, vr 3], (J, zPp (zkr π (I 25 1)), D, 137)) rfl trivial ?_
  refine z_ci 1 [vr 3, vi c] [] rfl (m_get (n := 24) ⟨rfl, rfl, rfl, rfl⟩ (by omega) (by omega)) ?_
  refine z_n 6 (59, [(3, vi (J 4 c)), (0, vr 1), (1, vi c), (2, vi x)], [vi x, vi c, vr 3], (J, zPp (zkr π (I 25 1)), D, 137)) rfl trivial ?_
  refine z_cv 2 [vr 3, vi c, vi x] [] rfl (m_put (n := 24) ⟨rfl, rfl, rfl, rfl⟩ (by omega) (by omega)) ?_
  refine z_n 1 (63, [(3, vi (J 4 c)), (0, vr 1), (1, vi c), (2, vi x)], [vi (J 4 c)], ((zup J 4 c x), zPp (zkr π (I 25 1)), D, 137)) rfl trivial ?_
  exact z_ret rfl (zv1 (by simp only [hJ 4 (by decide)])) rfl
set_option maxRecDepth 20000 in
theorem m_count0 {I : zI} {π : Int → Nat} {D : zD}   : zMet 60 [vr 1, vi 0] (I, zPp π, D, 137) (some (vi (I 2 5))) (I, zPp π, D, 137) := by
  refine z_n 5 (75, [(0, vr 1), (1, vi 0)], [vi (I 2 5)], (I, zPp π, D, 137)) rfl trivial ?_
  first | exact z_ret rfl rfl rfl | exact z_ret rfl (zv1 (by omega)) rfl | (exfalso; omega)
set_option maxRecDepth 20000 in
theorem m_count1 {I : zI} {π : Int → Nat} {D : zD}   : zMet 60 [vr 1, vi 1] (I, zPp π, D, 137) (some (vi (I 2 6))) (I, zPp π, D, 137) := by
  refine z_n 5 (83, [(0, vr 1), (1, vi 1)], [vi (I 2 6)], (I, zPp π, D, 137)) rfl trivial ?_
  first | exact z_ret rfl rfl rfl | exact z_ret rfl (zv1 (by omega)) rfl | (exfalso; omega)
set_option maxRecDepth 20000 in
theorem m_count2 {I : zI} {π : Int → Nat} {D : zD}  (w : zW1 (I 2)) : zMet 60 [vr 1, vi 2] (I, zPp π, D, 137) (some (vi ((I 2 5 + I 2 6 - 1) / I 2 6))) (I, zPp π, D, 137) := by
  refine z_n 4 (88, [(0, vr 1), (1, vi 2)], [vr 2], (I, zPp π, D, 137)) rfl trivial ?_
  refine z_ci 9 [vr 2] [] rfl (m_divisions w) ?_
  first | exact z_ret rfl rfl rfl | exact z_ret rfl (zv1 (by omega)) rfl | (exfalso; omega)
set_option maxRecDepth 20000 in
theorem m_count3 {I : zI} {π : Int → Nat} {D : zD}   : zMet 60 [vr 1, vi 3] (I, zPp π, D, 137) (some (vi (I 2 7))) (I, zPp π, D, 137) := by
  refine z_n 5 (99, [(0, vr 1), (1, vi 3)], [vi (I 2 7)], (I, zPp π, D, 137)) rfl trivial ?_
  first | exact z_ret rfl rfl rfl | exact z_ret rfl (zv1 (by omega)) rfl | (exfalso; omega)
set_option maxRecDepth 20000 in
theorem m_count4 {I : zI} {π : Int → Nat} {D : zD}   : zMet 60 [vr 1, vi 4] (I, zPp π, D, 137) (some (vi (I 2 8))) (I, zPp π, D, 137) := by
  refine z_n 5 (107, [(0, vr 1), (1, vi 4)], [vi (I 2 8)], (I, zPp π, D, 137)) rfl trivial ?_
  first | exact z_ret rfl rfl rfl | exact z_ret rfl (zv1 (by omega)) rfl | (exfalso; omega)
set_option maxRecDepth 20000 in
theorem m_count5 {I : zI} {π : Int → Nat} {D : zD}  (w : zW1 (I 2)) : zMet 60 [vr 1, vi 5] (I, zPp π, D, 137) (some (vi (if I 2 9 = -1 then -1004 else I 2 9))) (I, zPp π, D, 137) := by
  refine z_n 4 (112, [(0, vr 1), (1, vi 5)], [vr 2], (I, zPp π, D, 137)) rfl trivial ?_
  by_cases hx1 : ¬ I 2 9 = -1
  · refine z_ci 8 [vr 2] [] rfl (m_hasRace1 hx1) ?_
    refine z_br ((1 : Int) = 0) 128 118 [] rfl (fun h => absurd h (show ¬ ((1 : Int) = 0) from by decide)) (fun hx2 => ?_)
    refine z_n 4 (131, [(0, vr 1), (1, vi 5)], [vi (I 2 9)], (I, zPp π, D, 137)) rfl trivial ?_
    first | exact z_ret rfl rfl rfl | exact z_ret rfl (zv1 (by omega)) rfl | (exfalso; omega)
  · refine z_ci 8 [vr 2] [] rfl (m_hasRace0 hx1) ?_
    refine z_br ((0 : Int) = 0) 128 118 [] rfl (fun hx3 => ?_) (fun h => absurd (show (0 : Int) = 0 from by decide) h)
    refine z_n 1 (131, [(0, vr 1), (1, vi 5)], [vi (-1004)], (I, zPp π, D, 137)) rfl trivial ?_
    first | exact z_ret rfl rfl rfl | exact z_ret rfl (zv1 (by omega)) rfl | (exfalso; omega)
set_option maxRecDepth 20000 in
theorem m_count6 {I : zI} {π : Int → Nat} {D : zD}  (w : zW1 (I 2)) : zMet 60 [vr 1, vi 6] (I, zPp π, D, 137) (some (vi (if I 2 9 = -1 then -1004 else I 9 2))) (I, zPp π, D, 137) := by
  refine z_n 4 (136, [(0, vr 1), (1, vi 6)], [vr 2], (I, zPp π, D, 137)) rfl trivial ?_
  by_cases hx1 : ¬ I 2 9 = -1
  · refine z_ci 8 [vr 2] [] rfl (m_hasRace1 hx1) ?_
    refine z_br ((1 : Int) = 0) 155 142 [] rfl (fun h => absurd h (show ¬ ((1 : Int) = 0) from by decide)) (fun hx2 => ?_)
    refine z_n 5 (158, [(0, vr 1), (1, vi 6)], [vi (I 9 2)], (I, zPp π, D, 137)) rfl trivial ?_
    first | exact z_ret rfl rfl rfl | exact z_ret rfl (zv1 (by omega)) rfl | (exfalso; omega)
  · refine z_ci 8 [vr 2] [] rfl (m_hasRace0 hx1) ?_
    refine z_br ((0 : Int) = 0) 155 142 [] rfl (fun hx3 => ?_) (fun h => absurd (show (0 : Int) = 0 from by decide) h)
    refine z_n 1 (158, [(0, vr 1), (1, vi 6)], [vi (-1004)], (I, zPp π, D, 137)) rfl trivial ?_
    first | exact z_ret rfl rfl rfl | exact z_ret rfl (zv1 (by omega)) rfl | (exfalso; omega)
set_option maxRecDepth 20000 in
theorem m_count7 {I : zI} {π : Int → Nat} {D : zD}  (w : zW1 (I 2)) : zMet 60 [vr 1, vi 7] (I, zPp π, D, 137) (some (vi (if I 2 9 = -1 then -1004 else zns (I 2)))) (I, zPp π, D, 137) := by
  refine z_n 4 (163, [(0, vr 1), (1, vi 7)], [vr 2], (I, zPp π, D, 137)) rfl trivial ?_
  by_cases hx1 : ¬ I 2 9 = -1
  · refine z_ci 8 [vr 2] [] rfl (m_hasRace1 hx1) ?_
    refine z_br ((1 : Int) = 0) 179 169 [] rfl (fun h => absurd h (show ¬ ((1 : Int) = 0) from by decide)) (fun hx2 => ?_)
    refine z_n 2 (173, [(0, vr 1), (1, vi 7)], [vr 2], (I, zPp π, D, 137)) rfl trivial ?_
    refine z_ci 12 [vr 2] [] rfl (m_starters w) ?_
    refine z_n 1 (182, [(0, vr 1), (1, vi 7)], [vi (zns (I 2))], (I, zPp π, D, 137)) rfl trivial ?_
    first | exact z_ret rfl rfl rfl | exact z_ret rfl (zv1 (by omega)) rfl | (exfalso; omega)
  · refine z_ci 8 [vr 2] [] rfl (m_hasRace0 hx1) ?_
    refine z_br ((0 : Int) = 0) 179 169 [] rfl (fun hx3 => ?_) (fun h => absurd (show (0 : Int) = 0 from by decide) h)
    refine z_n 1 (182, [(0, vr 1), (1, vi 7)], [vi (-1004)], (I, zPp π, D, 137)) rfl trivial ?_
    first | exact z_ret rfl rfl rfl | exact z_ret rfl (zv1 (by omega)) rfl | (exfalso; omega)
set_option maxRecDepth 20000 in
theorem m_count8 {I : zI} {π : Int → Nat} {D : zD}   : zMet 60 [vr 1, vi 8] (I, zPp π, D, 137) (some (vi (I 2 10))) (I, zPp π, D, 137) := by
  refine z_n 5 (190, [(0, vr 1), (1, vi 8)], [vi (I 2 10)], (I, zPp π, D, 137)) rfl trivial ?_
  first | exact z_ret rfl rfl rfl | exact z_ret rfl (zv1 (by omega)) rfl | (exfalso; omega)
set_option maxRecDepth 20000 in
theorem m_count9 {I : zI} {π : Int → Nat} {D : zD}   : zMet 60 [vr 1, vi 9] (I, zPp π, D, 137) (some (vi (I 2 11))) (I, zPp π, D, 137) := by
  refine z_n 5 (198, [(0, vr 1), (1, vi 9)], [vi (I 2 11)], (I, zPp π, D, 137)) rfl trivial ?_
  first | exact z_ret rfl rfl rfl | exact z_ret rfl (zv1 (by omega)) rfl | (exfalso; omega)
set_option maxRecDepth 20000 in
theorem m_count10 {I : zI} {π : Int → Nat} {D : zD}   : zMet 60 [vr 1, vi 10] (I, zPp π, D, 137) (some (vi (I 25 1))) (I, zPp π, D, 137) := by
  refine z_n 5 (206, [(0, vr 1), (1, vi 10)], [vi (I 25 1)], (I, zPp π, D, 137)) rfl trivial ?_
  first | exact z_ret rfl rfl rfl | exact z_ret rfl (zv1 (by omega)) rfl | (exfalso; omega)
set_option maxRecDepth 20000 in
theorem m_count11 {I : zI} {π : Int → Nat} {D : zD}   : zMet 60 [vr 1, vi 11] (I, zPp π, D, 137) (some (vi (I 129 0))) (I, zPp π, D, 137) := by
  refine z_n 5 (214, [(0, vr 1), (1, vi 11)], [vi (I 129 0)], (I, zPp π, D, 137)) rfl trivial ?_
  first | exact z_ret rfl rfl rfl | exact z_ret rfl (zv1 (by omega)) rfl | (exfalso; omega)
set_option maxRecDepth 20000 in
theorem m_count12 {I : zI} {π : Int → Nat} {D : zD}   : zMet 60 [vr 1, vi 12] (I, zPp π, D, 137) (some (vi (I 8 0))) (I, zPp π, D, 137) := by
  refine z_n 6 (223, [(0, vr 1), (1, vi 12)], [vi 0, vr 7], (I, zPp π, D, 137)) rfl trivial ?_
  refine z_ci 1 [vr 7, vi 0] [] rfl (m_get (n := 24) ⟨rfl, rfl, rfl, rfl⟩ (by omega) (by omega)) ?_
  first | exact z_ret rfl rfl rfl | exact z_ret rfl (zv1 (by omega)) rfl | (exfalso; omega)
set_option maxRecDepth 20000 in
theorem m_countx {I : zI} {π : Int → Nat} {D : zD} {a : Int} (hq : a < 0 ∨ 12 < a) : zMet 60 [vr 1, vi a] (I, zPp π, D, 137) (some (vi (-1001))) (I, zPp π, D, 137) := by
  refine z_n 1 (1, [(0, vr 1), (1, vi a)], [vi a], (I, zPp π, D, 137)) rfl trivial ?_
  refine z_tsd rfl (by omega) (show 1 + Int.toNat 226 = 227 from rfl) ?_
  refine z_n 1 (230, [(0, vr 1), (1, vi a)], [vi (-1001)], (I, zPp π, D, 137)) rfl trivial ?_
  first | exact z_ret rfl rfl rfl | exact z_ret rfl (zv1 (by omega)) rfl | (exfalso; omega)
set_option maxRecDepth 20000 in
theorem m_outf1 {I : zI} {π : Int → Nat} {D : zD} {c : Int} (hM : 0 ≤ I 9 2 ∧ I 9 2 ≤ 4) (hq : zOut (I 9 2) (I 11) (I 13) c) : zMet 62 [vr 1, vi c] (I, zPp π, D, 137) (some (vi 1)) (I, zPp π, D, 137) := by
  refine z_n 4 (8, [(0, vr 1), (1, vi c)], [vi c, vr 9], (I, zPp π, D, 137)) rfl trivial ?_
  refine z_ci 53 [vr 9, vi c] [] rfl (m_isOut9_1 hM hq) ?_
  refine z_br ((1 : Int) = 0) 18 14 [] rfl (fun h => absurd h (show ¬ ((1 : Int) = 0) from by decide)) (fun hx1 => ?_)
  refine z_n 2 (19, [(0, vr 1), (1, vi c)], [vi 1], (I, zPp π, D, 137)) rfl trivial ?_
  first | exact z_ret rfl rfl rfl | exact z_ret rfl (zv1 (by omega)) rfl | (exfalso; omega)
set_option maxRecDepth 20000 in
theorem m_outf0 {I : zI} {π : Int → Nat} {D : zD} {c : Int} (hM : 0 ≤ I 9 2 ∧ I 9 2 ≤ 4) (hq : ¬ zOut (I 9 2) (I 11) (I 13) c) : zMet 62 [vr 1, vi c] (I, zPp π, D, 137) (some (vi 0)) (I, zPp π, D, 137) := by
  refine z_n 4 (8, [(0, vr 1), (1, vi c)], [vi c, vr 9], (I, zPp π, D, 137)) rfl trivial ?_
  refine z_ci 53 [vr 9, vi c] [] rfl (m_isOut9_0 hM hq) ?_
  refine z_br ((0 : Int) = 0) 18 14 [] rfl (fun hx1 => ?_) (fun h => absurd (show (0 : Int) = 0 from by decide) h)
  refine z_n 1 (19, [(0, vr 1), (1, vi c)], [vi 0], (I, zPp π, D, 137)) rfl trivial ?_
  first | exact z_ret rfl rfl rfl | exact z_ret rfl (zv1 (by omega)) rfl | (exfalso; omega)
set_option maxRecDepth 20000 in
theorem m_crew0 {I : zI} {π : Int → Nat} {D : zD} {c a : Int} (hq : ¬ (0 ≤ c ∧ c < I 2 5)) : zMet 61 [vr 1, vi c, vi a] (I, zPp π, D, 137) (some (vi (-1001))) (I, zPp π, D, 137) := by
  refine z_n 3 (5, [(0, vr 1), (1, vi c), (2, vi a)], [vi c, vr 2], (I, zPp π, D, 137)) rfl trivial ?_
  refine z_ci 6 [vr 2, vi c] [] rfl (m_hasCrew0 hq) ?_
  refine z_br (¬ (0 : Int) = 0) 15 11 [] rfl (fun h => absurd h (show ¬ (¬ (0 : Int) = 0) from by decide)) (fun hx1 => ?_)
  refine z_n 1 (14, [(0, vr 1), (1, vi c), (2, vi a)], [vi (-1001)], (I, zPp π, D, 137)) rfl trivial ?_
  first | exact z_ret rfl rfl rfl | exact z_ret rfl (zv1 (by omega)) rfl | (exfalso; omega)
set_option maxRecDepth 20000 in
theorem m_crewx {I : zI} {π : Int → Nat} {D : zD} {c a : Int} (hq : 0 ≤ c ∧ c < I 2 5) (ha : a < 0 ∨ 9 < a) : zMet 61 [vr 1, vi c, vi a] (I, zPp π, D, 137) (some (vi (-1001))) (I, zPp π, D, 137) := by
  refine z_n 3 (5, [(0, vr 1), (1, vi c), (2, vi a)], [vi c, vr 2], (I, zPp π, D, 137)) rfl trivial ?_
  refine z_ci 6 [vr 2, vi c] [] rfl (m_hasCrew1 hq) ?_
  refine z_br (¬ (1 : Int) = 0) 15 11 [] rfl (fun hx1 => ?_) (fun h => absurd (show ¬ (1 : Int) = 0 from by decide) h)
  refine z_n 1 (16, [(0, vr 1), (1, vi c), (2, vi a)], [vi a], (I, zPp π, D, 137)) rfl trivial ?_
  refine z_tsd rfl (by omega) (show 16 + Int.toNat 189 = 205 from rfl) ?_
  refine z_n 1 (208, [(0, vr 1), (1, vi c), (2, vi a)], [vi (-1001)], (I, zPp π, D, 137)) rfl trivial ?_
  first | exact z_ret rfl rfl rfl | exact z_ret rfl (zv1 (by omega)) rfl | (exfalso; omega)
set_option maxRecDepth 20000 in
theorem m_crew_0 {I : zI} {π : Int → Nat} {D : zD} {c : Int} (hq : 0 ≤ c ∧ c < I 2 5) (w : zW1 (I 2))  : zMet 61 [vr 1, vi c, vi 0] (I, zPp π, D, 137) (some (vi (I 4 c))) (I, zPp π, D, 137) := by
  obtain ⟨⟨w1, w2⟩, ⟨w3, w4⟩, ⟨w5, w6⟩, ⟨w7, w8⟩, ⟨w9, w10⟩, w11, ⟨⟨w12, w12b⟩, w12c⟩, ⟨w13, w14⟩, ⟨w15, w16⟩⟩ := id w
  refine z_n 3 (5, [(0, vr 1), (1, vi c), (2, vi 0)], [vi c, vr 2], (I, zPp π, D, 137)) rfl trivial ?_
  refine z_ci 6 [vr 2, vi c] [] rfl (m_hasCrew1 hq) ?_
  refine z_br (¬ (1 : Int) = 0) 15 11 [] rfl (fun hx1 => ?_) (fun h => absurd (show ¬ (1 : Int) = 0 from by decide) h)
  refine z_n 6 (80, [(0, vr 1), (1, vi c), (2, vi 0)], [vi c, vr 3], (I, zPp π, D, 137)) rfl trivial ?_
  refine z_ci 1 [vr 3, vi c] [] rfl (m_get (n := 24) ⟨rfl, rfl, rfl, rfl⟩ (by omega) (by omega)) ?_
  first | exact z_ret rfl rfl rfl | exact z_ret rfl (zv1 (by omega)) rfl | (exfalso; omega)
set_option maxRecDepth 20000 in
theorem m_crew_1 {I : zI} {π : Int → Nat} {D : zD} {c : Int} (hq : 0 ≤ c ∧ c < I 2 5) (w : zW1 (I 2))  : zMet 61 [vr 1, vi c, vi 1] (I, zPp π, D, 137) (some (vi (I 6 c))) (I, zPp π, D, 137) := by
  obtain ⟨⟨w1, w2⟩, ⟨w3, w4⟩, ⟨w5, w6⟩, ⟨w7, w8⟩, ⟨w9, w10⟩, w11, ⟨⟨w12, w12b⟩, w12c⟩, ⟨w13, w14⟩, ⟨w15, w16⟩⟩ := id w
  refine z_n 3 (5, [(0, vr 1), (1, vi c), (2, vi 1)], [vi c, vr 2], (I, zPp π, D, 137)) rfl trivial ?_
  refine z_ci 6 [vr 2, vi c] [] rfl (m_hasCrew1 hq) ?_
  refine z_br (¬ (1 : Int) = 0) 15 11 [] rfl (fun hx1 => ?_) (fun h => absurd (show ¬ (1 : Int) = 0 from by decide) h)
  refine z_n 6 (92, [(0, vr 1), (1, vi c), (2, vi 1)], [vi c, vr 5], (I, zPp π, D, 137)) rfl trivial ?_
  refine z_ci 1 [vr 5, vi c] [] rfl (m_get (n := 24) ⟨rfl, rfl, rfl, rfl⟩ (by omega) (by omega)) ?_
  first | exact z_ret rfl rfl rfl | exact z_ret rfl (zv1 (by omega)) rfl | (exfalso; omega)
set_option maxRecDepth 20000 in
theorem m_crew_2 {I : zI} {π : Int → Nat} {D : zD} {c : Int} (hq : 0 ≤ c ∧ c < I 2 5) (w : zW1 (I 2)) (v : zW2 (I 2) (I 6) (I 8)) : zMet 61 [vr 1, vi c, vi 2] (I, zPp π, D, 137) (some (vi (I 6 c / I 2 6))) (I, zPp π, D, 137) := by
  obtain ⟨⟨w1, w2⟩, ⟨w3, w4⟩, ⟨w5, w6⟩, ⟨w7, w8⟩, ⟨w9, w10⟩, w11, ⟨⟨w12, w12b⟩, w12c⟩, ⟨w13, w14⟩, ⟨w15, w16⟩⟩ := id w
  refine z_n 3 (5, [(0, vr 1), (1, vi c), (2, vi 2)], [vi c, vr 2], (I, zPp π, D, 137)) rfl trivial ?_
  refine z_ci 6 [vr 2, vi c] [] rfl (m_hasCrew1 hq) ?_
  refine z_br (¬ (1 : Int) = 0) 15 11 [] rfl (fun hx1 => ?_) (fun h => absurd (show ¬ (1 : Int) = 0 from by decide) h)
  refine z_n 5 (101, [(0, vr 1), (1, vi c), (2, vi 2)], [vi c, vr 2], (I, zPp π, D, 137)) rfl trivial ?_
  refine z_ci 10 [vr 2, vi c] [] rfl (m_divisionOf w hq.1 (by omega) (v.1 c hq.1 hq.2).1) ?_
  first | exact z_ret rfl rfl rfl | exact z_ret rfl (zv1 (by omega)) rfl | (exfalso; omega)
set_option maxRecDepth 20000 in
theorem m_crew_3s {I : zI} {π : Int → Nat} {D : zD} {c : Int} (hq : 0 ≤ c ∧ c < I 2 5) (w : zW1 (I 2)) (v : zW2 (I 2) (I 6) (I 8)) (hs : zIs (I 2) (I 6) c) : zMet 61 [vr 1, vi c, vi 3] (I, zPp π, D, 137) (some (vi (I 6 c - I 2 9 * I 2 6))) (I, zPp π, D, 137) := by
  obtain ⟨⟨w1, w2⟩, ⟨w3, w4⟩, ⟨w5, w6⟩, ⟨w7, w8⟩, ⟨w9, w10⟩, w11, ⟨⟨w12, w12b⟩, w12c⟩, ⟨w13, w14⟩, ⟨w15, w16⟩⟩ := id w
  refine z_n 3 (5, [(0, vr 1), (1, vi c), (2, vi 3)], [vi c, vr 2], (I, zPp π, D, 137)) rfl trivial ?_
  refine z_ci 6 [vr 2, vi c] [] rfl (m_hasCrew1 hq) ?_
  refine z_br (¬ (1 : Int) = 0) 15 11 [] rfl (fun hx1 => ?_) (fun h => absurd (show ¬ (1 : Int) = 0 from by decide) h)
  refine z_n 5 (110, [(0, vr 1), (1, vi c), (2, vi 3)], [vi c, vr 2], (I, zPp π, D, 137)) rfl trivial ?_
  refine z_ci 15 [vr 2, vi c] [] rfl (m_isStarter1 w v hs) ?_
  refine z_br ((1 : Int) = 0) 127 116 [] rfl (fun h => absurd h (show ¬ ((1 : Int) = 0) from by decide)) (fun hx2 => ?_)
  refine z_n 3 (121, [(0, vr 1), (1, vi c), (2, vi 3)], [vi c, vr 2], (I, zPp π, D, 137)) rfl trivial ?_
  refine z_ci 14 [vr 2, vi c] [] rfl (m_startNumber1 w v hs) ?_
  refine z_n 1 (130, [(0, vr 1), (1, vi c), (2, vi 3)], [vi (I 6 c - I 2 9 * I 2 6)], (I, zPp π, D, 137)) rfl trivial ?_
  first | exact z_ret rfl rfl rfl | exact z_ret rfl (zv1 (by omega)) rfl | (exfalso; omega)
set_option maxRecDepth 20000 in
theorem m_crew_3n {I : zI} {π : Int → Nat} {D : zD} {c : Int} (hq : 0 ≤ c ∧ c < I 2 5) (w : zW1 (I 2)) (v : zW2 (I 2) (I 6) (I 8)) (hs : ¬ zIs (I 2) (I 6) c) : zMet 61 [vr 1, vi c, vi 3] (I, zPp π, D, 137) (some (vi (-1004))) (I, zPp π, D, 137) := by
  obtain ⟨⟨w1, w2⟩, ⟨w3, w4⟩, ⟨w5, w6⟩, ⟨w7, w8⟩, ⟨w9, w10⟩, w11, ⟨⟨w12, w12b⟩, w12c⟩, ⟨w13, w14⟩, ⟨w15, w16⟩⟩ := id w
  refine z_n 3 (5, [(0, vr 1), (1, vi c), (2, vi 3)], [vi c, vr 2], (I, zPp π, D, 137)) rfl trivial ?_
  refine z_ci 6 [vr 2, vi c] [] rfl (m_hasCrew1 hq) ?_
  refine z_br (¬ (1 : Int) = 0) 15 11 [] rfl (fun hx1 => ?_) (fun h => absurd (show ¬ (1 : Int) = 0 from by decide) h)
  refine z_n 5 (110, [(0, vr 1), (1, vi c), (2, vi 3)], [vi c, vr 2], (I, zPp π, D, 137)) rfl trivial ?_
  refine z_ci 15 [vr 2, vi c] [] rfl (m_isStarter0 w v hs) ?_
  refine z_br ((0 : Int) = 0) 127 116 [] rfl (fun hx2 => ?_) (fun h => absurd (show (0 : Int) = 0 from by decide) h)
  refine z_n 1 (130, [(0, vr 1), (1, vi c), (2, vi 3)], [vi (-1004)], (I, zPp π, D, 137)) rfl trivial ?_
  first | exact z_ret rfl rfl rfl | exact z_ret rfl (zv1 (by omega)) rfl | (exfalso; omega)
set_option maxRecDepth 20000 in
theorem m_crew_4o {I : zI} {π : Int → Nat} {D : zD} {c : Int} (hq : 0 ≤ c ∧ c < I 2 5) (w : zW1 (I 2)) (v : zW2 (I 2) (I 6) (I 8)) (hM : 0 ≤ I 9 2 ∧ I 9 2 ≤ 4) (hs : zIs (I 2) (I 6) c) (ho : zOut (I 9 2) (I 11) (I 13) c) : zMet 61 [vr 1, vi c, vi 4] (I, zPp π, D, 137) (some (vi 1)) (I, zPp π, D, 137) := by
  obtain ⟨⟨w1, w2⟩, ⟨w3, w4⟩, ⟨w5, w6⟩, ⟨w7, w8⟩, ⟨w9, w10⟩, w11, ⟨⟨w12, w12b⟩, w12c⟩, ⟨w13, w14⟩, ⟨w15, w16⟩⟩ := id w
  refine z_n 3 (5, [(0, vr 1), (1, vi c), (2, vi 4)], [vi c, vr 2], (I, zPp π, D, 137)) rfl trivial ?_
  refine z_ci 6 [vr 2, vi c] [] rfl (m_hasCrew1 hq) ?_
  refine z_br (¬ (1 : Int) = 0) 15 11 [] rfl (fun hx1 => ?_) (fun h => absurd (show ¬ (1 : Int) = 0 from by decide) h)
  refine z_n 5 (136, [(0, vr 1), (1, vi c), (2, vi 4)], [vi c, vr 2], (I, zPp π, D, 137)) rfl trivial ?_
  refine z_ci 15 [vr 2, vi c] [] rfl (m_isStarter1 w v hs) ?_
  refine z_br ((1 : Int) = 0) 150 142 [] rfl (fun h => absurd h (show ¬ ((1 : Int) = 0) from by decide)) (fun hx2 => ?_)
  refine z_n 2 (144, [(0, vr 1), (1, vi c), (2, vi 4)], [vi c, vr 1], (I, zPp π, D, 137)) rfl trivial ?_
  refine z_ci 62 [vr 1, vi c] [] rfl (m_outf1 hM ho) ?_
  refine z_n 1 (153, [(0, vr 1), (1, vi c), (2, vi 4)], [vi 1], (I, zPp π, D, 137)) rfl trivial ?_
  first | exact z_ret rfl rfl rfl | exact z_ret rfl (zv1 (by omega)) rfl | (exfalso; omega)
set_option maxRecDepth 20000 in
theorem m_crew_4i {I : zI} {π : Int → Nat} {D : zD} {c : Int} (hq : 0 ≤ c ∧ c < I 2 5) (w : zW1 (I 2)) (v : zW2 (I 2) (I 6) (I 8)) (hM : 0 ≤ I 9 2 ∧ I 9 2 ≤ 4) (hs : zIs (I 2) (I 6) c) (ho : ¬ zOut (I 9 2) (I 11) (I 13) c) : zMet 61 [vr 1, vi c, vi 4] (I, zPp π, D, 137) (some (vi 0)) (I, zPp π, D, 137) := by
  obtain ⟨⟨w1, w2⟩, ⟨w3, w4⟩, ⟨w5, w6⟩, ⟨w7, w8⟩, ⟨w9, w10⟩, w11, ⟨⟨w12, w12b⟩, w12c⟩, ⟨w13, w14⟩, ⟨w15, w16⟩⟩ := id w
  refine z_n 3 (5, [(0, vr 1), (1, vi c), (2, vi 4)], [vi c, vr 2], (I, zPp π, D, 137)) rfl trivial ?_
  refine z_ci 6 [vr 2, vi c] [] rfl (m_hasCrew1 hq) ?_
  refine z_br (¬ (1 : Int) = 0) 15 11 [] rfl (fun hx1 => ?_) (fun h => absurd (show ¬ (1 : Int) = 0 from by decide) h)
  refine z_n 5 (136, [(0, vr 1), (1, vi c), (2, vi 4)], [vi c, vr 2], (I, zPp π, D, 137)) rfl trivial ?_
  refine z_ci 15 [vr 2, vi c] [] rfl (m_isStarter1 w v hs) ?_
  refine z_br ((1 : Int) = 0) 150 142 [] rfl (fun h => absurd h (show ¬ ((1 : Int) = 0) from by decide)) (fun hx2 => ?_)
  refine z_n 2 (144, [(0, vr 1), (1, vi c), (2, vi 4)], [vi c, vr 1], (I, zPp π, D, 137)) rfl trivial ?_
  refine z_ci 62 [vr 1, vi c] [] rfl (m_outf0 hM ho) ?_
  refine z_n 1 (153, [(0, vr 1), (1, vi c), (2, vi 4)], [vi 0], (I, zPp π, D, 137)) rfl trivial ?_
  first | exact z_ret rfl rfl rfl | exact z_ret rfl (zv1 (by omega)) rfl | (exfalso; omega)
set_option maxRecDepth 20000 in
theorem m_crew_4n {I : zI} {π : Int → Nat} {D : zD} {c : Int} (hq : 0 ≤ c ∧ c < I 2 5) (w : zW1 (I 2)) (v : zW2 (I 2) (I 6) (I 8)) (hs : ¬ zIs (I 2) (I 6) c) : zMet 61 [vr 1, vi c, vi 4] (I, zPp π, D, 137) (some (vi (-1004))) (I, zPp π, D, 137) := by
  obtain ⟨⟨w1, w2⟩, ⟨w3, w4⟩, ⟨w5, w6⟩, ⟨w7, w8⟩, ⟨w9, w10⟩, w11, ⟨⟨w12, w12b⟩, w12c⟩, ⟨w13, w14⟩, ⟨w15, w16⟩⟩ := id w
  refine z_n 3 (5, [(0, vr 1), (1, vi c), (2, vi 4)], [vi c, vr 2], (I, zPp π, D, 137)) rfl trivial ?_
  refine z_ci 6 [vr 2, vi c] [] rfl (m_hasCrew1 hq) ?_
  refine z_br (¬ (1 : Int) = 0) 15 11 [] rfl (fun hx1 => ?_) (fun h => absurd (show ¬ (1 : Int) = 0 from by decide) h)
  refine z_n 5 (136, [(0, vr 1), (1, vi c), (2, vi 4)], [vi c, vr 2], (I, zPp π, D, 137)) rfl trivial ?_
  refine z_ci 15 [vr 2, vi c] [] rfl (m_isStarter0 w v hs) ?_
  refine z_br ((0 : Int) = 0) 150 142 [] rfl (fun hx2 => ?_) (fun h => absurd (show (0 : Int) = 0 from by decide) h)
  refine z_n 1 (153, [(0, vr 1), (1, vi c), (2, vi 4)], [vi (-1004)], (I, zPp π, D, 137)) rfl trivial ?_
  first | exact z_ret rfl rfl rfl | exact z_ret rfl (zv1 (by omega)) rfl | (exfalso; omega)
set_option maxRecDepth 20000 in
theorem m_crew_5 {I : zI} {π : Int → Nat} {D : zD} {c : Int} (hq : 0 ≤ c ∧ c < I 2 5) (w : zW1 (I 2))  : zMet 61 [vr 1, vi c, vi 5] (I, zPp π, D, 137) (some (vi (zris (fun d => I 24 (d * 24 + c)) (I 2 8).toNat))) (I, zPp π, D, 137) := by
  obtain ⟨⟨w1, w2⟩, ⟨w3, w4⟩, ⟨w5, w6⟩, ⟨w7, w8⟩, ⟨w9, w10⟩, w11, ⟨⟨w12, w12b⟩, w12c⟩, ⟨w13, w14⟩, ⟨w15, w16⟩⟩ := id w
  refine z_n 3 (5, [(0, vr 1), (1, vi c), (2, vi 5)], [vi c, vr 2], (I, zPp π, D, 137)) rfl trivial ?_
  refine z_ci 6 [vr 2, vi c] [] rfl (m_hasCrew1 hq) ?_
  refine z_br (¬ (1 : Int) = 0) 15 11 [] rfl (fun hx1 => ?_) (fun h => absurd (show ¬ (1 : Int) = 0 from by decide) h)
  refine z_n 5 (159, [(0, vr 1), (1, vi c), (2, vi 5)], [vi c, vr 2], (I, zPp π, D, 137)) rfl trivial ?_
  refine z_ci 26 [vr 2, vi c] [] rfl (m_daysRisen w hq.1 (by omega)) ?_
  first | exact z_ret rfl rfl rfl | exact z_ret rfl (zv1 (by omega)) rfl | (exfalso; omega)
set_option maxRecDepth 20000 in
theorem m_crew_6 {I : zI} {π : Int → Nat} {D : zD} {c : Int} (hq : 0 ≤ c ∧ c < I 2 5) (w : zW1 (I 2))  : zMet 61 [vr 1, vi c, vi 6] (I, zPp π, D, 137) (some (vi (zfal (fun d => I 24 (d * 24 + c)) (I 2 8).toNat))) (I, zPp π, D, 137) := by
  obtain ⟨⟨w1, w2⟩, ⟨w3, w4⟩, ⟨w5, w6⟩, ⟨w7, w8⟩, ⟨w9, w10⟩, w11, ⟨⟨w12, w12b⟩, w12c⟩, ⟨w13, w14⟩, ⟨w15, w16⟩⟩ := id w
  refine z_n 3 (5, [(0, vr 1), (1, vi c), (2, vi 6)], [vi c, vr 2], (I, zPp π, D, 137)) rfl trivial ?_
  refine z_ci 6 [vr 2, vi c] [] rfl (m_hasCrew1 hq) ?_
  refine z_br (¬ (1 : Int) = 0) 15 11 [] rfl (fun hx1 => ?_) (fun h => absurd (show ¬ (1 : Int) = 0 from by decide) h)
  refine z_n 5 (168, [(0, vr 1), (1, vi c), (2, vi 6)], [vi c, vr 2], (I, zPp π, D, 137)) rfl trivial ?_
  refine z_ci 27 [vr 2, vi c] [] rfl (m_daysFallen w hq.1 (by omega)) ?_
  first | exact z_ret rfl rfl rfl | exact z_ret rfl (zv1 (by omega)) rfl | (exfalso; omega)
set_option maxRecDepth 20000 in
theorem m_crew_7 {I : zI} {π : Int → Nat} {D : zD} {c : Int} (hq : 0 ≤ c ∧ c < I 2 5) (w : zW1 (I 2))  : zMet 61 [vr 1, vi c, vi 7] (I, zPp π, D, 137) (some (vi (if I 2 8 = 0 then 0 else if zris (fun d => I 24 (d * 24 + c)) (I 2 8).toNat = I 2 8 then 1 else if zfal (fun d => I 24 (d * 24 + c)) (I 2 8).toNat = I 2 8 then 2 else 0))) (I, zPp π, D, 137) := by
  obtain ⟨⟨w1, w2⟩, ⟨w3, w4⟩, ⟨w5, w6⟩, ⟨w7, w8⟩, ⟨w9, w10⟩, w11, ⟨⟨w12, w12b⟩, w12c⟩, ⟨w13, w14⟩, ⟨w15, w16⟩⟩ := id w
  refine z_n 3 (5, [(0, vr 1), (1, vi c), (2, vi 7)], [vi c, vr 2], (I, zPp π, D, 137)) rfl trivial ?_
  refine z_ci 6 [vr 2, vi c] [] rfl (m_hasCrew1 hq) ?_
  refine z_br (¬ (1 : Int) = 0) 15 11 [] rfl (fun hx1 => ?_) (fun h => absurd (show ¬ (1 : Int) = 0 from by decide) h)
  refine z_n 5 (177, [(0, vr 1), (1, vi c), (2, vi 7)], [vi c, vr 2], (I, zPp π, D, 137)) rfl trivial ?_
  refine z_ci 28 [vr 2, vi c] [] rfl (m_award w hq.1 (by omega)) ?_
  first | exact z_ret rfl rfl rfl | exact z_ret rfl (zv1 (by omega)) rfl | (exfalso; omega)
set_option maxRecDepth 20000 in
theorem m_crew_8 {I : zI} {π : Int → Nat} {D : zD} {c : Int} (hq : 0 ≤ c ∧ c < I 2 5) (w : zW1 (I 2)) (hl : 0 ≤ I 14 4 ∧ I 14 4 ≤ 96) : zMet 61 [vr 1, vi c, vi 8] (I, zPp π, D, 137) (some (vi (zcnt (I 18) c (I 14 4).toNat))) (I, zPp π, D, 137) := by
  obtain ⟨⟨w1, w2⟩, ⟨w3, w4⟩, ⟨w5, w6⟩, ⟨w7, w8⟩, ⟨w9, w10⟩, w11, ⟨⟨w12, w12b⟩, w12c⟩, ⟨w13, w14⟩, ⟨w15, w16⟩⟩ := id w
  refine z_n 3 (5, [(0, vr 1), (1, vi c), (2, vi 8)], [vi c, vr 2], (I, zPp π, D, 137)) rfl trivial ?_
  refine z_ci 6 [vr 2, vi c] [] rfl (m_hasCrew1 hq) ?_
  refine z_br (¬ (1 : Int) = 0) 15 11 [] rfl (fun hx1 => ?_) (fun h => absurd (show ¬ (1 : Int) = 0 from by decide) h)
  refine z_n 6 (189, [(0, vr 1), (1, vi c), (2, vi 8)], [vi c, vr 14], (I, zPp π, D, 137)) rfl trivial ?_
  refine z_ci 45 [vr 14, vi c] [] rfl (m_madeBy hl) ?_
  first | exact z_ret rfl rfl rfl | exact z_ret rfl (zv1 (by omega)) rfl | (exfalso; omega)
set_option maxRecDepth 20000 in
theorem m_crew_9 {I : zI} {π : Int → Nat} {D : zD} {c : Int} (hq : 0 ≤ c ∧ c < I 2 5) (w : zW1 (I 2)) (hl : 0 ≤ I 14 4 ∧ I 14 4 ≤ 96) : zMet 61 [vr 1, vi c, vi 9] (I, zPp π, D, 137) (some (vi (zcnt (I 20) c (I 14 4).toNat))) (I, zPp π, D, 137) := by
  obtain ⟨⟨w1, w2⟩, ⟨w3, w4⟩, ⟨w5, w6⟩, ⟨w7, w8⟩, ⟨w9, w10⟩, w11, ⟨⟨w12, w12b⟩, w12c⟩, ⟨w13, w14⟩, ⟨w15, w16⟩⟩ := id w
  refine z_n 3 (5, [(0, vr 1), (1, vi c), (2, vi 9)], [vi c, vr 2], (I, zPp π, D, 137)) rfl trivial ?_
  refine z_ci 6 [vr 2, vi c] [] rfl (m_hasCrew1 hq) ?_
  refine z_br (¬ (1 : Int) = 0) 15 11 [] rfl (fun hx1 => ?_) (fun h => absurd (show ¬ (1 : Int) = 0 from by decide) h)
  refine z_n 6 (201, [(0, vr 1), (1, vi c), (2, vi 9)], [vi c, vr 14], (I, zPp π, D, 137)) rfl trivial ?_
  refine z_ci 46 [vr 14, vi c] [] rfl (m_madeOn hl) ?_
  first | exact z_ret rfl rfl rfl | exact z_ret rfl (zv1 (by omega)) rfl | (exfalso; omega)
set_option maxRecDepth 20000 in
theorem m_at1 {I : zI} {π : Int → Nat} {D : zD} {q : Int} (hq : 0 ≤ q ∧ q < I 2 5) (w : zW1 (I 2)) : zMet 63 [vr 1, vi q] (I, zPp π, D, 137) (some (vi (I 8 q))) (I, zPp π, D, 137) := by
  obtain ⟨⟨w1, w2⟩, ⟨w3, w4⟩, ⟨w5, w6⟩, ⟨w7, w8⟩, ⟨w9, w10⟩, w11, ⟨⟨w12, w12b⟩, w12c⟩, ⟨w13, w14⟩, ⟨w15, w16⟩⟩ := id w
  refine z_n 1 (1, [(0, vr 1), (1, vi q)], [vi q], (I, zPp π, D, 137)) rfl trivial ?_
  refine z_br (q < 0) 29 4 [] rfl (fun h => absurd h (show ¬ (q < 0) from by omega)) (fun hx1 => ?_)
  refine z_n 4 (12, [(0, vr 1), (1, vi q)], [vi (I 2 5), vi q], (I, zPp π, D, 137)) rfl trivial ?_
  refine z_br ((I 2 5) ≤ q) 29 15 [] rfl (fun h => absurd h (show ¬ ((I 2 5) ≤ q) from by omega)) (fun hx2 => ?_)
  refine z_n 4 (23, [(0, vr 1), (1, vi q)], [vi q, vr 7], (I, zPp π, D, 137)) rfl trivial ?_
  refine z_ci 1 [vr 7, vi q] [] rfl (m_get (n := 24) ⟨rfl, rfl, rfl, rfl⟩ (by omega) (by omega)) ?_
  refine z_n 1 (32, [(0, vr 1), (1, vi q)], [vi (I 8 q)], (I, zPp π, D, 137)) rfl trivial ?_
  first | exact z_ret rfl rfl rfl | exact z_ret rfl (zv1 (by omega)) rfl | (exfalso; omega)
set_option maxRecDepth 20000 in
theorem m_at0 {I : zI} {π : Int → Nat} {D : zD} {q : Int} (hq : ¬ (0 ≤ q ∧ q < I 2 5)) : zMet 63 [vr 1, vi q] (I, zPp π, D, 137) (some (vi (-1001))) (I, zPp π, D, 137) := by
  refine z_n 1 (1, [(0, vr 1), (1, vi q)], [vi q], (I, zPp π, D, 137)) rfl trivial ?_
  refine z_br (q < 0) 29 4 [] rfl (fun hx1 => ?_) (fun hx1 => ?_)
  · refine z_n 1 (32, [(0, vr 1), (1, vi q)], [vi (-1001)], (I, zPp π, D, 137)) rfl trivial ?_
    first | exact z_ret rfl rfl rfl | exact z_ret rfl (zv1 (by omega)) rfl | (exfalso; omega)
  · refine z_n 4 (12, [(0, vr 1), (1, vi q)], [vi (I 2 5), vi q], (I, zPp π, D, 137)) rfl trivial ?_
    refine z_br ((I 2 5) ≤ q) 29 15 [] rfl (fun hx2 => ?_) (fun h => absurd (show (I 2 5) ≤ q from by omega) h)
    refine z_n 1 (32, [(0, vr 1), (1, vi q)], [vi (-1001)], (I, zPp π, D, 137)) rfl trivial ?_
    first | exact z_ret rfl rfl rfl | exact z_ret rfl (zv1 (by omega)) rfl | (exfalso; omega)
set_option maxRecDepth 20000 in
theorem m_starterx {I : zI} {π : Int → Nat} {D : zD} {q : Int} (hq : q < 0) : zMet 64 [vr 1, vi q] (I, zPp π, D, 137) (some (vi (-1001))) (I, zPp π, D, 137) := by
  refine z_n 1 (1, [(0, vr 1), (1, vi q)], [vi q], (I, zPp π, D, 137)) rfl trivial ?_
  refine z_br (0 ≤ q) 8 4 [] rfl (fun h => absurd h (show ¬ (0 ≤ q) from by omega)) (fun hx1 => ?_)
  refine z_n 1 (7, [(0, vr 1), (1, vi q)], [vi (-1001)], (I, zPp π, D, 137)) rfl trivial ?_
  first | exact z_ret rfl rfl rfl | exact z_ret rfl (zv1 (by omega)) rfl | (exfalso; omega)
set_option maxRecDepth 20000 in
theorem m_starter0 {I : zI} {π : Int → Nat} {D : zD} {q : Int} (w : zW1 (I 2)) (hq : 0 ≤ q) (h2 : zns (I 2) ≤ q) : zMet 64 [vr 1, vi q] (I, zPp π, D, 137) (some (vi (-1004))) (I, zPp π, D, 137) := by
  refine z_n 1 (1, [(0, vr 1), (1, vi q)], [vi q], (I, zPp π, D, 137)) rfl trivial ?_
  refine z_br (0 ≤ q) 8 4 [] rfl (fun hx1 => ?_) (fun h => absurd (show 0 ≤ q from by omega) h)
  refine z_n 3 (13, [(0, vr 1), (1, vi q)], [vr 2, vi q], (I, zPp π, D, 137)) rfl trivial ?_
  refine z_ci 12 [vr 2] [vi q] rfl (m_starters w) ?_
  refine z_br ((zns (I 2)) ≤ q) 30 19 [] rfl (fun hx2 => ?_) (fun h => absurd (show (zns (I 2)) ≤ q from by omega) h)
  refine z_n 1 (33, [(0, vr 1), (1, vi q)], [vi (-1004)], (I, zPp π, D, 137)) rfl trivial ?_
  first | exact z_ret rfl rfl rfl | exact z_ret rfl (zv1 (by omega)) rfl | (exfalso; omega)
set_option maxRecDepth 20000 in
theorem m_starter1 {I : zI} {π : Int → Nat} {D : zD} {q : Int} (w : zW1 (I 2)) (hq : 0 ≤ q) (h2 : q < zns (I 2)) : zMet 64 [vr 1, vi q] (I, zPp π, D, 137) (some (vi (I 8 (I 2 9 * I 2 6 + q)))) (I, zPp π, D, 137) := by
  have hb := zns_b w
  refine z_n 1 (1, [(0, vr 1), (1, vi q)], [vi q], (I, zPp π, D, 137)) rfl trivial ?_
  refine z_br (0 ≤ q) 8 4 [] rfl (fun hx1 => ?_) (fun h => absurd (show 0 ≤ q from by omega) h)
  refine z_n 3 (13, [(0, vr 1), (1, vi q)], [vr 2, vi q], (I, zPp π, D, 137)) rfl trivial ?_
  refine z_ci 12 [vr 2] [vi q] rfl (m_starters w) ?_
  refine z_br ((zns (I 2)) ≤ q) 30 19 [] rfl (fun h => absurd h (show ¬ ((zns (I 2)) ≤ q) from by omega)) (fun hx2 => ?_)
  refine z_n 3 (24, [(0, vr 1), (1, vi q)], [vi q, vr 2], (I, zPp π, D, 137)) rfl trivial ?_
  refine z_ci 13 [vr 2, vi q] [] rfl (m_starterAt w (by omega) (by omega)) ?_
  refine z_n 1 (33, [(0, vr 1), (1, vi q)], [vi (I 8 (I 2 9 * I 2 6 + q))], (I, zPp π, D, 137)) rfl trivial ?_
  first | exact z_ret rfl rfl rfl | exact z_ret rfl (zv1 (by omega)) rfl | (exfalso; omega)
set_option maxRecDepth 20000 in
theorem m_bumpx {I : zI} {π : Int → Nat} {D : zD} {a b : Int} (hq : ¬ ((0 ≤ a ∧ a < I 2 5) ∧ (0 ≤ b ∧ b < I 2 5))) : zMet 65 [vr 1, vi a, vi b] (I, zPp π, D, 137) (some (vi (-1001))) (I, zPp π, D, 137) := by
  refine z_n 3 (5, [(0, vr 1), (1, vi a), (2, vi b)], [vi a, vr 2], (I, zPp π, D, 137)) rfl trivial ?_
  by_cases hx1 : 0 ≤ a ∧ a < I 2 5
  · refine z_ci 6 [vr 2, vi a] [] rfl (m_hasCrew1 hx1) ?_
    refine z_br ((1 : Int) = 0) 22 11 [] rfl (fun h => absurd h (show ¬ ((1 : Int) = 0) from by decide)) (fun hx2 => ?_)
    refine z_n 3 (16, [(0, vr 1), (1, vi a), (2, vi b)], [vi b, vr 2], (I, zPp π, D, 137)) rfl trivial ?_
    refine z_ci 6 [vr 2, vi b] [] rfl (m_hasCrew0 (by omega)) ?_
    refine z_br (¬ (0 : Int) = 0) 26 22 [] rfl (fun h => absurd h (show ¬ (¬ (0 : Int) = 0) from by decide)) (fun hx3 => ?_)
    refine z_n 1 (25, [(0, vr 1), (1, vi a), (2, vi b)], [vi (-1001)], (I, zPp π, D, 137)) rfl trivial ?_
    exact z_ret rfl rfl rfl
  · refine z_ci 6 [vr 2, vi a] [] rfl (m_hasCrew0 hx1) ?_
    refine z_br ((0 : Int) = 0) 22 11 [] rfl (fun hx4 => ?_) (fun h => absurd (show (0 : Int) = 0 from by decide) h)
    refine z_n 1 (25, [(0, vr 1), (1, vi a), (2, vi b)], [vi (-1001)], (I, zPp π, D, 137)) rfl trivial ?_
    exact z_ret rfl rfl rfl
set_option maxRecDepth 20000 in
theorem m_whyx {I : zI} {π : Int → Nat} {D : zD} {a b : Int} (hq : ¬ ((0 ≤ a ∧ a < I 2 5) ∧ (0 ≤ b ∧ b < I 2 5))) : zMet 66 [vr 1, vi a, vi b] (I, zPp π, D, 137) (some (vi (-1001))) (I, zPp π, D, 137) := by
  refine z_n 3 (5, [(0, vr 1), (1, vi a), (2, vi b)], [vi a, vr 2], (I, zPp π, D, 137)) rfl trivial ?_
  by_cases hx1 : 0 ≤ a ∧ a < I 2 5
  · refine z_ci 6 [vr 2, vi a] [] rfl (m_hasCrew1 hx1) ?_
    refine z_br ((1 : Int) = 0) 22 11 [] rfl (fun h => absurd h (show ¬ ((1 : Int) = 0) from by decide)) (fun hx2 => ?_)
    refine z_n 3 (16, [(0, vr 1), (1, vi a), (2, vi b)], [vi b, vr 2], (I, zPp π, D, 137)) rfl trivial ?_
    refine z_ci 6 [vr 2, vi b] [] rfl (m_hasCrew0 (by omega)) ?_
    refine z_br (¬ (0 : Int) = 0) 26 22 [] rfl (fun h => absurd h (show ¬ (¬ (0 : Int) = 0) from by decide)) (fun hx3 => ?_)
    refine z_n 1 (25, [(0, vr 1), (1, vi a), (2, vi b)], [vi (-1001)], (I, zPp π, D, 137)) rfl trivial ?_
    exact z_ret rfl rfl rfl
  · refine z_ci 6 [vr 2, vi a] [] rfl (m_hasCrew0 hx1) ?_
    refine z_br ((0 : Int) = 0) 22 11 [] rfl (fun hx4 => ?_) (fun h => absurd (show (0 : Int) = 0 from by decide) h)
    refine z_n 1 (25, [(0, vr 1), (1, vi a), (2, vi b)], [vi (-1001)], (I, zPp π, D, 137)) rfl trivial ?_
    exact z_ret rfl rfl rfl
