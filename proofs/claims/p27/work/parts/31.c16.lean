set_option maxRecDepth 20000 in
theorem m_foretoldx {I : zI} {π : Int → Nat} {D : zD} {k a : Int} (hq : ¬ (0 ≤ k ∧ 0 ≤ a ∧ a ≤ 2)) : zMet 71 [vr 1, vi k, vi a] (I, zPp π, D, 137) (some (vi (-1001))) (I, zPp π, D, 137) := by
  refine z_n 1 (1, [(0, vr 1), (1, vi k), (2, vi a)], [vi k], (I, zPp π, D, 137)) rfl trivial ?_
  refine z_br (k < 0) 13 4 [] rfl (fun hx1 => ?_) (fun hx1 => ?_)
  · refine z_n 1 (16, [(0, vr 1), (1, vi k), (2, vi a)], [vi (-1001)], (I, zPp π, D, 137)) rfl trivial ?_
    exact z_ret rfl rfl rfl
  · refine z_n 1 (5, [(0, vr 1), (1, vi k), (2, vi a)], [vi a], (I, zPp π, D, 137)) rfl trivial ?_
    refine z_br (a < 0) 13 8 [] rfl (fun hx2 => ?_) (fun hx2 => ?_)
    · refine z_n 1 (16, [(0, vr 1), (1, vi k), (2, vi a)], [vi (-1001)], (I, zPp π, D, 137)) rfl trivial ?_
      exact z_ret rfl rfl rfl
    · refine z_n 2 (10, [(0, vr 1), (1, vi k), (2, vi a)], [vi 2, vi a], (I, zPp π, D, 137)) rfl trivial ?_
      refine z_br (a ≤ 2) 17 13 [] rfl (fun h => absurd h (show ¬ (a ≤ 2) from by omega)) (fun hx3 => ?_)
      refine z_n 1 (16, [(0, vr 1), (1, vi k), (2, vi a)], [vi (-1001)], (I, zPp π, D, 137)) rfl trivial ?_
      exact z_ret rfl rfl rfl
set_option maxRecDepth 20000 in
theorem m_foretoldn {I : zI} {π : Int → Nat} {D : zD} {k a : Int} (hq : 0 ≤ k ∧ 0 ≤ a ∧ a ≤ 2) (h2 : (zFR I D (-1) 0).2.1 ≤ k) (w : zW1 (I 2)) (v2 : zW2 (I 2) (I 6) (I 8)) (hsp : ∀ c, 0 ≤ c → c < I 2 5 → 0 ≤ I 4 c ∧ I 4 c ≤ 1000) : zMet 71 [vr 1, vi k, vi a] (I, zPp π, D, 137) (some (vi (-1004))) ((zFI I D (-1) 0), zPp π, (zFDR I D (-1) 0), 137) := by
  refine z_n 1 (1, [(0, vr 1), (1, vi k), (2, vi a)], [vi k], (I, zPp π, D, 137)) rfl trivial ?_
  refine z_br (k < 0) 13 4 [] rfl (fun h => absurd h (show ¬ (k < 0) from by omega)) (fun hx1 => ?_)
  refine z_n 1 (5, [(0, vr 1), (1, vi k), (2, vi a)], [vi a], (I, zPp π, D, 137)) rfl trivial ?_
  refine z_br (a < 0) 13 8 [] rfl (fun h => absurd h (show ¬ (a < 0) from by omega)) (fun hx2 => ?_)
  refine z_n 2 (10, [(0, vr 1), (1, vi k), (2, vi a)], [vi 2, vi a], (I, zPp π, D, 137)) rfl trivial ?_
  refine z_br (a ≤ 2) 17 13 [] rfl (fun hx3 => ?_) (fun h => absurd (show a ≤ 2 from by omega) h)
  refine z_n 4 (25, [(0, vr 1), (1, vi k), (2, vi a)], [vr 2, vr 119], (I, zPp π, D, 137)) rfl trivial ?_
  refine z_cv 32 [vr 119, vr 2] [] rfl (m_fore w v2 hsp) ?_
  refine z_n 4 (36, [(0, vr 1), (1, vi k), (2, vi a)], [vi ((zFR I D (-1) 0).2.1), vi k], ((zFI I D (-1) 0), zPp π, (zFDR I D (-1) 0), 137)) rfl trivial ?_
  refine z_br (k < ((zFR I D (-1) 0).2.1)) 43 39 [] rfl (fun h => absurd h (show ¬ (k < ((zFR I D (-1) 0).2.1)) from by omega)) (fun hx4 => ?_)
  refine z_n 1 (42, [(0, vr 1), (1, vi k), (2, vi a)], [vi (-1004)], ((zFI I D (-1) 0), zPp π, (zFDR I D (-1) 0), 137)) rfl trivial ?_
  exact z_ret rfl rfl rfl
set_option maxRecDepth 20000 in
theorem m_foretold0 {I : zI} {π : Int → Nat} {D : zD} {k : Int} (hq : 0 ≤ k ∧ k < (zFR I D (-1) 0).2.1) (w : zW1 (I 2)) (v2 : zW2 (I 2) (I 6) (I 8)) (hsp : ∀ c, 0 ≤ c → c < I 2 5 → 0 ≤ I 4 c ∧ I 4 c ≤ 1000) : zMet 71 [vr 1, vi k, vi 0] (I, zPp π, D, 137) (some (vi (I 8 (I 2 9 * I 2 6 + (zFR I D (-1) 0).2.2.1 k)))) ((zFI I D (-1) 0), zPp π, (zFDR I D (-1) 0), 137) := by
  have hin := zFR_in (D := D) (c := -1) (v := 0) w
  have hin2 := hin.2 k hq.1 hq.2
  have hzb := zns_b w
  refine z_n 1 (1, [(0, vr 1), (1, vi k), (2, vi 0)], [vi k], (I, zPp π, D, 137)) rfl trivial ?_
  refine z_br (k < 0) 13 4 [] rfl (fun h => absurd h (show ¬ (k < 0) from by omega)) (fun hx1 => ?_)
  refine z_n 1 (5, [(0, vr 1), (1, vi k), (2, vi 0)], [vi 0], (I, zPp π, D, 137)) rfl trivial ?_
  refine z_br ((0 : Int) < 0) 13 8 [] rfl (fun h => absurd h (show ¬ ((0 : Int) < 0) from by decide)) (fun hx2 => ?_)
  refine z_n 2 (10, [(0, vr 1), (1, vi k), (2, vi 0)], [vi 2, vi 0], (I, zPp π, D, 137)) rfl trivial ?_
  refine z_br ((0 : Int) ≤ 2) 17 13 [] rfl (fun hx3 => ?_) (fun h => absurd (show (0 : Int) ≤ 2 from by decide) h)
  refine z_n 4 (25, [(0, vr 1), (1, vi k), (2, vi 0)], [vr 2, vr 119], (I, zPp π, D, 137)) rfl trivial ?_
  refine z_cv 32 [vr 119, vr 2] [] rfl (m_fore w v2 hsp) ?_
  refine z_n 4 (36, [(0, vr 1), (1, vi k), (2, vi 0)], [vi ((zFR I D (-1) 0).2.1), vi k], ((zFI I D (-1) 0), zPp π, (zFDR I D (-1) 0), 137)) rfl trivial ?_
  refine z_br (k < ((zFR I D (-1) 0).2.1)) 43 39 [] rfl (fun hx4 => ?_) (fun h => absurd (show k < ((zFR I D (-1) 0).2.1) from by omega) h)
  refine z_n 8 (84, [(0, vr 1), (1, vi k), (2, vi 0)], [vi k, vr 120, vr 2], ((zFI I D (-1) 0), zPp π, (zFDR I D (-1) 0), 137)) rfl trivial ?_
  refine z_ci 1 [vr 120, vi k] [vr 2] rfl (m_get (n := 4) ⟨rfl, rfl, rfl, rfl⟩ (by omega) (by omega)) ?_
  refine z_ci 13 [vr 2, vi ((zFR I D (-1) 0).2.2.1 k)] [] rfl (m_starterAt (show zW1 (I 2) from w) (show 0 ≤ I 2 9 * I 2 6 + (zFR I D (-1) 0).2.2.1 k from by omega) (show I 2 9 * I 2 6 + (zFR I D (-1) 0).2.2.1 k < 24 from by omega)) ?_
  exact z_ret rfl rfl rfl
set_option maxRecDepth 20000 in
theorem m_foretold1 {I : zI} {π : Int → Nat} {D : zD} {k : Int} (hq : 0 ≤ k ∧ k < (zFR I D (-1) 0).2.1) (w : zW1 (I 2)) (v2 : zW2 (I 2) (I 6) (I 8)) (hsp : ∀ c, 0 ≤ c → c < I 2 5 → 0 ≤ I 4 c ∧ I 4 c ≤ 1000) : zMet 71 [vr 1, vi k, vi 1] (I, zPp π, D, 137) (some (vi (I 8 (I 2 9 * I 2 6 + (zFR I D (-1) 0).2.2.2.1 k)))) ((zFI I D (-1) 0), zPp π, (zFDR I D (-1) 0), 137) := by
  have hin := zFR_in (D := D) (c := -1) (v := 0) w
  have hin2 := hin.2 k hq.1 hq.2
  have hzb := zns_b w
  refine z_n 1 (1, [(0, vr 1), (1, vi k), (2, vi 1)], [vi k], (I, zPp π, D, 137)) rfl trivial ?_
  refine z_br (k < 0) 13 4 [] rfl (fun h => absurd h (show ¬ (k < 0) from by omega)) (fun hx1 => ?_)
  refine z_n 1 (5, [(0, vr 1), (1, vi k), (2, vi 1)], [vi 1], (I, zPp π, D, 137)) rfl trivial ?_
  refine z_br ((1 : Int) < 0) 13 8 [] rfl (fun h => absurd h (show ¬ ((1 : Int) < 0) from by decide)) (fun hx2 => ?_)
  refine z_n 2 (10, [(0, vr 1), (1, vi k), (2, vi 1)], [vi 2, vi 1], (I, zPp π, D, 137)) rfl trivial ?_
  refine z_br ((1 : Int) ≤ 2) 17 13 [] rfl (fun hx3 => ?_) (fun h => absurd (show (1 : Int) ≤ 2 from by decide) h)
  refine z_n 4 (25, [(0, vr 1), (1, vi k), (2, vi 1)], [vr 2, vr 119], (I, zPp π, D, 137)) rfl trivial ?_
  refine z_cv 32 [vr 119, vr 2] [] rfl (m_fore w v2 hsp) ?_
  refine z_n 4 (36, [(0, vr 1), (1, vi k), (2, vi 1)], [vi ((zFR I D (-1) 0).2.1), vi k], ((zFI I D (-1) 0), zPp π, (zFDR I D (-1) 0), 137)) rfl trivial ?_
  refine z_br (k < ((zFR I D (-1) 0).2.1)) 43 39 [] rfl (fun hx4 => ?_) (fun h => absurd (show k < ((zFR I D (-1) 0).2.1) from by omega) h)
  refine z_n 8 (103, [(0, vr 1), (1, vi k), (2, vi 1)], [vi k, vr 122, vr 2], ((zFI I D (-1) 0), zPp π, (zFDR I D (-1) 0), 137)) rfl trivial ?_
  refine z_ci 1 [vr 122, vi k] [vr 2] rfl (m_get (n := 4) ⟨rfl, rfl, rfl, rfl⟩ (by omega) (by omega)) ?_
  refine z_ci 13 [vr 2, vi ((zFR I D (-1) 0).2.2.2.1 k)] [] rfl (m_starterAt (show zW1 (I 2) from w) (show 0 ≤ I 2 9 * I 2 6 + (zFR I D (-1) 0).2.2.2.1 k from by omega) (show I 2 9 * I 2 6 + (zFR I D (-1) 0).2.2.2.1 k < 24 from by omega)) ?_
  exact z_ret rfl rfl rfl
