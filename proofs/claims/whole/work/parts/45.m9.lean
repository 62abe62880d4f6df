theorem zX_up {I : zI} {b k : Nat} {j v : Int} : zX (zup I (b + k) j v) b = zup (zX I b) k j v := by
  funext r i
  unfold zX zup
  by_cases h : r = k
  · subst h; simp
  · rw [if_neg (fun h9 => h (by omega)), if_neg (fun h9 => h h9.1)]
/-- one bump of a race that ends, seen from the chart -/
def zStp (X : zI) (u d : Int) : zI := zup (zup (zup (zup (zup (zup (zup (zup (zup X 14 (X 12 4) (X 0 8 + 1)) 16 (X 12 4) u) 18 (X 12 4) d) 20 (X 12 4) (X 4 u - X 4 d)) 12 4 (X 12 4 + 1)) 6 (X 4 d) u) 4 u (X 4 d)) 6 (X 4 u) d) 4 d (X 4 u)
theorem zStp_X {K : zI} {u d : Int} : zX (zStep K u d) 2 = zStp (zX K 2) u d := by
  unfold zStep zStp
  rw [zX_up (k := 4), zX_up (k := 6), zX_up (k := 4), zX_up (k := 6), zX_up (k := 12), zX_up (k := 20), zX_up (k := 18), zX_up (k := 16), zX_up (k := 14)]
  rfl
theorem zEq_st {m : Int → Int} {X : zI} {a b : Int} (e : zEq m X) (ha : 0 ≤ a ∧ a < X 0 5) (hb : 0 ≤ b ∧ b < X 0 5) (hab : ¬ a = b) (hN : X 0 5 ≤ 24) (hl : 0 ≤ X 12 4 ∧ X 12 4 < 112) (hm : X 7 2 ≤ 4) : zEq (zu1 (zu1 (zu1 (zu1 (zu1 (zu1 m (31 + a) (X 4 b)) (31 + b) (X 4 a)) (81 + X 12 4) (X 0 8)) (193 + X 12 4) a) (305 + X 12 4) b) 80 (X 12 4 + 1)) (zStp X a b) := by
  obtain ⟨⟨m0, m1, m2, m3, m4, m5, m6⟩, mc, ⟨mb, mk⟩, ⟨ml, mg⟩, mt⟩ := e
  have z : ∀ j, j ≠ 31 + a → j ≠ 31 + b → j ≠ 81 + X 12 4 → j ≠ 193 + X 12 4 → j ≠ 305 + X 12 4 → j ≠ 80 → (zu1 (zu1 (zu1 (zu1 (zu1 (zu1 m (31 + a) (X 4 b)) (31 + b) (X 4 a)) (81 + X 12 4) (X 0 8)) (193 + X 12 4) a) (305 + X 12 4) b) 80 (X 12 4 + 1)) j = m j := by
    intro j h1 h2 h3 h4 h5 h6
    unfold zu1
    rw [if_neg h6, if_neg h5, if_neg h4, if_neg h3, if_neg h2, if_neg h1]
  refine ⟨⟨?_, ?_, ?_, ?_, ?_, ?_, ?_⟩, fun c c0 c1 => ⟨?_, ?_⟩, ⟨?_, fun k k0 k1 => ⟨?_, ?_⟩⟩, ⟨?_, fun k k0 k1 => ?_⟩, fun t c t0 t1 c0 c1 => ?_⟩
  · rw [z 0 (by omega) (by omega) (by omega) (by omega) (by omega) (by omega)]; exact m0
  · rw [z 1 (by omega) (by omega) (by omega) (by omega) (by omega) (by omega)]; exact m1
  · rw [z 2 (by omega) (by omega) (by omega) (by omega) (by omega) (by omega)]; exact m2
  · rw [z 3 (by omega) (by omega) (by omega) (by omega) (by omega) (by omega)]; exact m3
  · rw [z 4 (by omega) (by omega) (by omega) (by omega) (by omega) (by omega)]; exact m4
  · rw [z 5 (by omega) (by omega) (by omega) (by omega) (by omega) (by omega)]; exact m5
  · rw [z 6 (by omega) (by omega) (by omega) (by omega) (by omega) (by omega)]; exact m6
  · have c1' : c < X 0 5 := c1
    rw [z (7 + c) (by omega) (by omega) (by omega) (by omega) (by omega) (by omega)]; exact (mc c c0 c1').1
  · have c1' : c < X 0 5 := c1
    show _ = zup (zup (zup (zup (zup (zup (zup (zup (zup X 14 (X 12 4) (X 0 8 + 1)) 16 (X 12 4) a) 18 (X 12 4) b) 20 (X 12 4) (X 4 a - X 4 b)) 12 4 (X 12 4 + 1)) 6 (X 4 b) a) 4 a (X 4 b)) 6 (X 4 a) b) 4 b (X 4 a) 4 c
    rw [zup_at, zup_ne (by decide), zup_at, zup_ne (by decide), zup_ne (by decide), zup_ne (by decide), zup_ne (by decide), zup_ne (by decide), zup_ne (by decide)]
    by_cases h2 : c = b
    · subst h2
      rw [if_pos rfl]
      unfold zu1
      rw [if_neg (by omega), if_neg (by omega), if_neg (by omega), if_neg (by omega), if_pos rfl]
    · rw [if_neg h2]
      by_cases h1 : c = a
      · subst h1
        rw [if_pos rfl]
        unfold zu1
        rw [if_neg (by omega), if_neg (by omega), if_neg (by omega), if_neg (by omega), if_neg (by omega), if_pos rfl]
      · rw [if_neg h1, z (31 + c) (by omega) (by omega) (by omega) (by omega) (by omega) (by omega)]
        exact (mc c c0 c1').2
  · rw [z 55 (by omega) (by omega) (by omega) (by omega) (by omega) (by omega)]; exact mb
  · have k1' : k < X 7 2 := k1
    rw [z (56 + k) (by omega) (by omega) (by omega) (by omega) (by omega) (by omega)]; exact (mk k k0 k1').1
  · have k1' : k < X 7 2 := k1
    rw [z (68 + k) (by omega) (by omega) (by omega) (by omega) (by omega) (by omega)]; exact (mk k k0 k1').2
  · unfold zu1
    rw [if_pos rfl]
    rfl
  · have k1' : k < X 12 4 + 1 := k1
    show _ = zup (zup (zup (zup (zup (zup (zup (zup (zup X 14 (X 12 4) (X 0 8 + 1)) 16 (X 12 4) a) 18 (X 12 4) b) 20 (X 12 4) (X 4 a - X 4 b)) 12 4 (X 12 4 + 1)) 6 (X 4 b) a) 4 a (X 4 b)) 6 (X 4 a) b) 4 b (X 4 a) 14 k - 1 ∧ _ = zup (zup (zup (zup (zup (zup (zup (zup (zup X 14 (X 12 4) (X 0 8 + 1)) 16 (X 12 4) a) 18 (X 12 4) b) 20 (X 12 4) (X 4 a - X 4 b)) 12 4 (X 12 4 + 1)) 6 (X 4 b) a) 4 a (X 4 b)) 6 (X 4 a) b) 4 b (X 4 a) 16 k ∧ _ = zup (zup (zup (zup (zup (zup (zup (zup (zup X 14 (X 12 4) (X 0 8 + 1)) 16 (X 12 4) a) 18 (X 12 4) b) 20 (X 12 4) (X 4 a - X 4 b)) 12 4 (X 12 4 + 1)) 6 (X 4 b) a) 4 a (X 4 b)) 6 (X 4 a) b) 4 b (X 4 a) 18 k
    have q14 : zStp X a b 14 k = if k = X 12 4 then X 0 8 + 1 else X 14 k := by
      unfold zStp
      rw [zup_ne (by decide), zup_ne (by decide), zup_ne (by decide), zup_ne (by decide), zup_ne (by decide), zup_ne (by decide), zup_ne (by decide), zup_ne (by decide), zup_at]
    have q16 : zStp X a b 16 k = if k = X 12 4 then a else X 16 k := by
      unfold zStp
      rw [zup_ne (by decide), zup_ne (by decide), zup_ne (by decide), zup_ne (by decide), zup_ne (by decide), zup_ne (by decide), zup_ne (by decide), zup_at, zup_ne (by decide)]
    have q18 : zStp X a b 18 k = if k = X 12 4 then b else X 18 k := by
      unfold zStp
      rw [zup_ne (by decide), zup_ne (by decide), zup_ne (by decide), zup_ne (by decide), zup_ne (by decide), zup_ne (by decide), zup_at, zup_ne (by decide), zup_ne (by decide)]
    unfold zStp at q14 q16 q18
    rw [q14, q16, q18]
    by_cases hk : k = X 12 4
    · rw [if_pos hk, if_pos hk, if_pos hk]
      unfold zu1
      refine ⟨?_, ?_, ?_⟩
      · rw [if_neg (by omega), if_neg (by omega), if_neg (by omega), if_pos (by omega)]; omega
      · rw [if_neg (by omega), if_neg (by omega), if_pos (by omega)]
      · rw [if_neg (by omega), if_pos (by omega)]
    · rw [if_neg hk, if_neg hk, if_neg hk, z (81 + k) (by omega) (by omega) (by omega) (by omega) (by omega) (by omega), z (193 + k) (by omega) (by omega) (by omega) (by omega) (by omega) (by omega), z (305 + k) (by omega) (by omega) (by omega) (by omega) (by omega) (by omega)]
      exact mg k k0 (by omega)
  · have t1' : t ≤ X 0 8 := t1
    have c1' : c < X 0 5 := c1
    rw [z (417 + 24 * t + c) (by omega) (by omega) (by omega) (by omega) (by omega) (by omega)]; exact mt t c t0 t1' c0 c1'
/-- a race's end, seen from the chart: nothing is to be exchanged any more -/
def zFnX (X : zI) : zI := if 0 < X 0 9 then zup (zup X 7 2 0) 0 9 (X 0 9 - 1) else zup (zup (zup (fun r j => if r = 22 ∧ (X 0 8 + 1) * 24 ≤ j ∧ j < (X 0 8 + 1) * 24 + X 0 5 then X 4 (j - (X 0 8 + 1) * 24) else X r j) 7 2 0) 0 8 (X 0 8 + 1)) 0 9 (if X 0 8 + 1 < X 0 7 then (X 0 5 + X 0 6 - 1) / X 0 6 - 1 else -1)
theorem zEq_fA {m : Int → Int} {X : zI} (e : zEq m X) (h : 0 < X 0 9) (hN : X 0 5 ≤ 24) (hl : X 12 4 ≤ 112) : zEq (zu1 (zu1 m 55 0) 4 (X 0 9 - 1)) (zFnX X) := by
  obtain ⟨⟨m0, m1, m2, m3, m4, m5, m6⟩, mc, ⟨mb, mk⟩, ⟨ml, mg⟩, mt⟩ := e
  unfold zFnX
  rw [if_pos h]
  have z : ∀ j, j ≠ 55 → j ≠ 4 → zu1 (zu1 m 55 0) 4 (X 0 9 - 1) j = m j := by
    intro j h1 h2
    unfold zu1
    rw [if_neg h2, if_neg h1]
  refine ⟨⟨(z 0 (by omega) (by omega)).trans m0, (z 1 (by omega) (by omega)).trans m1, (z 2 (by omega) (by omega)).trans m2, (z 3 (by omega) (by omega)).trans m3, ?_, (z 5 (by omega) (by omega)).trans m5, (z 6 (by omega) (by omega)).trans m6⟩, fun c c0 c1 => ?_, ⟨?_, fun k k0 k1 => ?_⟩, ⟨(z 80 (by omega) (by omega)).trans ml, fun k k0 k1 => ?_⟩, fun t c t0 t1 c0 c1 => ?_⟩
  · unfold zu1; rw [if_pos rfl]; rfl
  · have c1' : c < X 0 5 := c1
    rw [z (7 + c) (by omega) (by omega), z (31 + c) (by omega) (by omega)]; exact mc c c0 c1'
  · unfold zu1; rw [if_neg (by decide), if_pos rfl]; rfl
  · have k1' : k < 0 := k1
    omega
  · have k1' : k < X 12 4 := k1
    rw [z (81 + k) (by omega) (by omega), z (193 + k) (by omega) (by omega), z (305 + k) (by omega) (by omega)]; exact mg k k0 k1'
  · have t1' : t ≤ X 0 8 := t1
    have c1' : c < X 0 5 := c1
    rw [z (417 + 24 * t + c) (by omega) (by omega)]; exact mt t c t0 t1' c0 c1'
theorem zEq_fB {m : Int → Int} {X : zI} {x : Int} (e : zEq m X) (h : ¬ 0 < X 0 9) (hN : X 0 5 ≤ 24) (hl : X 12 4 ≤ 112) (hO : 0 ≤ X 0 8) (hx : x = if X 0 8 + 1 < X 0 7 then (X 0 5 + X 0 6 - 1) / X 0 6 - 1 else -1) : zEq (fun j => if j = 4 then x else if 417 + 24 * (X 0 8 + 1) ≤ j ∧ j < 417 + 24 * (X 0 8 + 1) + 24 then m (31 + (j - (417 + 24 * (X 0 8 + 1)))) else zu1 (zu1 (zu1 m 55 0) 4 (-1)) 3 (X 0 8 + 1) j) (zFnX X) := by
  obtain ⟨⟨m0, m1, m2, m3, m4, m5, m6⟩, mc, ⟨mb, mk⟩, ⟨ml, mg⟩, mt⟩ := e
  unfold zFnX
  rw [if_neg h]
  have z : ∀ j, j ≠ 55 → j ≠ 4 → j ≠ 3 → ¬ (417 + 24 * (X 0 8 + 1) ≤ j ∧ j < 417 + 24 * (X 0 8 + 1) + 24) → (fun j => if j = 4 then x else if 417 + 24 * (X 0 8 + 1) ≤ j ∧ j < 417 + 24 * (X 0 8 + 1) + 24 then m (31 + (j - (417 + 24 * (X 0 8 + 1)))) else zu1 (zu1 (zu1 m 55 0) 4 (-1)) 3 (X 0 8 + 1) j) j = m j := by
    intro j h1 h2 h3 h4
    dsimp only
    unfold zu1
    rw [if_neg h2, if_neg h4, if_neg h3, if_neg h2, if_neg h1]
  refine ⟨⟨(z 0 (by omega) (by omega) (by omega) (by omega)).trans m0, (z 1 (by omega) (by omega) (by omega) (by omega)).trans m1, (z 2 (by omega) (by omega) (by omega) (by omega)).trans m2, ?_, ?_, (z 5 (by omega) (by omega) (by omega) (by omega)).trans m5, (z 6 (by omega) (by omega) (by omega) (by omega)).trans m6⟩, fun c c0 c1 => ?_, ⟨?_, fun k k0 k1 => ?_⟩, ⟨(z 80 (by omega) (by omega) (by omega) (by omega)).trans ml, fun k k0 k1 => ?_⟩, fun t c t0 t1 c0 c1 => ?_⟩
  · dsimp only
    unfold zu1
    rw [if_neg (by decide), if_neg (by omega), if_pos rfl]; rfl
  · dsimp only
    rw [if_pos rfl, hx]; rfl
  · have c1' : c < X 0 5 := c1
    rw [z (7 + c) (by omega) (by omega) (by omega) (by omega), z (31 + c) (by omega) (by omega) (by omega) (by omega)]; exact mc c c0 c1'
  · dsimp only
    unfold zu1
    rw [if_neg (by decide), if_neg (by omega), if_neg (by decide), if_neg (by decide), if_pos rfl]; rfl
  · have k1' : k < 0 := k1
    omega
  · have k1' : k < X 12 4 := k1
    rw [z (81 + k) (by omega) (by omega) (by omega) (by omega), z (193 + k) (by omega) (by omega) (by omega) (by omega), z (305 + k) (by omega) (by omega) (by omega) (by omega)]; exact mg k k0 k1'
  · have t1' : t ≤ X 0 8 + 1 := t1
    have c1' : c < X 0 5 := c1
    show _ = (if 22 = 22 ∧ (X 0 8 + 1) * 24 ≤ t * 24 + c ∧ t * 24 + c < (X 0 8 + 1) * 24 + X 0 5 then X 4 (t * 24 + c - (X 0 8 + 1) * 24) else X 22 (t * 24 + c))
    by_cases ht : t = X 0 8 + 1
    · dsimp only
      rw [if_neg (by omega), if_pos (by omega), if_pos (by omega), show 417 + 24 * t + c - (417 + 24 * (X 0 8 + 1)) = c by omega, show t * 24 + c - (X 0 8 + 1) * 24 = c by omega]
      exact (mc c c0 c1').2
    · rw [if_neg (by omega), z (417 + 24 * t + c) (by omega) (by omega) (by omega) (by omega)]
      exact mt t c t0 (by omega) c0 c1'
set_option maxRecDepth 20000 in
theorem m_RsetSpeed0 {I : zI} {π : Int → Nat} {D : zD} {X : zI} {c x : Int} (e : zEq (I 138) X) (ci : zCI X) (hq : ¬ ((0 ≤ c ∧ c < X 0 5) ∧ (1 ≤ x ∧ x ≤ 1000))) : zMet 107 [vr 137, vi c, vi x] (I, zPp π, D, 147) (some (vi (-1001))) (I, zPp π, D, 147) := by
  obtain ⟨⟨m0, m1, m2, m3, m4, m5, m6⟩, mc, ⟨mb, mk⟩, ⟨ml, mg⟩, mt⟩ := id e
  obtain ⟨⟨w, v, hsp, ⟨⟨hl0, hl1⟩, hlg, hps⟩, hpt, hp0⟩, hm, hd⟩ := id ci
  have hzb := zns_b w
  have hm4 := zdis_le w v hd hm
  have hl2 := zlb_b w
  obtain ⟨⟨w1, w2⟩, ⟨w3, w4⟩, ⟨w5, w6⟩, ⟨w7, w8⟩, ⟨w9, w10⟩, w11, ⟨⟨w12, w12b⟩, w12c⟩, ⟨w13, w14⟩, ⟨w15, w16⟩⟩ := id w
  refine z_n 2 (2, [(0, vr 137), (1, vi c), (2, vi x)], [vi c, vr 137], (I, zPp π, D, 147)) rfl trivial ?_
  by_cases hx1 : 0 ≤ c ∧ c < I 138 0
  · refine z_ci 94 [vr 137, vi c] [] rfl (m_isCrew1 (by omega) hx1) ?_
    refine z_br ((1 : Int) = 0) 19 8 [] rfl (fun h => absurd h (show ¬ ((1 : Int) = 0) from by decide)) (fun hx2 => ?_)
    refine z_n 3 (13, [(0, vr 137), (1, vi c), (2, vi x)], [vi 1000, vi 1, vi x], (I, zPp π, D, 147)) rfl trivial ?_
    refine z_ci 93 [vi x, vi 1, vi 1000] [] rfl (m_in0 (by omega)) ?_
    refine z_br (¬ (0 : Int) = 0) 23 19 [] rfl (fun h => absurd h (show ¬ (¬ (0 : Int) = 0) from by decide)) (fun hx3 => ?_)
    refine z_n 1 (22, [(0, vr 137), (1, vi c), (2, vi x)], [vi (-1001)], (I, zPp π, D, 147)) rfl trivial ?_
    first | exact z_ret rfl (zv1 (by omega)) rfl | (exfalso; omega)
  · refine z_ci 94 [vr 137, vi c] [] rfl (m_isCrew0 (by omega) hx1) ?_
    refine z_br ((0 : Int) = 0) 19 8 [] rfl (fun hx4 => ?_) (fun h => absurd (show (0 : Int) = 0 from by decide) h)
    refine z_n 1 (22, [(0, vr 137), (1, vi c), (2, vi x)], [vi (-1001)], (I, zPp π, D, 147)) rfl trivial ?_
    first | exact z_ret rfl (zv1 (by omega)) rfl | (exfalso; omega)
set_option maxRecDepth 20000 in
theorem m_RsetSpeed1 {I : zI} {π : Int → Nat} {D : zD} {X : zI} {c x : Int}  (e : zEq (I 138) X) (ci : zCI X) (hs : 0 ≤ I 137 2 ∧ I 137 2 ≤ 4) (hq : (0 ≤ c ∧ c < X 0 5) ∧ (1 ≤ x ∧ x ≤ 1000)) : ∃ J, zMet 107 [vr 137, vi c, vi x] (I, zPp π, D, 147) (some (vi (X 2 c))) ((zup J 138 (7 + c) x), zPp π, D, 147) ∧ zRcd J I := by
  obtain ⟨⟨m0, m1, m2, m3, m4, m5, m6⟩, mc, ⟨mb, mk⟩, ⟨ml, mg⟩, mt⟩ := id e
  obtain ⟨⟨w, v, hsp, ⟨⟨hl0, hl1⟩, hlg, hps⟩, hpt, hp0⟩, hm, hd⟩ := id ci
  have hzb := zns_b w
  have hm4 := zdis_le w v hd hm
  have hl2 := zlb_b w
  obtain ⟨⟨w1, w2⟩, ⟨w3, w4⟩, ⟨w5, w6⟩, ⟨w7, w8⟩, ⟨w9, w10⟩, w11, ⟨⟨w12, w12b⟩, w12c⟩, ⟨w13, w14⟩, ⟨w15, w16⟩⟩ := id w
  obtain ⟨J, hJ, hR⟩ := m_rec (I := I) (π := π) (D := D) hs
  have e2 : zEq (J 138) X := by rw [hR.1 138 (by decide) (by decide)]; exact e
  obtain ⟨⟨j0, j1, j2, j3, j4, j5, j6⟩, jc, ⟨jb, jk⟩, ⟨jl, jg⟩, jt⟩ := id e2
  refine ⟨J, ?_, hR⟩
  refine z_n 2 (2, [(0, vr 137), (1, vi c), (2, vi x)], [vi c, vr 137], (I, zPp π, D, 147)) rfl trivial ?_
  refine z_ci 94 [vr 137, vi c] [] rfl (m_isCrew1 (by omega) (by omega)) ?_
  refine z_br ((1 : Int) = 0) 19 8 [] rfl (fun h => absurd h (show ¬ ((1 : Int) = 0) from by decide)) (fun hx1 => ?_)
  refine z_n 3 (13, [(0, vr 137), (1, vi c), (2, vi x)], [vi 1000, vi 1, vi x], (I, zPp π, D, 147)) rfl trivial ?_
  refine z_ci 93 [vi x, vi 1, vi 1000] [] rfl (m_in1 (by omega) (by omega)) ?_
  refine z_br (¬ (1 : Int) = 0) 23 19 [] rfl (fun hx2 => ?_) (fun h => absurd (show ¬ (1 : Int) = 0 from by decide) h)
  refine z_n 1 (24, [(0, vr 137), (1, vi c), (2, vi x)], [vr 137], (I, zPp π, D, 147)) rfl trivial ?_
  refine z_cv 96 [vr 137] [] rfl (hJ) ?_
  refine z_n 15 (48, [(3, vi (J 138 (7 + c))), (0, vr 137), (1, vi c), (2, vi x)], [vi (J 138 (7 + c))], ((zup J 138 (7 + c) x), zPp π, D, 147)) (G := (zr (7 + c)) ∧ (0 ≤ (7 + c) ∧ (7 + c) < 585) ∧ (zr (7 + c)) ∧ (0 ≤ (7 + c) ∧ (7 + c) < 585) ∧ True) rfl ⟨by omega, by omega, by omega, by omega, trivial⟩ ?_
  exact z_ret rfl (zv1 (jc c hq.1.1 hq.1.2).1) rfl
set_option maxRecDepth 20000 in
theorem m_Rsetx {I : zI} {π : Int → Nat} {D : zD} {a x : Int} (hq : ¬ ((a = 0 ∧ 100 ≤ x ∧ x ≤ 5000) ∨ (a = 1 ∧ 1 ≤ x ∧ x ≤ 1000))) : zMet 108 [vr 137, vi a, vi x] (I, zPp π, D, 147) (some (vi (-1001))) (I, zPp π, D, 147) := by
  refine z_n 3 (3, [(0, vr 137), (1, vi a), (2, vi x)], [vi 1, vi 0, vi a], (I, zPp π, D, 147)) rfl trivial ?_
  by_cases hx1 : 0 ≤ a ∧ a ≤ 1
  · refine z_ci 93 [vi a, vi 0, vi 1] [] rfl (m_in1 (by omega) (by omega)) ?_
    refine z_br ((1 : Int) = 0) 39 9 [] rfl (fun h => absurd h (show ¬ ((1 : Int) = 0) from by decide)) (fun hx2 => ?_)
    refine z_n 2 (11, [(0, vr 137), (1, vi a), (2, vi x)], [vi a, vi x], (I, zPp π, D, 147)) rfl trivial ?_
    refine z_br (¬ a = 0) 19 14 [vi x] rfl (fun hx3 => ?_) (fun hx3 => ?_)
    · refine z_n 2 (21, [(0, vr 137), (1, vi a), (2, vi x)], [vi a, vi 1, vi x], (I, zPp π, D, 147)) rfl trivial ?_
      refine z_br (¬ a = 0) 30 24 [vi 1, vi x] rfl (fun hx4 => ?_) (fun hx4 => ?_)
      · refine z_n 1 (33, [(0, vr 137), (1, vi a), (2, vi x)], [vi 1000, vi 1, vi x], (I, zPp π, D, 147)) rfl trivial ?_
        refine z_ci 93 [vi x, vi 1, vi 1000] [] rfl (m_in0 (by omega)) ?_
        refine z_br (¬ (0 : Int) = 0) 43 39 [] rfl (fun h => absurd h (show ¬ (¬ (0 : Int) = 0) from by decide)) (fun hx5 => ?_)
        refine z_n 1 (42, [(0, vr 137), (1, vi a), (2, vi x)], [vi (-1001)], (I, zPp π, D, 147)) rfl trivial ?_
        first | exact z_ret rfl (zv1 (by omega)) rfl | (exfalso; omega)
      · refine z_n 2 (33, [(0, vr 137), (1, vi a), (2, vi x)], [vi 5000, vi 1, vi x], (I, zPp π, D, 147)) rfl trivial ?_
        refine z_ci 93 [vi x, vi 1, vi 5000] [] rfl (m_in0 (by omega)) ?_
        refine z_br (¬ (0 : Int) = 0) 43 39 [] rfl (fun h => absurd h (show ¬ (¬ (0 : Int) = 0) from by decide)) (fun hx6 => ?_)
        refine z_n 1 (42, [(0, vr 137), (1, vi a), (2, vi x)], [vi (-1001)], (I, zPp π, D, 147)) rfl trivial ?_
        first | exact z_ret rfl (zv1 (by omega)) rfl | (exfalso; omega)
    · refine z_n 3 (21, [(0, vr 137), (1, vi a), (2, vi x)], [vi a, vi 100, vi x], (I, zPp π, D, 147)) rfl trivial ?_
      refine z_br (¬ a = 0) 30 24 [vi 100, vi x] rfl (fun hx7 => ?_) (fun hx7 => ?_)
      · refine z_n 1 (33, [(0, vr 137), (1, vi a), (2, vi x)], [vi 1000, vi 100, vi x], (I, zPp π, D, 147)) rfl trivial ?_
        refine z_ci 93 [vi x, vi 100, vi 1000] [] rfl (m_in0 (by omega)) ?_
        refine z_br (¬ (0 : Int) = 0) 43 39 [] rfl (fun h => absurd h (show ¬ (¬ (0 : Int) = 0) from by decide)) (fun hx8 => ?_)
        refine z_n 1 (42, [(0, vr 137), (1, vi a), (2, vi x)], [vi (-1001)], (I, zPp π, D, 147)) rfl trivial ?_
        first | exact z_ret rfl (zv1 (by omega)) rfl | (exfalso; omega)
      · refine z_n 2 (33, [(0, vr 137), (1, vi a), (2, vi x)], [vi 5000, vi 100, vi x], (I, zPp π, D, 147)) rfl trivial ?_
        refine z_ci 93 [vi x, vi 100, vi 5000] [] rfl (m_in0 (by omega)) ?_
        refine z_br (¬ (0 : Int) = 0) 43 39 [] rfl (fun h => absurd h (show ¬ (¬ (0 : Int) = 0) from by decide)) (fun hx9 => ?_)
        refine z_n 1 (42, [(0, vr 137), (1, vi a), (2, vi x)], [vi (-1001)], (I, zPp π, D, 147)) rfl trivial ?_
        first | exact z_ret rfl (zv1 (by omega)) rfl | (exfalso; omega)
  · refine z_ci 93 [vi a, vi 0, vi 1] [] rfl (m_in0 (by omega)) ?_
    refine z_br ((0 : Int) = 0) 39 9 [] rfl (fun hx10 => ?_) (fun h => absurd (show (0 : Int) = 0 from by decide) h)
    refine z_n 1 (42, [(0, vr 137), (1, vi a), (2, vi x)], [vi (-1001)], (I, zPp π, D, 147)) rfl trivial ?_
    first | exact z_ret rfl (zv1 (by omega)) rfl | (exfalso; omega)
set_option maxRecDepth 20000 in
theorem m_Rset0 {I : zI} {π : Int → Nat} {D : zD} {X : zI} {x : Int}  (e : zEq (I 138) X) (ci : zCI X) (hs : 0 ≤ I 137 2 ∧ I 137 2 ≤ 4) (hq : 100 ≤ x ∧ x ≤ 5000) : ∃ J, zMet 108 [vr 137, vi 0, vi x] (I, zPp π, D, 147) (some (vi (X 0 10))) ((zup J 138 5 x), zPp π, D, 147) ∧ zRcd J I := by
  obtain ⟨⟨m0, m1, m2, m3, m4, m5, m6⟩, mc, ⟨mb, mk⟩, ⟨ml, mg⟩, mt⟩ := id e
  obtain ⟨⟨w, v, hsp, ⟨⟨hl0, hl1⟩, hlg, hps⟩, hpt, hp0⟩, hm, hd⟩ := id ci
  have hzb := zns_b w
  have hm4 := zdis_le w v hd hm
  have hl2 := zlb_b w
  obtain ⟨⟨w1, w2⟩, ⟨w3, w4⟩, ⟨w5, w6⟩, ⟨w7, w8⟩, ⟨w9, w10⟩, w11, ⟨⟨w12, w12b⟩, w12c⟩, ⟨w13, w14⟩, ⟨w15, w16⟩⟩ := id w
  obtain ⟨J, hJ, hR⟩ := m_rec (I := I) (π := π) (D := D) hs
  have e2 : zEq (J 138) X := by rw [hR.1 138 (by decide) (by decide)]; exact e
  obtain ⟨⟨j0, j1, j2, j3, j4, j5, j6⟩, jc, ⟨jb, jk⟩, ⟨jl, jg⟩, jt⟩ := id e2
  refine ⟨J, ?_, hR⟩
  refine z_n 3 (3, [(0, vr 137), (1, vi 0), (2, vi x)], [vi 1, vi 0, vi 0], (I, zPp π, D, 147)) rfl trivial ?_
  refine z_ci 93 [vi 0, vi 0, vi 1] [] rfl (m_in1 (by decide) (by decide)) ?_
  refine z_br ((1 : Int) = 0) 39 9 [] rfl (fun h => absurd h (show ¬ ((1 : Int) = 0) from by decide)) (fun hx1 => ?_)
  refine z_n 2 (11, [(0, vr 137), (1, vi 0), (2, vi x)], [vi 0, vi x], (I, zPp π, D, 147)) rfl trivial ?_
  refine z_br (¬ (0 : Int) = 0) 19 14 [vi x] rfl (fun h => absurd h (show ¬ (¬ (0 : Int) = 0) from by decide)) (fun hx2 => ?_)
  refine z_n 3 (21, [(0, vr 137), (1, vi 0), (2, vi x)], [vi 0, vi 100, vi x], (I, zPp π, D, 147)) rfl trivial ?_
  refine z_br (¬ (0 : Int) = 0) 30 24 [vi 100, vi x] rfl (fun h => absurd h (show ¬ (¬ (0 : Int) = 0) from by decide)) (fun hx3 => ?_)
  refine z_n 2 (33, [(0, vr 137), (1, vi 0), (2, vi x)], [vi 5000, vi 100, vi x], (I, zPp π, D, 147)) rfl trivial ?_
  refine z_ci 93 [vi x, vi 100, vi 5000] [] rfl (m_in1 (by omega) (by omega)) ?_
  refine z_br (¬ (1 : Int) = 0) 43 39 [] rfl (fun hx4 => ?_) (fun h => absurd (show ¬ (1 : Int) = 0 from by decide) h)
  refine z_n 1 (44, [(0, vr 137), (1, vi 0), (2, vi x)], [vr 137], (I, zPp π, D, 147)) rfl trivial ?_
  refine z_cv 96 [vr 137] [] rfl (hJ) ?_
  refine z_n 15 (66, [(3, vi (J 138 5)), (0, vr 137), (1, vi 0), (2, vi x)], [vi (J 138 5)], ((zup J 138 5 x), zPp π, D, 147)) (G := (zr 5) ∧ (0 ≤ 5 ∧ 5 < 585) ∧ (zr 5) ∧ (0 ≤ 5 ∧ 5 < 585) ∧ True) rfl ⟨by omega, by omega, by omega, by omega, trivial⟩ ?_
  exact z_ret rfl (zv1 j5) rfl
set_option maxRecDepth 20000 in
theorem m_Rset1 {I : zI} {π : Int → Nat} {D : zD} {X : zI} {x : Int}  (e : zEq (I 138) X) (ci : zCI X) (hs : 0 ≤ I 137 2 ∧ I 137 2 ≤ 4) (hq : 1 ≤ x ∧ x ≤ 1000) : ∃ J, zMet 108 [vr 137, vi 1, vi x] (I, zPp π, D, 147) (some (vi (X 0 11))) ((zup J 138 6 x), zPp π, D, 147) ∧ zRcd J I := by
  obtain ⟨⟨m0, m1, m2, m3, m4, m5, m6⟩, mc, ⟨mb, mk⟩, ⟨ml, mg⟩, mt⟩ := id e
  obtain ⟨⟨w, v, hsp, ⟨⟨hl0, hl1⟩, hlg, hps⟩, hpt, hp0⟩, hm, hd⟩ := id ci
  have hzb := zns_b w
  have hm4 := zdis_le w v hd hm
  have hl2 := zlb_b w
  obtain ⟨⟨w1, w2⟩, ⟨w3, w4⟩, ⟨w5, w6⟩, ⟨w7, w8⟩, ⟨w9, w10⟩, w11, ⟨⟨w12, w12b⟩, w12c⟩, ⟨w13, w14⟩, ⟨w15, w16⟩⟩ := id w
  obtain ⟨J, hJ, hR⟩ := m_rec (I := I) (π := π) (D := D) hs
  have e2 : zEq (J 138) X := by rw [hR.1 138 (by decide) (by decide)]; exact e
  obtain ⟨⟨j0, j1, j2, j3, j4, j5, j6⟩, jc, ⟨jb, jk⟩, ⟨jl, jg⟩, jt⟩ := id e2
  refine ⟨J, ?_, hR⟩
  refine z_n 3 (3, [(0, vr 137), (1, vi 1), (2, vi x)], [vi 1, vi 0, vi 1], (I, zPp π, D, 147)) rfl trivial ?_
  refine z_ci 93 [vi 1, vi 0, vi 1] [] rfl (m_in1 (by decide) (by decide)) ?_
  refine z_br ((1 : Int) = 0) 39 9 [] rfl (fun h => absurd h (show ¬ ((1 : Int) = 0) from by decide)) (fun hx1 => ?_)
  refine z_n 2 (11, [(0, vr 137), (1, vi 1), (2, vi x)], [vi 1, vi x], (I, zPp π, D, 147)) rfl trivial ?_
  refine z_br (¬ (1 : Int) = 0) 19 14 [vi x] rfl (fun hx2 => ?_) (fun h => absurd (show ¬ (1 : Int) = 0 from by decide) h)
  refine z_n 2 (21, [(0, vr 137), (1, vi 1), (2, vi x)], [vi 1, vi 1, vi x], (I, zPp π, D, 147)) rfl trivial ?_
  refine z_br (¬ (1 : Int) = 0) 30 24 [vi 1, vi x] rfl (fun hx3 => ?_) (fun h => absurd (show ¬ (1 : Int) = 0 from by decide) h)
  refine z_n 1 (33, [(0, vr 137), (1, vi 1), (2, vi x)], [vi 1000, vi 1, vi x], (I, zPp π, D, 147)) rfl trivial ?_
  refine z_ci 93 [vi x, vi 1, vi 1000] [] rfl (m_in1 (by omega) (by omega)) ?_
  refine z_br (¬ (1 : Int) = 0) 43 39 [] rfl (fun hx4 => ?_) (fun h => absurd (show ¬ (1 : Int) = 0 from by decide) h)
  refine z_n 1 (44, [(0, vr 137), (1, vi 1), (2, vi x)], [vr 137], (I, zPp π, D, 147)) rfl trivial ?_
  refine z_cv 96 [vr 137] [] rfl (hJ) ?_
  refine z_n 15 (66, [(3, vi (J 138 6)), (0, vr 137), (1, vi 1), (2, vi x)], [vi (J 138 6)], ((zup J 138 6 x), zPp π, D, 147)) (G := (zr 6) ∧ (0 ≤ 6 ∧ 6 < 585) ∧ (zr 6) ∧ (0 ≤ 6 ∧ 6 < 585) ∧ True) rfl ⟨by omega, by omega, by omega, by omega, trivial⟩ ?_
  exact z_ret rfl (zv1 j6) rfl
set_option maxRecDepth 20000 in
theorem m_Rbump0 {I : zI} {π : Int → Nat} {D : zD} {X : zI} {a b : Int}  (e : zEq (I 138) X) (ci : zCI X) (hs : 0 ≤ I 137 2 ∧ I 137 2 ≤ 4) (hq : (0 ≤ a ∧ a < X 0 5) ∧ (0 ≤ b ∧ b < X 0 5)) (hz : zReas (X 0) (X 4) (X 6) (X 7 2) (X 9) (X 11) a b 0) : ∃ J K, zMet 115 [vr 137, vi a, vi b] (I, zPp π, D, 147) (some (vi (X 7 2))) ((zup (zup (zup K 138 (56 + X 7 2) a) 138 (68 + X 7 2) b) 138 55 (X 7 2 + 1)), zPp π, D, 147) ∧ zRcd K J ∧ zMk J I := by
  obtain ⟨⟨m0, m1, m2, m3, m4, m5, m6⟩, mc, ⟨mb, mk⟩, ⟨ml, mg⟩, mt⟩ := id e
  obtain ⟨⟨w, v, hsp, ⟨⟨hl0, hl1⟩, hlg, hps⟩, hpt, hp0⟩, hm, hd⟩ := id ci
  have hzb := zns_b w
  have hm4 := zdis_le w v hd hm
  have hl2 := zlb_b w
  obtain ⟨⟨w1, w2⟩, ⟨w3, w4⟩, ⟨w5, w6⟩, ⟨w7, w8⟩, ⟨w9, w10⟩, w11, ⟨⟨w12, w12b⟩, w12c⟩, ⟨w13, w14⟩, ⟨w15, w16⟩⟩ := id w
  obtain ⟨J, hJ, hln, hmk, e2⟩ := m_ln (π := π) (D := D) e ci
  obtain ⟨⟨l0, l1, l2, l3, l4, l5, l6⟩, lc, ⟨lb, lk⟩, ⟨ll, lg⟩, lt⟩ := id e2
  have hmk2 := hmk.2.2.2.2.1
  have hmk4 := hmk.2.2.2.2.2
  have hl10 := hln.1
  obtain ⟨K, hK, hR⟩ := m_rec (I := J) (π := π) (D := D) (by omega)
  have e3 : zEq (K 138) X := by rw [hR.1 138 (by decide) (by decide)]; exact e2
  obtain ⟨⟨k0, k1, k2, k3, k4, k5, k6⟩, kc, ⟨kb, kk⟩, ⟨kl, kg⟩, kt⟩ := id e3
  refine ⟨J, K, ?_, hR, hmk⟩
  refine z_n 2 (2, [(0, vr 137), (1, vi a), (2, vi b)], [vi a, vr 137], (I, zPp π, D, 147)) rfl trivial ?_
  refine z_ci 94 [vr 137, vi a] [] rfl (m_isCrew1 (by omega) (by omega)) ?_
  refine z_br ((1 : Int) = 0) 16 8 [] rfl (fun h => absurd h (show ¬ ((1 : Int) = 0) from by decide)) (fun hx1 => ?_)
  refine z_n 2 (10, [(0, vr 137), (1, vi a), (2, vi b)], [vi b, vr 137], (I, zPp π, D, 147)) rfl trivial ?_
  refine z_ci 94 [vr 137, vi b] [] rfl (m_isCrew1 (by omega) (by omega)) ?_
  refine z_br (¬ (1 : Int) = 0) 20 16 [] rfl (fun hx2 => ?_) (fun h => absurd (show ¬ (1 : Int) = 0 from by decide) h)
  refine z_n 1 (21, [(0, vr 137), (1, vi a), (2, vi b)], [vr 137], (I, zPp π, D, 147)) rfl trivial ?_
  refine z_cv 100 [vr 137] [] rfl (hJ) ?_
  refine z_n 3 (27, [(0, vr 137), (1, vi a), (2, vi b)], [vi b, vi a, vr 137], (J, zPp π, D, 147)) rfl trivial ?_
  refine z_ci 103 [vr 137, vi a, vi b] [] rfl (m_refusal w v hln hz) ?_
  refine z_br ((0 : Int) ≤ 0) 37 33 [] rfl (fun hx3 => ?_) (fun h => absurd (show (0 : Int) ≤ 0 from by decide) h)
  refine z_n 1 (38, [(0, vr 137), (1, vi a), (2, vi b)], [vr 137], (J, zPp π, D, 147)) rfl trivial ?_
  refine z_cv 96 [vr 137] [] rfl (hK) ?_
  refine z_n 3 (44, [(0, vr 137), (1, vi a), (2, vi b)], [vi b, vi a, vr 137], (K, zPp π, D, 147)) rfl trivial ?_
  refine z_ci 104 [vr 137, vi a, vi b] [] rfl (m_puts (I := K) (m := X 7 2) kb (by omega)) ?_
  first | exact z_ret rfl (zv1 (by omega)) rfl | (exfalso; omega)
set_option maxRecDepth 20000 in
theorem m_Rbegin0 {I : zI} {π : Int → Nat} {D : zD} {a b c : Int} (hq : ¬ ((2 ≤ a ∧ a ≤ 24) ∧ (3 ≤ b ∧ b ≤ 8) ∧ (1 ≤ c ∧ c ≤ 6))) : zMet 106 [vr 137, vi a, vi b, vi c] (I, zPp π, D, 147) (some (vi (-1001))) (I, zPp π, D, 147) := by
  refine z_n 3 (4, [(0, vr 137), (1, vi a), (2, vi b), (3, vi c)], [vi 24, vi 2, vi a], (I, zPp π, D, 147)) rfl trivial ?_
  by_cases hx1 : 2 ≤ a ∧ a ≤ 24
  · refine z_ci 93 [vi a, vi 2, vi 24] [] rfl (m_in1 (by omega) (by omega)) ?_
    refine z_br ((1 : Int) = 0) 30 10 [] rfl (fun h => absurd h (show ¬ ((1 : Int) = 0) from by decide)) (fun hx2 => ?_)
    refine z_n 3 (14, [(0, vr 137), (1, vi a), (2, vi b), (3, vi c)], [vi 8, vi 3, vi b], (I, zPp π, D, 147)) rfl trivial ?_
    by_cases hx3 : 3 ≤ b ∧ b ≤ 8
    · refine z_ci 93 [vi b, vi 3, vi 8] [] rfl (m_in1 (by omega) (by omega)) ?_
      refine z_br ((1 : Int) = 0) 30 20 [] rfl (fun h => absurd h (show ¬ ((1 : Int) = 0) from by decide)) (fun hx4 => ?_)
      refine z_n 3 (24, [(0, vr 137), (1, vi a), (2, vi b), (3, vi c)], [vi 6, vi 1, vi c], (I, zPp π, D, 147)) rfl trivial ?_
      by_cases hx5 : 1 ≤ c ∧ c ≤ 6
      · refine z_ci 93 [vi c, vi 1, vi 6] [] rfl (m_in1 (by omega) (by omega)) ?_
        refine z_br (¬ (1 : Int) = 0) 34 30 [] rfl (fun hx6 => ?_) (fun h => absurd (show ¬ (1 : Int) = 0 from by decide) h)
        exfalso; omega
      · refine z_ci 93 [vi c, vi 1, vi 6] [] rfl (m_in0 (by omega)) ?_
        refine z_br (¬ (0 : Int) = 0) 34 30 [] rfl (fun h => absurd h (show ¬ (¬ (0 : Int) = 0) from by decide)) (fun hx7 => ?_)
        refine z_n 1 (33, [(0, vr 137), (1, vi a), (2, vi b), (3, vi c)], [vi (-1001)], (I, zPp π, D, 147)) rfl trivial ?_
        first | exact z_ret rfl (zv1 (by omega)) rfl | (exfalso; omega)
    · refine z_ci 93 [vi b, vi 3, vi 8] [] rfl (m_in0 (by omega)) ?_
      refine z_br ((0 : Int) = 0) 30 20 [] rfl (fun hx8 => ?_) (fun h => absurd (show (0 : Int) = 0 from by decide) h)
      refine z_n 1 (33, [(0, vr 137), (1, vi a), (2, vi b), (3, vi c)], [vi (-1001)], (I, zPp π, D, 147)) rfl trivial ?_
      first | exact z_ret rfl (zv1 (by omega)) rfl | (exfalso; omega)
  · refine z_ci 93 [vi a, vi 2, vi 24] [] rfl (m_in0 (by omega)) ?_
    refine z_br ((0 : Int) = 0) 30 10 [] rfl (fun hx9 => ?_) (fun h => absurd (show (0 : Int) = 0 from by decide) h)
    refine z_n 1 (33, [(0, vr 137), (1, vi a), (2, vi b), (3, vi c)], [vi (-1001)], (I, zPp π, D, 147)) rfl trivial ?_
    first | exact z_ret rfl (zv1 (by omega)) rfl | (exfalso; omega)
set_option maxRecDepth 20000 in
theorem m_Rbegin1 {I : zI} {π : Int → Nat} {D : zD} {a b c : Int}  (hs : 0 ≤ I 137 2 ∧ I 137 2 ≤ 4) (hq : (2 ≤ a ∧ a ≤ 24) ∧ (3 ≤ b ∧ b ≤ 8) ∧ (1 ≤ c ∧ c ≤ 6)) : ∃ J, zMet 106 [vr 137, vi a, vi b, vi c] (I, zPp π, D, 147) (some (vi ((a + b - 1) / b))) ((zCr (zup (zBg (zup (zup (zup (zup (zup (zup J 138 0 a) 138 1 b) 138 2 c) 138 3 0) 138 55 0) 138 80 0) 24) 138 4 ((a + b - 1) / b - 1)) 0 24), zPp π, D, 147) ∧ zRcd J I := by
  obtain ⟨J, hJ, hR⟩ := m_rec (I := I) (π := π) (D := D) hs
  refine ⟨J, ?_, hR⟩
  refine z_n 3 (4, [(0, vr 137), (1, vi a), (2, vi b), (3, vi c)], [vi 24, vi 2, vi a], (I, zPp π, D, 147)) rfl trivial ?_
  refine z_ci 93 [vi a, vi 2, vi 24] [] rfl (m_in1 (by omega) (by omega)) ?_
  refine z_br ((1 : Int) = 0) 30 10 [] rfl (fun h => absurd h (show ¬ ((1 : Int) = 0) from by decide)) (fun hx1 => ?_)
  refine z_n 3 (14, [(0, vr 137), (1, vi a), (2, vi b), (3, vi c)], [vi 8, vi 3, vi b], (I, zPp π, D, 147)) rfl trivial ?_
  refine z_ci 93 [vi b, vi 3, vi 8] [] rfl (m_in1 (by omega) (by omega)) ?_
  refine z_br ((1 : Int) = 0) 30 20 [] rfl (fun h => absurd h (show ¬ ((1 : Int) = 0) from by decide)) (fun hx2 => ?_)
  refine z_n 3 (24, [(0, vr 137), (1, vi a), (2, vi b), (3, vi c)], [vi 6, vi 1, vi c], (I, zPp π, D, 147)) rfl trivial ?_
  refine z_ci 93 [vi c, vi 1, vi 6] [] rfl (m_in1 (by omega) (by omega)) ?_
  refine z_br (¬ (1 : Int) = 0) 34 30 [] rfl (fun hx3 => ?_) (fun h => absurd (show ¬ (1 : Int) = 0 from by decide) h)
  refine z_n 1 (35, [(0, vr 137), (1, vi a), (2, vi b), (3, vi c)], [vr 137], (I, zPp π, D, 147)) rfl trivial ?_
  refine z_cv 96 [vr 137] [] rfl (hJ) ?_
  refine z_n 4 (42, [(0, vr 137), (1, vi a), (2, vi b), (3, vi c)], [vi c, vi b, vi a, vr 137], (J, zPp π, D, 147)) rfl trivial ?_
  refine z_cv 98 [vr 137, vi a, vi b, vi c] [] rfl (m_begins (I := J) (by omega) (by omega)) ?_
  refine z_n 1 (46, [(0, vr 137), (1, vi a), (2, vi b), (3, vi c)], [vr 137], ((zCr (zup (zBg (zup (zup (zup (zup (zup (zup J 138 0 a) 138 1 b) 138 2 c) 138 3 0) 138 55 0) 138 80 0) 24) 138 4 ((a + b - 1) / b - 1)) 0 24), zPp π, D, 147)) rfl trivial ?_
  refine z_ci 95 [vr 137] [] rfl (m_mdiv (I := (zCr (zup (zBg (zup (zup (zup (zup (zup (zup J 138 0 a) 138 1 b) 138 2 c) 138 3 0) 138 55 0) 138 80 0) 24) 138 4 ((a + b - 1) / b - 1)) 0 24)) (show 0 ≤ a ∧ a ≤ 24 from by omega) (show 3 ≤ b ∧ b ≤ 8 from by omega)) ?_
  exact z_ret rfl rfl rfl
set_option maxRecDepth 20000 in
theorem m_fin_b {I : zI} {π : Int → Nat} {D : zD} {a b p q l O k m : Int} {r : Option zV} {τ : zS} (ha : I 138 (56 + k) = a) (hb : I 138 (68 + k) = b) (hpa : I 138 (31 + a) = p) (hpb : I 138 (31 + b) = q) (hl : I 138 80 = l) (hO : I 138 3 = O) (h0 : 0 ≤ k ∧ k < 4) (h1 : k < m) (ba : 0 ≤ a ∧ a < 24) (bb : 0 ≤ b ∧ b < 24) (bl : 0 ≤ l ∧ l < 112) (hk : zRuns 105 10 [(2, vi (k + 1)), (0, vr 137), (1, vi m)] [] ((zup (zup (zup (zup (zup (zup I 138 (31 + a) q) 138 (31 + b) p) 138 (81 + l) O) 138 (193 + l) a) 138 (305 + l) b) 138 80 (l + 1)), zPp π, D, 147) r τ) : zRuns 105 10 [(2, vi k), (0, vr 137), (1, vi m)] [] (I, zPp π, D, 147) r τ := by
  refine z_n 2 (12, [(2, vi k), (0, vr 137), (1, vi m)], [vi m, vi k], (I, zPp π, D, 147)) rfl trivial ?_
  refine z_br (m ≤ k) 151 15 [] rfl (fun h => absurd h (show ¬ (m ≤ k) from by omega)) (fun hx1 => ?_)
  refine z_n 6 (24, [(2, vi k), (0, vr 137), (1, vi m)], [vi (I 138 (56 + k))], (I, zPp π, D, 147)) (G := (zr (56 + k)) ∧ (0 ≤ (56 + k) ∧ (56 + k) < 585) ∧ True) rfl ⟨by omega, by omega, trivial⟩ ?_
  refine z_top (b := a) (ha) ?_
  refine z_n 7 (34, [(3, vi a), (2, vi k), (0, vr 137), (1, vi m)], [vi (I 138 (68 + k))], (I, zPp π, D, 147)) (G := (zr (68 + k)) ∧ (0 ≤ (68 + k) ∧ (68 + k) < 585) ∧ True) rfl ⟨by omega, by omega, trivial⟩ ?_
  refine z_top (b := b) (hb) ?_
  refine z_n 7 (45, [(4, vi b), (3, vi a), (2, vi k), (0, vr 137), (1, vi m)], [vi (I 138 (31 + a))], (I, zPp π, D, 147)) (G := (zr (31 + a)) ∧ (0 ≤ (31 + a) ∧ (31 + a) < 585) ∧ True) rfl ⟨by omega, by omega, trivial⟩ ?_
  refine z_top (b := p) (hpa) ?_
  refine z_n 12 (65, [(5, vi p), (4, vi b), (3, vi a), (2, vi k), (0, vr 137), (1, vi m)], [vi (I 138 (31 + b)), vi (31 + a), vr 138], (I, zPp π, D, 147)) (G := (zr (31 + a)) ∧ (zr (31 + b)) ∧ (0 ≤ (31 + b) ∧ (31 + b) < 585) ∧ True) rfl ⟨by omega, by omega, by omega, trivial⟩ ?_
  refine z_top (b := q) (hpb) ?_
  refine z_n 15 (91, [(5, vi p), (4, vi b), (3, vi a), (2, vi k), (0, vr 137), (1, vi m)], [vi ((zup (zup I 138 (31 + a) q) 138 (31 + b) p) 138 80), vi 81, vr 138], ((zup (zup I 138 (31 + a) q) 138 (31 + b) p), zPp π, D, 147)) (G := (0 ≤ (31 + a) ∧ (31 + a) < 585) ∧ (zr (31 + b)) ∧ (0 ≤ (31 + b) ∧ (31 + b) < 585) ∧ (0 ≤ 80 ∧ 80 < 585) ∧ True) rfl ⟨by omega, by omega, by omega, by omega, trivial⟩ ?_
  refine z_top (b := l) (by rw [zup_at, if_neg (by omega), zup_at, if_neg (by omega)]; exact hl) ?_
  refine z_n 5 (98, [(5, vi p), (4, vi b), (3, vi a), (2, vi k), (0, vr 137), (1, vi m)], [vi ((zup (zup I 138 (31 + a) q) 138 (31 + b) p) 138 3), vi (81 + l), vr 138], ((zup (zup I 138 (31 + a) q) 138 (31 + b) p), zPp π, D, 147)) (G := (zr (81 + l)) ∧ (0 ≤ 3 ∧ 3 < 585) ∧ True) rfl ⟨by omega, by omega, trivial⟩ ?_
  refine z_top (b := O) (by rw [zup_at, if_neg (by omega), zup_at, if_neg (by omega)]; exact hO) ?_
  refine z_n 8 (113, [(5, vi p), (4, vi b), (3, vi a), (2, vi k), (0, vr 137), (1, vi m)], [vi ((zup (zup (zup I 138 (31 + a) q) 138 (31 + b) p) 138 (81 + l) O) 138 80), vi 193, vr 138], ((zup (zup (zup I 138 (31 + a) q) 138 (31 + b) p) 138 (81 + l) O), zPp π, D, 147)) (G := (0 ≤ (81 + l) ∧ (81 + l) < 585) ∧ (0 ≤ 80 ∧ 80 < 585) ∧ True) rfl ⟨by omega, by omega, trivial⟩ ?_
  refine z_top (b := l) (by rw [zup_at, if_neg (by omega), zup_at, if_neg (by omega), zup_at, if_neg (by omega)]; exact hl) ?_
  refine z_n 10 (130, [(5, vi p), (4, vi b), (3, vi a), (2, vi k), (0, vr 137), (1, vi m)], [vi ((zup (zup (zup (zup I 138 (31 + a) q) 138 (31 + b) p) 138 (81 + l) O) 138 (193 + l) a) 138 80), vi 305, vr 138], ((zup (zup (zup (zup I 138 (31 + a) q) 138 (31 + b) p) 138 (81 + l) O) 138 (193 + l) a), zPp π, D, 147)) (G := (zr (193 + l)) ∧ (0 ≤ (193 + l) ∧ (193 + l) < 585) ∧ (0 ≤ 80 ∧ 80 < 585) ∧ True) rfl ⟨by omega, by omega, by omega, trivial⟩ ?_
  refine z_top (b := l) (by rw [zup_at, if_neg (by omega), zup_at, if_neg (by omega), zup_at, if_neg (by omega), zup_at, if_neg (by omega)]; exact hl) ?_
  refine z_n 8 (142, [(5, vi p), (4, vi b), (3, vi a), (2, vi k), (0, vr 137), (1, vi m)], [vi ((zup (zup (zup (zup (zup I 138 (31 + a) q) 138 (31 + b) p) 138 (81 + l) O) 138 (193 + l) a) 138 (305 + l) b) 138 80), vi 80, vr 138], ((zup (zup (zup (zup (zup I 138 (31 + a) q) 138 (31 + b) p) 138 (81 + l) O) 138 (193 + l) a) 138 (305 + l) b), zPp π, D, 147)) (G := (zr (305 + l)) ∧ (0 ≤ (305 + l) ∧ (305 + l) < 585) ∧ (0 ≤ 80 ∧ 80 < 585) ∧ True) rfl ⟨by omega, by omega, by omega, trivial⟩ ?_
  refine z_top (b := l) (by rw [zup_at, if_neg (by omega), zup_at, if_neg (by omega), zup_at, if_neg (by omega), zup_at, if_neg (by omega), zup_at, if_neg (by omega)]; exact hl) ?_
  refine z_n 5 (10, [(2, vi (k + 1)), (5, vi p), (4, vi b), (3, vi a), (0, vr 137), (1, vi m)], [], ((zup (zup (zup (zup (zup (zup I 138 (31 + a) q) 138 (31 + b) p) 138 (81 + l) O) 138 (193 + l) a) 138 (305 + l) b) 138 80 (l + 1)), zPp π, D, 147)) (G := (zr (l + 1)) ∧ (0 ≤ 80 ∧ 80 < 585) ∧ (zr (k + 1)) ∧ True) rfl ⟨by omega, by omega, by omega, trivial⟩ ?_
  refine z_sub [(2, vi (k + 1)), (0, vr 137), (1, vi m)] [0, 4, 5] rfl ?_
  exact hk
set_option maxRecDepth 20000 in
theorem m_fin_A {I : zI} {π : Int → Nat} {D : zD} {R k m : Int} (m4 : I 138 4 = R) (hk : m ≤ k) (hR : 0 < R ∧ R ≤ 7) : zRuns 105 10 [(2, vi k), (0, vr 137), (1, vi m)] [] (I, zPp π, D, 147) (some (vi m)) ((zup (zup I 138 55 0) 138 4 (R - 1)), zPp π, D, 147) := by
  refine z_n 2 (12, [(2, vi k), (0, vr 137), (1, vi m)], [vi m, vi k], (I, zPp π, D, 147)) rfl trivial ?_
  refine z_br (m ≤ k) 151 15 [] rfl (fun hx1 => ?_) (fun h => absurd (show m ≤ k from by omega) h)
  refine z_n 10 (166, [(2, vi k), (0, vr 137), (1, vi m)], [vi (I 138 4), vi 4, vr 138], ((zup I 138 55 0), zPp π, D, 147)) (G := (0 ≤ 55 ∧ 55 < 585) ∧ (0 ≤ 4 ∧ 4 < 585) ∧ True) rfl ⟨by omega, by omega, trivial⟩ ?_
  refine z_top (b := R) (m4) ?_
  refine z_n 8 (176, [(2, vi k), (0, vr 137), (1, vi m)], [vi (-1), vi (R - 1)], ((zup (zup I 138 55 0) 138 4 (R - 1)), zPp π, D, 147)) (G := (zr (R - 1)) ∧ (0 ≤ 4 ∧ 4 < 585) ∧ (0 ≤ 4 ∧ 4 < 585) ∧ True) rfl ⟨by omega, by omega, by omega, trivial⟩ ?_
  refine z_br (¬ (R - 1) = (-1)) 224 179 [] rfl (fun hx2 => ?_) (fun h => absurd (show ¬ (R - 1) = (-1) from by omega) h)
  refine z_n 1 (225, [(2, vi k), (0, vr 137), (1, vi m)], [vi m], ((zup (zup I 138 55 0) 138 4 (R - 1)), zPp π, D, 147)) rfl trivial ?_
  first | exact z_ret rfl (zv1 (by omega)) rfl | (exfalso; omega)
