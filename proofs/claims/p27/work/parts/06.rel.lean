/-! ===== the pure machine against the machine ===== -/
def zvr : zV → Prop
  | .inl x => zr x
  | _ => True
def zad (base b r : Nat) : Nat := if r = 1000 then b else base + (r - 1)
def zrf (base b r : Nat) : Option Nat := if r = 0 then none else some (zad base b r)
def zcv (base b : Nat) : zV → Value
  | .inl x => .int (Int32.ofInt x)
  | .inr (.inl r) => va_rf (zrf base b r)
  | .inr (.inr (.inl f)) => .float f
  | .inr (.inr (.inr d)) => .double d
abbrev zcq (base b : Nat) (q : Nat × zV) : Nat × Value := (q.1, zcv base b q.2)
def zfv (base b : Nat) (σ : zS) (r ci k : Nat) : Value := bif zfr ci k then va_rf (zrf base b (σ.2.1 r k)) else .int (Int32.ofInt (σ.1 r k))
def zE (cA : Nat → ClassId) (base b : Nat) (σ : zS) (r : Nat) : va_E :=
  if (zsh r).1 < 8 then .inr ((zsh r).1, (List.range (zsh r).2).map (zfv base b σ r (zsh r).1))
  else if (zsh r).1 = 13 then .inl (cA 13, ((zsh r).2, .inr (.inr (.inr (.inl (fun j => σ.2.2.1 r j))))))
  else if (zsh r).1 = 14 then .inl (cA 14, ((zsh r).2, .inr (.inr (.inr (.inr (fun j => zrf base b (σ.2.1 r j)))))))
  else .inl (cA (zsh r).1, ((zsh r).2, .inl (fun j => Int32.ofInt (σ.1 r j))))
def zws (cA : Nat → ClassId) (base b : Nat) (σ : zS) : va_W := (List.range (σ.2.2.2 - 1)).map (fun k => (base + k, zE cA base b σ (k + 1)))
def ztys (cA : Nat → ClassId) : List (ClassId × FieldType) := [(cA 10, .int), (cA 13, .double), (cA 14, .object RX1)]
def zsz (c : Nat) : Nat := ((List.range c).map (fun r => (zsh r).2)).sum
def lw_good : List Cond := lw_tbl.filter goodWord
/-- the words that a caller hands on itself -/
def zisn : Cond → Bool
  | .methodLinkNest _ _ _ _ => true
  | .arrayOver _ => true
  | _ => false
/-- the numbers that are there are ints -/
def zRg (σ : zS) : Prop := ∀ r, r < σ.2.2.2 → ∀ j : Nat, j < (zsh r).2 → zr (σ.1 r j)
def zH (cA : Nat → ClassId) (D : va_G) (base b Lx : Nat) (xs : Nat → Int32) (s : State) (σ : zS) (H : Heap) (locs : List Loc) (cells : Nat) : Prop :=
  1 ≤ σ.2.2.2 ∧ H.size = base + (σ.2.2.2 - 1) ∧ va_P D vwCl (zws cA base b σ) H ∧ zRg σ ∧ (σ.1 1000 (-1) = Lx ∧ ∀ j : Nat, j < Lx → σ.1 1000 j = (xs j).toInt) ∧ va_S (fun q => base ≤ q) s.heap H locs ∧ s.heap.size + cells = base + (σ.2.2.2 - 1)
/-- what stays the same through a method's body -/
def zCx (p : Program) (R : Room) (s : State) (m : MethodId) (args : Array Value) (meth : Method) (c : Code) (cA : Nat → ClassId) (D : va_G) (base b Lx : Nat) (xs : Nat → Int32) (y : Nat) : Prop :=
  p.tables.exec = Jvm.exec ∧ c.code = zb y ∧ c.maxLocals = zml y ∧ s.vm.findClass (zR (zown y)) = some m.cls ∧ (∀ w ∈ lw_good, w.before args s = true) ∧ (zini y = true → meth.name = "<init>") ∧ va_K D vwCl (ztys cA) s ∧ zrank y ≤ R.frames ∧ zneed y ≤ R.locals ∧ (∀ w ∈ lw_tbl, zisn w = true → va_Nw w s) ∧ y < zN ∧ Lx ≤ 260 ∧ (b < base ∧ va_X b Lx xs s s.heap) ∧ base ≤ s.heap.size
theorem zcat_cv {base b : Nat} (v : zV) : (zcv base b v).category = zcat v := by
  rcases v with x | r | f | d
  · rfl
  · show (va_rf (zrf base b r)).category = 1
    cases zrf base b r <;> rfl
  · rfl
  · rfl
theorem zcv_0 {base b : Nat} : zcv base b (vr 0) = .null := rfl
theorem zcv_r {base b r : Nat} (h : r ≠ 0) : zcv base b (vr r) = .ref (zad base b r) := by
  show va_rf (zrf base b r) = _
  rw [zrf, if_neg h]; rfl
theorem zset1_map {base b k : Nat} {v : zV} {L : zL} : (k, zcv base b v) :: (L.map (zcq base b)).filter (fun q => !(q.1 == k) && !(q.1 + 1 == k && q.2.category == 2)) = (zset1 k v L).map (zcq base b) := by
  simp [zset1, List.filter_map, Function.comp_def, zcat_cv]
theorem zset2_map {base b k : Nat} {v : zV} {L : zL} : (k, zcv base b v) :: (L.map (zcq base b)).filter (fun q => !(q.1 == k) && (!(q.1 == k + 1) && !(q.1 + 1 == k && q.2.category == 2))) = (zset2 k v L).map (zcq base b) := by
  simp [zset2, List.filter_map, Function.comp_def, zcat_cv]
theorem zset1_r {k : Nat} {v : zV} {L : zL} (h : ∀ q ∈ L, zvr q.2) (hv : zvr v) : ∀ q ∈ zset1 k v L, zvr q.2 := by
  intro q hq
  rcases List.mem_cons.mp hq with rfl | hq
  · exact hv
  · exact h q ((List.mem_filter.mp hq).1)
theorem zset2_r {k : Nat} {v : zV} {L : zL} (h : ∀ q ∈ L, zvr q.2) (hv : zvr v) : ∀ q ∈ zset2 k v L, zvr q.2 := by
  intro q hq
  rcases List.mem_cons.mp hq with rfl | hq
  · exact hv
  · exact h q ((List.mem_filter.mp hq).1)
theorem zlk_mem {k : Nat} {v : zV} : ∀ {L : zL}, zlk k L = some v → (k, v) ∈ L
  | [], h => by simp [zlk] at h
  | q :: t, h => by
    unfold zlk at h
    by_cases hq : q.1 = k
    · subst hq
      simp at h
      subst h
      exact List.mem_cons_self
    · have : Nat.beq q.1 k = false := by
        cases hb : Nat.beq q.1 k with
        | false => rfl
        | true => exact absurd (Nat.eq_of_beq_eq_true hb) hq
      rw [this] at h
      exact List.mem_cons_of_mem _ (zlk_mem h)
theorem zlk_lv {ls : Array Slot} {n base b k : Nat} {v : zV} {L : zL} (hl : lv_has ls n (L.map (zcq base b))) (h : zlk k L = some v) : ls[k]? = some (.val (zcv base b v)) := hl.2.2 (k, zcv base b v) (List.mem_map.mpr ⟨(k, v), zlk_mem h, rfl⟩)
theorem zws_get {cA : Nat → ClassId} {base b r : Nat} {σ : zS} (h1 : 1 ≤ r) (h2 : r < σ.2.2.2) : (zws cA base b σ)[r - 1]? = some (base + (r - 1), zE cA base b σ r) := by
  rw [zws, List.getElem?_map, List.getElem?_range (by omega)]
  simp only [Option.map_some]
  rw [show r - 1 + 1 = r by omega]
theorem zws_at {cA : Nat → ClassId} {base b k : Nat} {σ : zS} {q : Nat × va_E} (h : (zws cA base b σ)[k]? = some q) : k < σ.2.2.2 - 1 ∧ q = (base + k, zE cA base b σ (k + 1)) := by
  have hl := (List.getElem?_eq_some_iff.mp h).1
  have hk : k < σ.2.2.2 - 1 := by simpa [zws] using hl
  rw [zws, List.getElem?_map, List.getElem?_range hk] at h
  exact ⟨hk, (Option.some.inj h).symm⟩
theorem zws_len {cA : Nat → ClassId} {base b : Nat} {σ : zS} : (zws cA base b σ).length = σ.2.2.2 - 1 := by simp [zws]
theorem zws_D {cA : Nat → ClassId} {base b : Nat} {σ : zS} : va_D (fun q => base ≤ q) (zws cA base b σ) := by
  refine ⟨fun i j p q hi hj he => ?_, fun k q h => ?_⟩
  · obtain ⟨-, rfl⟩ := zws_at hi
    obtain ⟨-, rfl⟩ := zws_at hj
    have : base + i = base + j := he
    omega
  · obtain ⟨-, rfl⟩ := zws_at h
    exact Nat.le_add_right _ _
theorem zE_congr {cA : Nat → ClassId} {base b r : Nat} {σ τ : zS} (h1 : σ.1 r = τ.1 r) (h2 : σ.2.1 r = τ.2.1 r) (h3 : σ.2.2.1 r = τ.2.2.1 r) : zE cA base b σ r = zE cA base b τ r := by
  unfold zE zfv
  rw [h1, h2, h3]
theorem zws_set {cA : Nat → ClassId} {base b r : Nat} {σ τ : zS} {E : va_E} (h1 : 1 ≤ r) (h2 : r < σ.2.2.2) (hc : τ.2.2.2 = σ.2.2.2) (hE : zE cA base b τ r = E) (ho : ∀ q, q ≠ r → zE cA base b τ q = zE cA base b σ q) : (zws cA base b σ).set (r - 1) (base + (r - 1), E) = zws cA base b τ := by
  apply List.ext_getElem?
  intro k
  by_cases hk : k = r - 1
  · subst hk
    rw [List.getElem?_set_self (by rw [zws_len]; omega), zws_get h1 (by rw [hc]; exact h2), hE]
  · rw [List.getElem?_set_ne (Ne.symm hk)]
    by_cases hl : k < σ.2.2.2 - 1
    · rw [zws, List.getElem?_map, List.getElem?_range hl, zws, List.getElem?_map, List.getElem?_range (by rw [hc]; exact hl)]
      simp only [Option.map_some]
      rw [ho (k + 1) (by omega)]
    · rw [List.getElem?_eq_none (by rw [zws_len]; omega), List.getElem?_eq_none (by rw [zws_len, hc]; omega)]
theorem zws_push {cA : Nat → ClassId} {base b : Nat} {σ τ : zS} {E : va_E} (h1 : 1 ≤ σ.2.2.2) (hc : τ.2.2.2 = σ.2.2.2 + 1) (hE : zE cA base b τ σ.2.2.2 = E) (ho : ∀ q, q ≠ σ.2.2.2 → zE cA base b τ q = zE cA base b σ q) : zws cA base b σ ++ [(base + (σ.2.2.2 - 1), E)] = zws cA base b τ := by
  have e : τ.2.2.2 - 1 = (σ.2.2.2 - 1) + 1 := by omega
  rw [zws, zws, e, List.range_succ, List.map_append]
  congr 1
  · apply List.map_congr_left
    intro k hk
    rw [List.mem_range] at hk
    rw [ho (k + 1) (by omega)]
  · simp only [List.map_cons, List.map_nil]
    rw [show σ.2.2.2 - 1 + 1 = σ.2.2.2 by omega, hE]
theorem zob_spec {r k c : Nat} (h : zob r k c = true) (hk : k ≠ 99) : (zsh r).1 = k ∧ r < c ∧ 1 ≤ r ∧ r ≠ 1000 := by
  unfold zob at h
  simp only [Bool.and_eq_true] at h
  have h1 := Nat.eq_of_beq_eq_true h.1
  have h2 : r < c := by simpa using h.2
  refine ⟨h1, h2, ?_, ?_⟩
  · rcases Nat.eq_zero_or_pos r with rfl | h
    · exact absurd h1.symm (by simpa [zsh, zshp] using hk)
    · exact h
  · rintro rfl
    exact hk h1.symm
theorem zad_of {base b r : Nat} (h : r ≠ 1000) : zad base b r = base + (r - 1) := by rw [zad, if_neg h]
theorem zcv_o {base b r : Nat} (h : 1 ≤ r) (h2 : r ≠ 1000) : zcv base b (vr r) = .ref (base + (r - 1)) := by rw [zcv_r (by omega), zad_of h2]
theorem zr_of (x : Int32) : zr x.toInt := by
  have h1 := x.toInt_lt
  have h2 := x.le_toInt
  exact ⟨by omega, by omega⟩
theorem zti {x : Int} (h : zr x) : (Int32.ofInt x).toInt = x := Int32.toInt_ofInt_of_le (by have := h.1; omega) (by have := h.2; omega)
theorem zit (x : Int32) : Int32.ofInt x.toInt = x := Int32.ofInt_toInt x
theorem z_lt {x y : Int} (hx : zr x) (hy : zr y) : Int32.ofInt x < Int32.ofInt y ↔ x < y := by rw [Int32.lt_iff_toInt_lt, zti hx, zti hy]
theorem z_le {x y : Int} (hx : zr x) (hy : zr y) : Int32.ofInt x ≤ Int32.ofInt y ↔ x ≤ y := by rw [Int32.le_iff_toInt_le, zti hx, zti hy]
theorem z_eq {x y : Int} (hx : zr x) (hy : zr y) : Int32.ofInt x = Int32.ofInt y ↔ x = y := ⟨fun h => by rw [← zti hx, ← zti hy, h], fun h => by rw [h]⟩
theorem z_in {j : Int} {n : Nat} (h0 : 0 ≤ j) (h1 : j < n) (hn : n < 2137483648) : vp_in (Int32.ofInt j) n ∧ (Int32.ofInt j).toNatClampNeg = j.toNat := by
  obtain ⟨k, rfl⟩ : ∃ k : Nat, j = k := ⟨j.toNat, by omega⟩
  have hk : k < n := by omega
  have e : Int32.ofInt (k : Int) = nI k := rfl
  rw [e]
  exact ⟨vp_in_nI hk (by omega), by rw [nI_clamp (by omega)]; rfl⟩
theorem zsh_le : ∀ r, (zsh r).2 ≤ 168 := by
  intro r
  rw [zsh, List.getD_eq_getElem?_getD]
  cases h : zshp[r]? with
  | none => simp
  | some q =>
    have : ∀ q ∈ zshp, q.2 ≤ 168 := by decide +kernel
    simpa using this q (List.mem_of_getElem? h)
theorem zsh_nk : ∀ r, (zsh r).1 ≠ 11 ∧ (zsh r).1 ≠ 12 := by
  intro r
  rw [zsh, List.getD_eq_getElem?_getD]
  cases h : zshp[r]? with
  | none => simp
  | some q =>
    have : ∀ q ∈ zshp, q.1 ≠ 11 ∧ q.1 ≠ 12 := by decide +kernel
    simpa using this q (List.mem_of_getElem? h)
theorem zrg_at {σ : zS} {q : Nat} {j : Int} (h : zRg σ) (hq : q < σ.2.2.2) (h0 : 0 ≤ j) (h1 : j < ((zsh q).2 : Nat)) : zr (σ.1 q j) := by
  obtain ⟨k, rfl⟩ : ∃ k : Nat, j = k := ⟨j.toNat, by omega⟩
  exact h q hq k (by omega)
theorem zgood {w : Cond} (h : w ∈ lw_tbl) (hg : goodWord w = true) : w ∈ lw_good := List.mem_filter.mpr ⟨h, hg⟩
theorem zgi {w : Cond} {i : Nat} (h : lw_tbl[i]? = some w) (hg : goodWord w = true) : w ∈ lw_good := zgood (List.mem_of_getElem? h) hg
theorem zsz_s (c : Nat) : zsz (c + 1) = zsz c + (zsh c).2 := by
  simp [zsz, List.range_succ]
theorem zsz_mono {c d : Nat} (h : c ≤ d) : zsz c ≤ zsz d := by
  induction d with
  | zero => rw [Nat.le_zero.mp h]; exact Nat.le_refl _
  | succ d ih =>
    rcases Nat.lt_or_eq_of_le h with h1 | h1
    · rw [zsz_s]
      exact Nat.le_trans (ih (by omega)) (Nat.le_add_right _ _)
    · rw [h1]; exact Nat.le_refl _
theorem zlay : ∀ c, c < 8 → ∀ w ∈ u_ws (zR c) (zT c) (znf c), w ∈ lw_tbl
  | 0, _ => fun w hw => by
    have hw : w ∈ u_ws RX0 TX0 1 := hw
    rw [zlay0] at hw
    obtain ⟨i, -, hi⟩ := List.mem_filterMap.mp hw
    exact List.mem_of_getElem? hi
  | 1, _ => fun w hw => by
    have hw : w ∈ u_ws RX1 TX1 13 := hw
    rw [zlay1] at hw
    obtain ⟨i, -, hi⟩ := List.mem_filterMap.mp hw
    exact List.mem_of_getElem? hi
  | 2, _ => fun w hw => by
    have hw : w ∈ u_ws RX2 TX2 7 := hw
    rw [zlay2] at hw
    obtain ⟨i, -, hi⟩ := List.mem_filterMap.mp hw
    exact List.mem_of_getElem? hi
  | 3, _ => fun w hw => by
    have hw : w ∈ u_ws RX3 TX3 2 := hw
    rw [zlay3] at hw
    obtain ⟨i, -, hi⟩ := List.mem_filterMap.mp hw
    exact List.mem_of_getElem? hi
  | 4, _ => fun w hw => by
    have hw : w ∈ u_ws RX4 TX4 5 := hw
    rw [zlay4] at hw
    obtain ⟨i, -, hi⟩ := List.mem_filterMap.mp hw
    exact List.mem_of_getElem? hi
  | 5, _ => fun w hw => by
    have hw : w ∈ u_ws RX5 TX5 3 := hw
    rw [zlay5] at hw
    obtain ⟨i, -, hi⟩ := List.mem_filterMap.mp hw
    exact List.mem_of_getElem? hi
  | 6, _ => fun w hw => by
    have hw : w ∈ u_ws RX6 TX6 9 := hw
    rw [zlay6] at hw
    obtain ⟨i, -, hi⟩ := List.mem_filterMap.mp hw
    exact List.mem_of_getElem? hi
  | 7, _ => fun w hw => by
    have hw : w ∈ u_ws RX7 TX7 4 := hw
    rw [zlay7] at hw
    obtain ⟨i, -, hi⟩ := List.mem_filterMap.mp hw
    exact List.mem_of_getElem? hi
  | n + 8, h => absurd h (by omega)
theorem zuw : ∀ c, c < 8 → ∀ w ∈ u_ws (zR c) (zT c) (znf c), w ∈ lw_good := fun c hc w hw => zgood (zlay c hc w hw) (by
  obtain ⟨k, -, rfl⟩ := List.mem_map.mp hw
  unfold u_lay
  split <;> rfl)
theorem zvw : ∀ c, c < 8 → vwCl[c]? = some (zR c, zT c, znf c)
  | 0, _ => rfl
  | 1, _ => rfl
  | 2, _ => rfl
  | 3, _ => rfl
  | 4, _ => rfl
  | 5, _ => rfl
  | 6, _ => rfl
  | 7, _ => rfl
  | n + 8, h => absurd h (by omega)
theorem zty_ok : ∀ c, c < 8 → ∀ k, k < znf c → parseFieldDescriptor (zT c k).2.2.1 = some (zty c k)
  | 0, _ => tyX0_ok
  | 1, _ => tyX1_ok
  | 2, _ => tyX2_ok
  | 3, _ => tyX3_ok
  | 4, _ => tyX4_ok
  | 5, _ => tyX5_ok
  | 6, _ => tyX6_ok
  | 7, _ => tyX7_ok
  | n + 8, h => absurd h (by omega)
theorem znm : ∀ c, c < 8 → ∀ a, a < znf c → ∀ b, b < znf c → a ≠ b → (zT c a).2.1 ≠ (zT c b).2.1
  | 0, _ => nmX0
  | 1, _ => nmX1
  | 2, _ => nmX2
  | 3, _ => nmX3
  | 4, _ => nmX4
  | 5, _ => nmX5
  | 6, _ => nmX6
  | 7, _ => nmX7
  | n + 8, h => absurd h (by omega)
theorem ztf : ∀ c, c < 8 → ∀ k, k < znf c → (zfr c k = false → zty c k = .int) ∧ (zfr c k = true → (∃ C, zty c k = .object C) ∨ ∃ t, zty c k = .array t) := by
  intro c hc k hk
  have h : (List.range 8).all (fun c => (List.range (znf c)).all (fun k => match zfr c k, zty c k with | false, .int => true | true, .object _ => true | true, .array _ => true | _, _ => false)) = true := by decide +kernel
  have h1 := List.all_eq_true.mp h c (List.mem_range.mpr hc)
  have h2 := List.all_eq_true.mp h1 k (List.mem_range.mpr hk)
  revert h2
  cases zfr c k <;> cases zty c k <;> simp
theorem zshn : ∀ r, (zsh r).1 < 8 → (zsh r).2 = znf (zsh r).1 := by
  intro r hr
  by_cases h : r < 137
  · have h0 : (List.range 137).all (fun r => decide ((zsh r).1 < 8 → (zsh r).2 = znf (zsh r).1)) = true := by decide +kernel
    have h1 := List.all_eq_true.mp h0 r (List.mem_range.mpr h)
    exact (decide_eq_true_eq.mp h1) hr
  · have : zsh r = (99, 0) := by
      rw [zsh, List.getD_eq_getElem?_getD, List.getElem?_eq_none (by show 137 ≤ r; omega)]; rfl
    rw [this] at hr
    exact absurd hr (by decide)
