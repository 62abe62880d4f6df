theorem zfl_spec {o i ci k : Nat} (h : zfl.any (fun q => decide (q.1 = o ∧ q.2.1 = i ∧ q.2.2.1 = ci ∧ q.2.2.2.1 = k)) = true) : Cond.fieldLink (zR o) i (zT ci k).1 (zT ci k).2.1 (zT ci k).2.2.1 ∈ lw_tbl ∧ ci < 8 ∧ k < znf ci := by
  obtain ⟨q, hq, hd⟩ := List.any_eq_true.mp h
  have h1 := List.all_eq_true.mp zfl_ok q hq
  simp only [Bool.and_eq_true, decide_eq_true_eq] at h1 hd
  obtain ⟨rfl, rfl, rfl, rfl⟩ := hd
  exact ⟨List.mem_of_getElem? h1.1.1, h1.1.2, h1.2⟩
theorem zE_obj {cA : Nat → ClassId} {base b r ci : Nat} {σ : zS} (h : (zsh r).1 = ci) (hc : ci < 8) : zE cA base b σ r = .inr (ci, (List.range (znf ci)).map (zfv base b σ r ci)) := by
  rw [zE, h, if_pos hc, zshn r (by omega), h]
theorem zE_int {cA : Nat → ClassId} {base b r k : Nat} {σ : zS} (h : (zsh r).1 = k) (h1 : ¬ k < 8) (h2 : k ≠ 13) (h3 : k ≠ 14) : zE cA base b σ r = .inl (cA k, ((zsh r).2, .inl (fun j => Int32.ofInt (σ.1 r j)))) := by
  rw [zE, h, if_neg h1, if_neg h2, if_neg h3]
theorem zE_dbl {cA : Nat → ClassId} {base b r : Nat} {σ : zS} (h : (zsh r).1 = 13) : zE cA base b σ r = .inl (cA 13, ((zsh r).2, .inr (.inr (.inr (.inl (fun j => σ.2.2.1 r j)))))) := by
  rw [zE, h, if_neg (by decide), if_pos rfl]
theorem zE_ref {cA : Nat → ClassId} {base b r : Nat} {σ : zS} (h : (zsh r).1 = 14) : zE cA base b σ r = .inl (cA 14, ((zsh r).2, .inr (.inr (.inr (.inr (fun j => zrf base b (σ.2.1 r j))))))) := by
  rw [zE, h, if_neg (by decide), if_neg (by decide), if_pos rfl]
theorem zfv_cv {base b q ci k : Nat} {σ : zS} : zfv base b σ q ci k = zcv base b (bif zfr ci k then vr (σ.2.1 q k) else vi (σ.1 q k)) := by
  unfold zfv
  cases zfr ci k <;> rfl
theorem zget_map {n k : Nat} {f : Nat → Value} (h : k < n) : ((List.range n).map f)[k]? = some (f k) := by simp [h]
theorem zset_map {n k : Nat} {f g : Nat → Value} {v : Value} (hg : g k = v) (ho : ∀ j, j ≠ k → g j = f j) : ((List.range n).map f).set k v = (List.range n).map g := by
  apply List.ext_getElem?
  intro j
  by_cases hj : j < n
  · by_cases hjk : j = k
    · subst hjk
      rw [List.getElem?_set_self (by simpa using hj), zget_map hj, hg]
    · rw [List.getElem?_set_ne (Ne.symm hjk), zget_map hj, zget_map hj, ho j hjk]
  · rw [List.getElem?_eq_none (by simp; omega), List.getElem?_eq_none (by simp; omega)]
theorem zsize {p : Program} {l : Launch} {e : Env} {R : Room} {s : State} {m : MethodId} {args : Array Value} {below : List Frame} {meth : Method} {c : Code} {cA : Nat → ClassId} {D : va_G} {base b : Nat} {H : Heap} {locs : List Loc} {cells slots : Nat} {Q : State → Prop} {σ1 : zS} {g : JFrame} (hP : va_P D vwCl (zws cA base b σ1) H) (hc : 2 ≤ σ1.2.2.2) (he : s.heap.size + cells = base + (σ1.2.2.2 - 1)) (kk : H.size = base + (σ1.2.2.2 - 1) → W p l e R s m args below meth c H locs cells slots Q g) : W p l e R s m args below meth c H locs cells slots Q g := by
  intro T hT X
  have h1 : T.heap.size ≤ s.heap.size + cells := X.same.2.2.1
  rw [hT] at h1
  have h2 := hP (σ1.2.2.2 - 1 - 1) _ (zws_get (cA := cA) (base := base) (b := b) (σ := σ1) (r := σ1.2.2.2 - 1) (by omega) (by omega))
  have h3 : base + (σ1.2.2.2 - 1 - 1) < H.size := h2.lt
  exact kk (by omega) T hT X
theorem zup_ne {I : zI} {r q : Nat} {k v : Int} (h : q ≠ r) : zup I r k v q = I q := by
  funext j
  simp [zup, h]
theorem zupP_ne {I : zP} {r q : Nat} {k : Int} {v : Nat} (h : q ≠ r) : zupP I r k v q = I q := by
  funext j
  simp [zupP, h]
theorem zupD_ne {I : zD} {r q : Nat} {k : Int} {v : UInt64} (h : q ≠ r) : zupD I r k v q = I q := by
  funext j
  simp [zupD, h]
theorem zup_r {σ : zS} {r : Nat} {k v : Int} (h : zRg σ) (hv : zr v) : zRg (zup σ.1 r k v, σ.2) := by
  intro r' hr j hj
  show zr (zup σ.1 r k v r' j)
  unfold zup
  split
  · exact hv
  · exact h r' hr j hj
theorem zscr {I : zI} {r Lx : Nat} {k v : Int} {xs : Nat → Int32} (hr : r ≠ 1000) (h : I 1000 (-1) = Lx ∧ ∀ j : Nat, j < Lx → I 1000 j = (xs j).toInt) : zup I r k v 1000 (-1) = Lx ∧ ∀ j : Nat, j < Lx → zup I r k v 1000 j = (xs j).toInt := by
  rw [zup_ne (Ne.symm hr)]
  exact h

set_option maxHeartbeats 1000000 in
theorem zs_getfield {p : Program} {l : Launch} {e : Env} {R : Room} {s : State} {m : MethodId} {args : Array Value} {below : List Frame} {meth : Method} {c : Code} {cA : Nat → ClassId} {D : va_G} {base b Lx : Nat} {xs : Nat → Int32} {y : Nat} {H : Heap} {locs : List Loc} {cells slots : Nat} {Q : State → Prop} {ls : Array Slot} {pc len ia ib pc1 : Nat} {L L1 : zL} {st st1 : List zV} {σ σ1 : zS} {g : Option Prop} {i : Nat} (C : zCx p R s m args meth c cA D base b Lx xs y) (hH : zH cA D base b Lx xs s σ H locs cells) (hL : ∀ q ∈ L, zvr q.2) (hS : ∀ v ∈ st, zvr v) (hl : lv_has ls (zml y) (L.map (zcq base b))) (hd : decode (zb y) pc = .ok (.getfield i, len)) (ha : zaux y pc (.getfield i) len ia ib = true) (h : zx y (.getfield i) len ia ib pc L st σ = some (g, pc1, L1, st1, σ1)) (hg : ∀ P, g = some P → P) (hrc : cells + (σ1.2.2.2 - σ.2.2.2) ≤ R.cells) (hrs : slots + (zsz σ1.2.2.2 - zsz σ.2.2.2) ≤ R.slots)
    (kk : zK p l e R s m args below meth c cA D base b Lx xs y cells slots Q σ pc1 L1 st1 σ1) : zW p l e R s m args below meth c base b H locs cells slots Q pc ls st := by
  simp only [zx] at h
  simp only [zaux, Bool.and_eq_true] at ha
  split at h
  · next q r =>
    obtain ⟨hb, h⟩ := zbif h
    simp only [Prod.mk.injEq] at h
    obtain ⟨rfl, rfl, rfl, rfl, rfl⟩ := h
    obtain ⟨hw, hc9, hk⟩ := zfl_spec ha.2
    obtain ⟨e1, e2, e3, e4⟩ := zob_spec hb (by omega)
    have kk2 := zk0 kk hH hL (zcons (by
      cases zfr ia ib
      · exact hH.2.2.2.1 q e2 ib (by rw [zshn q (by rw [e1]; exact hc9), e1]; exact hk)
      · exact trivial) (zct hS)) hl
    simp only [zW, List.map_cons, zcv_o e3 e4]
    simp only [zW, List.map_cons, ← zfv_cv] at kk2
    exact va_get (D := D) (ci := ia) (C := zR ia) (T := zT ia) (N := znf ia) C.1 C.2.1 C.2.2.2.2.1 (zuw ia hc9) C.2.2.2.1 C.2.2.2.2.2.2.1 hH.2.2.1 (q - 1) (by rw [zws_get e3 e2, zE_obj e1 hc9]) (zvw ia hc9) ib hk (C.2.2.2.2.1 _ (zgood hw rfl)) (fun _ h => h) (zget_map hk) (zlen hd ha.1) kk2
  · cases h
set_option maxHeartbeats 1000000 in
theorem zs_putfield {p : Program} {l : Launch} {e : Env} {R : Room} {s : State} {m : MethodId} {args : Array Value} {below : List Frame} {meth : Method} {c : Code} {cA : Nat → ClassId} {D : va_G} {base b Lx : Nat} {xs : Nat → Int32} {y : Nat} {H : Heap} {locs : List Loc} {cells slots : Nat} {Q : State → Prop} {ls : Array Slot} {pc len ia ib pc1 : Nat} {L L1 : zL} {st st1 : List zV} {σ σ1 : zS} {g : Option Prop} {i : Nat} (C : zCx p R s m args meth c cA D base b Lx xs y) (hH : zH cA D base b Lx xs s σ H locs cells) (hL : ∀ q ∈ L, zvr q.2) (hS : ∀ v ∈ st, zvr v) (hl : lv_has ls (zml y) (L.map (zcq base b))) (hd : decode (zb y) pc = .ok (.putfield i, len)) (ha : zaux y pc (.putfield i) len ia ib = true) (h : zx y (.putfield i) len ia ib pc L st σ = some (g, pc1, L1, st1, σ1)) (hg : ∀ P, g = some P → P) (hrc : cells + (σ1.2.2.2 - σ.2.2.2) ≤ R.cells) (hrs : slots + (zsz σ1.2.2.2 - zsz σ.2.2.2) ≤ R.slots)
    (kk : zK p l e R s m args below meth c cA D base b Lx xs y cells slots Q σ pc1 L1 st1 σ1) : zW p l e R s m args below meth c base b H locs cells slots Q pc ls st := by
  simp only [zx] at h
  simp only [zaux, Bool.and_eq_true] at ha
  obtain ⟨hw, hc9, hk⟩ := zfl_spec ha.2
  split at h
  · next x q r =>
    obtain ⟨hb, h⟩ := zbif h
    simp only [Prod.mk.injEq] at h
    obtain ⟨rfl, rfl, rfl, rfl, rfl⟩ := h
    simp only [Bool.and_eq_true, Bool.not_eq_true'] at hb
    obtain ⟨⟨hb, hfr⟩, hfin⟩ := hb
    obtain ⟨e1, e2, e3, e4⟩ := zob_spec hb (by omega)
    simp only [zW, List.map_cons, zcv_o e3 e4]
    have hty := (ztf ia hc9 ib hk).1 hfr
    have hx : zr x := zch hS
    refine va_put (D := D) (ci := ia) (C := zR ia) (T := zT ia) (N := znf ia) (v := .int (Int32.ofInt x)) (ty := .int) C.1 C.2.1 C.2.2.2.2.1 (zuw ia hc9) (zty ia) (zty_ok ia hc9) (znm ia hc9) C.2.2.2.1 C.2.2.2.2.2.2.1 hH.2.2.1 zws_D hH.2.2.2.2.2.1 (q - 1) (by rw [zws_get e3 e2, zE_obj e1 hc9]) (zvw ia hc9) ib hk (C.2.2.2.2.1 _ (zgood hw rfl)) (fun _ h => h) hfin (by rw [zty_ok ia hc9 ib hk, hty]) rfl rfl (by simpa using hk) (zlen hd ha.1) (fun H1 locs1 hP1 _ hS1 => ?_)
    rw [zws_set (τ := (zup σ.1 q ib x, σ.2)) e3 e2 rfl (by
      rw [zE_obj e1 hc9]
      congr 2
      symm
      refine zset_map ?_ ?_
      · simp [zfv, hfr, zup]
      · intro j hj
        have : ((j : Int) = ib) = False := by simp; omega
        simp [zfv, zup, this]) (fun q' hq' => zE_congr (zup_ne hq') rfl rfl)] at hP1
    refine zsize hP1 (by show 2 ≤ σ.2.2.2; omega) hH.2.2.2.2.2.2 (fun hz => ?_)
    exact zkc kk rfl ⟨hH.1, hz, hP1, zup_r hH.2.2.2.1 hx, zscr e4 hH.2.2.2.2.1, hS1, hH.2.2.2.2.2.2⟩ hL (zct (zct hS)) hl
  · next x q r =>
    obtain ⟨hb, h⟩ := zbif h
    simp only [Prod.mk.injEq] at h
    obtain ⟨rfl, rfl, rfl, rfl, rfl⟩ := h
    simp only [Bool.and_eq_true] at hb
    obtain ⟨⟨⟨⟨hb, hfr⟩, hfin⟩, hini⟩, hown⟩ := hb
    obtain ⟨e1, e2, e3, e4⟩ := zob_spec hb (by omega)
    simp only [zW, List.map_cons, zcv_o e3 e4]
    have hown := Nat.eq_of_beq_eq_true hown
    have hdecl : (zT ia ib).1 = zR ia := by
      have h0 : (List.range 8).all (fun c => (List.range (znf c)).all (fun k => decide ((zT c k).1 = zR c))) = true := by decide +kernel
      exact decide_eq_true_eq.mp (List.all_eq_true.mp (List.all_eq_true.mp h0 ia (List.mem_range.mpr hc9)) ib (List.mem_range.mpr hk))
    have hty := (ztf ia hc9 ib hk).2 hfr
    refine va_putF (D := D) (ci := ia) (C := zR ia) (T := zT ia) (N := znf ia) (v := zcv base b (vr x)) (ty := zty ia ib) C.1 C.2.1 C.2.2.2.2.1 (zuw ia hc9) (zty ia) (zty_ok ia hc9) (znm ia hc9) C.2.2.2.1 C.2.2.2.2.2.2.1 hH.2.2.1 zws_D hH.2.2.2.2.2.1 (q - 1) (by rw [zws_get e3 e2, zE_obj e1 hc9]) (zvw ia hc9) ib hk (C.2.2.2.2.1 _ (zgood hw rfl)) (fun _ h => h) hfin (C.2.2.2.2.2.1 hini) (by rw [hdecl, hown]) (zty_ok ia hc9 ib hk) (by
      rcases hty with ⟨C0, e⟩ | ⟨t, e⟩ <;> rw [e] <;> show narrow _ (va_rf (zrf base b x)) = va_rf (zrf base b x) <;> cases zrf base b x <;> rfl) (by
      rcases hty with ⟨C0, e⟩ | ⟨t, e⟩ <;> rw [e] <;> show fits _ (va_rf (zrf base b x)) = true <;> cases zrf base b x <;> rfl) (by simpa using hk) (zlen hd ha.1) (fun H1 locs1 hP1 _ hS1 => ?_)
    rw [zws_set (τ := (σ.1, zupP σ.2.1 q ib x, σ.2.2)) e3 e2 rfl (by
      rw [zE_obj e1 hc9]
      congr 2
      symm
      refine zset_map ?_ ?_
      · simp [zfv, hfr, zupP, zcv]
      · intro j hj
        have : ((j : Int) = ib) = False := by simp; omega
        simp [zfv, zupP, this]) (fun q' hq' => zE_congr rfl (zupP_ne hq') rfl)] at hP1
    refine zsize hP1 (by show 2 ≤ σ.2.2.2; omega) hH.2.2.2.2.2.2 (fun hz => ?_)
    exact zkc kk rfl ⟨hH.1, hz, hP1, hH.2.2.2.1, hH.2.2.2.2.1, hS1, hH.2.2.2.2.2.2⟩ hL (zct (zct hS)) hl
  · cases h
set_option maxHeartbeats 1000000 in
theorem zs_iaload {p : Program} {l : Launch} {e : Env} {R : Room} {s : State} {m : MethodId} {args : Array Value} {below : List Frame} {meth : Method} {c : Code} {cA : Nat → ClassId} {D : va_G} {base b Lx : Nat} {xs : Nat → Int32} {y : Nat} {H : Heap} {locs : List Loc} {cells slots : Nat} {Q : State → Prop} {ls : Array Slot} {pc len ia ib pc1 : Nat} {L L1 : zL} {st st1 : List zV} {σ σ1 : zS} {g : Option Prop} (C : zCx p R s m args meth c cA D base b Lx xs y) (hH : zH cA D base b Lx xs s σ H locs cells) (hL : ∀ q ∈ L, zvr q.2) (hS : ∀ v ∈ st, zvr v) (hl : lv_has ls (zml y) (L.map (zcq base b))) (hd : decode (zb y) pc = .ok (.iaload, len)) (ha : zaux y pc (.iaload) len ia ib = true) (h : zx y (.iaload) len ia ib pc L st σ = some (g, pc1, L1, st1, σ1)) (hg : ∀ P, g = some P → P) (hrc : cells + (σ1.2.2.2 - σ.2.2.2) ≤ R.cells) (hrs : slots + (zsz σ1.2.2.2 - zsz σ.2.2.2) ≤ R.slots)
    (kk : zK p l e R s m args below meth c cA D base b Lx xs y cells slots Q σ pc1 L1 st1 σ1) : zW p l e R s m args below meth c base b H locs cells slots Q pc ls st := by
  simp only [zx] at h
  split at h
  · next j q r =>
    cases hs : (Nat.beq q 1000 && Nat.beq y zsc)
    · rw [hs] at h
      simp only [cond_false] at h
      obtain ⟨hb, h⟩ := zbif h
      simp only [Prod.mk.injEq] at h
      obtain ⟨rfl, rfl, rfl, rfl, rfl⟩ := h
      obtain ⟨e1, e2, e3, e4⟩ := zob_spec hb (by decide)
      obtain ⟨g1, g2⟩ := hg _ rfl
      obtain ⟨f1, f2⟩ := z_in (n := (zsh q).2) g1 g2 (by have := zsh_le q; omega)
      simp only [zW, List.map_cons, zcv_o e3 e4]
      refine va_iald C.1 C.2.1 C.2.2.2.2.2.2.1 hH.2.2.1 (q - 1) 0 (by rw [zws_get e3 e2, zE_int e1 (by decide) (by decide) (by decide)]) rfl f1 (zlen hd ha) ?_
      have kk2 := zk0 kk hH hL (zcons (zrg_at hH.2.2.2.1 e2 g1 g2) (zct (zct hS))) hl
      simp only [f2, Int.toNat_of_nonneg g1]
      exact kk2
    · rw [hs] at h
      simp only [cond_true, Option.some.injEq] at h
      simp only [Prod.mk.injEq] at h
      obtain ⟨rfl, rfl, rfl, rfl, rfl⟩ := h
      simp only [Bool.and_eq_true] at hs
      have hq := Nat.eq_of_beq_eq_true hs.1
      have hy := Nat.eq_of_beq_eq_true hs.2
      subst hq
      obtain ⟨hbb, hX⟩ := C.2.2.2.2.2.2.2.2.2.2.2.2.1
      obtain ⟨hL1, hL2⟩ := hH.2.2.2.2.1
      obtain ⟨g1, g2⟩ := hg _ rfl
      rw [hL1] at g2
      have hL3 := C.2.2.2.2.2.2.2.2.2.2.2.1
      obtain ⟨f1, f2⟩ := z_in (n := Lx) g1 g2 (by omega)
      simp only [zW, List.map_cons, zcv_r (show (1000 : Nat) ≠ 0 by decide)]
      refine va_sld (b := b) (L := Lx) C.1 C.2.1 hX (Nat.lt_of_lt_of_le hbb C.2.2.2.2.2.2.2.2.2.2.2.2.2) (Nat.not_le.mpr hbb) hH.2.2.2.2.2.1 f1 (zlen hd ha) ?_
      have e9 := hL2 j.toNat (by omega)
      rw [Int.toNat_of_nonneg g1] at e9
      have kk2 := zk0 kk hH hL (zcons (show zr (σ.1 1000 j) by rw [e9]; exact zr_of _) (zct (zct hS))) hl
      simp only [zW, List.map_cons, zcv, e9, zit] at kk2
      rw [f2]
      exact kk2
  · cases h
set_option maxHeartbeats 1000000 in
theorem zs_daload {p : Program} {l : Launch} {e : Env} {R : Room} {s : State} {m : MethodId} {args : Array Value} {below : List Frame} {meth : Method} {c : Code} {cA : Nat → ClassId} {D : va_G} {base b Lx : Nat} {xs : Nat → Int32} {y : Nat} {H : Heap} {locs : List Loc} {cells slots : Nat} {Q : State → Prop} {ls : Array Slot} {pc len ia ib pc1 : Nat} {L L1 : zL} {st st1 : List zV} {σ σ1 : zS} {g : Option Prop} (C : zCx p R s m args meth c cA D base b Lx xs y) (hH : zH cA D base b Lx xs s σ H locs cells) (hL : ∀ q ∈ L, zvr q.2) (hS : ∀ v ∈ st, zvr v) (hl : lv_has ls (zml y) (L.map (zcq base b))) (hd : decode (zb y) pc = .ok (.daload, len)) (ha : zaux y pc (.daload) len ia ib = true) (h : zx y (.daload) len ia ib pc L st σ = some (g, pc1, L1, st1, σ1)) (hg : ∀ P, g = some P → P) (hrc : cells + (σ1.2.2.2 - σ.2.2.2) ≤ R.cells) (hrs : slots + (zsz σ1.2.2.2 - zsz σ.2.2.2) ≤ R.slots)
    (kk : zK p l e R s m args below meth c cA D base b Lx xs y cells slots Q σ pc1 L1 st1 σ1) : zW p l e R s m args below meth c base b H locs cells slots Q pc ls st := by
  simp only [zx] at h
  split at h
  · next j q r =>
    obtain ⟨hb, h⟩ := zbif h
    simp only [Prod.mk.injEq] at h
    obtain ⟨rfl, rfl, rfl, rfl, rfl⟩ := h
    obtain ⟨e1, e2, e3, e4⟩ := zob_spec hb (by decide)
    obtain ⟨g1, g2⟩ := hg _ rfl
    obtain ⟨f1, f2⟩ := z_in (n := (zsh q).2) g1 g2 (by have := zsh_le q; omega)
    simp only [zW, List.map_cons, zcv_o e3 e4]
    refine va_dald C.1 C.2.1 C.2.2.2.2.2.2.1 hH.2.2.1 (q - 1) 1 (by rw [zws_get e3 e2, zE_dbl e1]) rfl f1 (zlen hd ha) ?_
    have kk2 := zk0 kk hH hL (zcons trivial (zct (zct hS))) hl
    simp only [f2, Int.toNat_of_nonneg g1]
    exact kk2
  · cases h
set_option maxHeartbeats 1000000 in
theorem zs_aaload {p : Program} {l : Launch} {e : Env} {R : Room} {s : State} {m : MethodId} {args : Array Value} {below : List Frame} {meth : Method} {c : Code} {cA : Nat → ClassId} {D : va_G} {base b Lx : Nat} {xs : Nat → Int32} {y : Nat} {H : Heap} {locs : List Loc} {cells slots : Nat} {Q : State → Prop} {ls : Array Slot} {pc len ia ib pc1 : Nat} {L L1 : zL} {st st1 : List zV} {σ σ1 : zS} {g : Option Prop} (C : zCx p R s m args meth c cA D base b Lx xs y) (hH : zH cA D base b Lx xs s σ H locs cells) (hL : ∀ q ∈ L, zvr q.2) (hS : ∀ v ∈ st, zvr v) (hl : lv_has ls (zml y) (L.map (zcq base b))) (hd : decode (zb y) pc = .ok (.aaload, len)) (ha : zaux y pc (.aaload) len ia ib = true) (h : zx y (.aaload) len ia ib pc L st σ = some (g, pc1, L1, st1, σ1)) (hg : ∀ P, g = some P → P) (hrc : cells + (σ1.2.2.2 - σ.2.2.2) ≤ R.cells) (hrs : slots + (zsz σ1.2.2.2 - zsz σ.2.2.2) ≤ R.slots)
    (kk : zK p l e R s m args below meth c cA D base b Lx xs y cells slots Q σ pc1 L1 st1 σ1) : zW p l e R s m args below meth c base b H locs cells slots Q pc ls st := by
  simp only [zx] at h
  split at h
  · next j q r =>
    obtain ⟨hb, h⟩ := zbif h
    simp only [Prod.mk.injEq] at h
    obtain ⟨rfl, rfl, rfl, rfl, rfl⟩ := h
    obtain ⟨e1, e2, e3, e4⟩ := zob_spec hb (by decide)
    obtain ⟨g1, g2⟩ := hg _ rfl
    obtain ⟨f1, f2⟩ := z_in (n := (zsh q).2) g1 g2 (by have := zsh_le q; omega)
    simp only [zW, List.map_cons, zcv_o e3 e4]
    refine va_aldq C.1 C.2.1 C.2.2.2.2.2.2.1 hH.2.2.1 (q - 1) 2 (by rw [zws_get e3 e2, zE_ref e1]) rfl f1 (zlen hd ha) ?_
    have kk2 := zk0 kk hH hL (zcons trivial (zct (zct hS))) hl
    simp only [f2, Int.toNat_of_nonneg g1]
    exact kk2
  · cases h
set_option maxHeartbeats 1000000 in
theorem zs_iastore {p : Program} {l : Launch} {e : Env} {R : Room} {s : State} {m : MethodId} {args : Array Value} {below : List Frame} {meth : Method} {c : Code} {cA : Nat → ClassId} {D : va_G} {base b Lx : Nat} {xs : Nat → Int32} {y : Nat} {H : Heap} {locs : List Loc} {cells slots : Nat} {Q : State → Prop} {ls : Array Slot} {pc len ia ib pc1 : Nat} {L L1 : zL} {st st1 : List zV} {σ σ1 : zS} {g : Option Prop} (C : zCx p R s m args meth c cA D base b Lx xs y) (hH : zH cA D base b Lx xs s σ H locs cells) (hL : ∀ q ∈ L, zvr q.2) (hS : ∀ v ∈ st, zvr v) (hl : lv_has ls (zml y) (L.map (zcq base b))) (hd : decode (zb y) pc = .ok (.iastore, len)) (ha : zaux y pc (.iastore) len ia ib = true) (h : zx y (.iastore) len ia ib pc L st σ = some (g, pc1, L1, st1, σ1)) (hg : ∀ P, g = some P → P) (hrc : cells + (σ1.2.2.2 - σ.2.2.2) ≤ R.cells) (hrs : slots + (zsz σ1.2.2.2 - zsz σ.2.2.2) ≤ R.slots)
    (kk : zK p l e R s m args below meth c cA D base b Lx xs y cells slots Q σ pc1 L1 st1 σ1) : zW p l e R s m args below meth c base b H locs cells slots Q pc ls st := by
  simp only [zx] at h
  split at h
  · next x j q r =>
    obtain ⟨hb, h⟩ := zbif h
    simp only [Prod.mk.injEq] at h
    obtain ⟨rfl, rfl, rfl, rfl, rfl⟩ := h
    obtain ⟨e1, e2, e3, e4⟩ := zob_spec hb (by decide)
    obtain ⟨g1, g2⟩ := hg _ rfl
    obtain ⟨f1, f2⟩ := z_in (n := (zsh q).2) g1 g2 (by have := zsh_le q; omega)
    simp only [zW, List.map_cons, zcv_o e3 e4]
    refine va_iast C.1 C.2.1 C.2.2.2.2.2.2.1 hH.2.2.1 zws_D hH.2.2.2.2.2.1 (q - 1) 0 (by rw [zws_get e3 e2, zE_int e1 (by decide) (by decide) (by decide)]) rfl f1 (zlen hd ha) (fun H1 locs1 hP1 _ hS1 => ?_)
    rw [zws_set (τ := (zup σ.1 q j x, σ.2)) e3 e2 rfl (by
      rw [zE_int e1 (by decide) (by decide) (by decide)]
      congr 3
      congr 1
      funext k
      rw [f2]
      by_cases hk : k = j.toNat
      · subst hk
        simp [upd, zup, Int.toNat_of_nonneg g1]
      · have : ((k : Int) = j) = False := by simp; omega
        simp [upd, zup, this, hk]) (fun q' hq' => zE_congr (zup_ne hq') rfl rfl)] at hP1
    refine zsize hP1 (by show 2 ≤ σ.2.2.2; omega) hH.2.2.2.2.2.2 (fun hz => ?_)
    exact zkc kk rfl ⟨hH.1, hz, hP1, zup_r hH.2.2.2.1 (zch hS), zscr e4 hH.2.2.2.2.1, hS1, hH.2.2.2.2.2.2⟩ hL (zct (zct (zct hS))) hl
  · cases h
set_option maxHeartbeats 1000000 in
theorem zs_dastore {p : Program} {l : Launch} {e : Env} {R : Room} {s : State} {m : MethodId} {args : Array Value} {below : List Frame} {meth : Method} {c : Code} {cA : Nat → ClassId} {D : va_G} {base b Lx : Nat} {xs : Nat → Int32} {y : Nat} {H : Heap} {locs : List Loc} {cells slots : Nat} {Q : State → Prop} {ls : Array Slot} {pc len ia ib pc1 : Nat} {L L1 : zL} {st st1 : List zV} {σ σ1 : zS} {g : Option Prop} (C : zCx p R s m args meth c cA D base b Lx xs y) (hH : zH cA D base b Lx xs s σ H locs cells) (hL : ∀ q ∈ L, zvr q.2) (hS : ∀ v ∈ st, zvr v) (hl : lv_has ls (zml y) (L.map (zcq base b))) (hd : decode (zb y) pc = .ok (.dastore, len)) (ha : zaux y pc (.dastore) len ia ib = true) (h : zx y (.dastore) len ia ib pc L st σ = some (g, pc1, L1, st1, σ1)) (hg : ∀ P, g = some P → P) (hrc : cells + (σ1.2.2.2 - σ.2.2.2) ≤ R.cells) (hrs : slots + (zsz σ1.2.2.2 - zsz σ.2.2.2) ≤ R.slots)
    (kk : zK p l e R s m args below meth c cA D base b Lx xs y cells slots Q σ pc1 L1 st1 σ1) : zW p l e R s m args below meth c base b H locs cells slots Q pc ls st := by
  simp only [zx] at h
  split at h
  · next x j q r =>
    obtain ⟨hb, h⟩ := zbif h
    simp only [Prod.mk.injEq] at h
    obtain ⟨rfl, rfl, rfl, rfl, rfl⟩ := h
    obtain ⟨e1, e2, e3, e4⟩ := zob_spec hb (by decide)
    obtain ⟨g1, g2⟩ := hg _ rfl
    obtain ⟨f1, f2⟩ := z_in (n := (zsh q).2) g1 g2 (by have := zsh_le q; omega)
    simp only [zW, List.map_cons, zcv_o e3 e4]
    refine va_dast C.1 C.2.1 C.2.2.2.2.2.2.1 hH.2.2.1 zws_D hH.2.2.2.2.2.1 (q - 1) 1 (by rw [zws_get e3 e2, zE_dbl e1]) rfl f1 (zlen hd ha) (fun H1 locs1 hP1 _ hS1 => ?_)
    rw [zws_set (τ := (σ.1, σ.2.1, zupD σ.2.2.1 q j x, σ.2.2.2)) e3 e2 rfl (by
      rw [zE_dbl e1]
      congr 3
      congr 4
      funext k
      rw [f2]
      by_cases hk : k = j.toNat
      · subst hk
        simp [vf_upd, zupD, Int.toNat_of_nonneg g1]
      · have : ((k : Int) = j) = False := by simp; omega
        simp [vf_upd, zupD, this, hk]) (fun q' hq' => zE_congr rfl rfl (zupD_ne hq'))] at hP1
    refine zsize hP1 (by show 2 ≤ σ.2.2.2; omega) hH.2.2.2.2.2.2 (fun hz => ?_)
    exact zkc kk rfl ⟨hH.1, hz, hP1, hH.2.2.2.1, hH.2.2.2.2.1, hS1, hH.2.2.2.2.2.2⟩ hL (zct (zct (zct hS))) hl
  · cases h
set_option maxHeartbeats 1000000 in
theorem zs_aastore {p : Program} {l : Launch} {e : Env} {R : Room} {s : State} {m : MethodId} {args : Array Value} {below : List Frame} {meth : Method} {c : Code} {cA : Nat → ClassId} {D : va_G} {base b Lx : Nat} {xs : Nat → Int32} {y : Nat} {H : Heap} {locs : List Loc} {cells slots : Nat} {Q : State → Prop} {ls : Array Slot} {pc len ia ib pc1 : Nat} {L L1 : zL} {st st1 : List zV} {σ σ1 : zS} {g : Option Prop} (C : zCx p R s m args meth c cA D base b Lx xs y) (hH : zH cA D base b Lx xs s σ H locs cells) (hL : ∀ q ∈ L, zvr q.2) (hS : ∀ v ∈ st, zvr v) (hl : lv_has ls (zml y) (L.map (zcq base b))) (hd : decode (zb y) pc = .ok (.aastore, len)) (ha : zaux y pc (.aastore) len ia ib = true) (h : zx y (.aastore) len ia ib pc L st σ = some (g, pc1, L1, st1, σ1)) (hg : ∀ P, g = some P → P) (hrc : cells + (σ1.2.2.2 - σ.2.2.2) ≤ R.cells) (hrs : slots + (zsz σ1.2.2.2 - zsz σ.2.2.2) ≤ R.slots)
    (kk : zK p l e R s m args below meth c cA D base b Lx xs y cells slots Q σ pc1 L1 st1 σ1) : zW p l e R s m args below meth c base b H locs cells slots Q pc ls st := by
  simp only [zx] at h
  split at h
  · next x j q r =>
    obtain ⟨hb, h⟩ := zbif h
    simp only [Prod.mk.injEq] at h
    obtain ⟨rfl, rfl, rfl, rfl, rfl⟩ := h
    obtain ⟨e1, e2, e3, e4⟩ := zob_spec hb (by decide)
    obtain ⟨⟨g1, g2⟩, g3⟩ := hg _ rfl
    obtain ⟨e5, e6, e7, e8⟩ := zob_spec g3 (by decide)
    obtain ⟨f1, f2⟩ := z_in (n := (zsh q).2) g1 g2 (by have := zsh_le q; omega)
    simp only [zW, List.map_cons, zcv_o e3 e4]
    rw [zcv_o e7 e8]
    refine va_astq C.1 C.2.1 C.2.2.2.2.2.2.1 hH.2.2.1 zws_D hH.2.2.2.2.2.1 (q - 1) 2 (x - 1) 1 (r := (RX1, TX1, 13)) (by rw [zws_get e3 e2, zE_ref e1]) rfl (by rw [zws_get e7 e6, zE_obj e5 (by decide)]) rfl f1 (zlen hd ha) (fun H1 locs1 hP1 _ hS1 => ?_)
    rw [zws_set (τ := (σ.1, zupP σ.2.1 q j x, σ.2.2)) e3 e2 rfl (by
      rw [zE_ref e1]
      congr 3
      congr 4
      funext k
      rw [f2]
      by_cases hk : k = j.toNat
      · subst hk
        simp [va_up, zupP, Int.toNat_of_nonneg g1, zrf, zad_of e8, show x ≠ 0 by omega]
      · have : ((k : Int) = j) = False := by simp; omega
        simp [va_up, zupP, this, hk]) (fun q' hq' => zE_congr rfl (zupP_ne hq') rfl)] at hP1
    refine zsize hP1 (by show 2 ≤ σ.2.2.2; omega) hH.2.2.2.2.2.2 (fun hz => ?_)
    exact zkc kk rfl ⟨hH.1, hz, hP1, hH.2.2.2.1, hH.2.2.2.2.1, hS1, hH.2.2.2.2.2.2⟩ hL (zct (zct (zct hS))) hl
  · cases h
