set_option maxHeartbeats 1000000 in
theorem zs_arraylength {p : Program} {l : Launch} {e : Env} {R : Room} {s : State} {m : MethodId} {args : Array Value} {below : List Frame} {meth : Method} {c : Code} {cA : Nat → ClassId} {D : va_G} {base b Lx : Nat} {xs : Nat → Int32} {y : Nat} {H : Heap} {locs : List Loc} {cells slots : Nat} {Q : State → Prop} {ls : Array Slot} {pc len ia ib pc1 : Nat} {L L1 : zL} {st st1 : List zV} {σ σ1 : zS} {g : Option Prop} (C : zCx p R s m args meth c cA D base b Lx xs y) (hH : zH cA D base b Lx xs s σ H locs cells) (hL : ∀ q ∈ L, zvr q.2) (hS : ∀ v ∈ st, zvr v) (hl : lv_has ls (zml y) (L.map (zcq base b))) (hd : decode (zb y) pc = .ok (.arraylength, len)) (ha : zaux y pc (.arraylength) len ia ib = true) (h : zx y (.arraylength) len ia ib pc L st σ = some (g, pc1, L1, st1, σ1)) (hg : ∀ P, g = some P → P) (hrc : cells + (σ1.2.2.2 - σ.2.2.2) ≤ R.cells) (hrs : slots + (zsz σ1.2.2.2 - zsz σ.2.2.2) ≤ R.slots)
    (kk : zK p l e R s m args below meth c cA D base b Lx xs y cells slots Q σ pc1 L1 st1 σ1) : zW p l e R s m args below meth c base b H locs cells slots Q pc ls st := by
  simp only [zx] at h
  split at h
  · next q r =>
    cases hs : (Nat.beq q 1000 && Nat.beq y zsc)
    · rw [hs] at h
      simp only [cond_false] at h
      obtain ⟨hb, h⟩ := zbif h
      simp only [Prod.mk.injEq] at h
      obtain ⟨rfl, rfl, rfl, rfl, rfl⟩ := h
      simp only [Bool.and_eq_true] at hb
      obtain ⟨⟨k1, k2⟩, k3⟩ := hb
      have k1 := Nat.le_of_ble_eq_true k1
      have k2 := Nat.le_of_ble_eq_true k2
      have e2 : q < σ.2.2.2 := by simpa using k3
      have e3 : 1 ≤ q := by
        rcases Nat.eq_zero_or_pos q with rfl | h
        · exact absurd k2 (by decide)
        · exact h
      have e4 : q ≠ 1000 := by rintro rfl; exact absurd k2 (by decide)
      simp only [zW, List.map_cons, zcv_o e3 e4]
      have hr : zr (((zsh q).2 : Nat) : Int) := by have := zsh_le q; exact ⟨by omega, by omega⟩
      have kk2 := zk0 kk hH hL (zcons (show zvr (vi (((zsh q).2 : Nat) : Int)) from hr) (zct hS)) hl
      have hz := zws_get (cA := cA) (base := base) (b := b) e3 e2
      have hc : (zsh q).1 = 10 ∨ (zsh q).1 = 13 ∨ (zsh q).1 = 14 := by have := zsh_nk q; omega
      rcases hc with e1 | e1 | e1
      · have hh : (zws cA base b σ)[q - 1]? = some (base + (q - 1), .inl (cA 10, ((zsh q).2, .inl (fun j => Int32.ofInt (σ.1 q j))))) := by rw [hz, zE_int e1 (by decide) (by decide) (by decide)]
        exact va_alen C.1 C.2.1 C.2.2.2.2.2.2.1 hH.2.2.1 (q - 1) 0 hh rfl rfl (zlen hd ha) kk2
      · have hh : (zws cA base b σ)[q - 1]? = some (base + (q - 1), .inl (cA 13, ((zsh q).2, .inr (.inr (.inr (.inl (fun j => σ.2.2.1 q j))))))) := by rw [hz, zE_dbl e1]
        exact va_alen C.1 C.2.1 C.2.2.2.2.2.2.1 hH.2.2.1 (q - 1) 1 hh rfl rfl (zlen hd ha) kk2
      · have hh : (zws cA base b σ)[q - 1]? = some (base + (q - 1), .inl (cA 14, ((zsh q).2, .inr (.inr (.inr (.inr (fun j => zrf base b (σ.2.1 q j)))))))) := by rw [hz, zE_ref e1]
        exact va_alen C.1 C.2.1 C.2.2.2.2.2.2.1 hH.2.2.1 (q - 1) 2 hh rfl rfl (zlen hd ha) kk2
    · rw [hs] at h
      simp only [cond_true, Option.some.injEq] at h
      simp only [Prod.mk.injEq] at h
      obtain ⟨rfl, rfl, rfl, rfl, rfl⟩ := h
      simp only [Bool.and_eq_true] at hs
      have hq := Nat.eq_of_beq_eq_true hs.1
      have hy := Nat.eq_of_beq_eq_true hs.2
      subst hq
      obtain ⟨hbb, hX⟩ := C.2.2.2.2.2.2.2.2.2.2.2.2.1
      obtain ⟨hL1, hL2⟩ := hH.2.2.2.2.1
      simp only [zW, List.map_cons, zcv_r (show (1000 : Nat) ≠ 0 by decide)]
      refine va_slen (b := b) (L := Lx) C.1 C.2.1 hX (Nat.lt_of_lt_of_le hbb C.2.2.2.2.2.2.2.2.2.2.2.2.2) (Nat.not_le.mpr hbb) hH.2.2.2.2.2.1 (zlen hd ha) ?_
      have hL3 := C.2.2.2.2.2.2.2.2.2.2.2.1
      have kk2 := zk0 kk hH hL (zcons (show zr (σ.1 1000 (-1)) by rw [hL1]; exact ⟨by omega, by omega⟩) (zct hS)) hl
      simp only [zW, List.map_cons, zcv, hL1] at kk2
      exact kk2
  · cases h
theorem zarr_ty {cA : Nat → ClassId} {D : va_G} {s : State} {k : Nat} {ty : FieldType} {c1 : ClassId} (hK : va_K D vwCl (ztys cA) s) {t0 : Nat} (ht : (ztys cA)[t0]? = some (cA k, ty)) (hf : s.vm.findClass ("[" ++ ty.toString) = some c1) : c1 = cA k := by
  have h := (hK.2 t0 _ ht).2
  cases ty with
  | object C0 =>
    obtain ⟨kA, comp, h1, h2, h3, h4⟩ := h
    exact Option.some.inj (hf.symm.trans h4)
  | _ => exact Option.some.inj (hf.symm.trans h)
/-- a new cell at the end of the heap -/
theorem zpush {cA : Nat → ClassId} {D : va_G} {base b Lx : Nat} {xs : Nat → Int32} {s : State} {σ : zS} {H H1 : Heap} {locs : List Loc} {cells : Nat} (hH : zH cA D base b Lx xs s σ H locs cells) (hf : ∀ j, σ.1 σ.2.2.2 j = 0) (z1 : H1.size = base + (σ.2.2.2 - 1) + 1) (o1 : ∀ q, q < base + (σ.2.2.2 - 1) → H1[q]? = H[q]?)
    (he : va_at D vwCl (base + (σ.2.2.2 - 1), zE cA base b (σ.1, σ.2.1, σ.2.2.1, σ.2.2.2 + 1) σ.2.2.2) H1) : zH cA D base b Lx xs s (σ.1, σ.2.1, σ.2.2.1, σ.2.2.2 + 1) H1 locs (cells + 1) := by
  obtain ⟨h1, h2, h3, h4, h5, h6, h7⟩ := hH
  refine ⟨by show 1 ≤ σ.2.2.2 + 1; omega, by rw [z1]; show _ = base + (σ.2.2.2 + 1 - 1); omega, ?_, ?_, h5, ⟨?_, ?_, h6.2.2⟩, by show s.heap.size + (cells + 1) = base + (σ.2.2.2 + 1 - 1); omega⟩
  · rw [← zws_push (E := zE cA base b (σ.1, σ.2.1, σ.2.2.1, σ.2.2.2 + 1) σ.2.2.2) (τ := (σ.1, σ.2.1, σ.2.2.1, σ.2.2.2 + 1)) h1 rfl rfl (fun q _ => zE_congr rfl rfl rfl)]
    refine va_P.app (h3.kept (fun k x hx => o1 x.1 (by have := (h3 k x hx).lt; omega))) (fun k x hx => ?_)
    have hz : k < 1 := (List.getElem?_eq_some_iff.mp hx).1
    rw [show k = 0 by omega] at hx
    cases hx
    exact he
  · intro r hr j hj
    show zr (σ.1 r j)
    by_cases hrc : r = σ.2.2.2
    · subst hrc
      rw [hf]; exact ⟨by decide, by decide⟩
    · exact h4 r (by have : r < σ.2.2.2 + 1 := hr; omega) j hj
  · exact Nat.le_trans h6.1 (by omega)
  · intro q hq hA
    rw [o1 q (by have := h6.1; omega)]
    exact h6.2.1 q hq hA
theorem zkl_spec {o i ci : Nat} (h : zkl.any (fun q => decide (q.1 = o ∧ q.2.1 = i ∧ q.2.2.1 = ci)) = true) : Cond.classLink (zR o) i (zR ci) ∈ lw_tbl ∧ Cond.instantiable (zR ci) (znf ci) ∈ lw_tbl ∧ Cond.initialized (zR ci) ∈ lw_tbl ∧ ci < 8 := by
  obtain ⟨q, hq, hd⟩ := List.any_eq_true.mp h
  have h1 := List.all_eq_true.mp zkl_ok q hq
  simp only [Bool.and_eq_true, decide_eq_true_eq] at h1 hd
  obtain ⟨rfl, rfl, rfl⟩ := hd
  exact ⟨List.mem_of_getElem? h1.1.1.1, List.mem_of_getElem? h1.1.1.2, List.mem_of_getElem? h1.1.2, h1.2⟩
theorem zcats_map {base b : Nat} {r : List zV} : ((r.map (zcv base b)).map fun v => v.category).sum = zcats r := by
  simp [zcats, List.map_map, Function.comp_def, zcat_cv]
set_option maxHeartbeats 1000000 in
theorem zs_newarray {p : Program} {l : Launch} {e : Env} {R : Room} {s : State} {m : MethodId} {args : Array Value} {below : List Frame} {meth : Method} {c : Code} {cA : Nat → ClassId} {D : va_G} {base b Lx : Nat} {xs : Nat → Int32} {y : Nat} {H : Heap} {locs : List Loc} {cells slots : Nat} {Q : State → Prop} {ls : Array Slot} {pc len ia ib pc1 : Nat} {L L1 : zL} {st st1 : List zV} {σ σ1 : zS} {g : Option Prop} {t : ArrayType} (C : zCx p R s m args meth c cA D base b Lx xs y) (hH : zH cA D base b Lx xs s σ H locs cells) (hL : ∀ q ∈ L, zvr q.2) (hS : ∀ v ∈ st, zvr v) (hl : lv_has ls (zml y) (L.map (zcq base b))) (hd : decode (zb y) pc = .ok (.newarray t, len)) (ha : zaux y pc (.newarray t) len ia ib = true) (h : zx y (.newarray t) len ia ib pc L st σ = some (g, pc1, L1, st1, σ1)) (hg : ∀ P, g = some P → P) (hrc : cells + (σ1.2.2.2 - σ.2.2.2) ≤ R.cells) (hrs : slots + (zsz σ1.2.2.2 - zsz σ.2.2.2) ≤ R.slots)
    (kk : zK p l e R s m args below meth c cA D base b Lx xs y cells slots Q σ pc1 L1 st1 σ1) : zW p l e R s m args below meth c base b H locs cells slots Q pc ls st := by
  simp only [zx] at h
  split at h
  · next n r =>
    obtain ⟨hb, h⟩ := zbif h
    simp only [Prod.mk.injEq] at h
    obtain ⟨rfl, rfl, rfl, rfl, rfl⟩ := h
    simp only [Bool.and_eq_true] at hb
    have hk := Nat.eq_of_beq_eq_true hb.1
    have hk2 := Nat.le_of_ble_eq_true hb.2
    obtain ⟨rfl, hf⟩ := hg _ rfl
    have hle := zsh_le σ.2.2.2
    have hc1 : σ.2.2.2 + 1 - σ.2.2.2 = 1 := by omega
    have hc2 : zsz (σ.2.2.2 + 1) - zsz σ.2.2.2 = (zsh σ.2.2.2).2 := by rw [zsz_s]; omega
    simp only [hc1, hc2] at hrc hrs
    have hw : (Cond.arrayClass (newarray.typeOf t)).before args s = true := by
      cases t <;> first | exact C.2.2.2.2.1 _ (zgi zs_arrInt rfl) | exact C.2.2.2.2.1 _ (zgi zs_arrDouble rfl) | exact absurd hk2 (by decide)
    have hn : ¬ Int32.ofInt (((zsh σ.2.2.2).2 : Nat) : Int) < 0 := nI_pos (by omega)
    have hN : (Int32.ofInt (((zsh σ.2.2.2).2 : Nat) : Int)).toNatClampNeg = (zsh σ.2.2.2).2 := nI_clamp (by omega)
    refine va_newaK C.1 C.2.1 hw rfl (zlen hd ha) rfl hn hN (by have : componentBytes (newarray.typeOf t) ≤ 8 := (by cases t <;> decide); exact Nat.le_trans (Nat.mul_le_mul hle this) (by decide)) hrc hrs hH.2.1 (fun H1 c1 e1 z1 o1 hAr hNm => ?_)
    have he : va_at D vwCl (base + (σ.2.2.2 - 1), zE cA base b (σ.1, σ.2.1, σ.2.2.1, σ.2.2.2 + 1) σ.2.2.2) H1 := by
      cases t <;> first
        | (have hk : (zsh σ.2.2.2).1 = 10 := hk
           cases zarr_ty C.2.2.2.2.2.2.1 (t0 := 0) (k := 10) (ty := .int) rfl hNm
           rw [zE_int hk (by decide) (by decide) (by decide)]
           refine e1.trans ?_
           simp only [vp_cell, (hf _).1]
           rfl)
        | (have hk : (zsh σ.2.2.2).1 = 13 := hk
           cases zarr_ty C.2.2.2.2.2.2.1 (t0 := 1) (k := 13) (ty := .double) rfl hNm
           rw [zE_dbl hk]
           refine e1.trans ?_
           simp only [vp_cell, (hf _).2.2]
           rfl)
        | exact absurd hk2 (by decide)
    have hc0 := hH.1
    have kk2 := kk ls H1 locs (by simpa only [hc1] using zpush hH (fun j => (hf j).1) z1 o1 he) hL (zcons trivial (zct hS)) hl
    have e99 : zad base b σ.2.2.2 = base + (σ.2.2.2 - 1) := zad_of (by rintro e; rw [e] at hk; rw [← hk] at hk2; exact absurd hk2 (by decide))
    simp only [zW, List.map_cons, hc1, hc2, zcv_r (show σ.2.2.2 ≠ 0 by omega), e99] at kk2
    exact kk2
  · cases h
set_option maxHeartbeats 1000000 in
theorem zs_anewarray {p : Program} {l : Launch} {e : Env} {R : Room} {s : State} {m : MethodId} {args : Array Value} {below : List Frame} {meth : Method} {c : Code} {cA : Nat → ClassId} {D : va_G} {base b Lx : Nat} {xs : Nat → Int32} {y : Nat} {H : Heap} {locs : List Loc} {cells slots : Nat} {Q : State → Prop} {ls : Array Slot} {pc len ia ib pc1 : Nat} {L L1 : zL} {st st1 : List zV} {σ σ1 : zS} {g : Option Prop} {i : Nat} (C : zCx p R s m args meth c cA D base b Lx xs y) (hH : zH cA D base b Lx xs s σ H locs cells) (hL : ∀ q ∈ L, zvr q.2) (hS : ∀ v ∈ st, zvr v) (hl : lv_has ls (zml y) (L.map (zcq base b))) (hd : decode (zb y) pc = .ok (.anewarray i, len)) (ha : zaux y pc (.anewarray i) len ia ib = true) (h : zx y (.anewarray i) len ia ib pc L st σ = some (g, pc1, L1, st1, σ1)) (hg : ∀ P, g = some P → P) (hrc : cells + (σ1.2.2.2 - σ.2.2.2) ≤ R.cells) (hrs : slots + (zsz σ1.2.2.2 - zsz σ.2.2.2) ≤ R.slots)
    (kk : zK p l e R s m args below meth c cA D base b Lx xs y cells slots Q σ pc1 L1 st1 σ1) : zW p l e R s m args below meth c base b H locs cells slots Q pc ls st := by
  simp only [zx] at h
  simp only [zaux, Bool.and_eq_true] at ha
  split at h
  · next n r =>
    obtain ⟨hb, h⟩ := zbif h
    simp only [Prod.mk.injEq] at h
    obtain ⟨rfl, rfl, rfl, rfl, rfl⟩ := h
    have hk := Nat.eq_of_beq_eq_true hb
    obtain ⟨rfl, hf⟩ := hg _ rfl
    have hle := zsh_le σ.2.2.2
    have hc1 : σ.2.2.2 + 1 - σ.2.2.2 = 1 := by omega
    have hc2 : zsz (σ.2.2.2 + 1) - zsz σ.2.2.2 = (zsh σ.2.2.2).2 := by rw [zsz_s]; omega
    simp only [hc1, hc2] at hrc hrs
    obtain ⟨hw, -, -, -⟩ := zkl_spec ha.2
    have ha1 : ia = 1 := Nat.eq_of_beq_eq_true ha.1.2
    subst ha1
    have hn : ¬ Int32.ofInt (((zsh σ.2.2.2).2 : Nat) : Int) < 0 := nI_pos (by omega)
    have hN : (Int32.ofInt (((zsh σ.2.2.2).2 : Nat) : Int)).toNatClampNeg = (zsh σ.2.2.2).2 := nI_clamp (by omega)
    refine W.anew C.1 C.2.1 C.2.2.2.1 (C.2.2.2.2.1 _ (zgood hw rfl)) (C := RX1) ?_ rfl (zlen hd ha.1.1) rfl hn (by rw [hN]; omega) hrc (by rw [hN]; exact hrs) (fun c1 kA comp f1 f2 f3 f4 => ?_)
    · first
        | exact C.2.2.2.2.1 _ (zgi zs_over rfl)
        | exact va_Nw.use rfl (C.2.2.2.2.2.2.2.2.2.1 _ (List.mem_of_getElem? zs_over) rfl)
        | exact C.2.2.2.2.2.2.2.2.2.1 _ (List.mem_of_getElem? zs_over) rfl
    have hsz := hH.2.1
    have hc0 := hH.1
    rw [hN]
    have he : va_at D vwCl (base + (σ.2.2.2 - 1), zE cA base b (σ.1, σ.2.1, σ.2.2.1, σ.2.2.2 + 1) σ.2.2.2) (H.push ({ cls := c1, slots := Array.replicate (zsh σ.2.2.2).2 .null, vm := .none } : Cell)) := by
      cases zarr_ty C.2.2.2.2.2.2.1 (t0 := 2) (k := 14) (ty := .object RX1) rfl f1
      rw [zE_ref hk, ← hsz]
      show (H.push _)[H.size]? = _
      rw [Array.getElem?_push_size, arrV_new]
      simp only [vp_cell, (hf _).2.1]
      rfl
    have kk2 := kk ls _ locs (by simpa only [hc1] using zpush hH (fun j => (hf j).1) (by rw [Array.size_push, hsz]) (fun q hq => by rw [Array.getElem?_push, if_neg (by omega)]) he) hL (zcons trivial (zct hS)) hl
    have e99 : zad base b σ.2.2.2 = base + (σ.2.2.2 - 1) := zad_of (by rintro e; rw [e] at hk; exact absurd hk (by decide))
    simp only [zW, List.map_cons, hc1, hc2, zcv_r (show σ.2.2.2 ≠ 0 by omega), e99] at kk2
    rw [hsz]
    exact kk2
  · cases h
set_option maxHeartbeats 1000000 in
theorem zs_new {p : Program} {l : Launch} {e : Env} {R : Room} {s : State} {m : MethodId} {args : Array Value} {below : List Frame} {meth : Method} {c : Code} {cA : Nat → ClassId} {D : va_G} {base b Lx : Nat} {xs : Nat → Int32} {y : Nat} {H : Heap} {locs : List Loc} {cells slots : Nat} {Q : State → Prop} {ls : Array Slot} {pc len ia ib pc1 : Nat} {L L1 : zL} {st st1 : List zV} {σ σ1 : zS} {g : Option Prop} {i : Nat} (C : zCx p R s m args meth c cA D base b Lx xs y) (hH : zH cA D base b Lx xs s σ H locs cells) (hL : ∀ q ∈ L, zvr q.2) (hS : ∀ v ∈ st, zvr v) (hl : lv_has ls (zml y) (L.map (zcq base b))) (hd : decode (zb y) pc = .ok (.new i, len)) (ha : zaux y pc (.new i) len ia ib = true) (h : zx y (.new i) len ia ib pc L st σ = some (g, pc1, L1, st1, σ1)) (hg : ∀ P, g = some P → P) (hrc : cells + (σ1.2.2.2 - σ.2.2.2) ≤ R.cells) (hrs : slots + (zsz σ1.2.2.2 - zsz σ.2.2.2) ≤ R.slots)
    (kk : zK p l e R s m args below meth c cA D base b Lx xs y cells slots Q σ pc1 L1 st1 σ1) : zW p l e R s m args below meth c base b H locs cells slots Q pc ls st := by
  simp only [zx] at h
  simp only [zaux, Bool.and_eq_true] at ha
  obtain ⟨hb, h⟩ := zbif h
  simp only [Prod.mk.injEq] at h
  obtain ⟨rfl, rfl, rfl, rfl, rfl⟩ := h
  simp only [Bool.and_eq_true] at hb
  have hk := Nat.eq_of_beq_eq_true hb.1
  have hk2 := Nat.eq_of_beq_eq_true hb.2
  have hf := hg _ rfl
  have hc1 : σ.2.2.2 + 1 - σ.2.2.2 = 1 := by omega
  have hc2 : zsz (σ.2.2.2 + 1) - zsz σ.2.2.2 = znf ia := by rw [zsz_s]; omega
  simp only [hc1, hc2] at hrc hrs
  obtain ⟨w1, w2, w3, hc9⟩ := zkl_spec ha.2
  have hKn := C.2.2.2.2.2.2.1.1 ia _ (zvw ia hc9)
  refine W.newcK C.1 C.2.1 C.2.2.2.1 (C.2.2.2.2.1 _ (zgood w1 rfl)) (C.2.2.2.2.1 _ (zgood w2 rfl)) (C.2.2.2.2.1 _ (zgood w3 rfl)) rfl (zlen hd ha.1) hrc hrs hKn.2.1 hH.2.1 (fun H1 kC hkC e1 z1 o1 => ?_)
  have hc0 := hH.1
  have he : va_at D vwCl (base + (σ.2.2.2 - 1), zE cA base b (σ.1, σ.2.1, σ.2.2.1, σ.2.2.2 + 1) σ.2.2.2) H1 := by
    rw [zE_obj hk hc9]
    refine ⟨_, zvw ia hc9, (u_born (zty ia) C.2.2.2.2.1 (zuw ia hc9) hKn hkC e1 (zty_ok ia hc9)).to (fun j hj => ?_)⟩
    have ht := ztf ia hc9 j hj
    show _ = vp_V _ j
    rw [vp_V, List.getD_eq_getElem?_getD, zget_map hj, zfv]
    cases hfr : zfr ia j
    · rw [ht.1 hfr]
      simp only [cond_false, (hf _).1]
      rfl
    · simp only [cond_true, (hf _).2.1]
      rcases ht.2 hfr with ⟨C0, e⟩ | ⟨t, e⟩ <;> rw [e] <;> rfl
  have kk2 := kk ls H1 locs (by simpa only [hc1] using zpush hH (fun j => (hf j).1) z1 o1 he) hL (zcons trivial hS) hl
  have e99 : zad base b σ.2.2.2 = base + (σ.2.2.2 - 1) := zad_of (by rintro e; rw [e] at hk; rw [← hk] at hc9; exact absurd hc9 (by decide))
  simp only [zW, List.map_cons, hc1, hc2, zcv_r (show σ.2.2.2 ≠ 0 by omega), e99] at kk2
  exact kk2
theorem zol_spec {o i : Nat} (h : zol.any (fun q => decide (q.1 = o ∧ q.2.1 = i)) = true) : Cond.methodLink (zR o) i objectInit ∈ lw_tbl := by
  obtain ⟨q, hq, hd⟩ := List.any_eq_true.mp h
  have h1 := List.all_eq_true.mp zol_ok q hq
  simp only [decide_eq_true_eq] at h1 hd
  obtain ⟨rfl, rfl⟩ := hd
  exact List.mem_of_getElem? h1
theorem zal_spec {o i : Nat} (h : zal.any (fun q => decide (q.1 = o ∧ q.2.1 = i)) = true) : Cond.methodLink (zR o) i arraycopyName ∈ lw_tbl := by
  obtain ⟨q, hq, hd⟩ := List.any_eq_true.mp h
  have h1 := List.all_eq_true.mp zal_ok q hq
  simp only [decide_eq_true_eq] at h1 hd
  obtain ⟨rfl, rfl⟩ := hd
  exact List.mem_of_getElem? h1
theorem znfw {n a d : Nat} (h1 : n ≤ 8) (h3 : a ≤ d) (h4 : 8 + 40 ≤ a) : n + (nativeFrameWords "java/lang/System" "arraycopy" 5 + 11) ≤ d := by
  have : nativeFrameWords "java/lang/System" "arraycopy" 5 ≤ 29 := by decide
  omega
set_option maxHeartbeats 1000000 in
theorem zs_invokespecial {p : Program} {l : Launch} {e : Env} {R : Room} {s : State} {m : MethodId} {args : Array Value} {below : List Frame} {meth : Method} {c : Code} {cA : Nat → ClassId} {D : va_G} {base b Lx : Nat} {xs : Nat → Int32} {y : Nat} {H : Heap} {locs : List Loc} {cells slots : Nat} {Q : State → Prop} {ls : Array Slot} {pc len ia ib pc1 : Nat} {L L1 : zL} {st st1 : List zV} {σ σ1 : zS} {g : Option Prop} {i : Nat} (C : zCx p R s m args meth c cA D base b Lx xs y) (hH : zH cA D base b Lx xs s σ H locs cells) (hL : ∀ q ∈ L, zvr q.2) (hS : ∀ v ∈ st, zvr v) (hl : lv_has ls (zml y) (L.map (zcq base b))) (hd : decode (zb y) pc = .ok (.invokespecial i, len)) (ha : zaux y pc (.invokespecial i) len ia ib = true) (h : zx y (.invokespecial i) len ia ib pc L st σ = some (g, pc1, L1, st1, σ1)) (hg : ∀ P, g = some P → P) (hrc : cells + (σ1.2.2.2 - σ.2.2.2) ≤ R.cells) (hrs : slots + (zsz σ1.2.2.2 - zsz σ.2.2.2) ≤ R.slots)
    (kk : zK p l e R s m args below meth c cA D base b Lx xs y cells slots Q σ pc1 L1 st1 σ1) : zW p l e R s m args below meth c base b H locs cells slots Q pc ls st := by
  simp only [zx] at h
  split at h
  · next q r =>
    obtain ⟨hb, h⟩ := zbif h
    simp only [Prod.mk.injEq] at h
    obtain ⟨rfl, rfl, rfl, rfl, rfl⟩ := h
    simp only [Bool.and_eq_true] at hb
    have h2 := Nat.eq_of_beq_eq_true hb.1.1
    subst h2
    have hq : 0 < q := by simpa using hb.1.2
    have hr := Nat.le_of_ble_eq_true hb.2
    simp only [zaux, Bool.and_eq_true, decide_eq_true_eq, Nat.beq_refl, cond_true] at ha
    simp only [zW, List.map_cons, zcv_r (show q ≠ 0 by omega)]
    refine W.objInit C.1 C.2.1 C.2.2.2.1 (C.2.2.2.2.1 _ (zgood (zol_spec ha.2.1.1) rfl)) (C.2.2.2.2.1 _ (zgi zs_oi rfl)) (C.2.2.2.2.1 _ (zgood zs_oc rfl)) rfl (by rw [C.2.2.1]; exact hl.1) rfl (zlen hd ha.1) (Nat.le_trans ha.2.1.2 C.2.2.2.2.2.2.2.1) ?_ (zk0 kk hH hL (zct hS) hl)
    rw [zcats_map]
    have h3 := C.2.2.2.2.2.2.2.2.1
    have h4 := ha.2.2
    show 2 * 0 + _ + 12 ≤ _
    omega
  · cases h
set_option maxHeartbeats 1000000 in
theorem zs_invokestatic {p : Program} {l : Launch} {e : Env} {R : Room} {s : State} {m : MethodId} {args : Array Value} {below : List Frame} {meth : Method} {c : Code} {cA : Nat → ClassId} {D : va_G} {base b Lx : Nat} {xs : Nat → Int32} {y : Nat} {H : Heap} {locs : List Loc} {cells slots : Nat} {Q : State → Prop} {ls : Array Slot} {pc len ia ib pc1 : Nat} {L L1 : zL} {st st1 : List zV} {σ σ1 : zS} {g : Option Prop} {i : Nat} (C : zCx p R s m args meth c cA D base b Lx xs y) (hH : zH cA D base b Lx xs s σ H locs cells) (hL : ∀ q ∈ L, zvr q.2) (hS : ∀ v ∈ st, zvr v) (hl : lv_has ls (zml y) (L.map (zcq base b))) (hd : decode (zb y) pc = .ok (.invokestatic i, len)) (ha : zaux y pc (.invokestatic i) len ia ib = true) (h : zx y (.invokestatic i) len ia ib pc L st σ = some (g, pc1, L1, st1, σ1)) (hg : ∀ P, g = some P → P) (hrc : cells + (σ1.2.2.2 - σ.2.2.2) ≤ R.cells) (hrs : slots + (zsz σ1.2.2.2 - zsz σ.2.2.2) ≤ R.slots)
    (kk : zK p l e R s m args below meth c cA D base b Lx xs y cells slots Q σ pc1 L1 st1 σ1) : zW p l e R s m args below meth c base b H locs cells slots Q pc ls st := by
  simp only [zx] at h
  cases h1000 : Nat.beq ia 1000
  · rw [h1000] at h
    simp only [cond_false] at h
    cases h
  · rw [h1000] at h
    simp only [cond_true] at h
    split at h
    · next n dp q1 sp q0 r =>
      obtain ⟨hb, h⟩ := zbif h
      simp only [Prod.mk.injEq] at h
      obtain ⟨rfl, rfl, rfl, rfl, rfl⟩ := h
      simp only [Bool.and_eq_true] at hb
      obtain ⟨⟨hb0, hb1⟩, hr⟩ := hb
      have hr := Nat.le_of_ble_eq_true hr
      have hi := Nat.eq_of_beq_eq_true h1000
      subst hi
      simp only [zaux, Bool.and_eq_true, decide_eq_true_eq, h1000, cond_true] at ha
      obtain ⟨e1, e2, e3, e4⟩ := zob_spec hb0 (by decide)
      obtain ⟨f1, f2, f3, f4⟩ := zob_spec hb1 (by decide)
      obtain ⟨g1, g2, g3, g4, g5⟩ := hg _ rfl
      have h3 := C.2.2.2.2.2.2.2.2.1
      have h4 := ha.2.2
      have l0 := zsh_le q0
      have l1 := zsh_le q1
      have tn : ∀ z : Int, 0 ≤ z → z ≤ 168 → ¬ Int32.ofInt z < 0 ∧ (Int32.ofInt z).toNatClampNeg = z.toNat := by
        intro z hz hz2
        obtain ⟨k, rfl⟩ : ∃ k : Nat, z = k := ⟨z.toNat, by omega⟩
        exact ⟨nI_pos (by omega), nI_clamp (by omega)⟩
      obtain ⟨a1, a2⟩ := tn sp g1 (by omega)
      obtain ⟨a3, a4⟩ := tn dp g2 (by omega)
      obtain ⟨a5, a6⟩ := tn n g3 (by omega)
      simp only [zW, List.map_cons, zcv_o e3 e4, zcv_o f3 f4]
      refine va_copyi C.1 C.2.1 (by rw [C.2.2.1]; exact hl.1.symm) C.2.2.2.1 (C.2.2.2.2.1 _ (zgood (zal_spec ha.2.1.1) rfl)) (C.2.2.2.2.1 _ (zgi zs_cn rfl)) (C.2.2.2.2.1 _ (zgi zs_cs rfl)) (C.2.2.2.2.1 _ (zgi zs_si rfl)) C.2.2.2.2.2.2.1 hH.2.2.1 zws_D hH.2.2.2.2.2.1 (q0 - 1) (q1 - 1) 0 0 (ty := .int) (by rw [zws_get e3 e2, zE_int e1 (by decide) (by decide) (by decide)]) (by rw [zws_get f3 f2, zE_int f1 (by decide) (by decide) (by decide)]) rfl rfl rfl a1 a3 a5 (by rw [a2, a6]; omega) (by rw [a4, a6]; omega) (fun _ _ => rfl) (Nat.le_trans ha.2.1.2 C.2.2.2.2.2.2.2.1) (by rw [zcats_map]; exact znfw hr h3 h4) (zlen hd ha.1) (fun H1 locs1 hP1 _ hS1 => ?_)
      rw [zws_set (τ := (fun r' k => if r' = q1 ∧ dp ≤ k ∧ k < dp + n then σ.1 q0 (sp + (k - dp)) else σ.1 r' k, σ.2)) f3 f2 rfl (by
        rw [zE_int f1 (by decide) (by decide) (by decide)]
        refine congrArg (fun f : Nat → Int32 => (Sum.inl (cA 10, ((zsh q1).2, Sum.inl f)) : va_E)) ?_
        funext k
        rw [a2, a4, a6]
        unfold va_cpy
        by_cases hk : dp.toNat ≤ k ∧ k < dp.toNat + n.toNat
        · rw [if_pos hk]
          have : (dp ≤ (k : Int) ∧ (k : Int) < dp + n) := by omega
          simp only [true_and, if_pos this]
          have e9 : ((sp.toNat + (k - dp.toNat) : Nat) : Int) = sp + ((k : Int) - dp) := by omega
          rw [e9]
        · rw [if_neg hk]
          have : ¬ (dp ≤ (k : Int) ∧ (k : Int) < dp + n) := by omega
          simp only [true_and, if_neg this]) (fun q' hq' => zE_congr (by funext k; simp [hq']) rfl rfl)] at hP1
      refine zsize hP1 (by show 2 ≤ σ.2.2.2; omega) hH.2.2.2.2.2.2 (fun hz => ?_)
      refine zkc kk rfl ⟨hH.1, hz, hP1, ?_, ?_, hS1, hH.2.2.2.2.2.2⟩ hL (zct (zct (zct (zct (zct hS))))) hl
      · intro r' hr' k hk
        show zr (if r' = q1 ∧ dp ≤ (k : Int) ∧ (k : Int) < dp + n then σ.1 q0 (sp + ((k : Int) - dp)) else σ.1 r' k)
        split
        · exact zrg_at hH.2.2.2.1 e2 (by omega) (by omega)
        · exact hH.2.2.2.1 r' hr' k hk
      · simp only [show ((1000 : Nat) = q1) = False by simp; omega, false_and, if_false]
        exact hH.2.2.2.2.1
    · cases h
set_option maxHeartbeats 1000000 in
theorem zs_tableswitch {p : Program} {l : Launch} {e : Env} {R : Room} {s : State} {m : MethodId} {args : Array Value} {below : List Frame} {meth : Method} {c : Code} {cA : Nat → ClassId} {D : va_G} {base b Lx : Nat} {xs : Nat → Int32} {y : Nat} {H : Heap} {locs : List Loc} {cells slots : Nat} {Q : State → Prop} {ls : Array Slot} {pc len ia ib pc1 : Nat} {L L1 : zL} {st st1 : List zV} {σ σ1 : zS} {g : Option Prop} {d lo hi : Int} {offs : Array Int} (C : zCx p R s m args meth c cA D base b Lx xs y) (hH : zH cA D base b Lx xs s σ H locs cells) (hL : ∀ q ∈ L, zvr q.2) (hS : ∀ v ∈ st, zvr v) (hl : lv_has ls (zml y) (L.map (zcq base b))) (hd : decode (zb y) pc = .ok (.tableswitch d lo hi offs, len)) (ha : zaux y pc (.tableswitch d lo hi offs) len ia ib = true) (h : zx y (.tableswitch d lo hi offs) len ia ib pc L st σ = some (g, pc1, L1, st1, σ1)) (hg : ∀ P, g = some P → P) (hrc : cells + (σ1.2.2.2 - σ.2.2.2) ≤ R.cells) (hrs : slots + (zsz σ1.2.2.2 - zsz σ.2.2.2) ≤ R.slots)
    (kk : zK p l e R s m args below meth c cA D base b Lx xs y cells slots Q σ pc1 L1 st1 σ1) : zW p l e R s m args below meth c base b H locs cells slots Q pc ls st := by
  simp only [zx] at h
  split at h
  · next x r =>
    simp only [Option.some.injEq, Prod.mk.injEq] at h
    obtain ⟨rfl, rfl, rfl, rfl, rfl⟩ := h
    simp only [zaux, Bool.and_eq_true, decide_eq_true_eq] at ha
    obtain ⟨⟨a1, a2⟩, a3⟩ := ha
    have hx : zr x := zch hS
    have kk2 := zk0 kk hH hL (zct hS) hl
    by_cases hc : x < lo ∨ hi < x
    · rw [if_pos hc] at kk2
      exact lv_tableOut C.1 C.2.1 hd (by rw [zti hx]; exact hc) (by omega) kk2
    · rw [if_neg hc] at kk2
      have hlt : (x - lo).toNat < offs.toList.length := by omega
      have ho : offs[((Int32.ofInt x).toInt - lo).toNat]? = some (offs.toList.getD (x - lo).toNat d) := by
        rw [zti hx, ← Array.getElem?_toList, List.getElem?_eq_getElem hlt, List.getD_eq_getElem?_getD, List.getElem?_eq_getElem hlt]
        rfl
      have h0 : 0 ≤ offs.toList.getD (x - lo).toNat d := by
        rw [List.getD_eq_getElem?_getD, List.getElem?_eq_getElem hlt]
        exact of_decide_eq_true (List.all_eq_true.mp a2 _ (List.getElem_mem hlt))
      exact lv_tableIn C.1 C.2.1 hd (by rw [zti hx]; omega) (by rw [zti hx]; omega) ho (by omega) kk2
  · cases h
theorem zlook {d x : Int} (hd : 0 ≤ d) : ∀ {l : List (Int × Int)}, (∀ o ∈ l, 0 ≤ o.2) → 0 ≤ Op.lookupswitch.offset l d x
  | [], _ => hd
  | (a, o) :: r, h => by
    rw [Op.lookupswitch.offset_cons]
    split
    · exact h (a, o) List.mem_cons_self
    · exact zlook hd (fun q hq => h q (List.mem_cons_of_mem _ hq))
set_option maxHeartbeats 1000000 in
theorem zs_lookupswitch {p : Program} {l : Launch} {e : Env} {R : Room} {s : State} {m : MethodId} {args : Array Value} {below : List Frame} {meth : Method} {c : Code} {cA : Nat → ClassId} {D : va_G} {base b Lx : Nat} {xs : Nat → Int32} {y : Nat} {H : Heap} {locs : List Loc} {cells slots : Nat} {Q : State → Prop} {ls : Array Slot} {pc len ia ib pc1 : Nat} {L L1 : zL} {st st1 : List zV} {σ σ1 : zS} {g : Option Prop} {d : Int} {ps : Array (Int × Int)} (C : zCx p R s m args meth c cA D base b Lx xs y) (hH : zH cA D base b Lx xs s σ H locs cells) (hL : ∀ q ∈ L, zvr q.2) (hS : ∀ v ∈ st, zvr v) (hl : lv_has ls (zml y) (L.map (zcq base b))) (hd : decode (zb y) pc = .ok (.lookupswitch d ps, len)) (ha : zaux y pc (.lookupswitch d ps) len ia ib = true) (h : zx y (.lookupswitch d ps) len ia ib pc L st σ = some (g, pc1, L1, st1, σ1)) (hg : ∀ P, g = some P → P) (hrc : cells + (σ1.2.2.2 - σ.2.2.2) ≤ R.cells) (hrs : slots + (zsz σ1.2.2.2 - zsz σ.2.2.2) ≤ R.slots)
    (kk : zK p l e R s m args below meth c cA D base b Lx xs y cells slots Q σ pc1 L1 st1 σ1) : zW p l e R s m args below meth c base b H locs cells slots Q pc ls st := by
  simp only [zx] at h
  split at h
  · next x r =>
    simp only [Option.some.injEq, Prod.mk.injEq] at h
    obtain ⟨rfl, rfl, rfl, rfl, rfl⟩ := h
    simp only [zaux, Bool.and_eq_true, decide_eq_true_eq] at ha
    obtain ⟨⟨a1, a2⟩, a3⟩ := ha
    have hx : zr x := zch hS
    have kk2 := zk0 kk hH hL (zct hS) hl
    have h0 : 0 ≤ Op.lookupswitch.offset ps.toList d x := zlook a1 (fun o ho => of_decide_eq_true (List.all_eq_true.mp a2 o ho))
    exact lv_lookup C.1 C.2.1 hd a3 rfl (by rw [zti hx]; omega) kk2
  · cases h
