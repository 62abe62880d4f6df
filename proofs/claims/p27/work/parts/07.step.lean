abbrev zW (p : Program) (l : Launch) (e : Env) (R : Room) (s : State) (m : MethodId) (args : Array Value) (below : List Frame) (meth : Method) (c : Code) (base b : Nat) (H : Heap) (locs : List Loc) (cells slots : Nat) (Q : State → Prop) (pc : Nat) (ls : Array Slot) (st : List zV) : Prop :=
  W p l e R s m args below meth c H locs cells slots Q (F0 m pc ls (st.map (zcv base b)))
/-- what comes behind a step -/
abbrev zK (p : Program) (l : Launch) (e : Env) (R : Room) (s : State) (m : MethodId) (args : Array Value) (below : List Frame) (meth : Method) (c : Code) (cA : Nat → ClassId) (D : va_G) (base b Lx : Nat) (xs : Nat → Int32) (y : Nat) (cells slots : Nat) (Q : State → Prop) (σ : zS) (pc1 : Nat) (L1 : zL) (st1 : List zV) (σ1 : zS) : Prop :=
  ∀ (ls1 : Array Slot) (H1 : Heap) (locs1 : List Loc), zH cA D base b Lx xs s σ1 H1 locs1 (cells + (σ1.2.2.2 - σ.2.2.2)) → (∀ q ∈ L1, zvr q.2) → (∀ v ∈ st1, zvr v) → lv_has ls1 (zml y) (L1.map (zcq base b)) → zW p l e R s m args below meth c base b H1 locs1 (cells + (σ1.2.2.2 - σ.2.2.2)) (slots + (zsz σ1.2.2.2 - zsz σ.2.2.2)) Q pc1 ls1 st1
theorem zk0 {p : Program} {l : Launch} {e : Env} {R : Room} {s : State} {m : MethodId} {args : Array Value} {below : List Frame} {meth : Method} {c : Code} {cA : Nat → ClassId} {D : va_G} {base b Lx : Nat} {xs : Nat → Int32} {y : Nat} {H : Heap} {locs : List Loc} {cells slots : Nat} {Q : State → Prop} {ls : Array Slot} {σ : zS} {pc1 : Nat} {L1 : zL} {st1 : List zV} (kk : zK p l e R s m args below meth c cA D base b Lx xs y cells slots Q σ pc1 L1 st1 σ) (hH : zH cA D base b Lx xs s σ H locs cells) (hL : ∀ q ∈ L1, zvr q.2) (hS : ∀ v ∈ st1, zvr v) (hl : lv_has ls (zml y) (L1.map (zcq base b))) : zW p l e R s m args below meth c base b H locs cells slots Q pc1 ls st1 := by
  have h := kk ls H locs (by simpa only [Nat.sub_self, Nat.add_zero] using hH) hL hS hl
  simpa only [Nat.sub_self, Nat.add_zero] using h
theorem zkc {p : Program} {l : Launch} {e : Env} {R : Room} {s : State} {m : MethodId} {args : Array Value} {below : List Frame} {meth : Method} {c : Code} {cA : Nat → ClassId} {D : va_G} {base b Lx : Nat} {xs : Nat → Int32} {y : Nat} {H : Heap} {locs : List Loc} {cells slots : Nat} {Q : State → Prop} {ls : Array Slot} {σ σ1 : zS} {pc1 : Nat} {L1 : zL} {st1 : List zV} (kk : zK p l e R s m args below meth c cA D base b Lx xs y cells slots Q σ pc1 L1 st1 σ1) (hc : σ1.2.2.2 = σ.2.2.2) (hH : zH cA D base b Lx xs s σ1 H locs cells) (hL : ∀ q ∈ L1, zvr q.2) (hS : ∀ v ∈ st1, zvr v) (hl : lv_has ls (zml y) (L1.map (zcq base b))) : zW p l e R s m args below meth c base b H locs cells slots Q pc1 ls st1 := by
  have h := kk ls H locs (by rw [hc]; simpa only [Nat.sub_self, Nat.add_zero] using hH) hL hS hl
  rw [hc] at h
  simpa only [Nat.sub_self, Nat.add_zero] using h
theorem zcons {P : zV → Prop} {v : zV} {r : List zV} (hv : P v) (hr : ∀ w ∈ r, P w) : ∀ w ∈ v :: r, P w := fun w h => (List.mem_cons.mp h).elim (fun e => e ▸ hv) (hr w)
theorem zct {P : zV → Prop} {v : zV} {r : List zV} (h : ∀ w ∈ v :: r, P w) : ∀ w ∈ r, P w := fun w hw => h w (List.mem_cons_of_mem _ hw)
theorem zch {P : zV → Prop} {v : zV} {r : List zV} (h : ∀ w ∈ v :: r, P w) : P v := h v List.mem_cons_self
theorem zlen {pc n len : Nat} {bs : ByteArray} {i : Instr} (hd : decode bs pc = .ok (i, len)) (h : Nat.beq len n = true) : decode bs pc = .ok (i, n) := by
  rw [← Nat.eq_of_beq_eq_true h]; exact hd
set_option maxHeartbeats 1000000 in
theorem zs_iload_n {p : Program} {l : Launch} {e : Env} {R : Room} {s : State} {m : MethodId} {args : Array Value} {below : List Frame} {meth : Method} {c : Code} {cA : Nat → ClassId} {D : va_G} {base b Lx : Nat} {xs : Nat → Int32} {y : Nat} {H : Heap} {locs : List Loc} {cells slots : Nat} {Q : State → Prop} {ls : Array Slot} {pc len ia ib pc1 : Nat} {L L1 : zL} {st st1 : List zV} {σ σ1 : zS} {g : Option Prop} {k : Fin 4} (C : zCx p R s m args meth c cA D base b Lx xs y) (hH : zH cA D base b Lx xs s σ H locs cells) (hL : ∀ q ∈ L, zvr q.2) (hS : ∀ v ∈ st, zvr v) (hl : lv_has ls (zml y) (L.map (zcq base b))) (hd : decode (zb y) pc = .ok (.iload_n k, len)) (ha : zaux y pc (.iload_n k) len ia ib = true) (h : zx y (.iload_n k) len ia ib pc L st σ = some (g, pc1, L1, st1, σ1)) (hg : ∀ P, g = some P → P) (hrc : cells + (σ1.2.2.2 - σ.2.2.2) ≤ R.cells) (hrs : slots + (zsz σ1.2.2.2 - zsz σ.2.2.2) ≤ R.slots)
    (kk : zK p l e R s m args below meth c cA D base b Lx xs y cells slots Q σ pc1 L1 st1 σ1) : zW p l e R s m args below meth c base b H locs cells slots Q pc ls st := by
  simp only [zx] at h
  split at h
  · next v hv =>
    simp only [Option.some.injEq, Prod.mk.injEq] at h
    obtain ⟨rfl, rfl, rfl, rfl, rfl⟩ := h
    have hq := zlk_lv hl hv
    refine lv_iload_n C.1 C.2.1 (zlen hd ha) rfl hq ?_
    exact zk0 kk hH hL (zcons (hL _ (zlk_mem hv)) hS) hl
  · cases h
set_option maxHeartbeats 1000000 in
theorem zs_iload {p : Program} {l : Launch} {e : Env} {R : Room} {s : State} {m : MethodId} {args : Array Value} {below : List Frame} {meth : Method} {c : Code} {cA : Nat → ClassId} {D : va_G} {base b Lx : Nat} {xs : Nat → Int32} {y : Nat} {H : Heap} {locs : List Loc} {cells slots : Nat} {Q : State → Prop} {ls : Array Slot} {pc len ia ib pc1 : Nat} {L L1 : zL} {st st1 : List zV} {σ σ1 : zS} {g : Option Prop} {k : Nat} (C : zCx p R s m args meth c cA D base b Lx xs y) (hH : zH cA D base b Lx xs s σ H locs cells) (hL : ∀ q ∈ L, zvr q.2) (hS : ∀ v ∈ st, zvr v) (hl : lv_has ls (zml y) (L.map (zcq base b))) (hd : decode (zb y) pc = .ok (.iload k, len)) (ha : zaux y pc (.iload k) len ia ib = true) (h : zx y (.iload k) len ia ib pc L st σ = some (g, pc1, L1, st1, σ1)) (hg : ∀ P, g = some P → P) (hrc : cells + (σ1.2.2.2 - σ.2.2.2) ≤ R.cells) (hrs : slots + (zsz σ1.2.2.2 - zsz σ.2.2.2) ≤ R.slots)
    (kk : zK p l e R s m args below meth c cA D base b Lx xs y cells slots Q σ pc1 L1 st1 σ1) : zW p l e R s m args below meth c base b H locs cells slots Q pc ls st := by
  simp only [zx] at h
  split at h
  · next v hv =>
    simp only [Option.some.injEq, Prod.mk.injEq] at h
    obtain ⟨rfl, rfl, rfl, rfl, rfl⟩ := h
    have hq := zlk_lv hl hv
    refine lv_iload C.1 C.2.1 (zlen hd ha)  hq ?_
    exact zk0 kk hH hL (zcons (hL _ (zlk_mem hv)) hS) hl
  · cases h
set_option maxHeartbeats 1000000 in
theorem zs_fload_n {p : Program} {l : Launch} {e : Env} {R : Room} {s : State} {m : MethodId} {args : Array Value} {below : List Frame} {meth : Method} {c : Code} {cA : Nat → ClassId} {D : va_G} {base b Lx : Nat} {xs : Nat → Int32} {y : Nat} {H : Heap} {locs : List Loc} {cells slots : Nat} {Q : State → Prop} {ls : Array Slot} {pc len ia ib pc1 : Nat} {L L1 : zL} {st st1 : List zV} {σ σ1 : zS} {g : Option Prop} {k : Fin 4} (C : zCx p R s m args meth c cA D base b Lx xs y) (hH : zH cA D base b Lx xs s σ H locs cells) (hL : ∀ q ∈ L, zvr q.2) (hS : ∀ v ∈ st, zvr v) (hl : lv_has ls (zml y) (L.map (zcq base b))) (hd : decode (zb y) pc = .ok (.fload_n k, len)) (ha : zaux y pc (.fload_n k) len ia ib = true) (h : zx y (.fload_n k) len ia ib pc L st σ = some (g, pc1, L1, st1, σ1)) (hg : ∀ P, g = some P → P) (hrc : cells + (σ1.2.2.2 - σ.2.2.2) ≤ R.cells) (hrs : slots + (zsz σ1.2.2.2 - zsz σ.2.2.2) ≤ R.slots)
    (kk : zK p l e R s m args below meth c cA D base b Lx xs y cells slots Q σ pc1 L1 st1 σ1) : zW p l e R s m args below meth c base b H locs cells slots Q pc ls st := by
  simp only [zx] at h
  split at h
  · next v hv =>
    simp only [Option.some.injEq, Prod.mk.injEq] at h
    obtain ⟨rfl, rfl, rfl, rfl, rfl⟩ := h
    have hq := zlk_lv hl hv
    refine lv_fload_n C.1 C.2.1 (zlen hd ha) rfl hq ?_
    exact zk0 kk hH hL (zcons (hL _ (zlk_mem hv)) hS) hl
  · cases h
set_option maxHeartbeats 1000000 in
theorem zs_dload_n {p : Program} {l : Launch} {e : Env} {R : Room} {s : State} {m : MethodId} {args : Array Value} {below : List Frame} {meth : Method} {c : Code} {cA : Nat → ClassId} {D : va_G} {base b Lx : Nat} {xs : Nat → Int32} {y : Nat} {H : Heap} {locs : List Loc} {cells slots : Nat} {Q : State → Prop} {ls : Array Slot} {pc len ia ib pc1 : Nat} {L L1 : zL} {st st1 : List zV} {σ σ1 : zS} {g : Option Prop} {k : Fin 4} (C : zCx p R s m args meth c cA D base b Lx xs y) (hH : zH cA D base b Lx xs s σ H locs cells) (hL : ∀ q ∈ L, zvr q.2) (hS : ∀ v ∈ st, zvr v) (hl : lv_has ls (zml y) (L.map (zcq base b))) (hd : decode (zb y) pc = .ok (.dload_n k, len)) (ha : zaux y pc (.dload_n k) len ia ib = true) (h : zx y (.dload_n k) len ia ib pc L st σ = some (g, pc1, L1, st1, σ1)) (hg : ∀ P, g = some P → P) (hrc : cells + (σ1.2.2.2 - σ.2.2.2) ≤ R.cells) (hrs : slots + (zsz σ1.2.2.2 - zsz σ.2.2.2) ≤ R.slots)
    (kk : zK p l e R s m args below meth c cA D base b Lx xs y cells slots Q σ pc1 L1 st1 σ1) : zW p l e R s m args below meth c base b H locs cells slots Q pc ls st := by
  simp only [zx] at h
  split at h
  · next v hv =>
    simp only [Option.some.injEq, Prod.mk.injEq] at h
    obtain ⟨rfl, rfl, rfl, rfl, rfl⟩ := h
    have hq := zlk_lv hl hv
    refine lv_dload_n C.1 C.2.1 (zlen hd ha) rfl hq ?_
    exact zk0 kk hH hL (zcons (hL _ (zlk_mem hv)) hS) hl
  · cases h
set_option maxHeartbeats 1000000 in
theorem zs_dload {p : Program} {l : Launch} {e : Env} {R : Room} {s : State} {m : MethodId} {args : Array Value} {below : List Frame} {meth : Method} {c : Code} {cA : Nat → ClassId} {D : va_G} {base b Lx : Nat} {xs : Nat → Int32} {y : Nat} {H : Heap} {locs : List Loc} {cells slots : Nat} {Q : State → Prop} {ls : Array Slot} {pc len ia ib pc1 : Nat} {L L1 : zL} {st st1 : List zV} {σ σ1 : zS} {g : Option Prop} {k : Nat} (C : zCx p R s m args meth c cA D base b Lx xs y) (hH : zH cA D base b Lx xs s σ H locs cells) (hL : ∀ q ∈ L, zvr q.2) (hS : ∀ v ∈ st, zvr v) (hl : lv_has ls (zml y) (L.map (zcq base b))) (hd : decode (zb y) pc = .ok (.dload k, len)) (ha : zaux y pc (.dload k) len ia ib = true) (h : zx y (.dload k) len ia ib pc L st σ = some (g, pc1, L1, st1, σ1)) (hg : ∀ P, g = some P → P) (hrc : cells + (σ1.2.2.2 - σ.2.2.2) ≤ R.cells) (hrs : slots + (zsz σ1.2.2.2 - zsz σ.2.2.2) ≤ R.slots)
    (kk : zK p l e R s m args below meth c cA D base b Lx xs y cells slots Q σ pc1 L1 st1 σ1) : zW p l e R s m args below meth c base b H locs cells slots Q pc ls st := by
  simp only [zx] at h
  split at h
  · next v hv =>
    simp only [Option.some.injEq, Prod.mk.injEq] at h
    obtain ⟨rfl, rfl, rfl, rfl, rfl⟩ := h
    have hq := zlk_lv hl hv
    refine lv_dload C.1 C.2.1 (zlen hd ha)  hq ?_
    exact zk0 kk hH hL (zcons (hL _ (zlk_mem hv)) hS) hl
  · cases h
set_option maxHeartbeats 1000000 in
theorem zs_aload_n {p : Program} {l : Launch} {e : Env} {R : Room} {s : State} {m : MethodId} {args : Array Value} {below : List Frame} {meth : Method} {c : Code} {cA : Nat → ClassId} {D : va_G} {base b Lx : Nat} {xs : Nat → Int32} {y : Nat} {H : Heap} {locs : List Loc} {cells slots : Nat} {Q : State → Prop} {ls : Array Slot} {pc len ia ib pc1 : Nat} {L L1 : zL} {st st1 : List zV} {σ σ1 : zS} {g : Option Prop} {k : Fin 4} (C : zCx p R s m args meth c cA D base b Lx xs y) (hH : zH cA D base b Lx xs s σ H locs cells) (hL : ∀ q ∈ L, zvr q.2) (hS : ∀ v ∈ st, zvr v) (hl : lv_has ls (zml y) (L.map (zcq base b))) (hd : decode (zb y) pc = .ok (.aload_n k, len)) (ha : zaux y pc (.aload_n k) len ia ib = true) (h : zx y (.aload_n k) len ia ib pc L st σ = some (g, pc1, L1, st1, σ1)) (hg : ∀ P, g = some P → P) (hrc : cells + (σ1.2.2.2 - σ.2.2.2) ≤ R.cells) (hrs : slots + (zsz σ1.2.2.2 - zsz σ.2.2.2) ≤ R.slots)
    (kk : zK p l e R s m args below meth c cA D base b Lx xs y cells slots Q σ pc1 L1 st1 σ1) : zW p l e R s m args below meth c base b H locs cells slots Q pc ls st := by
  simp only [zx] at h
  split at h
  · next v hv =>
    simp only [Option.some.injEq, Prod.mk.injEq] at h
    obtain ⟨rfl, rfl, rfl, rfl, rfl⟩ := h
    have hq := zlk_lv hl hv
    have kk2 := zk0 kk hH hL (zcons (hL _ (zlk_mem hv)) hS) hl
    by_cases h0 : v = 0
    · subst h0
      exact lv_aload_nN C.1 C.2.1 (zlen hd ha) rfl hq kk2
    · rw [zcv_r h0] at hq
      simp only [zW, List.map_cons, zcv_r h0] at kk2
      exact lv_aload_n C.1 C.2.1 (zlen hd ha) rfl hq kk2
  · cases h
set_option maxHeartbeats 1000000 in
theorem zs_istore_n {p : Program} {l : Launch} {e : Env} {R : Room} {s : State} {m : MethodId} {args : Array Value} {below : List Frame} {meth : Method} {c : Code} {cA : Nat → ClassId} {D : va_G} {base b Lx : Nat} {xs : Nat → Int32} {y : Nat} {H : Heap} {locs : List Loc} {cells slots : Nat} {Q : State → Prop} {ls : Array Slot} {pc len ia ib pc1 : Nat} {L L1 : zL} {st st1 : List zV} {σ σ1 : zS} {g : Option Prop} {k : Fin 4} (C : zCx p R s m args meth c cA D base b Lx xs y) (hH : zH cA D base b Lx xs s σ H locs cells) (hL : ∀ q ∈ L, zvr q.2) (hS : ∀ v ∈ st, zvr v) (hl : lv_has ls (zml y) (L.map (zcq base b))) (hd : decode (zb y) pc = .ok (.istore_n k, len)) (ha : zaux y pc (.istore_n k) len ia ib = true) (h : zx y (.istore_n k) len ia ib pc L st σ = some (g, pc1, L1, st1, σ1)) (hg : ∀ P, g = some P → P) (hrc : cells + (σ1.2.2.2 - σ.2.2.2) ≤ R.cells) (hrs : slots + (zsz σ1.2.2.2 - zsz σ.2.2.2) ≤ R.slots)
    (kk : zK p l e R s m args below meth c cA D base b Lx xs y cells slots Q σ pc1 L1 st1 σ1) : zW p l e R s m args below meth c base b H locs cells slots Q pc ls st := by
  simp only [zx] at h
  split at h
  · next x r =>
    simp only [Option.some.injEq, Prod.mk.injEq] at h
    obtain ⟨rfl, rfl, rfl, rfl, rfl⟩ := h
    simp only [zaux, Bool.and_eq_true, decide_eq_true_eq] at ha
    refine lv_istore_n C.1 C.2.1 (zlen hd ha.1) rfl hl ha.2 (zset1_map (base := base) (b := b) (v := vi x)) (fun ls1 hl1 => ?_)
    exact zk0 kk hH (zset1_r hL (zch hS)) (zct hS) hl1
  · cases h
set_option maxHeartbeats 1000000 in
theorem zs_istore {p : Program} {l : Launch} {e : Env} {R : Room} {s : State} {m : MethodId} {args : Array Value} {below : List Frame} {meth : Method} {c : Code} {cA : Nat → ClassId} {D : va_G} {base b Lx : Nat} {xs : Nat → Int32} {y : Nat} {H : Heap} {locs : List Loc} {cells slots : Nat} {Q : State → Prop} {ls : Array Slot} {pc len ia ib pc1 : Nat} {L L1 : zL} {st st1 : List zV} {σ σ1 : zS} {g : Option Prop} {k : Nat} (C : zCx p R s m args meth c cA D base b Lx xs y) (hH : zH cA D base b Lx xs s σ H locs cells) (hL : ∀ q ∈ L, zvr q.2) (hS : ∀ v ∈ st, zvr v) (hl : lv_has ls (zml y) (L.map (zcq base b))) (hd : decode (zb y) pc = .ok (.istore k, len)) (ha : zaux y pc (.istore k) len ia ib = true) (h : zx y (.istore k) len ia ib pc L st σ = some (g, pc1, L1, st1, σ1)) (hg : ∀ P, g = some P → P) (hrc : cells + (σ1.2.2.2 - σ.2.2.2) ≤ R.cells) (hrs : slots + (zsz σ1.2.2.2 - zsz σ.2.2.2) ≤ R.slots)
    (kk : zK p l e R s m args below meth c cA D base b Lx xs y cells slots Q σ pc1 L1 st1 σ1) : zW p l e R s m args below meth c base b H locs cells slots Q pc ls st := by
  simp only [zx] at h
  split at h
  · next x r =>
    simp only [Option.some.injEq, Prod.mk.injEq] at h
    obtain ⟨rfl, rfl, rfl, rfl, rfl⟩ := h
    simp only [zaux, Bool.and_eq_true, decide_eq_true_eq] at ha
    refine lv_istore C.1 C.2.1 (zlen hd ha.1)  hl ha.2 (zset1_map (base := base) (b := b) (v := vi x)) (fun ls1 hl1 => ?_)
    exact zk0 kk hH (zset1_r hL (zch hS)) (zct hS) hl1
  · cases h
set_option maxHeartbeats 1000000 in
theorem zs_fstore_n {p : Program} {l : Launch} {e : Env} {R : Room} {s : State} {m : MethodId} {args : Array Value} {below : List Frame} {meth : Method} {c : Code} {cA : Nat → ClassId} {D : va_G} {base b Lx : Nat} {xs : Nat → Int32} {y : Nat} {H : Heap} {locs : List Loc} {cells slots : Nat} {Q : State → Prop} {ls : Array Slot} {pc len ia ib pc1 : Nat} {L L1 : zL} {st st1 : List zV} {σ σ1 : zS} {g : Option Prop} {k : Fin 4} (C : zCx p R s m args meth c cA D base b Lx xs y) (hH : zH cA D base b Lx xs s σ H locs cells) (hL : ∀ q ∈ L, zvr q.2) (hS : ∀ v ∈ st, zvr v) (hl : lv_has ls (zml y) (L.map (zcq base b))) (hd : decode (zb y) pc = .ok (.fstore_n k, len)) (ha : zaux y pc (.fstore_n k) len ia ib = true) (h : zx y (.fstore_n k) len ia ib pc L st σ = some (g, pc1, L1, st1, σ1)) (hg : ∀ P, g = some P → P) (hrc : cells + (σ1.2.2.2 - σ.2.2.2) ≤ R.cells) (hrs : slots + (zsz σ1.2.2.2 - zsz σ.2.2.2) ≤ R.slots)
    (kk : zK p l e R s m args below meth c cA D base b Lx xs y cells slots Q σ pc1 L1 st1 σ1) : zW p l e R s m args below meth c base b H locs cells slots Q pc ls st := by
  simp only [zx] at h
  split at h
  · next x r =>
    simp only [Option.some.injEq, Prod.mk.injEq] at h
    obtain ⟨rfl, rfl, rfl, rfl, rfl⟩ := h
    simp only [zaux, Bool.and_eq_true, decide_eq_true_eq] at ha
    refine lv_fstore_n C.1 C.2.1 (zlen hd ha.1) rfl hl ha.2 (zset1_map (base := base) (b := b) (v := vf x)) (fun ls1 hl1 => ?_)
    exact zk0 kk hH (zset1_r hL (zch hS)) (zct hS) hl1
  · cases h
set_option maxHeartbeats 1000000 in
theorem zs_dstore {p : Program} {l : Launch} {e : Env} {R : Room} {s : State} {m : MethodId} {args : Array Value} {below : List Frame} {meth : Method} {c : Code} {cA : Nat → ClassId} {D : va_G} {base b Lx : Nat} {xs : Nat → Int32} {y : Nat} {H : Heap} {locs : List Loc} {cells slots : Nat} {Q : State → Prop} {ls : Array Slot} {pc len ia ib pc1 : Nat} {L L1 : zL} {st st1 : List zV} {σ σ1 : zS} {g : Option Prop} {k : Nat} (C : zCx p R s m args meth c cA D base b Lx xs y) (hH : zH cA D base b Lx xs s σ H locs cells) (hL : ∀ q ∈ L, zvr q.2) (hS : ∀ v ∈ st, zvr v) (hl : lv_has ls (zml y) (L.map (zcq base b))) (hd : decode (zb y) pc = .ok (.dstore k, len)) (ha : zaux y pc (.dstore k) len ia ib = true) (h : zx y (.dstore k) len ia ib pc L st σ = some (g, pc1, L1, st1, σ1)) (hg : ∀ P, g = some P → P) (hrc : cells + (σ1.2.2.2 - σ.2.2.2) ≤ R.cells) (hrs : slots + (zsz σ1.2.2.2 - zsz σ.2.2.2) ≤ R.slots)
    (kk : zK p l e R s m args below meth c cA D base b Lx xs y cells slots Q σ pc1 L1 st1 σ1) : zW p l e R s m args below meth c base b H locs cells slots Q pc ls st := by
  simp only [zx] at h
  split at h
  · next x r =>
    simp only [Option.some.injEq, Prod.mk.injEq] at h
    obtain ⟨rfl, rfl, rfl, rfl, rfl⟩ := h
    simp only [zaux, Bool.and_eq_true, decide_eq_true_eq] at ha
    refine lv_dstore C.1 C.2.1 (zlen hd ha.1)  hl ha.2 (zset2_map (base := base) (b := b) (v := vd x)) (fun ls1 hl1 => ?_)
    exact zk0 kk hH (zset2_r hL (zch hS)) (zct hS) hl1
  · cases h
set_option maxHeartbeats 1000000 in
theorem zs_astore_n {p : Program} {l : Launch} {e : Env} {R : Room} {s : State} {m : MethodId} {args : Array Value} {below : List Frame} {meth : Method} {c : Code} {cA : Nat → ClassId} {D : va_G} {base b Lx : Nat} {xs : Nat → Int32} {y : Nat} {H : Heap} {locs : List Loc} {cells slots : Nat} {Q : State → Prop} {ls : Array Slot} {pc len ia ib pc1 : Nat} {L L1 : zL} {st st1 : List zV} {σ σ1 : zS} {g : Option Prop} {k : Fin 4} (C : zCx p R s m args meth c cA D base b Lx xs y) (hH : zH cA D base b Lx xs s σ H locs cells) (hL : ∀ q ∈ L, zvr q.2) (hS : ∀ v ∈ st, zvr v) (hl : lv_has ls (zml y) (L.map (zcq base b))) (hd : decode (zb y) pc = .ok (.astore_n k, len)) (ha : zaux y pc (.astore_n k) len ia ib = true) (h : zx y (.astore_n k) len ia ib pc L st σ = some (g, pc1, L1, st1, σ1)) (hg : ∀ P, g = some P → P) (hrc : cells + (σ1.2.2.2 - σ.2.2.2) ≤ R.cells) (hrs : slots + (zsz σ1.2.2.2 - zsz σ.2.2.2) ≤ R.slots)
    (kk : zK p l e R s m args below meth c cA D base b Lx xs y cells slots Q σ pc1 L1 st1 σ1) : zW p l e R s m args below meth c base b H locs cells slots Q pc ls st := by
  simp only [zx] at h
  split at h
  · next x r =>
    simp only [Option.some.injEq, Prod.mk.injEq] at h
    obtain ⟨rfl, rfl, rfl, rfl, rfl⟩ := h
    simp only [zaux, Bool.and_eq_true, decide_eq_true_eq] at ha
    by_cases h0 : x = 0
    · subst h0
      refine lv_astore_nN C.1 C.2.1 (zlen hd ha.1) rfl hl ha.2 (zset1_map (base := base) (b := b) (v := vr 0)) (fun ls1 hl1 => ?_)
      exact zk0 kk hH (zset1_r hL (zch hS)) (zct hS) hl1
    · have hm := zset1_map (base := base) (b := b) (k := k.val) (v := vr x) (L := L)
      simp only [zW, List.map_cons, zcv_r h0] at hm ⊢
      refine lv_astore_n C.1 C.2.1 (zlen hd ha.1) rfl hl ha.2 hm (fun ls1 hl1 => ?_)
      exact zk0 kk hH (zset1_r hL (zch hS)) (zct hS) hl1
  · cases h
set_option maxHeartbeats 1000000 in
theorem zs_iinc {p : Program} {l : Launch} {e : Env} {R : Room} {s : State} {m : MethodId} {args : Array Value} {below : List Frame} {meth : Method} {c : Code} {cA : Nat → ClassId} {D : va_G} {base b Lx : Nat} {xs : Nat → Int32} {y : Nat} {H : Heap} {locs : List Loc} {cells slots : Nat} {Q : State → Prop} {ls : Array Slot} {pc len ia ib pc1 : Nat} {L L1 : zL} {st st1 : List zV} {σ σ1 : zS} {g : Option Prop} {k : Nat} {n : Int} (C : zCx p R s m args meth c cA D base b Lx xs y) (hH : zH cA D base b Lx xs s σ H locs cells) (hL : ∀ q ∈ L, zvr q.2) (hS : ∀ v ∈ st, zvr v) (hl : lv_has ls (zml y) (L.map (zcq base b))) (hd : decode (zb y) pc = .ok (.iinc k n, len)) (ha : zaux y pc (.iinc k n) len ia ib = true) (h : zx y (.iinc k n) len ia ib pc L st σ = some (g, pc1, L1, st1, σ1)) (hg : ∀ P, g = some P → P) (hrc : cells + (σ1.2.2.2 - σ.2.2.2) ≤ R.cells) (hrs : slots + (zsz σ1.2.2.2 - zsz σ.2.2.2) ≤ R.slots)
    (kk : zK p l e R s m args below meth c cA D base b Lx xs y cells slots Q σ pc1 L1 st1 σ1) : zW p l e R s m args below meth c base b H locs cells slots Q pc ls st := by
  simp only [zx] at h
  split at h
  · next x hv =>
    simp only [Option.some.injEq, Prod.mk.injEq] at h
    obtain ⟨rfl, rfl, rfl, rfl, rfl⟩ := h
    simp only [zaux, Bool.and_eq_true, decide_eq_true_eq] at ha
    have hm : (k, Value.int (Int32.ofInt x)) ∈ L.map (zcq base b) := List.mem_map.mpr ⟨(k, vi x), zlk_mem hv, rfl⟩
    obtain ⟨i, hi⟩ := List.getElem?_of_mem hm
    refine lv_iinc (k := i) C.1 C.2.1 (zlen hd ha.1) hl hi (v := Int32.ofInt (x + n)) (Int32.ofInt_add x n).symm ha.2 (zset1_map (base := base) (b := b) (v := vi (x + n))) (fun ls1 hl1 => ?_)
    exact zk0 kk hH (zset1_r hL (hg _ rfl)) hS hl1
  · cases h
set_option maxHeartbeats 1000000 in
theorem zs_iconst {p : Program} {l : Launch} {e : Env} {R : Room} {s : State} {m : MethodId} {args : Array Value} {below : List Frame} {meth : Method} {c : Code} {cA : Nat → ClassId} {D : va_G} {base b Lx : Nat} {xs : Nat → Int32} {y : Nat} {H : Heap} {locs : List Loc} {cells slots : Nat} {Q : State → Prop} {ls : Array Slot} {pc len ia ib pc1 : Nat} {L L1 : zL} {st st1 : List zV} {σ σ1 : zS} {g : Option Prop} {n : Int} (C : zCx p R s m args meth c cA D base b Lx xs y) (hH : zH cA D base b Lx xs s σ H locs cells) (hL : ∀ q ∈ L, zvr q.2) (hS : ∀ v ∈ st, zvr v) (hl : lv_has ls (zml y) (L.map (zcq base b))) (hd : decode (zb y) pc = .ok (.iconst n, len)) (ha : zaux y pc (.iconst n) len ia ib = true) (h : zx y (.iconst n) len ia ib pc L st σ = some (g, pc1, L1, st1, σ1)) (hg : ∀ P, g = some P → P) (hrc : cells + (σ1.2.2.2 - σ.2.2.2) ≤ R.cells) (hrs : slots + (zsz σ1.2.2.2 - zsz σ.2.2.2) ≤ R.slots)
    (kk : zK p l e R s m args below meth c cA D base b Lx xs y cells slots Q σ pc1 L1 st1 σ1) : zW p l e R s m args below meth c base b H locs cells slots Q pc ls st := by
  simp only [zx] at h
  simp only [Option.some.injEq, Prod.mk.injEq] at h
  obtain ⟨rfl, rfl, rfl, rfl, rfl⟩ := h
  simp only [zaux, Bool.and_eq_true, decide_eq_true_eq] at ha
  refine lv_iconst C.1 C.2.1 (zlen hd ha.1) (v := Int32.ofInt n) rfl ?_
  exact zk0 kk hH hL (zcons ha.2 hS) hl
set_option maxHeartbeats 1000000 in
theorem zs_bipush {p : Program} {l : Launch} {e : Env} {R : Room} {s : State} {m : MethodId} {args : Array Value} {below : List Frame} {meth : Method} {c : Code} {cA : Nat → ClassId} {D : va_G} {base b Lx : Nat} {xs : Nat → Int32} {y : Nat} {H : Heap} {locs : List Loc} {cells slots : Nat} {Q : State → Prop} {ls : Array Slot} {pc len ia ib pc1 : Nat} {L L1 : zL} {st st1 : List zV} {σ σ1 : zS} {g : Option Prop} {n : Int} (C : zCx p R s m args meth c cA D base b Lx xs y) (hH : zH cA D base b Lx xs s σ H locs cells) (hL : ∀ q ∈ L, zvr q.2) (hS : ∀ v ∈ st, zvr v) (hl : lv_has ls (zml y) (L.map (zcq base b))) (hd : decode (zb y) pc = .ok (.bipush n, len)) (ha : zaux y pc (.bipush n) len ia ib = true) (h : zx y (.bipush n) len ia ib pc L st σ = some (g, pc1, L1, st1, σ1)) (hg : ∀ P, g = some P → P) (hrc : cells + (σ1.2.2.2 - σ.2.2.2) ≤ R.cells) (hrs : slots + (zsz σ1.2.2.2 - zsz σ.2.2.2) ≤ R.slots)
    (kk : zK p l e R s m args below meth c cA D base b Lx xs y cells slots Q σ pc1 L1 st1 σ1) : zW p l e R s m args below meth c base b H locs cells slots Q pc ls st := by
  simp only [zx] at h
  simp only [Option.some.injEq, Prod.mk.injEq] at h
  obtain ⟨rfl, rfl, rfl, rfl, rfl⟩ := h
  simp only [zaux, Bool.and_eq_true, decide_eq_true_eq] at ha
  refine lv_bipush C.1 C.2.1 (zlen hd ha.1.1) (v := Int32.ofInt n) ha.1.2 ?_
  exact zk0 kk hH hL (zcons ha.2 hS) hl
set_option maxHeartbeats 1000000 in
theorem zs_sipush {p : Program} {l : Launch} {e : Env} {R : Room} {s : State} {m : MethodId} {args : Array Value} {below : List Frame} {meth : Method} {c : Code} {cA : Nat → ClassId} {D : va_G} {base b Lx : Nat} {xs : Nat → Int32} {y : Nat} {H : Heap} {locs : List Loc} {cells slots : Nat} {Q : State → Prop} {ls : Array Slot} {pc len ia ib pc1 : Nat} {L L1 : zL} {st st1 : List zV} {σ σ1 : zS} {g : Option Prop} {n : Int} (C : zCx p R s m args meth c cA D base b Lx xs y) (hH : zH cA D base b Lx xs s σ H locs cells) (hL : ∀ q ∈ L, zvr q.2) (hS : ∀ v ∈ st, zvr v) (hl : lv_has ls (zml y) (L.map (zcq base b))) (hd : decode (zb y) pc = .ok (.sipush n, len)) (ha : zaux y pc (.sipush n) len ia ib = true) (h : zx y (.sipush n) len ia ib pc L st σ = some (g, pc1, L1, st1, σ1)) (hg : ∀ P, g = some P → P) (hrc : cells + (σ1.2.2.2 - σ.2.2.2) ≤ R.cells) (hrs : slots + (zsz σ1.2.2.2 - zsz σ.2.2.2) ≤ R.slots)
    (kk : zK p l e R s m args below meth c cA D base b Lx xs y cells slots Q σ pc1 L1 st1 σ1) : zW p l e R s m args below meth c base b H locs cells slots Q pc ls st := by
  simp only [zx] at h
  simp only [Option.some.injEq, Prod.mk.injEq] at h
  obtain ⟨rfl, rfl, rfl, rfl, rfl⟩ := h
  simp only [zaux, Bool.and_eq_true, decide_eq_true_eq] at ha
  refine lv_sipush C.1 C.2.1 (zlen hd ha.1.1) (v := Int32.ofInt n) ha.1.2 ?_
  exact zk0 kk hH hL (zcons ha.2 hS) hl
set_option maxHeartbeats 1000000 in
theorem zs_fconst {p : Program} {l : Launch} {e : Env} {R : Room} {s : State} {m : MethodId} {args : Array Value} {below : List Frame} {meth : Method} {c : Code} {cA : Nat → ClassId} {D : va_G} {base b Lx : Nat} {xs : Nat → Int32} {y : Nat} {H : Heap} {locs : List Loc} {cells slots : Nat} {Q : State → Prop} {ls : Array Slot} {pc len ia ib pc1 : Nat} {L L1 : zL} {st st1 : List zV} {σ σ1 : zS} {g : Option Prop} {k : Fin 3} (C : zCx p R s m args meth c cA D base b Lx xs y) (hH : zH cA D base b Lx xs s σ H locs cells) (hL : ∀ q ∈ L, zvr q.2) (hS : ∀ v ∈ st, zvr v) (hl : lv_has ls (zml y) (L.map (zcq base b))) (hd : decode (zb y) pc = .ok (.fconst k, len)) (ha : zaux y pc (.fconst k) len ia ib = true) (h : zx y (.fconst k) len ia ib pc L st σ = some (g, pc1, L1, st1, σ1)) (hg : ∀ P, g = some P → P) (hrc : cells + (σ1.2.2.2 - σ.2.2.2) ≤ R.cells) (hrs : slots + (zsz σ1.2.2.2 - zsz σ.2.2.2) ≤ R.slots)
    (kk : zK p l e R s m args below meth c cA D base b Lx xs y cells slots Q σ pc1 L1 st1 σ1) : zW p l e R s m args below meth c base b H locs cells slots Q pc ls st := by
  simp only [zx] at h
  split at h
  · simp only [Option.some.injEq, Prod.mk.injEq] at h
    obtain ⟨rfl, rfl, rfl, rfl, rfl⟩ := h
    exact lv_fconst0 C.1 C.2.1 (zlen hd ha) (zk0 kk hH hL (zcons trivial hS) hl)
  · simp only [Option.some.injEq, Prod.mk.injEq] at h
    obtain ⟨rfl, rfl, rfl, rfl, rfl⟩ := h
    exact lv_fconst1 C.1 C.2.1 (zlen hd ha) (zk0 kk hH hL (zcons trivial hS) hl)
  · simp only [Option.some.injEq, Prod.mk.injEq] at h
    obtain ⟨rfl, rfl, rfl, rfl, rfl⟩ := h
    exact lv_fconst2 C.1 C.2.1 (zlen hd ha) (zk0 kk hH hL (zcons trivial hS) hl)
set_option maxHeartbeats 1000000 in
theorem zs_dconst {p : Program} {l : Launch} {e : Env} {R : Room} {s : State} {m : MethodId} {args : Array Value} {below : List Frame} {meth : Method} {c : Code} {cA : Nat → ClassId} {D : va_G} {base b Lx : Nat} {xs : Nat → Int32} {y : Nat} {H : Heap} {locs : List Loc} {cells slots : Nat} {Q : State → Prop} {ls : Array Slot} {pc len ia ib pc1 : Nat} {L L1 : zL} {st st1 : List zV} {σ σ1 : zS} {g : Option Prop} {k : Fin 2} (C : zCx p R s m args meth c cA D base b Lx xs y) (hH : zH cA D base b Lx xs s σ H locs cells) (hL : ∀ q ∈ L, zvr q.2) (hS : ∀ v ∈ st, zvr v) (hl : lv_has ls (zml y) (L.map (zcq base b))) (hd : decode (zb y) pc = .ok (.dconst k, len)) (ha : zaux y pc (.dconst k) len ia ib = true) (h : zx y (.dconst k) len ia ib pc L st σ = some (g, pc1, L1, st1, σ1)) (hg : ∀ P, g = some P → P) (hrc : cells + (σ1.2.2.2 - σ.2.2.2) ≤ R.cells) (hrs : slots + (zsz σ1.2.2.2 - zsz σ.2.2.2) ≤ R.slots)
    (kk : zK p l e R s m args below meth c cA D base b Lx xs y cells slots Q σ pc1 L1 st1 σ1) : zW p l e R s m args below meth c base b H locs cells slots Q pc ls st := by
  simp only [zx] at h
  split at h
  · simp only [Option.some.injEq, Prod.mk.injEq] at h
    obtain ⟨rfl, rfl, rfl, rfl, rfl⟩ := h
    exact lv_dconst0 C.1 C.2.1 (zlen hd ha) (zk0 kk hH hL (zcons trivial hS) hl)
  · cases h
theorem zldc_spec {o i : Nat} {v : zV} (h : zldc o i = some v) : (∃ x, v = vi x ∧ zr x ∧ Cond.constant (zR o) i (Int32.ofInt x) ∈ lw_tbl) ∨ ∃ f, v = vf f ∧ Cond.constantFloat (zR o) i f ∈ lw_tbl := by
  unfold zldc at h
  split at h
  · next q hq =>
    have h1 := List.all_eq_true.mp zki_ok q (List.mem_of_find?_eq_some hq)
    have h2 := List.find?_some hq
    simp only [Bool.and_eq_true, decide_eq_true_eq] at h1 h2
    have e1 := Nat.eq_of_beq_eq_true h2.1
    have e2 := Nat.eq_of_beq_eq_true h2.2
    subst e1; subst e2
    refine Or.inl ⟨q.2.2.1, (Option.some.inj h).symm, h1.2, List.mem_of_getElem? h1.1⟩
  · split at h
    · next q hq =>
      have h1 := List.all_eq_true.mp zkf_ok q (List.mem_of_find?_eq_some hq)
      have h2 := List.find?_some hq
      simp only [Bool.and_eq_true, decide_eq_true_eq] at h1 h2
      have e1 := Nat.eq_of_beq_eq_true h2.1
      have e2 := Nat.eq_of_beq_eq_true h2.2
      subst e1; subst e2
      exact Or.inr ⟨q.2.2.1, (Option.some.inj h).symm, List.mem_of_getElem? h1⟩
    · cases h
set_option maxHeartbeats 1000000 in
theorem zs_ldc {p : Program} {l : Launch} {e : Env} {R : Room} {s : State} {m : MethodId} {args : Array Value} {below : List Frame} {meth : Method} {c : Code} {cA : Nat → ClassId} {D : va_G} {base b Lx : Nat} {xs : Nat → Int32} {y : Nat} {H : Heap} {locs : List Loc} {cells slots : Nat} {Q : State → Prop} {ls : Array Slot} {pc len ia ib pc1 : Nat} {L L1 : zL} {st st1 : List zV} {σ σ1 : zS} {g : Option Prop} {k : Nat} (C : zCx p R s m args meth c cA D base b Lx xs y) (hH : zH cA D base b Lx xs s σ H locs cells) (hL : ∀ q ∈ L, zvr q.2) (hS : ∀ v ∈ st, zvr v) (hl : lv_has ls (zml y) (L.map (zcq base b))) (hd : decode (zb y) pc = .ok (.ldc k, len)) (ha : zaux y pc (.ldc k) len ia ib = true) (h : zx y (.ldc k) len ia ib pc L st σ = some (g, pc1, L1, st1, σ1)) (hg : ∀ P, g = some P → P) (hrc : cells + (σ1.2.2.2 - σ.2.2.2) ≤ R.cells) (hrs : slots + (zsz σ1.2.2.2 - zsz σ.2.2.2) ≤ R.slots)
    (kk : zK p l e R s m args below meth c cA D base b Lx xs y cells slots Q σ pc1 L1 st1 σ1) : zW p l e R s m args below meth c base b H locs cells slots Q pc ls st := by
  simp only [zx] at h
  simp only [zaux, Bool.and_eq_true] at ha
  split at h
  · next v hv =>
    simp only [Option.some.injEq, Prod.mk.injEq] at h
    obtain ⟨rfl, rfl, rfl, rfl, rfl⟩ := h
    rcases zldc_spec hv with ⟨x, rfl, hx, hw⟩ | ⟨f, rfl, hw⟩
    · exact lv_ldc C.1 C.2.1 C.2.2.2.1 (C.2.2.2.2.1 _ (zgood hw rfl)) (zlen hd ha.1) (zk0 kk hH hL (zcons hx hS) hl)
    · exact lv_ldcf C.1 C.2.1 C.2.2.2.1 (C.2.2.2.2.1 _ (zgood hw rfl)) (zlen hd ha.1) (zk0 kk hH hL (zcons trivial hS) hl)
  · cases h
set_option maxHeartbeats 1000000 in
theorem zs_ldc_w {p : Program} {l : Launch} {e : Env} {R : Room} {s : State} {m : MethodId} {args : Array Value} {below : List Frame} {meth : Method} {c : Code} {cA : Nat → ClassId} {D : va_G} {base b Lx : Nat} {xs : Nat → Int32} {y : Nat} {H : Heap} {locs : List Loc} {cells slots : Nat} {Q : State → Prop} {ls : Array Slot} {pc len ia ib pc1 : Nat} {L L1 : zL} {st st1 : List zV} {σ σ1 : zS} {g : Option Prop} {k : Nat} (C : zCx p R s m args meth c cA D base b Lx xs y) (hH : zH cA D base b Lx xs s σ H locs cells) (hL : ∀ q ∈ L, zvr q.2) (hS : ∀ v ∈ st, zvr v) (hl : lv_has ls (zml y) (L.map (zcq base b))) (hd : decode (zb y) pc = .ok (.ldc_w k, len)) (ha : zaux y pc (.ldc_w k) len ia ib = true) (h : zx y (.ldc_w k) len ia ib pc L st σ = some (g, pc1, L1, st1, σ1)) (hg : ∀ P, g = some P → P) (hrc : cells + (σ1.2.2.2 - σ.2.2.2) ≤ R.cells) (hrs : slots + (zsz σ1.2.2.2 - zsz σ.2.2.2) ≤ R.slots)
    (kk : zK p l e R s m args below meth c cA D base b Lx xs y cells slots Q σ pc1 L1 st1 σ1) : zW p l e R s m args below meth c base b H locs cells slots Q pc ls st := by
  simp only [zx] at h
  simp only [zaux, Bool.and_eq_true] at ha
  split at h
  · next v hv =>
    simp only [Option.some.injEq, Prod.mk.injEq] at h
    obtain ⟨rfl, rfl, rfl, rfl, rfl⟩ := h
    rcases zldc_spec hv with ⟨x, he, hx, hw⟩ | ⟨f, he, hw⟩
    · cases he
      exact lv_ldcw C.1 C.2.1 C.2.2.2.1 (C.2.2.2.2.1 _ (zgood hw rfl)) (zlen hd ha.1) (zk0 kk hH hL (zcons hx hS) hl)
    · cases he
  · cases h
set_option maxHeartbeats 1000000 in
theorem zs_iadd {p : Program} {l : Launch} {e : Env} {R : Room} {s : State} {m : MethodId} {args : Array Value} {below : List Frame} {meth : Method} {c : Code} {cA : Nat → ClassId} {D : va_G} {base b Lx : Nat} {xs : Nat → Int32} {y : Nat} {H : Heap} {locs : List Loc} {cells slots : Nat} {Q : State → Prop} {ls : Array Slot} {pc len ia ib pc1 : Nat} {L L1 : zL} {st st1 : List zV} {σ σ1 : zS} {g : Option Prop} (C : zCx p R s m args meth c cA D base b Lx xs y) (hH : zH cA D base b Lx xs s σ H locs cells) (hL : ∀ q ∈ L, zvr q.2) (hS : ∀ v ∈ st, zvr v) (hl : lv_has ls (zml y) (L.map (zcq base b))) (hd : decode (zb y) pc = .ok (.iadd, len)) (ha : zaux y pc (.iadd) len ia ib = true) (h : zx y (.iadd) len ia ib pc L st σ = some (g, pc1, L1, st1, σ1)) (hg : ∀ P, g = some P → P) (hrc : cells + (σ1.2.2.2 - σ.2.2.2) ≤ R.cells) (hrs : slots + (zsz σ1.2.2.2 - zsz σ.2.2.2) ≤ R.slots)
    (kk : zK p l e R s m args below meth c cA D base b Lx xs y cells slots Q σ pc1 L1 st1 σ1) : zW p l e R s m args below meth c base b H locs cells slots Q pc ls st := by
  simp only [zx] at h
  split at h
  · next q p r =>
    simp only [Option.some.injEq, Prod.mk.injEq] at h
    obtain ⟨rfl, rfl, rfl, rfl, rfl⟩ := h
    refine lv_iadd C.1 C.2.1 (zlen hd ha) ?_
    rw [← Int32.ofInt_add]
    exact zk0 kk hH hL (zcons (hg _ rfl) (zct (zct hS))) hl
  · cases h
set_option maxHeartbeats 1000000 in
theorem zs_isub {p : Program} {l : Launch} {e : Env} {R : Room} {s : State} {m : MethodId} {args : Array Value} {below : List Frame} {meth : Method} {c : Code} {cA : Nat → ClassId} {D : va_G} {base b Lx : Nat} {xs : Nat → Int32} {y : Nat} {H : Heap} {locs : List Loc} {cells slots : Nat} {Q : State → Prop} {ls : Array Slot} {pc len ia ib pc1 : Nat} {L L1 : zL} {st st1 : List zV} {σ σ1 : zS} {g : Option Prop} (C : zCx p R s m args meth c cA D base b Lx xs y) (hH : zH cA D base b Lx xs s σ H locs cells) (hL : ∀ q ∈ L, zvr q.2) (hS : ∀ v ∈ st, zvr v) (hl : lv_has ls (zml y) (L.map (zcq base b))) (hd : decode (zb y) pc = .ok (.isub, len)) (ha : zaux y pc (.isub) len ia ib = true) (h : zx y (.isub) len ia ib pc L st σ = some (g, pc1, L1, st1, σ1)) (hg : ∀ P, g = some P → P) (hrc : cells + (σ1.2.2.2 - σ.2.2.2) ≤ R.cells) (hrs : slots + (zsz σ1.2.2.2 - zsz σ.2.2.2) ≤ R.slots)
    (kk : zK p l e R s m args below meth c cA D base b Lx xs y cells slots Q σ pc1 L1 st1 σ1) : zW p l e R s m args below meth c base b H locs cells slots Q pc ls st := by
  simp only [zx] at h
  split at h
  · next q p r =>
    simp only [Option.some.injEq, Prod.mk.injEq] at h
    obtain ⟨rfl, rfl, rfl, rfl, rfl⟩ := h
    refine lv_isub C.1 C.2.1 (zlen hd ha) ?_
    rw [← Int32.ofInt_sub]
    exact zk0 kk hH hL (zcons (hg _ rfl) (zct (zct hS))) hl
  · cases h
set_option maxHeartbeats 1000000 in
theorem zs_imul {p : Program} {l : Launch} {e : Env} {R : Room} {s : State} {m : MethodId} {args : Array Value} {below : List Frame} {meth : Method} {c : Code} {cA : Nat → ClassId} {D : va_G} {base b Lx : Nat} {xs : Nat → Int32} {y : Nat} {H : Heap} {locs : List Loc} {cells slots : Nat} {Q : State → Prop} {ls : Array Slot} {pc len ia ib pc1 : Nat} {L L1 : zL} {st st1 : List zV} {σ σ1 : zS} {g : Option Prop} (C : zCx p R s m args meth c cA D base b Lx xs y) (hH : zH cA D base b Lx xs s σ H locs cells) (hL : ∀ q ∈ L, zvr q.2) (hS : ∀ v ∈ st, zvr v) (hl : lv_has ls (zml y) (L.map (zcq base b))) (hd : decode (zb y) pc = .ok (.imul, len)) (ha : zaux y pc (.imul) len ia ib = true) (h : zx y (.imul) len ia ib pc L st σ = some (g, pc1, L1, st1, σ1)) (hg : ∀ P, g = some P → P) (hrc : cells + (σ1.2.2.2 - σ.2.2.2) ≤ R.cells) (hrs : slots + (zsz σ1.2.2.2 - zsz σ.2.2.2) ≤ R.slots)
    (kk : zK p l e R s m args below meth c cA D base b Lx xs y cells slots Q σ pc1 L1 st1 σ1) : zW p l e R s m args below meth c base b H locs cells slots Q pc ls st := by
  simp only [zx] at h
  split at h
  · next q p r =>
    simp only [Option.some.injEq, Prod.mk.injEq] at h
    obtain ⟨rfl, rfl, rfl, rfl, rfl⟩ := h
    refine lv_imul C.1 C.2.1 (zlen hd ha) ?_
    rw [← Int32.ofInt_mul]
    exact zk0 kk hH hL (zcons (hg _ rfl) (zct (zct hS))) hl
  · cases h
theorem z_div {p q : Int} (hp : zr p) (hq : zr q) (h0 : 0 ≤ p) (h1 : 0 < q) : Int32.ofInt p / Int32.ofInt q = Int32.ofInt (p / q) ∧ zr (p / q) ∧ ¬ Int32.ofInt q = 0 := by
  obtain ⟨a, rfl⟩ : ∃ a : Nat, p = a := ⟨p.toNat, by omega⟩
  obtain ⟨d, rfl⟩ : ∃ d : Nat, q = d := ⟨q.toNat, by omega⟩
  have e := pk_div (a := a) (d := d) (by have := hp.2; omega) (by omega) (by have := hq.2; omega)
  have hle : (a : Int) / d ≤ a := Int.ediv_le_self _ (by omega)
  have hge : (0 : Int) ≤ (a : Int) / d := Int.ediv_nonneg (by omega) (by omega)
  refine ⟨?_, ⟨by omega, by have := hp.2; omega⟩, ?_⟩
  · show nI a / nI d = _
    rw [e]
    rfl
  · exact nI_ne0 (by omega) (by have := hq.2; omega)
set_option maxHeartbeats 1000000 in
theorem zs_idiv {p : Program} {l : Launch} {e : Env} {R : Room} {s : State} {m : MethodId} {args : Array Value} {below : List Frame} {meth : Method} {c : Code} {cA : Nat → ClassId} {D : va_G} {base b Lx : Nat} {xs : Nat → Int32} {y : Nat} {H : Heap} {locs : List Loc} {cells slots : Nat} {Q : State → Prop} {ls : Array Slot} {pc len ia ib pc1 : Nat} {L L1 : zL} {st st1 : List zV} {σ σ1 : zS} {g : Option Prop} (C : zCx p R s m args meth c cA D base b Lx xs y) (hH : zH cA D base b Lx xs s σ H locs cells) (hL : ∀ q ∈ L, zvr q.2) (hS : ∀ v ∈ st, zvr v) (hl : lv_has ls (zml y) (L.map (zcq base b))) (hd : decode (zb y) pc = .ok (.idiv, len)) (ha : zaux y pc (.idiv) len ia ib = true) (h : zx y (.idiv) len ia ib pc L st σ = some (g, pc1, L1, st1, σ1)) (hg : ∀ P, g = some P → P) (hrc : cells + (σ1.2.2.2 - σ.2.2.2) ≤ R.cells) (hrs : slots + (zsz σ1.2.2.2 - zsz σ.2.2.2) ≤ R.slots)
    (kk : zK p l e R s m args below meth c cA D base b Lx xs y cells slots Q σ pc1 L1 st1 σ1) : zW p l e R s m args below meth c base b H locs cells slots Q pc ls st := by
  simp only [zx] at h
  split at h
  · next q p r =>
    simp only [Option.some.injEq, Prod.mk.injEq] at h
    obtain ⟨rfl, rfl, rfl, rfl, rfl⟩ := h
    obtain ⟨h1, h2, h3⟩ := z_div (zch (zct hS)) (zch hS) (hg _ rfl).1 (hg _ rfl).2
    refine lv_idiv C.1 C.2.1 (zlen hd ha) h3 ?_
    rw [h1]
    exact zk0 kk hH hL (zcons h2 (zct (zct hS))) hl
  · cases h
theorem z_rem {p q : Int} (hp : zr p) (hq : zr q) (h0 : 0 ≤ p) (h1 : 0 < q) : Int32.ofInt p - Int32.ofInt p / Int32.ofInt q * Int32.ofInt q = Int32.ofInt (p % q) ∧ zr (p % q) ∧ ¬ Int32.ofInt q = 0 := by
  obtain ⟨a, rfl⟩ : ∃ a : Nat, p = a := ⟨p.toNat, by omega⟩
  obtain ⟨d, rfl⟩ : ∃ d : Nat, q = d := ⟨q.toNat, by omega⟩
  have e := pk_rem (a := a) (d := d) (by have := hp.2; omega) (by omega) (by have := hq.2; omega)
  have hle : (a : Int) % d < d := Int.emod_lt_of_pos _ (by omega)
  have hge : (0 : Int) ≤ (a : Int) % d := Int.emod_nonneg _ (by omega)
  refine ⟨?_, ⟨by omega, by have := hq.2; omega⟩, ?_⟩
  · show nI a - nI a / nI d * nI d = _
    rw [e]
    rfl
  · exact nI_ne0 (by omega) (by have := hq.2; omega)
set_option maxHeartbeats 1000000 in
theorem zs_irem {p : Program} {l : Launch} {e : Env} {R : Room} {s : State} {m : MethodId} {args : Array Value} {below : List Frame} {meth : Method} {c : Code} {cA : Nat → ClassId} {D : va_G} {base b Lx : Nat} {xs : Nat → Int32} {y : Nat} {H : Heap} {locs : List Loc} {cells slots : Nat} {Q : State → Prop} {ls : Array Slot} {pc len ia ib pc1 : Nat} {L L1 : zL} {st st1 : List zV} {σ σ1 : zS} {g : Option Prop} (C : zCx p R s m args meth c cA D base b Lx xs y) (hH : zH cA D base b Lx xs s σ H locs cells) (hL : ∀ q ∈ L, zvr q.2) (hS : ∀ v ∈ st, zvr v) (hl : lv_has ls (zml y) (L.map (zcq base b))) (hd : decode (zb y) pc = .ok (.irem, len)) (ha : zaux y pc (.irem) len ia ib = true) (h : zx y (.irem) len ia ib pc L st σ = some (g, pc1, L1, st1, σ1)) (hg : ∀ P, g = some P → P) (hrc : cells + (σ1.2.2.2 - σ.2.2.2) ≤ R.cells) (hrs : slots + (zsz σ1.2.2.2 - zsz σ.2.2.2) ≤ R.slots)
    (kk : zK p l e R s m args below meth c cA D base b Lx xs y cells slots Q σ pc1 L1 st1 σ1) : zW p l e R s m args below meth c base b H locs cells slots Q pc ls st := by
  simp only [zx] at h
  split at h
  · next q p r =>
    simp only [Option.some.injEq, Prod.mk.injEq] at h
    obtain ⟨rfl, rfl, rfl, rfl, rfl⟩ := h
    obtain ⟨h1, h2, h3⟩ := z_rem (zch (zct hS)) (zch hS) (hg _ rfl).1 (hg _ rfl).2
    refine lv_irem C.1 C.2.1 (zlen hd ha) h3 ?_
    rw [h1]
    exact zk0 kk hH hL (zcons h2 (zct (zct hS))) hl
  · cases h
set_option maxHeartbeats 1000000 in
theorem zs_ishl {p : Program} {l : Launch} {e : Env} {R : Room} {s : State} {m : MethodId} {args : Array Value} {below : List Frame} {meth : Method} {c : Code} {cA : Nat → ClassId} {D : va_G} {base b Lx : Nat} {xs : Nat → Int32} {y : Nat} {H : Heap} {locs : List Loc} {cells slots : Nat} {Q : State → Prop} {ls : Array Slot} {pc len ia ib pc1 : Nat} {L L1 : zL} {st st1 : List zV} {σ σ1 : zS} {g : Option Prop} (C : zCx p R s m args meth c cA D base b Lx xs y) (hH : zH cA D base b Lx xs s σ H locs cells) (hL : ∀ q ∈ L, zvr q.2) (hS : ∀ v ∈ st, zvr v) (hl : lv_has ls (zml y) (L.map (zcq base b))) (hd : decode (zb y) pc = .ok (.ishl, len)) (ha : zaux y pc (.ishl) len ia ib = true) (h : zx y (.ishl) len ia ib pc L st σ = some (g, pc1, L1, st1, σ1)) (hg : ∀ P, g = some P → P) (hrc : cells + (σ1.2.2.2 - σ.2.2.2) ≤ R.cells) (hrs : slots + (zsz σ1.2.2.2 - zsz σ.2.2.2) ≤ R.slots)
    (kk : zK p l e R s m args below meth c cA D base b Lx xs y cells slots Q σ pc1 L1 st1 σ1) : zW p l e R s m args below meth c base b H locs cells slots Q pc ls st := by
  simp only [zx] at h
  split at h
  · next q p r =>
    simp only [Option.some.injEq, Prod.mk.injEq] at h
    obtain ⟨rfl, rfl, rfl, rfl, rfl⟩ := h
    refine lv_ishl C.1 C.2.1 (zlen hd ha) ?_
    have kk2 := zk0 kk hH hL (zcons (zr_of _) (zct (zct hS))) hl
    simp only [zW, List.map_cons, zcv, zit] at kk2
    exact kk2
  · cases h
set_option maxHeartbeats 1000000 in
theorem zs_ishr {p : Program} {l : Launch} {e : Env} {R : Room} {s : State} {m : MethodId} {args : Array Value} {below : List Frame} {meth : Method} {c : Code} {cA : Nat → ClassId} {D : va_G} {base b Lx : Nat} {xs : Nat → Int32} {y : Nat} {H : Heap} {locs : List Loc} {cells slots : Nat} {Q : State → Prop} {ls : Array Slot} {pc len ia ib pc1 : Nat} {L L1 : zL} {st st1 : List zV} {σ σ1 : zS} {g : Option Prop} (C : zCx p R s m args meth c cA D base b Lx xs y) (hH : zH cA D base b Lx xs s σ H locs cells) (hL : ∀ q ∈ L, zvr q.2) (hS : ∀ v ∈ st, zvr v) (hl : lv_has ls (zml y) (L.map (zcq base b))) (hd : decode (zb y) pc = .ok (.ishr, len)) (ha : zaux y pc (.ishr) len ia ib = true) (h : zx y (.ishr) len ia ib pc L st σ = some (g, pc1, L1, st1, σ1)) (hg : ∀ P, g = some P → P) (hrc : cells + (σ1.2.2.2 - σ.2.2.2) ≤ R.cells) (hrs : slots + (zsz σ1.2.2.2 - zsz σ.2.2.2) ≤ R.slots)
    (kk : zK p l e R s m args below meth c cA D base b Lx xs y cells slots Q σ pc1 L1 st1 σ1) : zW p l e R s m args below meth c base b H locs cells slots Q pc ls st := by
  simp only [zx] at h
  split at h
  · next q p r =>
    simp only [Option.some.injEq, Prod.mk.injEq] at h
    obtain ⟨rfl, rfl, rfl, rfl, rfl⟩ := h
    refine lv_ishr C.1 C.2.1 (zlen hd ha) ?_
    have kk2 := zk0 kk hH hL (zcons (zr_of _) (zct (zct hS))) hl
    simp only [zW, List.map_cons, zcv, zit] at kk2
    exact kk2
  · cases h
set_option maxHeartbeats 1000000 in
theorem zs_iushr {p : Program} {l : Launch} {e : Env} {R : Room} {s : State} {m : MethodId} {args : Array Value} {below : List Frame} {meth : Method} {c : Code} {cA : Nat → ClassId} {D : va_G} {base b Lx : Nat} {xs : Nat → Int32} {y : Nat} {H : Heap} {locs : List Loc} {cells slots : Nat} {Q : State → Prop} {ls : Array Slot} {pc len ia ib pc1 : Nat} {L L1 : zL} {st st1 : List zV} {σ σ1 : zS} {g : Option Prop} (C : zCx p R s m args meth c cA D base b Lx xs y) (hH : zH cA D base b Lx xs s σ H locs cells) (hL : ∀ q ∈ L, zvr q.2) (hS : ∀ v ∈ st, zvr v) (hl : lv_has ls (zml y) (L.map (zcq base b))) (hd : decode (zb y) pc = .ok (.iushr, len)) (ha : zaux y pc (.iushr) len ia ib = true) (h : zx y (.iushr) len ia ib pc L st σ = some (g, pc1, L1, st1, σ1)) (hg : ∀ P, g = some P → P) (hrc : cells + (σ1.2.2.2 - σ.2.2.2) ≤ R.cells) (hrs : slots + (zsz σ1.2.2.2 - zsz σ.2.2.2) ≤ R.slots)
    (kk : zK p l e R s m args below meth c cA D base b Lx xs y cells slots Q σ pc1 L1 st1 σ1) : zW p l e R s m args below meth c base b H locs cells slots Q pc ls st := by
  simp only [zx] at h
  split at h
  · next q p r =>
    simp only [Option.some.injEq, Prod.mk.injEq] at h
    obtain ⟨rfl, rfl, rfl, rfl, rfl⟩ := h
    refine lv_iushr C.1 C.2.1 (zlen hd ha) rfl ?_
    have kk2 := zk0 kk hH hL (zcons (zr_of _) (zct (zct hS))) hl
    simp only [zW, List.map_cons, zcv, zit] at kk2
    exact kk2
  · cases h
set_option maxHeartbeats 1000000 in
theorem zs_ior {p : Program} {l : Launch} {e : Env} {R : Room} {s : State} {m : MethodId} {args : Array Value} {below : List Frame} {meth : Method} {c : Code} {cA : Nat → ClassId} {D : va_G} {base b Lx : Nat} {xs : Nat → Int32} {y : Nat} {H : Heap} {locs : List Loc} {cells slots : Nat} {Q : State → Prop} {ls : Array Slot} {pc len ia ib pc1 : Nat} {L L1 : zL} {st st1 : List zV} {σ σ1 : zS} {g : Option Prop} (C : zCx p R s m args meth c cA D base b Lx xs y) (hH : zH cA D base b Lx xs s σ H locs cells) (hL : ∀ q ∈ L, zvr q.2) (hS : ∀ v ∈ st, zvr v) (hl : lv_has ls (zml y) (L.map (zcq base b))) (hd : decode (zb y) pc = .ok (.ior, len)) (ha : zaux y pc (.ior) len ia ib = true) (h : zx y (.ior) len ia ib pc L st σ = some (g, pc1, L1, st1, σ1)) (hg : ∀ P, g = some P → P) (hrc : cells + (σ1.2.2.2 - σ.2.2.2) ≤ R.cells) (hrs : slots + (zsz σ1.2.2.2 - zsz σ.2.2.2) ≤ R.slots)
    (kk : zK p l e R s m args below meth c cA D base b Lx xs y cells slots Q σ pc1 L1 st1 σ1) : zW p l e R s m args below meth c base b H locs cells slots Q pc ls st := by
  simp only [zx] at h
  split at h
  · next q p r =>
    simp only [Option.some.injEq, Prod.mk.injEq] at h
    obtain ⟨rfl, rfl, rfl, rfl, rfl⟩ := h
    refine lv_ior C.1 C.2.1 (zlen hd ha) ?_
    have kk2 := zk0 kk hH hL (zcons (zr_of _) (zct (zct hS))) hl
    simp only [zW, List.map_cons, zcv, zit] at kk2
    exact kk2
  · cases h
set_option maxHeartbeats 1000000 in
theorem zs_iand {p : Program} {l : Launch} {e : Env} {R : Room} {s : State} {m : MethodId} {args : Array Value} {below : List Frame} {meth : Method} {c : Code} {cA : Nat → ClassId} {D : va_G} {base b Lx : Nat} {xs : Nat → Int32} {y : Nat} {H : Heap} {locs : List Loc} {cells slots : Nat} {Q : State → Prop} {ls : Array Slot} {pc len ia ib pc1 : Nat} {L L1 : zL} {st st1 : List zV} {σ σ1 : zS} {g : Option Prop} (C : zCx p R s m args meth c cA D base b Lx xs y) (hH : zH cA D base b Lx xs s σ H locs cells) (hL : ∀ q ∈ L, zvr q.2) (hS : ∀ v ∈ st, zvr v) (hl : lv_has ls (zml y) (L.map (zcq base b))) (hd : decode (zb y) pc = .ok (.iand, len)) (ha : zaux y pc (.iand) len ia ib = true) (h : zx y (.iand) len ia ib pc L st σ = some (g, pc1, L1, st1, σ1)) (hg : ∀ P, g = some P → P) (hrc : cells + (σ1.2.2.2 - σ.2.2.2) ≤ R.cells) (hrs : slots + (zsz σ1.2.2.2 - zsz σ.2.2.2) ≤ R.slots)
    (kk : zK p l e R s m args below meth c cA D base b Lx xs y cells slots Q σ pc1 L1 st1 σ1) : zW p l e R s m args below meth c base b H locs cells slots Q pc ls st := by
  simp only [zx] at h
  split at h
  · next q p r =>
    simp only [Option.some.injEq, Prod.mk.injEq] at h
    obtain ⟨rfl, rfl, rfl, rfl, rfl⟩ := h
    refine lv_iand C.1 C.2.1 (zlen hd ha) ?_
    have kk2 := zk0 kk hH hL (zcons (zr_of _) (zct (zct hS))) hl
    simp only [zW, List.map_cons, zcv, zit] at kk2
    exact kk2
  · cases h
theorem z_i2c {p : Int} (h0 : 0 ≤ p) (h1 : p ≤ 65535) : ((Int32.ofInt p).toUInt32 % 65536).toInt32 = Int32.ofInt p := by
  obtain ⟨a, rfl⟩ : ∃ a : Nat, p = a := ⟨p.toNat, by omega⟩
  show ((nI a).toUInt32 % 65536).toInt32 = nI a
  rw [pk_char, pk_tn (by omega), Nat.mod_eq_of_lt (by omega)]
set_option maxHeartbeats 1000000 in
theorem zs_i2c {p : Program} {l : Launch} {e : Env} {R : Room} {s : State} {m : MethodId} {args : Array Value} {below : List Frame} {meth : Method} {c : Code} {cA : Nat → ClassId} {D : va_G} {base b Lx : Nat} {xs : Nat → Int32} {y : Nat} {H : Heap} {locs : List Loc} {cells slots : Nat} {Q : State → Prop} {ls : Array Slot} {pc len ia ib pc1 : Nat} {L L1 : zL} {st st1 : List zV} {σ σ1 : zS} {g : Option Prop} (C : zCx p R s m args meth c cA D base b Lx xs y) (hH : zH cA D base b Lx xs s σ H locs cells) (hL : ∀ q ∈ L, zvr q.2) (hS : ∀ v ∈ st, zvr v) (hl : lv_has ls (zml y) (L.map (zcq base b))) (hd : decode (zb y) pc = .ok (.i2c, len)) (ha : zaux y pc (.i2c) len ia ib = true) (h : zx y (.i2c) len ia ib pc L st σ = some (g, pc1, L1, st1, σ1)) (hg : ∀ P, g = some P → P) (hrc : cells + (σ1.2.2.2 - σ.2.2.2) ≤ R.cells) (hrs : slots + (zsz σ1.2.2.2 - zsz σ.2.2.2) ≤ R.slots)
    (kk : zK p l e R s m args below meth c cA D base b Lx xs y cells slots Q σ pc1 L1 st1 σ1) : zW p l e R s m args below meth c base b H locs cells slots Q pc ls st := by
  simp only [zx] at h
  split at h
  · next p r =>
    simp only [Option.some.injEq, Prod.mk.injEq] at h
    obtain ⟨rfl, rfl, rfl, rfl, rfl⟩ := h
    have h1 := hg _ rfl
    exact lv_i2c C.1 C.2.1 (zlen hd ha) (z_i2c h1.1 h1.2) (zk0 kk hH hL (zcons (zch hS) (zct hS)) hl)
  · cases h
set_option maxHeartbeats 1000000 in
theorem zs_i2d {p : Program} {l : Launch} {e : Env} {R : Room} {s : State} {m : MethodId} {args : Array Value} {below : List Frame} {meth : Method} {c : Code} {cA : Nat → ClassId} {D : va_G} {base b Lx : Nat} {xs : Nat → Int32} {y : Nat} {H : Heap} {locs : List Loc} {cells slots : Nat} {Q : State → Prop} {ls : Array Slot} {pc len ia ib pc1 : Nat} {L L1 : zL} {st st1 : List zV} {σ σ1 : zS} {g : Option Prop} (C : zCx p R s m args meth c cA D base b Lx xs y) (hH : zH cA D base b Lx xs s σ H locs cells) (hL : ∀ q ∈ L, zvr q.2) (hS : ∀ v ∈ st, zvr v) (hl : lv_has ls (zml y) (L.map (zcq base b))) (hd : decode (zb y) pc = .ok (.i2d, len)) (ha : zaux y pc (.i2d) len ia ib = true) (h : zx y (.i2d) len ia ib pc L st σ = some (g, pc1, L1, st1, σ1)) (hg : ∀ P, g = some P → P) (hrc : cells + (σ1.2.2.2 - σ.2.2.2) ≤ R.cells) (hrs : slots + (zsz σ1.2.2.2 - zsz σ.2.2.2) ≤ R.slots)
    (kk : zK p l e R s m args below meth c cA D base b Lx xs y cells slots Q σ pc1 L1 st1 σ1) : zW p l e R s m args below meth c base b H locs cells slots Q pc ls st := by
  simp only [zx] at h
  split at h
  · next p r =>
    simp only [Option.some.injEq, Prod.mk.injEq] at h
    obtain ⟨rfl, rfl, rfl, rfl, rfl⟩ := h
    exact lv_i2d C.1 C.2.1 (zlen hd ha) (zk0 kk hH hL (zcons trivial (zct hS)) hl)
  · cases h
set_option maxHeartbeats 1000000 in
theorem zs_d2f {p : Program} {l : Launch} {e : Env} {R : Room} {s : State} {m : MethodId} {args : Array Value} {below : List Frame} {meth : Method} {c : Code} {cA : Nat → ClassId} {D : va_G} {base b Lx : Nat} {xs : Nat → Int32} {y : Nat} {H : Heap} {locs : List Loc} {cells slots : Nat} {Q : State → Prop} {ls : Array Slot} {pc len ia ib pc1 : Nat} {L L1 : zL} {st st1 : List zV} {σ σ1 : zS} {g : Option Prop} (C : zCx p R s m args meth c cA D base b Lx xs y) (hH : zH cA D base b Lx xs s σ H locs cells) (hL : ∀ q ∈ L, zvr q.2) (hS : ∀ v ∈ st, zvr v) (hl : lv_has ls (zml y) (L.map (zcq base b))) (hd : decode (zb y) pc = .ok (.d2f, len)) (ha : zaux y pc (.d2f) len ia ib = true) (h : zx y (.d2f) len ia ib pc L st σ = some (g, pc1, L1, st1, σ1)) (hg : ∀ P, g = some P → P) (hrc : cells + (σ1.2.2.2 - σ.2.2.2) ≤ R.cells) (hrs : slots + (zsz σ1.2.2.2 - zsz σ.2.2.2) ≤ R.slots)
    (kk : zK p l e R s m args below meth c cA D base b Lx xs y cells slots Q σ pc1 L1 st1 σ1) : zW p l e R s m args below meth c base b H locs cells slots Q pc ls st := by
  simp only [zx] at h
  split at h
  · next p r =>
    simp only [Option.some.injEq, Prod.mk.injEq] at h
    obtain ⟨rfl, rfl, rfl, rfl, rfl⟩ := h
    exact lv_d2f C.1 C.2.1 (zlen hd ha) (hg _ rfl) (zk0 kk hH hL (zcons trivial (zct hS)) hl)
  · cases h
set_option maxHeartbeats 1000000 in
theorem zs_fneg {p : Program} {l : Launch} {e : Env} {R : Room} {s : State} {m : MethodId} {args : Array Value} {below : List Frame} {meth : Method} {c : Code} {cA : Nat → ClassId} {D : va_G} {base b Lx : Nat} {xs : Nat → Int32} {y : Nat} {H : Heap} {locs : List Loc} {cells slots : Nat} {Q : State → Prop} {ls : Array Slot} {pc len ia ib pc1 : Nat} {L L1 : zL} {st st1 : List zV} {σ σ1 : zS} {g : Option Prop} (C : zCx p R s m args meth c cA D base b Lx xs y) (hH : zH cA D base b Lx xs s σ H locs cells) (hL : ∀ q ∈ L, zvr q.2) (hS : ∀ v ∈ st, zvr v) (hl : lv_has ls (zml y) (L.map (zcq base b))) (hd : decode (zb y) pc = .ok (.fneg, len)) (ha : zaux y pc (.fneg) len ia ib = true) (h : zx y (.fneg) len ia ib pc L st σ = some (g, pc1, L1, st1, σ1)) (hg : ∀ P, g = some P → P) (hrc : cells + (σ1.2.2.2 - σ.2.2.2) ≤ R.cells) (hrs : slots + (zsz σ1.2.2.2 - zsz σ.2.2.2) ≤ R.slots)
    (kk : zK p l e R s m args below meth c cA D base b Lx xs y cells slots Q σ pc1 L1 st1 σ1) : zW p l e R s m args below meth c base b H locs cells slots Q pc ls st := by
  simp only [zx] at h
  split at h
  · next p r =>
    simp only [Option.some.injEq, Prod.mk.injEq] at h
    obtain ⟨rfl, rfl, rfl, rfl, rfl⟩ := h
    exact lv_fneg C.1 C.2.1 (zlen hd ha) (zk0 kk hH hL (zcons trivial (zct hS)) hl)
  · cases h
set_option maxHeartbeats 1000000 in
theorem zs_ddiv {p : Program} {l : Launch} {e : Env} {R : Room} {s : State} {m : MethodId} {args : Array Value} {below : List Frame} {meth : Method} {c : Code} {cA : Nat → ClassId} {D : va_G} {base b Lx : Nat} {xs : Nat → Int32} {y : Nat} {H : Heap} {locs : List Loc} {cells slots : Nat} {Q : State → Prop} {ls : Array Slot} {pc len ia ib pc1 : Nat} {L L1 : zL} {st st1 : List zV} {σ σ1 : zS} {g : Option Prop} (C : zCx p R s m args meth c cA D base b Lx xs y) (hH : zH cA D base b Lx xs s σ H locs cells) (hL : ∀ q ∈ L, zvr q.2) (hS : ∀ v ∈ st, zvr v) (hl : lv_has ls (zml y) (L.map (zcq base b))) (hd : decode (zb y) pc = .ok (.ddiv, len)) (ha : zaux y pc (.ddiv) len ia ib = true) (h : zx y (.ddiv) len ia ib pc L st σ = some (g, pc1, L1, st1, σ1)) (hg : ∀ P, g = some P → P) (hrc : cells + (σ1.2.2.2 - σ.2.2.2) ≤ R.cells) (hrs : slots + (zsz σ1.2.2.2 - zsz σ.2.2.2) ≤ R.slots)
    (kk : zK p l e R s m args below meth c cA D base b Lx xs y cells slots Q σ pc1 L1 st1 σ1) : zW p l e R s m args below meth c base b H locs cells slots Q pc ls st := by
  simp only [zx] at h
  split at h
  · next q p r =>
    simp only [Option.some.injEq, Prod.mk.injEq] at h
    obtain ⟨rfl, rfl, rfl, rfl, rfl⟩ := h
    exact lv_ddiv C.1 C.2.1 (zlen hd ha) (hg _ rfl) (zk0 kk hH hL (zcons trivial (zct (zct hS))) hl)
  · cases h
set_option maxHeartbeats 1000000 in
theorem zs_dmul {p : Program} {l : Launch} {e : Env} {R : Room} {s : State} {m : MethodId} {args : Array Value} {below : List Frame} {meth : Method} {c : Code} {cA : Nat → ClassId} {D : va_G} {base b Lx : Nat} {xs : Nat → Int32} {y : Nat} {H : Heap} {locs : List Loc} {cells slots : Nat} {Q : State → Prop} {ls : Array Slot} {pc len ia ib pc1 : Nat} {L L1 : zL} {st st1 : List zV} {σ σ1 : zS} {g : Option Prop} (C : zCx p R s m args meth c cA D base b Lx xs y) (hH : zH cA D base b Lx xs s σ H locs cells) (hL : ∀ q ∈ L, zvr q.2) (hS : ∀ v ∈ st, zvr v) (hl : lv_has ls (zml y) (L.map (zcq base b))) (hd : decode (zb y) pc = .ok (.dmul, len)) (ha : zaux y pc (.dmul) len ia ib = true) (h : zx y (.dmul) len ia ib pc L st σ = some (g, pc1, L1, st1, σ1)) (hg : ∀ P, g = some P → P) (hrc : cells + (σ1.2.2.2 - σ.2.2.2) ≤ R.cells) (hrs : slots + (zsz σ1.2.2.2 - zsz σ.2.2.2) ≤ R.slots)
    (kk : zK p l e R s m args below meth c cA D base b Lx xs y cells slots Q σ pc1 L1 st1 σ1) : zW p l e R s m args below meth c base b H locs cells slots Q pc ls st := by
  simp only [zx] at h
  split at h
  · next q p r =>
    simp only [Option.some.injEq, Prod.mk.injEq] at h
    obtain ⟨rfl, rfl, rfl, rfl, rfl⟩ := h
    exact lv_dmul C.1 C.2.1 (zlen hd ha) (hg _ rfl) (zk0 kk hH hL (zcons trivial (zct (zct hS))) hl)
  · cases h
set_option maxHeartbeats 1000000 in
theorem zs_dsub {p : Program} {l : Launch} {e : Env} {R : Room} {s : State} {m : MethodId} {args : Array Value} {below : List Frame} {meth : Method} {c : Code} {cA : Nat → ClassId} {D : va_G} {base b Lx : Nat} {xs : Nat → Int32} {y : Nat} {H : Heap} {locs : List Loc} {cells slots : Nat} {Q : State → Prop} {ls : Array Slot} {pc len ia ib pc1 : Nat} {L L1 : zL} {st st1 : List zV} {σ σ1 : zS} {g : Option Prop} (C : zCx p R s m args meth c cA D base b Lx xs y) (hH : zH cA D base b Lx xs s σ H locs cells) (hL : ∀ q ∈ L, zvr q.2) (hS : ∀ v ∈ st, zvr v) (hl : lv_has ls (zml y) (L.map (zcq base b))) (hd : decode (zb y) pc = .ok (.dsub, len)) (ha : zaux y pc (.dsub) len ia ib = true) (h : zx y (.dsub) len ia ib pc L st σ = some (g, pc1, L1, st1, σ1)) (hg : ∀ P, g = some P → P) (hrc : cells + (σ1.2.2.2 - σ.2.2.2) ≤ R.cells) (hrs : slots + (zsz σ1.2.2.2 - zsz σ.2.2.2) ≤ R.slots)
    (kk : zK p l e R s m args below meth c cA D base b Lx xs y cells slots Q σ pc1 L1 st1 σ1) : zW p l e R s m args below meth c base b H locs cells slots Q pc ls st := by
  simp only [zx] at h
  split at h
  · next q p r =>
    simp only [Option.some.injEq, Prod.mk.injEq] at h
    obtain ⟨rfl, rfl, rfl, rfl, rfl⟩ := h
    exact lv_dsub C.1 C.2.1 (zlen hd ha) (hg _ rfl) (zk0 kk hH hL (zcons trivial (zct (zct hS))) hl)
  · cases h
set_option maxHeartbeats 1000000 in
theorem zs_fdiv {p : Program} {l : Launch} {e : Env} {R : Room} {s : State} {m : MethodId} {args : Array Value} {below : List Frame} {meth : Method} {c : Code} {cA : Nat → ClassId} {D : va_G} {base b Lx : Nat} {xs : Nat → Int32} {y : Nat} {H : Heap} {locs : List Loc} {cells slots : Nat} {Q : State → Prop} {ls : Array Slot} {pc len ia ib pc1 : Nat} {L L1 : zL} {st st1 : List zV} {σ σ1 : zS} {g : Option Prop} (C : zCx p R s m args meth c cA D base b Lx xs y) (hH : zH cA D base b Lx xs s σ H locs cells) (hL : ∀ q ∈ L, zvr q.2) (hS : ∀ v ∈ st, zvr v) (hl : lv_has ls (zml y) (L.map (zcq base b))) (hd : decode (zb y) pc = .ok (.fdiv, len)) (ha : zaux y pc (.fdiv) len ia ib = true) (h : zx y (.fdiv) len ia ib pc L st σ = some (g, pc1, L1, st1, σ1)) (hg : ∀ P, g = some P → P) (hrc : cells + (σ1.2.2.2 - σ.2.2.2) ≤ R.cells) (hrs : slots + (zsz σ1.2.2.2 - zsz σ.2.2.2) ≤ R.slots)
    (kk : zK p l e R s m args below meth c cA D base b Lx xs y cells slots Q σ pc1 L1 st1 σ1) : zW p l e R s m args below meth c base b H locs cells slots Q pc ls st := by
  simp only [zx] at h
  split at h
  · next q p r =>
    simp only [Option.some.injEq, Prod.mk.injEq] at h
    obtain ⟨rfl, rfl, rfl, rfl, rfl⟩ := h
    exact lv_fdiv C.1 C.2.1 (zlen hd ha) (hg _ rfl) (zk0 kk hH hL (zcons trivial (zct (zct hS))) hl)
  · cases h
set_option maxHeartbeats 1000000 in
theorem zs_fmul {p : Program} {l : Launch} {e : Env} {R : Room} {s : State} {m : MethodId} {args : Array Value} {below : List Frame} {meth : Method} {c : Code} {cA : Nat → ClassId} {D : va_G} {base b Lx : Nat} {xs : Nat → Int32} {y : Nat} {H : Heap} {locs : List Loc} {cells slots : Nat} {Q : State → Prop} {ls : Array Slot} {pc len ia ib pc1 : Nat} {L L1 : zL} {st st1 : List zV} {σ σ1 : zS} {g : Option Prop} (C : zCx p R s m args meth c cA D base b Lx xs y) (hH : zH cA D base b Lx xs s σ H locs cells) (hL : ∀ q ∈ L, zvr q.2) (hS : ∀ v ∈ st, zvr v) (hl : lv_has ls (zml y) (L.map (zcq base b))) (hd : decode (zb y) pc = .ok (.fmul, len)) (ha : zaux y pc (.fmul) len ia ib = true) (h : zx y (.fmul) len ia ib pc L st σ = some (g, pc1, L1, st1, σ1)) (hg : ∀ P, g = some P → P) (hrc : cells + (σ1.2.2.2 - σ.2.2.2) ≤ R.cells) (hrs : slots + (zsz σ1.2.2.2 - zsz σ.2.2.2) ≤ R.slots)
    (kk : zK p l e R s m args below meth c cA D base b Lx xs y cells slots Q σ pc1 L1 st1 σ1) : zW p l e R s m args below meth c base b H locs cells slots Q pc ls st := by
  simp only [zx] at h
  split at h
  · next q p r =>
    simp only [Option.some.injEq, Prod.mk.injEq] at h
    obtain ⟨rfl, rfl, rfl, rfl, rfl⟩ := h
    exact lv_fmul C.1 C.2.1 (zlen hd ha) (hg _ rfl) (zk0 kk hH hL (zcons trivial (zct (zct hS))) hl)
  · cases h
set_option maxHeartbeats 1000000 in
theorem zs_fsub {p : Program} {l : Launch} {e : Env} {R : Room} {s : State} {m : MethodId} {args : Array Value} {below : List Frame} {meth : Method} {c : Code} {cA : Nat → ClassId} {D : va_G} {base b Lx : Nat} {xs : Nat → Int32} {y : Nat} {H : Heap} {locs : List Loc} {cells slots : Nat} {Q : State → Prop} {ls : Array Slot} {pc len ia ib pc1 : Nat} {L L1 : zL} {st st1 : List zV} {σ σ1 : zS} {g : Option Prop} (C : zCx p R s m args meth c cA D base b Lx xs y) (hH : zH cA D base b Lx xs s σ H locs cells) (hL : ∀ q ∈ L, zvr q.2) (hS : ∀ v ∈ st, zvr v) (hl : lv_has ls (zml y) (L.map (zcq base b))) (hd : decode (zb y) pc = .ok (.fsub, len)) (ha : zaux y pc (.fsub) len ia ib = true) (h : zx y (.fsub) len ia ib pc L st σ = some (g, pc1, L1, st1, σ1)) (hg : ∀ P, g = some P → P) (hrc : cells + (σ1.2.2.2 - σ.2.2.2) ≤ R.cells) (hrs : slots + (zsz σ1.2.2.2 - zsz σ.2.2.2) ≤ R.slots)
    (kk : zK p l e R s m args below meth c cA D base b Lx xs y cells slots Q σ pc1 L1 st1 σ1) : zW p l e R s m args below meth c base b H locs cells slots Q pc ls st := by
  simp only [zx] at h
  split at h
  · next q p r =>
    simp only [Option.some.injEq, Prod.mk.injEq] at h
    obtain ⟨rfl, rfl, rfl, rfl, rfl⟩ := h
    exact lv_fsub C.1 C.2.1 (zlen hd ha) (hg _ rfl) (zk0 kk hH hL (zcons trivial (zct (zct hS))) hl)
  · cases h
set_option maxHeartbeats 1000000 in
theorem zs_f2i {p : Program} {l : Launch} {e : Env} {R : Room} {s : State} {m : MethodId} {args : Array Value} {below : List Frame} {meth : Method} {c : Code} {cA : Nat → ClassId} {D : va_G} {base b Lx : Nat} {xs : Nat → Int32} {y : Nat} {H : Heap} {locs : List Loc} {cells slots : Nat} {Q : State → Prop} {ls : Array Slot} {pc len ia ib pc1 : Nat} {L L1 : zL} {st st1 : List zV} {σ σ1 : zS} {g : Option Prop} (C : zCx p R s m args meth c cA D base b Lx xs y) (hH : zH cA D base b Lx xs s σ H locs cells) (hL : ∀ q ∈ L, zvr q.2) (hS : ∀ v ∈ st, zvr v) (hl : lv_has ls (zml y) (L.map (zcq base b))) (hd : decode (zb y) pc = .ok (.f2i, len)) (ha : zaux y pc (.f2i) len ia ib = true) (h : zx y (.f2i) len ia ib pc L st σ = some (g, pc1, L1, st1, σ1)) (hg : ∀ P, g = some P → P) (hrc : cells + (σ1.2.2.2 - σ.2.2.2) ≤ R.cells) (hrs : slots + (zsz σ1.2.2.2 - zsz σ.2.2.2) ≤ R.slots)
    (kk : zK p l e R s m args below meth c cA D base b Lx xs y cells slots Q σ pc1 L1 st1 σ1) : zW p l e R s m args below meth c base b H locs cells slots Q pc ls st := by
  simp only [zx] at h
  split at h
  · next p r =>
    simp only [Option.some.injEq, Prod.mk.injEq] at h
    obtain ⟨rfl, rfl, rfl, rfl, rfl⟩ := h
    refine lv_f2i C.1 C.2.1 (zlen hd ha) ?_
    have kk2 := zk0 kk hH hL (zcons (zr_of _) (zct hS)) hl
    simp only [zW, List.map_cons, zcv, zit] at kk2
    exact kk2
  · cases h
set_option maxHeartbeats 1000000 in
theorem zs_fcmp {p : Program} {l : Launch} {e : Env} {R : Room} {s : State} {m : MethodId} {args : Array Value} {below : List Frame} {meth : Method} {c : Code} {cA : Nat → ClassId} {D : va_G} {base b Lx : Nat} {xs : Nat → Int32} {y : Nat} {H : Heap} {locs : List Loc} {cells slots : Nat} {Q : State → Prop} {ls : Array Slot} {pc len ia ib pc1 : Nat} {L L1 : zL} {st st1 : List zV} {σ σ1 : zS} {g : Option Prop} {o : CmpOp} (C : zCx p R s m args meth c cA D base b Lx xs y) (hH : zH cA D base b Lx xs s σ H locs cells) (hL : ∀ q ∈ L, zvr q.2) (hS : ∀ v ∈ st, zvr v) (hl : lv_has ls (zml y) (L.map (zcq base b))) (hd : decode (zb y) pc = .ok (.fcmp o, len)) (ha : zaux y pc (.fcmp o) len ia ib = true) (h : zx y (.fcmp o) len ia ib pc L st σ = some (g, pc1, L1, st1, σ1)) (hg : ∀ P, g = some P → P) (hrc : cells + (σ1.2.2.2 - σ.2.2.2) ≤ R.cells) (hrs : slots + (zsz σ1.2.2.2 - zsz σ.2.2.2) ≤ R.slots)
    (kk : zK p l e R s m args below meth c cA D base b Lx xs y cells slots Q σ pc1 L1 st1 σ1) : zW p l e R s m args below meth c base b H locs cells slots Q pc ls st := by
  simp only [zx] at h
  split at h
  · next q p r =>
    simp only [Option.some.injEq, Prod.mk.injEq] at h
    obtain ⟨rfl, rfl, rfl, rfl, rfl⟩ := h
    refine lv_fcmp C.1 C.2.1 (zlen hd ha) ?_
    have kk2 := zk0 kk hH hL (zcons (zr_of _) (zct (zct hS))) hl
    simp only [zW, List.map_cons, zcv, zit] at kk2
    exact kk2
  · cases h
set_option maxHeartbeats 1000000 in
theorem zs_dcmp {p : Program} {l : Launch} {e : Env} {R : Room} {s : State} {m : MethodId} {args : Array Value} {below : List Frame} {meth : Method} {c : Code} {cA : Nat → ClassId} {D : va_G} {base b Lx : Nat} {xs : Nat → Int32} {y : Nat} {H : Heap} {locs : List Loc} {cells slots : Nat} {Q : State → Prop} {ls : Array Slot} {pc len ia ib pc1 : Nat} {L L1 : zL} {st st1 : List zV} {σ σ1 : zS} {g : Option Prop} {o : CmpOp} (C : zCx p R s m args meth c cA D base b Lx xs y) (hH : zH cA D base b Lx xs s σ H locs cells) (hL : ∀ q ∈ L, zvr q.2) (hS : ∀ v ∈ st, zvr v) (hl : lv_has ls (zml y) (L.map (zcq base b))) (hd : decode (zb y) pc = .ok (.dcmp o, len)) (ha : zaux y pc (.dcmp o) len ia ib = true) (h : zx y (.dcmp o) len ia ib pc L st σ = some (g, pc1, L1, st1, σ1)) (hg : ∀ P, g = some P → P) (hrc : cells + (σ1.2.2.2 - σ.2.2.2) ≤ R.cells) (hrs : slots + (zsz σ1.2.2.2 - zsz σ.2.2.2) ≤ R.slots)
    (kk : zK p l e R s m args below meth c cA D base b Lx xs y cells slots Q σ pc1 L1 st1 σ1) : zW p l e R s m args below meth c base b H locs cells slots Q pc ls st := by
  simp only [zx] at h
  split at h
  · next q p r =>
    simp only [Option.some.injEq, Prod.mk.injEq] at h
    obtain ⟨rfl, rfl, rfl, rfl, rfl⟩ := h
    refine lv_dcmp C.1 C.2.1 (zlen hd ha) ?_
    have kk2 := zk0 kk hH hL (zcons (zr_of _) (zct (zct hS))) hl
    simp only [zW, List.map_cons, zcv, zit] at kk2
    exact kk2
  · cases h
theorem zcat1 {base b : Nat} {v : zV} (h : Nat.beq (zcat v) 1 = true) : (zcv base b v).category = 1 := by rw [zcat_cv]; exact Nat.eq_of_beq_eq_true h
theorem zbif {α : Type} {x : Bool} {a : α} {z : α} (h : (bif x then some a else none) = some z) : x = true ∧ a = z := by
  cases x
  · cases h
  · exact ⟨rfl, Option.some.inj h⟩
set_option maxHeartbeats 1000000 in
theorem zs_dup {p : Program} {l : Launch} {e : Env} {R : Room} {s : State} {m : MethodId} {args : Array Value} {below : List Frame} {meth : Method} {c : Code} {cA : Nat → ClassId} {D : va_G} {base b Lx : Nat} {xs : Nat → Int32} {y : Nat} {H : Heap} {locs : List Loc} {cells slots : Nat} {Q : State → Prop} {ls : Array Slot} {pc len ia ib pc1 : Nat} {L L1 : zL} {st st1 : List zV} {σ σ1 : zS} {g : Option Prop} (C : zCx p R s m args meth c cA D base b Lx xs y) (hH : zH cA D base b Lx xs s σ H locs cells) (hL : ∀ q ∈ L, zvr q.2) (hS : ∀ v ∈ st, zvr v) (hl : lv_has ls (zml y) (L.map (zcq base b))) (hd : decode (zb y) pc = .ok (.dup, len)) (ha : zaux y pc (.dup) len ia ib = true) (h : zx y (.dup) len ia ib pc L st σ = some (g, pc1, L1, st1, σ1)) (hg : ∀ P, g = some P → P) (hrc : cells + (σ1.2.2.2 - σ.2.2.2) ≤ R.cells) (hrs : slots + (zsz σ1.2.2.2 - zsz σ.2.2.2) ≤ R.slots)
    (kk : zK p l e R s m args below meth c cA D base b Lx xs y cells slots Q σ pc1 L1 st1 σ1) : zW p l e R s m args below meth c base b H locs cells slots Q pc ls st := by
  simp only [zx] at h
  split at h
  · next v r =>
    obtain ⟨hb, h⟩ := zbif h
    simp only [Prod.mk.injEq] at h
    obtain ⟨rfl, rfl, rfl, rfl, rfl⟩ := h
    exact lv_dup C.1 C.2.1 (zlen hd ha) (zcat1 hb) (zk0 kk hH hL (zcons (zch hS) hS) hl)
  · cases h
set_option maxHeartbeats 1000000 in
theorem zs_dup2 {p : Program} {l : Launch} {e : Env} {R : Room} {s : State} {m : MethodId} {args : Array Value} {below : List Frame} {meth : Method} {c : Code} {cA : Nat → ClassId} {D : va_G} {base b Lx : Nat} {xs : Nat → Int32} {y : Nat} {H : Heap} {locs : List Loc} {cells slots : Nat} {Q : State → Prop} {ls : Array Slot} {pc len ia ib pc1 : Nat} {L L1 : zL} {st st1 : List zV} {σ σ1 : zS} {g : Option Prop} (C : zCx p R s m args meth c cA D base b Lx xs y) (hH : zH cA D base b Lx xs s σ H locs cells) (hL : ∀ q ∈ L, zvr q.2) (hS : ∀ v ∈ st, zvr v) (hl : lv_has ls (zml y) (L.map (zcq base b))) (hd : decode (zb y) pc = .ok (.dup2, len)) (ha : zaux y pc (.dup2) len ia ib = true) (h : zx y (.dup2) len ia ib pc L st σ = some (g, pc1, L1, st1, σ1)) (hg : ∀ P, g = some P → P) (hrc : cells + (σ1.2.2.2 - σ.2.2.2) ≤ R.cells) (hrs : slots + (zsz σ1.2.2.2 - zsz σ.2.2.2) ≤ R.slots)
    (kk : zK p l e R s m args below meth c cA D base b Lx xs y cells slots Q σ pc1 L1 st1 σ1) : zW p l e R s m args below meth c base b H locs cells slots Q pc ls st := by
  simp only [zx] at h
  split at h
  · next v w r =>
    obtain ⟨hb, h⟩ := zbif h
    simp only [Prod.mk.injEq] at h
    obtain ⟨rfl, rfl, rfl, rfl, rfl⟩ := h
    simp only [Bool.and_eq_true] at hb
    exact lv_dup2_11 C.1 C.2.1 (zlen hd ha) (zcat1 hb.1) (zcat1 hb.2) (zk0 kk hH hL (zcons (zch hS) (zcons (zch (zct hS)) hS)) hl)
  · cases h
set_option maxHeartbeats 1000000 in
theorem zs_pop {p : Program} {l : Launch} {e : Env} {R : Room} {s : State} {m : MethodId} {args : Array Value} {below : List Frame} {meth : Method} {c : Code} {cA : Nat → ClassId} {D : va_G} {base b Lx : Nat} {xs : Nat → Int32} {y : Nat} {H : Heap} {locs : List Loc} {cells slots : Nat} {Q : State → Prop} {ls : Array Slot} {pc len ia ib pc1 : Nat} {L L1 : zL} {st st1 : List zV} {σ σ1 : zS} {g : Option Prop} (C : zCx p R s m args meth c cA D base b Lx xs y) (hH : zH cA D base b Lx xs s σ H locs cells) (hL : ∀ q ∈ L, zvr q.2) (hS : ∀ v ∈ st, zvr v) (hl : lv_has ls (zml y) (L.map (zcq base b))) (hd : decode (zb y) pc = .ok (.pop, len)) (ha : zaux y pc (.pop) len ia ib = true) (h : zx y (.pop) len ia ib pc L st σ = some (g, pc1, L1, st1, σ1)) (hg : ∀ P, g = some P → P) (hrc : cells + (σ1.2.2.2 - σ.2.2.2) ≤ R.cells) (hrs : slots + (zsz σ1.2.2.2 - zsz σ.2.2.2) ≤ R.slots)
    (kk : zK p l e R s m args below meth c cA D base b Lx xs y cells slots Q σ pc1 L1 st1 σ1) : zW p l e R s m args below meth c base b H locs cells slots Q pc ls st := by
  simp only [zx] at h
  split at h
  · next v r =>
    obtain ⟨hb, h⟩ := zbif h
    simp only [Prod.mk.injEq] at h
    obtain ⟨rfl, rfl, rfl, rfl, rfl⟩ := h
    exact lv_pop C.1 C.2.1 (zlen hd ha) (zcat1 hb) (zk0 kk hH hL (zct hS) hl)
  · cases h
set_option maxHeartbeats 1000000 in
theorem zs_goto {p : Program} {l : Launch} {e : Env} {R : Room} {s : State} {m : MethodId} {args : Array Value} {below : List Frame} {meth : Method} {c : Code} {cA : Nat → ClassId} {D : va_G} {base b Lx : Nat} {xs : Nat → Int32} {y : Nat} {H : Heap} {locs : List Loc} {cells slots : Nat} {Q : State → Prop} {ls : Array Slot} {pc len ia ib pc1 : Nat} {L L1 : zL} {st st1 : List zV} {σ σ1 : zS} {g : Option Prop} {o : Int} (C : zCx p R s m args meth c cA D base b Lx xs y) (hH : zH cA D base b Lx xs s σ H locs cells) (hL : ∀ q ∈ L, zvr q.2) (hS : ∀ v ∈ st, zvr v) (hl : lv_has ls (zml y) (L.map (zcq base b))) (hd : decode (zb y) pc = .ok (.goto o, len)) (ha : zaux y pc (.goto o) len ia ib = true) (h : zx y (.goto o) len ia ib pc L st σ = some (g, pc1, L1, st1, σ1)) (hg : ∀ P, g = some P → P) (hrc : cells + (σ1.2.2.2 - σ.2.2.2) ≤ R.cells) (hrs : slots + (zsz σ1.2.2.2 - zsz σ.2.2.2) ≤ R.slots)
    (kk : zK p l e R s m args below meth c cA D base b Lx xs y cells slots Q σ pc1 L1 st1 σ1) : zW p l e R s m args below meth c base b H locs cells slots Q pc ls st := by
  simp only [zx] at h
  simp only [Option.some.injEq, Prod.mk.injEq] at h
  obtain ⟨rfl, rfl, rfl, rfl, rfl⟩ := h
  simp only [zaux, Bool.and_eq_true, decide_eq_true_eq] at ha
  exact lv_goto C.1 C.2.1 (zlen hd ha.1) ha.2 (zk0 kk hH hL hS hl)
set_option maxHeartbeats 1000000 in
theorem zs_ifnull {p : Program} {l : Launch} {e : Env} {R : Room} {s : State} {m : MethodId} {args : Array Value} {below : List Frame} {meth : Method} {c : Code} {cA : Nat → ClassId} {D : va_G} {base b Lx : Nat} {xs : Nat → Int32} {y : Nat} {H : Heap} {locs : List Loc} {cells slots : Nat} {Q : State → Prop} {ls : Array Slot} {pc len ia ib pc1 : Nat} {L L1 : zL} {st st1 : List zV} {σ σ1 : zS} {g : Option Prop} {o : Int} (C : zCx p R s m args meth c cA D base b Lx xs y) (hH : zH cA D base b Lx xs s σ H locs cells) (hL : ∀ q ∈ L, zvr q.2) (hS : ∀ v ∈ st, zvr v) (hl : lv_has ls (zml y) (L.map (zcq base b))) (hd : decode (zb y) pc = .ok (.ifnull o, len)) (ha : zaux y pc (.ifnull o) len ia ib = true) (h : zx y (.ifnull o) len ia ib pc L st σ = some (g, pc1, L1, st1, σ1)) (hg : ∀ P, g = some P → P) (hrc : cells + (σ1.2.2.2 - σ.2.2.2) ≤ R.cells) (hrs : slots + (zsz σ1.2.2.2 - zsz σ.2.2.2) ≤ R.slots)
    (kk : zK p l e R s m args below meth c cA D base b Lx xs y cells slots Q σ pc1 L1 st1 σ1) : zW p l e R s m args below meth c base b H locs cells slots Q pc ls st := by
  simp only [zx] at h
  simp only [zaux, Bool.and_eq_true, decide_eq_true_eq] at ha
  split at h
  · next q r =>
    split at h
    · simp only [Option.some.injEq, Prod.mk.injEq] at h
      obtain ⟨rfl, rfl, rfl, rfl, rfl⟩ := h
      exact lv_ifnullN C.1 C.2.1 (zlen hd ha.1) ha.2 (zk0 kk hH hL (zct hS) hl)
    · next q =>
      simp only [Option.some.injEq, Prod.mk.injEq] at h
      obtain ⟨rfl, rfl, rfl, rfl, rfl⟩ := h
      simp only [zW, List.map_cons, zcv_r (Nat.succ_ne_zero q)]
      exact lv_ifnull C.1 C.2.1 (zlen hd ha.1) (zk0 kk hH hL (zct hS) hl)
  · cases h
set_option maxHeartbeats 1000000 in
theorem zs_ifnonnull {p : Program} {l : Launch} {e : Env} {R : Room} {s : State} {m : MethodId} {args : Array Value} {below : List Frame} {meth : Method} {c : Code} {cA : Nat → ClassId} {D : va_G} {base b Lx : Nat} {xs : Nat → Int32} {y : Nat} {H : Heap} {locs : List Loc} {cells slots : Nat} {Q : State → Prop} {ls : Array Slot} {pc len ia ib pc1 : Nat} {L L1 : zL} {st st1 : List zV} {σ σ1 : zS} {g : Option Prop} {o : Int} (C : zCx p R s m args meth c cA D base b Lx xs y) (hH : zH cA D base b Lx xs s σ H locs cells) (hL : ∀ q ∈ L, zvr q.2) (hS : ∀ v ∈ st, zvr v) (hl : lv_has ls (zml y) (L.map (zcq base b))) (hd : decode (zb y) pc = .ok (.ifnonnull o, len)) (ha : zaux y pc (.ifnonnull o) len ia ib = true) (h : zx y (.ifnonnull o) len ia ib pc L st σ = some (g, pc1, L1, st1, σ1)) (hg : ∀ P, g = some P → P) (hrc : cells + (σ1.2.2.2 - σ.2.2.2) ≤ R.cells) (hrs : slots + (zsz σ1.2.2.2 - zsz σ.2.2.2) ≤ R.slots)
    (kk : zK p l e R s m args below meth c cA D base b Lx xs y cells slots Q σ pc1 L1 st1 σ1) : zW p l e R s m args below meth c base b H locs cells slots Q pc ls st := by
  simp only [zx] at h
  simp only [zaux, Bool.and_eq_true, decide_eq_true_eq] at ha
  split at h
  · next q r =>
    split at h
    · simp only [Option.some.injEq, Prod.mk.injEq] at h
      obtain ⟨rfl, rfl, rfl, rfl, rfl⟩ := h
      exact lv_ifnonnullN C.1 C.2.1 (zlen hd ha.1) (zk0 kk hH hL (zct hS) hl)
    · next q =>
      simp only [Option.some.injEq, Prod.mk.injEq] at h
      obtain ⟨rfl, rfl, rfl, rfl, rfl⟩ := h
      simp only [zW, List.map_cons, zcv_r (Nat.succ_ne_zero q)]
      exact lv_ifnonnull C.1 C.2.1 (zlen hd ha.1) ha.2 (zk0 kk hH hL (zct hS) hl)
  · cases h
set_option maxHeartbeats 1000000 in
theorem zs_aconst_null {p : Program} {l : Launch} {e : Env} {R : Room} {s : State} {m : MethodId} {args : Array Value} {below : List Frame} {meth : Method} {c : Code} {cA : Nat → ClassId} {D : va_G} {base b Lx : Nat} {xs : Nat → Int32} {y : Nat} {H : Heap} {locs : List Loc} {cells slots : Nat} {Q : State → Prop} {ls : Array Slot} {pc len ia ib pc1 : Nat} {L L1 : zL} {st st1 : List zV} {σ σ1 : zS} {g : Option Prop} (C : zCx p R s m args meth c cA D base b Lx xs y) (hH : zH cA D base b Lx xs s σ H locs cells) (hL : ∀ q ∈ L, zvr q.2) (hS : ∀ v ∈ st, zvr v) (hl : lv_has ls (zml y) (L.map (zcq base b))) (hd : decode (zb y) pc = .ok (.aconst_null, len)) (ha : zaux y pc (.aconst_null) len ia ib = true) (h : zx y (.aconst_null) len ia ib pc L st σ = some (g, pc1, L1, st1, σ1)) (hg : ∀ P, g = some P → P) (hrc : cells + (σ1.2.2.2 - σ.2.2.2) ≤ R.cells) (hrs : slots + (zsz σ1.2.2.2 - zsz σ.2.2.2) ≤ R.slots)
    (kk : zK p l e R s m args below meth c cA D base b Lx xs y cells slots Q σ pc1 L1 st1 σ1) : zW p l e R s m args below meth c base b H locs cells slots Q pc ls st := by
  simp only [zx] at h
  simp only [Option.some.injEq, Prod.mk.injEq] at h
  obtain ⟨rfl, rfl, rfl, rfl, rfl⟩ := h
  exact lv_null C.1 C.2.1 (zlen hd ha) (zk0 kk hH hL (zcons trivial hS) hl)
