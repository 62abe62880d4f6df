set_option maxHeartbeats 4000000 in
theorem zst_mono {y pc pc1 : Nat} {L L1 : zL} {st st1 : List zV} {σ σ1 : zS} {g : Option Prop} (h : zst y pc L st σ = some (g, pc1, L1, st1, σ1)) : σ.2.2.2 ≤ σ1.2.2.2 := by
  unfold zst at h
  split at h
  · next i len a b hi =>
    cases i <;> simp only [zx, Bool.cond_eq_ite] at h <;> (repeat' split at h) <;> first | (cases h; done) | (cases h; exact Nat.le_refl _) | (cases h; exact Nat.le_succ _)
  · cases h
set_option maxHeartbeats 4000000 in
theorem zst_sound {p : Program} {l : Launch} {e : Env} {R : Room} {s : State} {m : MethodId} {args : Array Value} {below : List Frame} {meth : Method} {c : Code} {cA : Nat → ClassId} {D : va_G} {base b Lx : Nat} {xs : Nat → Int32} {y : Nat} {H : Heap} {locs : List Loc} {cells slots : Nat} {Q : State → Prop} {ls : Array Slot} {pc pc1 : Nat} {L L1 : zL} {st st1 : List zV} {σ σ1 : zS} {g : Option Prop} (C : zCx p R s m args meth c cA D base b Lx xs y) (hH : zH cA D base b Lx xs s σ H locs cells) (hL : ∀ q ∈ L, zvr q.2) (hS : ∀ v ∈ st, zvr v) (hl : lv_has ls (zml y) (L.map (zcq base b))) (h : zst y pc L st σ = some (g, pc1, L1, st1, σ1)) (hg : ∀ P, g = some P → P) (hrc : cells + (σ1.2.2.2 - σ.2.2.2) ≤ R.cells) (hrs : slots + (zsz σ1.2.2.2 - zsz σ.2.2.2) ≤ R.slots)
    (kk : zK p l e R s m args below meth c cA D base b Lx xs y cells slots Q σ pc1 L1 st1 σ1) : zW p l e R s m args below meth c base b H locs cells slots Q pc ls st := by
  unfold zst at h
  split at h
  · next i len a b' hi =>
    obtain ⟨hd, ha⟩ := zchk_spec (zck y C.2.2.2.2.2.2.2.2.2.2.1) hi
    cases i with
    | iload_n k => exact zs_iload_n C hH hL hS hl hd ha h hg hrc hrs kk
    | iload k => exact zs_iload C hH hL hS hl hd ha h hg hrc hrs kk
    | fload_n k => exact zs_fload_n C hH hL hS hl hd ha h hg hrc hrs kk
    | dload_n k => exact zs_dload_n C hH hL hS hl hd ha h hg hrc hrs kk
    | dload k => exact zs_dload C hH hL hS hl hd ha h hg hrc hrs kk
    | aload_n k => exact zs_aload_n C hH hL hS hl hd ha h hg hrc hrs kk
    | istore_n k => exact zs_istore_n C hH hL hS hl hd ha h hg hrc hrs kk
    | istore k => exact zs_istore C hH hL hS hl hd ha h hg hrc hrs kk
    | fstore_n k => exact zs_fstore_n C hH hL hS hl hd ha h hg hrc hrs kk
    | dstore k => exact zs_dstore C hH hL hS hl hd ha h hg hrc hrs kk
    | astore_n k => exact zs_astore_n C hH hL hS hl hd ha h hg hrc hrs kk
    | iinc k n => exact zs_iinc C hH hL hS hl hd ha h hg hrc hrs kk
    | iconst n => exact zs_iconst C hH hL hS hl hd ha h hg hrc hrs kk
    | bipush n => exact zs_bipush C hH hL hS hl hd ha h hg hrc hrs kk
    | sipush n => exact zs_sipush C hH hL hS hl hd ha h hg hrc hrs kk
    | fconst k => exact zs_fconst C hH hL hS hl hd ha h hg hrc hrs kk
    | dconst k => exact zs_dconst C hH hL hS hl hd ha h hg hrc hrs kk
    | ldc k => exact zs_ldc C hH hL hS hl hd ha h hg hrc hrs kk
    | ldc_w k => exact zs_ldc_w C hH hL hS hl hd ha h hg hrc hrs kk
    | iadd => exact zs_iadd C hH hL hS hl hd ha h hg hrc hrs kk
    | isub => exact zs_isub C hH hL hS hl hd ha h hg hrc hrs kk
    | imul => exact zs_imul C hH hL hS hl hd ha h hg hrc hrs kk
    | idiv => exact zs_idiv C hH hL hS hl hd ha h hg hrc hrs kk
    | irem => exact zs_irem C hH hL hS hl hd ha h hg hrc hrs kk
    | ishl => exact zs_ishl C hH hL hS hl hd ha h hg hrc hrs kk
    | ishr => exact zs_ishr C hH hL hS hl hd ha h hg hrc hrs kk
    | iushr => exact zs_iushr C hH hL hS hl hd ha h hg hrc hrs kk
    | ior => exact zs_ior C hH hL hS hl hd ha h hg hrc hrs kk
    | iand => exact zs_iand C hH hL hS hl hd ha h hg hrc hrs kk
    | i2c => exact zs_i2c C hH hL hS hl hd ha h hg hrc hrs kk
    | i2d => exact zs_i2d C hH hL hS hl hd ha h hg hrc hrs kk
    | d2f => exact zs_d2f C hH hL hS hl hd ha h hg hrc hrs kk
    | fneg => exact zs_fneg C hH hL hS hl hd ha h hg hrc hrs kk
    | ddiv => exact zs_ddiv C hH hL hS hl hd ha h hg hrc hrs kk
    | dmul => exact zs_dmul C hH hL hS hl hd ha h hg hrc hrs kk
    | dsub => exact zs_dsub C hH hL hS hl hd ha h hg hrc hrs kk
    | fdiv => exact zs_fdiv C hH hL hS hl hd ha h hg hrc hrs kk
    | fmul => exact zs_fmul C hH hL hS hl hd ha h hg hrc hrs kk
    | fsub => exact zs_fsub C hH hL hS hl hd ha h hg hrc hrs kk
    | f2i => exact zs_f2i C hH hL hS hl hd ha h hg hrc hrs kk
    | fcmp o => exact zs_fcmp C hH hL hS hl hd ha h hg hrc hrs kk
    | dcmp o => exact zs_dcmp C hH hL hS hl hd ha h hg hrc hrs kk
    | dup => exact zs_dup C hH hL hS hl hd ha h hg hrc hrs kk
    | dup2 => exact zs_dup2 C hH hL hS hl hd ha h hg hrc hrs kk
    | pop => exact zs_pop C hH hL hS hl hd ha h hg hrc hrs kk
    | goto o => exact zs_goto C hH hL hS hl hd ha h hg hrc hrs kk
    | ifnull o => exact zs_ifnull C hH hL hS hl hd ha h hg hrc hrs kk
    | ifnonnull o => exact zs_ifnonnull C hH hL hS hl hd ha h hg hrc hrs kk
    | aconst_null => exact zs_aconst_null C hH hL hS hl hd ha h hg hrc hrs kk
    | getfield i => exact zs_getfield C hH hL hS hl hd ha h hg hrc hrs kk
    | putfield i => exact zs_putfield C hH hL hS hl hd ha h hg hrc hrs kk
    | iaload => exact zs_iaload C hH hL hS hl hd ha h hg hrc hrs kk
    | daload => exact zs_daload C hH hL hS hl hd ha h hg hrc hrs kk
    | aaload => exact zs_aaload C hH hL hS hl hd ha h hg hrc hrs kk
    | iastore => exact zs_iastore C hH hL hS hl hd ha h hg hrc hrs kk
    | dastore => exact zs_dastore C hH hL hS hl hd ha h hg hrc hrs kk
    | aastore => exact zs_aastore C hH hL hS hl hd ha h hg hrc hrs kk
    | arraylength => exact zs_arraylength C hH hL hS hl hd ha h hg hrc hrs kk
    | newarray t => exact zs_newarray C hH hL hS hl hd ha h hg hrc hrs kk
    | anewarray i => exact zs_anewarray C hH hL hS hl hd ha h hg hrc hrs kk
    | new i => exact zs_new C hH hL hS hl hd ha h hg hrc hrs kk
    | invokespecial i => exact zs_invokespecial C hH hL hS hl hd ha h hg hrc hrs kk
    | invokestatic i => exact zs_invokestatic C hH hL hS hl hd ha h hg hrc hrs kk
    | tableswitch d lo hi offs => exact zs_tableswitch C hH hL hS hl hd ha h hg hrc hrs kk
    | lookupswitch d ps => exact zs_lookupswitch C hH hL hS hl hd ha h hg hrc hrs kk
    | _ => exact absurd (show (none : zNx) = some _ from h) nofun
  · cases h
theorem zcd_iff {c : Jvm.ClassFile.Cond} {p q : Int} (hp : zr p) (hq : zr q) : (match c with
  | .eq => Int32.ofInt p = Int32.ofInt q | .ne => ¬ Int32.ofInt p = Int32.ofInt q | .lt => Int32.ofInt p < Int32.ofInt q | .ge => Int32.ofInt q ≤ Int32.ofInt p | .gt => Int32.ofInt q < Int32.ofInt p | .le => Int32.ofInt p ≤ Int32.ofInt q) ↔ zcd c p q := by
  cases c <;> simp only [zcd, z_eq hp hq, z_lt hp hq, z_le hp hq, z_lt hq hp, z_le hq hp]
theorem zbr_sound {p : Program} {l : Launch} {e : Env} {R : Room} {s : State} {m : MethodId} {args : Array Value} {below : List Frame} {meth : Method} {c : Code} {cA : Nat → ClassId} {D : va_G} {base b Lx : Nat} {xs : Nat → Int32} {y : Nat} {H : Heap} {locs : List Loc} {cells slots : Nat} {Q : State → Prop} {ls : Array Slot} {pc t f : Nat} {L : zL} {st st1 : List zV} {σ : zS} {P : Prop} (C : zCx p R s m args meth c cA D base b Lx xs y) (hH : zH cA D base b Lx xs s σ H locs cells) (hL : ∀ q ∈ L, zvr q.2) (hS : ∀ v ∈ st, zvr v) (hl : lv_has ls (zml y) (L.map (zcq base b))) (h : zbr y pc st = some (P, t, f, st1)) (kt : P → zW p l e R s m args below meth c base b H locs cells slots Q t ls st1) (kf : ¬ P → zW p l e R s m args below meth c base b H locs cells slots Q f ls st1) : zW p l e R s m args below meth c base b H locs cells slots Q pc ls st := by
  unfold zbr at h
  split at h
  · next cd off len a b' hi =>
    obtain ⟨hd, ha⟩ := zchk_spec (zck y C.2.2.2.2.2.2.2.2.2.2.1) hi
    simp only [zaux, Bool.and_eq_true, decide_eq_true_eq] at ha
    split at h
    · next p r =>
      simp only [Option.some.injEq, Prod.mk.injEq] at h
      obtain ⟨rfl, rfl, rfl, rfl⟩ := h
      have hz := zcd_iff (c := cd) (show zr p from zch hS) (show zr 0 from ⟨by decide, by decide⟩)
      have hd := zlen hd ha.1
      cases cd
      · exact lv_if_eq C.1 C.2.1 hd ha.2 (fun q => kt (hz.mp q)) (fun q => kf (fun z => q (hz.mpr z)))
      · exact lv_if_ne C.1 C.2.1 hd ha.2 (fun q => kt (hz.mp q)) (fun q => kf (fun z => (hz.mpr z) q))
      · exact lv_if_lt C.1 C.2.1 hd ha.2 (fun q => kt (hz.mp q)) (fun q => kf (fun z => q (hz.mpr z)))
      · exact lv_if_ge C.1 C.2.1 hd ha.2 (fun q => kt (hz.mp q)) (fun q => kf (fun z => q (hz.mpr z)))
      · exact lv_if_gt C.1 C.2.1 hd ha.2 (fun q => kt (hz.mp q)) (fun q => kf (fun z => q (hz.mpr z)))
      · exact lv_if_le C.1 C.2.1 hd ha.2 (fun q => kt (hz.mp q)) (fun q => kf (fun z => q (hz.mpr z)))
    · cases h
  · next cd off len a b' hi =>
    obtain ⟨hd, ha⟩ := zchk_spec (zck y C.2.2.2.2.2.2.2.2.2.2.1) hi
    simp only [zaux, Bool.and_eq_true, decide_eq_true_eq] at ha
    split at h
    · next q' p r =>
      simp only [Option.some.injEq, Prod.mk.injEq] at h
      obtain ⟨rfl, rfl, rfl, rfl⟩ := h
      have hz := zcd_iff (c := cd) (show zr p from zch (zct hS)) (show zr q' from zch hS)
      have hd := zlen hd ha.1
      cases cd
      · exact lv_icmp_eq C.1 C.2.1 hd ha.2 (fun q => kt (hz.mp q)) (fun q => kf (fun z => q (hz.mpr z)))
      · exact lv_icmp_ne C.1 C.2.1 hd ha.2 (fun q => kt (hz.mp q)) (fun q => kf (fun z => (hz.mpr z) q))
      · exact lv_icmp_lt C.1 C.2.1 hd ha.2 (fun q => kt (hz.mp q)) (fun q => kf (fun z => q (hz.mpr z)))
      · exact lv_icmp_ge C.1 C.2.1 hd ha.2 (fun q => kt (hz.mp q)) (fun q => kf (fun z => q (hz.mpr z)))
      · exact lv_icmp_gt C.1 C.2.1 hd ha.2 (fun q => kt (hz.mp q)) (fun q => kf (fun z => q (hz.mpr z)))
      · exact lv_icmp_le C.1 C.2.1 hd ha.2 (fun q => kt (hz.mp q)) (fun q => kf (fun z => q (hz.mpr z)))
    · cases h
  · cases h
/-- what a return leaves -/
theorem zre_sound {p : Program} {l : Launch} {e : Env} {R : Room} {s : State} {m : MethodId} {args : Array Value} {below : List Frame} {meth : Method} {c : Code} {cA : Nat → ClassId} {D : va_G} {base b Lx : Nat} {xs : Nat → Int32} {y : Nat} {H : Heap} {locs : List Loc} {cells slots : Nat} {ls : Array Slot} {pc : Nat} {st : List zV} {r : Option zV} {Qc : Array Value → State → Outcome → State → Prop} {free : Addr → Prop} (C : zCx p R s m args meth c cA D base b Lx xs y) (hr : meth.sig.returnType = zrt y) (hlocks : meth.locks = false) (h : zre y pc st = some r)
    (hq : ∀ t : State, t.heap = H → s.WarmedH t.vm → Qc args s (.returned (r.map (zcv base b))) t) (hf : ∀ q ∈ locs, free q.base) : W p l e R s m args below meth c H locs cells slots (MQ below Qc args s cells slots free) (F0 m pc ls (st.map (zcv base b))) := by
  unfold zre at h
  split at h
  · next x hi =>
    obtain ⟨len, a, b'⟩ := x
    obtain ⟨hd, ha⟩ := zchk_spec (zck y C.2.2.2.2.2.2.2.2.2.2.1) hi
    have hd := zlen hd ha
    split at h
    · next x =>
      split at h
      · next hy =>
        simp only [Option.some.injEq] at h
        subst h
        exact W.iret C.1 C.2.1 (by rw [hr, hy]) hq hf hd
      · next hy =>
        obtain ⟨hb, h⟩ := zbif h
        subst h
        simp only [Bool.or_eq_true, decide_eq_true_eq] at hb
        refine W.zret (ty := .boolean) C.1 C.2.1 (by rw [hr, hy]) ?_ hq hf hd
        rcases hb with rfl | rfl <;> rfl
      · cases h
    · cases h
  · next x hi =>
    obtain ⟨len, a, b'⟩ := x
    obtain ⟨hd, ha⟩ := zchk_spec (zck y C.2.2.2.2.2.2.2.2.2.2.1) hi
    have hd := zlen hd ha
    split at h
    · split at h
      · next hy =>
        simp only [Option.some.injEq] at h
        subst h
        exact W.dret C.1 C.2.1 (by rw [hr, hy]) hq hf hd
      · cases h
    · cases h
  · next x hi =>
    obtain ⟨len, a, b'⟩ := x
    obtain ⟨hd, ha⟩ := zchk_spec (zck y C.2.2.2.2.2.2.2.2.2.2.1) hi
    have hd := zlen hd ha
    split at h
    · next x =>
      split at h
      · next n hy =>
        simp only [Option.some.injEq] at h
        subst h
        refine W.aret C.1 C.2.1 (by rw [hr, hy]) (Or.inl ⟨_, rfl⟩) ?_ hq hf hd
        by_cases h0 : x = 0
        · subst h0; exact Or.inl rfl
        · exact Or.inr ⟨_, zcv_r h0⟩
      · cases h
    · cases h
  · next x hi =>
    obtain ⟨len, a, b'⟩ := x
    obtain ⟨hd, ha⟩ := zchk_spec (zck y C.2.2.2.2.2.2.2.2.2.2.1) hi
    have hd := zlen hd ha
    split at h
    · split at h
      · next hy =>
        simp only [Option.some.injEq] at h
        subst h
        exact W.vret C.1 C.2.1 (by rw [hr, hy]) hq hf hd
      · cases h
    · cases h
  · cases h
theorem zre_r {y pc : Nat} {st : List zV} {r : Option zV} (h : zre y pc st = some r) (hS : ∀ v ∈ st, zvr v) : ∀ w, r = some w → zvr w := by
  unfold zre at h
  repeat' split at h
  all_goals first
    | (cases h; done)
    | (cases h; intro w hw; cases hw; done)
    | (cases h; intro w hw; cases hw; exact hS _ List.mem_cons_self)
    | (obtain ⟨-, h⟩ := zbif h; subst h; intro w hw; cases hw; exact hS _ List.mem_cons_self)
/-- soundness of one run: whatever the machine's context, it comes to the end -/
def zSnd (l : Launch) : zRel := fun y pc L st σ r τ => σ.2.2.2 ≤ τ.2.2.2 ∧ ∀ (p : Program) (e : Env) (R : Room) (s : State) (m : MethodId) (args : Array Value) (below : List Frame) (meth : Method) (c : Code) (cA : Nat → ClassId) (D : va_G) (base b Lx : Nat) (xs : Nat → Int32) (H : Heap) (locs : List Loc) (cells slots : Nat) (Q : State → Prop) (ls : Array Slot),
  zCx p R s m args meth c cA D base b Lx xs y → zH cA D base b Lx xs s σ H locs cells → (∀ q ∈ L, zvr q.2) → (∀ v ∈ st, zvr v) → lv_has ls (zml y) (L.map (zcq base b)) → cells + (τ.2.2.2 - σ.2.2.2) ≤ R.cells → slots + (zsz τ.2.2.2 - zsz σ.2.2.2) ≤ R.slots →
  (∀ (pcq : Nat) (stq : List zV) (lsq : Array Slot) (Hq : Heap) (locsq : List Loc), zre y pcq stq = some r → (∀ v ∈ stq, zvr v) → zH cA D base b Lx xs s τ Hq locsq (cells + (τ.2.2.2 - σ.2.2.2)) → zW p l e R s m args below meth c base b Hq locsq (cells + (τ.2.2.2 - σ.2.2.2)) (slots + (zsz τ.2.2.2 - zsz σ.2.2.2)) Q pcq lsq stq) →
  zW p l e R s m args below meth c base b H locs cells slots Q pc ls st
theorem zadd3 {k a b c : Nat} (h1 : a ≤ b) (h2 : b ≤ c) : k + (b - a) + (c - b) = k + (c - a) := by omega
theorem zlg_len {base b : Nat} : ∀ (As : List zV), (lg_sl (As.map (zcv base b))).length = zcats As
  | [] => rfl
  | v :: vs => by
    have ih := zlg_len (base := base) (b := b) vs
    have hc := zcat_cv (base := base) (b := b) v
    rcases v with x | r | f | d
    · simp only [lg_sl, List.map_cons, List.flatMap_cons, List.length_append, zcats, List.sum_cons] at ih ⊢
      rw [ih]; rfl
    · simp only [lg_sl, List.map_cons, List.flatMap_cons, List.length_append, zcats, List.sum_cons] at ih ⊢
      rw [ih]
      have : (zcv base b (.inr (.inl r))).category = 1 := hc
      simp [this, zcat]
    · simp only [lg_sl, List.map_cons, List.flatMap_cons, List.length_append, zcats, List.sum_cons] at ih ⊢
      rw [ih]; rfl
    · simp only [lg_sl, List.map_cons, List.flatMap_cons, List.length_append, zcats, List.sum_cons] at ih ⊢
      rw [ih]; rfl
theorem zargs_map {base b : Nat} : ∀ (As : List zV) (i : Nat), lv_args i (As.map (zcv base b)) = (zargs i As).map (zcq base b)
  | [], _ => rfl
  | v :: vs, i => by
    simp only [List.map_cons, lv_args, zargs, zcat_cv, zargs_map vs]
theorem zargs_r : ∀ (As : List zV) (i : Nat), (∀ v ∈ As, zvr v) → ∀ q ∈ zargs i As, zvr q.2
  | [], _, _, q, hq => by cases hq
  | v :: vs, i, h, q, hq => by
    rcases List.mem_cons.mp hq with rfl | hq
    · exact h v List.mem_cons_self
    · exact zargs_r vs _ (fun w hw => h w (List.mem_cons_of_mem _ hw)) q hq
theorem zbeq_f {a n : Nat} (h : a ≠ n) : Nat.beq a n = false := by
  cases hb : Nat.beq a n with
  | false => rfl
  | true => exact absurd (Nat.eq_of_beq_eq_true hb) h
theorem zcls_ok : ∀ a, a < zN → (zname a).cls = zR (zown a) ∧ (zini a = true → (zname a).name = "<init>") := by
  intro a ha
  have h0 : (List.range zN).all (fun a => decide ((zname a).cls = zR (zown a) ∧ (zini a = true → (zname a).name = "<init>"))) = true := by decide +kernel
  exact of_decide_eq_true (List.all_eq_true.mp h0 a (List.mem_range.mpr ha))
abbrev zwsy (a : Nat) : List Cond := Cond.code (zname a) (zb a) (zml a) (zrt a) :: lw_good
theorem zcw : ∀ a, a < zlaw → Cond.code (zname a) (zb a) (zml a) (zrt a) ∈ lw_tbl := lt_s (lt_s (lt_s (lt_s (lt_s (lt_s (lt_s (lt_s (lt_s (lt_s (lt_s (lt_s (lt_s (lt_s (lt_s (lt_s (lt_s (lt_s (lt_s (lt_s (lt_s (lt_s (lt_s (lt_s (lt_s (lt_s (lt_s (lt_s (lt_s (lt_s (lt_s (lt_s (lt_s (lt_s (lt_s (lt_s (lt_s (lt_s (lt_s (lt_s (lt_s (lt_s (lt_s (lt_s (lt_s (lt_s (lt_s (lt_s (lt_s (lt_s (lt_s (lt_s (lt_s (lt_s (lt_s (lt_s (lt_s (lt_s (lt_s (lt_s (lt_s (lt_s (lt_s (lt_s (lt_s (lt_s (lt_s (lt_s (lt_s (lt_s (lt_s (lt_s (lt_s (lt_s (lt_s (lt_s (lt_s (lt_s (lt_s (lt_s (lt_s (lt_s (lt_0) zcw0) zcw1) zcw2) zcw3) zcw4) zcw5) zcw6) zcw7) zcw8) zcw9) zcw10) zcw11) zcw12) zcw13) zcw14) zcw15) zcw16) zcw17) zcw18) zcw19) zcw20) zcw21) zcw22) zcw23) zcw24) zcw25) zcw26) zcw27) zcw28) zcw29) zcw30) zcw31) zcw32) zcw33) zcw34) zcw35) zcw36) zcw37) zcw38) zcw39) zcw40) zcw41) zcw42) zcw43) zcw44) zcw45) zcw46) zcw47) zcw48) zcw49) zcw50) zcw51) zcw52) zcw53) zcw54) zcw55) zcw56) zcw57) zcw58) zcw59) zcw60) zcw61) zcw62) zcw63) zcw64) zcw65) zcw66) zcw67) zcw68) zcw69) zcw70) zcw71) zcw72) zcw73) zcw74) zcw75) zcw76) zcw77) zcw78) zcw79) zcw80) zcw81
/-- a method's contract at one start, out of a run of the pure machine -/
abbrev zPc (cA : Nat → ClassId) (D : va_G) (base b Lx : Nat) (xs : Nat → Int32) (As : List zV) (σ : zS) : Array Value → State → Prop := va_Pc (As.map (zcv base b)) (fun U => U.heap.size = base + (σ.2.2.2 - 1) ∧ va_P D vwCl (zws cA base b σ) U.heap ∧ va_K D vwCl (ztys cA) U ∧ (∀ w ∈ lw_tbl, zisn w = true → va_Nw w U) ∧ b < base ∧ va_X b Lx xs U U.heap)
abbrev zQc (cA : Nat → ClassId) (D : va_G) (base b Lx : Nat) (xs : Nat → Int32) (r : Option zV) (τ : zS) : Array Value → State → Outcome → State → Prop := fun _ st oc t => oc = .returned (r.map (zcv base b)) ∧ (∀ w, r = some w → zvr w) ∧ t.heap.size = base + (τ.2.2.2 - 1) ∧ va_P D vwCl (zws cA base b τ) t.heap ∧ zRg τ ∧ (τ.1 1000 (-1) = Lx ∧ ∀ j : Nat, j < Lx → τ.1 1000 j = (xs j).toInt) ∧ va_F (fun q => base ≤ q) st t
abbrev zRm (a : Nat) (σ τ : zS) : Room := { frames := zrank a, cells := τ.2.2.2 - σ.2.2.2, slots := zsz τ.2.2.2 - zsz σ.2.2.2, locals := zneed a }
set_option maxHeartbeats 4000000 in
theorem zmet {l : Launch} {a : Nat} {As : List zV} {σ τ : zS} {r : Option zV} {cA : Nat → ClassId} {D : va_G} {base b Lx : Nat} {xs : Nat → Int32} (hX : zSnd l a 0 (zargs 0 As) [] σ r τ) (ha : a < zlaw) (hpl : plainFor (zname a) = true) (hm : zcats As ≤ zml a) (hA : ∀ v ∈ As, zvr v) (h1 : 1 ≤ σ.2.2.2) (hR : zRg σ) (hsc : σ.1 1000 (-1) = Lx ∧ ∀ j : Nat, j < Lx → σ.1 1000 j = (xs j).toInt) (hLx : Lx ≤ 260) :
    Met l (zname a) (zwsy a) (zRm a σ τ) (zPc cA D base b Lx xs As σ) (zQc cA D base b Lx xs r τ) (τ.2.2.2 - σ.2.2.2) (zsz τ.2.2.2 - zsz σ.2.2.2) (fun q => base ≤ q) := by
  refine va_MetF (cc := zb a) (maxL := zml a) (ret := zrt a) hpl rfl ?_
  intro p e s m args below meth c s₁ B hml hv
  obtain ⟨rfl, hsz, hP, hK, hN, hbb, hXs⟩ := hv
  have hts := atoms_spec (ws := zwsy a) B.pre
  have haN : a < zN := Nat.lt_trans ha (by decide)
  obtain ⟨hcl, hini⟩ := zcls_ok a haN
  have hown := findClass_of_methodNamed B.named
  rw [hcl] at hown
  have hlocks := B.notSynchronized
  have C : zCx p (headSpec (zwsy a) (zRm a σ τ)).room s m (As.map (zcv base b)).toArray meth c cA D base b Lx xs a :=
    ⟨B.exec, B.bytes, hml, hown, fun w hw => hts w (List.mem_cons_of_mem _ hw), fun h => by rw [(name_of_methodNamed B.named B.method).1]; exact hini h, hK, Nat.le_refl _, Nat.le_refl _, hN, haN, hLx, ⟨hbb, hXs⟩, by rw [hsz]; exact Nat.le_add_right _ _⟩
  have hl := lv_entry (As.map (zcv base b)) (n := zml a) (by rw [zlg_len]; exact hm)
  rw [lg_entry_eq]
  generalize (lg_sl (As.map (zcv base b)) ++ List.replicate (zml a - (lg_sl (As.map (zcv base b))).length) Slot.unset).toArray = ls at hl ⊢
  rw [zargs_map] at hl
  have hH : zH cA D base b Lx xs s σ s.heap [] 0 := ⟨h1, hsz, hP, hR, hsc, va_S.rf, by rw [hsz]; rfl⟩
  refine hX.2 p e _ s m _ below meth c cA D base b Lx xs s.heap [] 0 0 _ ls C hH (zargs_r As 0 hA) (fun v hv => by cases hv) hl (by rw [Nat.zero_add]; exact Nat.le_refl _) (by rw [Nat.zero_add]; exact Nat.le_refl _) ?_
  intro pcq stq lsq Hq locsq hre hSq hHq
  simp only [Nat.zero_add] at hHq ⊢
  exact zre_sound C B.returns hlocks hre (fun t ht hW => ⟨rfl, zre_r hre hSq, by rw [ht]; exact hHq.2.1, by rw [ht]; exact hHq.2.2.1, hHq.2.2.2.1, hHq.2.2.2.2.1, hHq.2.2.2.2.2.1.F ht⟩) (fun q hq => hHq.2.2.2.2.2.1.2.2 q hq)
theorem zGI {ws : List Cond} (h : ∀ w ∈ ws, w ∈ lw_good) : GoodIn lw_good ws := fun w hw => ⟨h w hw, good_of_word (List.mem_filter.mp (h w hw)).2⟩
theorem zwsy_in {a : Nat} (ha : a < zlaw) : ∀ w ∈ zwsy a, w ∈ lw_good := fun w hw => (List.mem_cons.mp hw).elim (fun e => e ▸ zgood (zcw a ha) rfl) id
theorem zover : ∀ w ∈ lw_tbl, ∀ ty, w = .arrayOver ty → ty = .object RX1 := by
  intro w hw ty e
  subst e
  have h0 : lw_tbl.all (fun w => match w with | .arrayOver ty => decide (ty = .object RX1) | _ => true) = true := by decide +kernel
  exact of_decide_eq_true (List.all_eq_true.mp h0 _ hw)
theorem zwarm {w : Cond} {s U : State} (hw : w ∈ lw_tbl) (hg : zisn w = true) (hW : s.WarmedH U.vm) (h : va_Nw w s) : va_Nw w U := by
  cases w <;> first
    | (cases hg; done)
    | exact va_Nw.warmM hW h
    | (cases zover _ hw _ rfl; exact va_AO.moved hW.alike h)
theorem zsame {w : Cond} {s U : State} (hw : w ∈ lw_tbl) (hg : zisn w = true) (hW : s.vm = U.vm) (h : va_Nw w s) : va_Nw w U := by
  cases w <;> first
    | (cases hg; done)
    | exact va_Nw.same rfl hW h
    | (cases zover _ hw _ rfl; exact va_AO.moved (by rw [hW]; exact Vm.Alike.refl _) h)
theorem zblind {cA : Nat → ClassId} {D : va_G} {base b Lx : Nat} {xs : Nat → Int32} {As : List zV} {σ : zS} : FrameBlind (zPc cA D base b Lx xs As σ) := fun a U g mk q => ⟨q.1, q.2.1, q.2.2.1, va_K.moved (u := U) (U := U.calling g mk a) (Vm.Alike.refl U.vm) q.2.2.2.1, fun w hw hg => zsame (s := U) (U := U.calling g mk a) hw hg rfl (q.2.2.2.2.1 w hw hg), q.2.2.2.2.2.1, va_X.moved (u := U) (U := U.calling g mk a) (Vm.Alike.refl U.vm) q.2.2.2.2.2.2⟩
/-- the script at a callee's entry -/
theorem zscX {p : Program} {R : Room} {s U : State} {m : MethodId} {args : Array Value} {meth : Method} {c : Code} {cA : Nat → ClassId} {D : va_G} {base b Lx : Nat} {xs : Nat → Int32} {y : Nat} {H : Heap} {locs : List Loc} {cells : Nat} {σ : zS} (C : zCx p R s m args meth c cA D base b Lx xs y) (hH : zH cA D base b Lx xs s σ H locs cells) (hU : U.heap = H) (hW : s.WarmedH U.vm) : b < base ∧ va_X b Lx xs U U.heap := by
  obtain ⟨hbb, hX⟩ := C.2.2.2.2.2.2.2.2.2.2.2.2.1
  refine ⟨hbb, va_X.moved hW.alike ?_⟩
  rw [hU]
  exact va_X.kept hX (hH.2.2.2.2.2.1.2.1 b (Nat.lt_of_lt_of_le hbb C.2.2.2.2.2.2.2.2.2.2.2.2.2) (Nat.not_le.mpr hbb))
/-- behind a call -/
theorem zback {p : Program} {l : Launch} {e : Env} {R : Room} {s : State} {m : MethodId} {args : Array Value} {below : List Frame} {meth : Method} {c : Code} {cA : Nat → ClassId} {D : va_G} {base b Lx : Nat} {xs : Nat → Int32} {y : Nat} {H : Heap} {locs : List Loc} {cells slots : Nat} {Q : State → Prop} {ls : Array Slot} {pc : Nat} {L : zL} {st rest : List zV} {σ σ1 : zS} {v : Option zV} {qa : Array Value} (C : zCx p R s m args meth c cA D base b Lx xs y) (hH : zH cA D base b Lx xs s σ H locs cells) (hL : ∀ q ∈ L, zvr q.2) (hS : ∀ v ∈ rest, zvr v) (hl : lv_has ls (zml y) (L.map (zcq base b))) (h1 : σ.2.2.2 ≤ σ1.2.2.2) (h1b : 1 ≤ σ.2.2.2)
    (hrun : va_Run p l e R s m args below meth c H locs cells slots (σ1.2.2.2 - σ.2.2.2) (zsz σ1.2.2.2 - zsz σ.2.2.2) (F0 m pc ls (st.map (zcv base b))) (rest.map (zcv base b)) (zQc cA D base b Lx xs v σ1 qa) (fun q => base ≤ q))
    (kk : ∀ (H1 : Heap) (locs1 : List Loc), zH cA D base b Lx xs s σ1 H1 locs1 (cells + (σ1.2.2.2 - σ.2.2.2)) → (∀ w ∈ v.toList ++ rest, zvr w) → zW p l e R s m args below meth c base b H1 locs1 (cells + (σ1.2.2.2 - σ.2.2.2)) (slots + (zsz σ1.2.2.2 - zsz σ.2.2.2)) Q (pc + 3) ls (v.toList ++ rest)) : zW p l e R s m args below meth c base b H locs cells slots Q pc ls st := by
  intro T hT X
  obtain ⟨v', st₀, t, T', L2, h0, X', hL2, e1, e2, ⟨hv, hvr, hz, hP1, hR1, hsc1, hF⟩, stp⟩ := hrun T hT X
  cases hv
  obtain ⟨h2, h3, h4, h5, h6, h7, h8⟩ := hH
  have hH1 : zH cA D base b Lx xs s σ1 T'.heap (locs ++ L2) (cells + (σ1.2.2.2 - σ.2.2.2)) := by
    refine ⟨Nat.le_trans h2 h1, by rw [e1]; exact hz, by rw [e1]; exact hP1, hR1, hsc1, ⟨?_, ?_, ?_⟩, by omega⟩
    · rw [e1, hz]; have := h7.1; omega
    · intro q g1 g2
      rw [e1, hF.2 q (by rw [h0]; exact Nat.lt_of_lt_of_le g1 h7.1) g2, h0]
      exact h7.2.1 q g1 g2
    · intro q hq
      rcases List.mem_append.mp hq with h | h
      · exact h7.2.2 q h
      · exact hL2 q h
  have hS1 : ∀ w ∈ v.toList ++ rest, zvr w := by
    intro w hw
    rcases List.mem_append.mp hw with h | h
    · exact hvr w (Option.mem_toList.mp h)
    · exact hS w h
  obtain ⟨t2, a1, b1⟩ := kk T'.heap (locs ++ L2) hH1 hS1 T' rfl X'
  refine ⟨t2, ?_, b1⟩
  have e5 : (v.toList ++ rest).map (zcv base b) = (v.map (zcv base b)).toList ++ rest.map (zcv base b) := by cases v <;> rfl
  rw [e5] at a1
  exact stp t2 a1
theorem zvl_spec {o i a n : Nat} (h : zvl.any (fun q => decide (q.1 = o ∧ q.2.1 = i ∧ q.2.2.1 = a ∧ q.2.2.2.1 = n)) = true) : Cond.methodLink (zR o) i (zname a) ∈ lw_tbl ∧ Cond.instanceMethod (zname a) ∈ lw_tbl ∧ Cond.selects (zname a).cls (zname a) (zname a) ∈ lw_tbl ∧ Cond.initialized (zname a).cls ∈ lw_tbl ∧ ((zname a).cls ≠ "java/lang/invoke/MethodHandle" ∧ (zname a).cls ≠ "java/lang/invoke/VarHandle" ∧ (parseMethodDescriptor (zname a).desc).map (fun d => d.parameters.length) = some n) := by
  obtain ⟨q, hq, hd⟩ := List.any_eq_true.mp h
  have h1 := List.all_eq_true.mp zvl_ok q hq
  simp only [Bool.and_eq_true, decide_eq_true_eq] at h1 hd
  obtain ⟨rfl, rfl, rfl, rfl⟩ := hd
  exact ⟨List.mem_of_getElem? h1.1.1.1.1, List.mem_of_getElem? h1.1.1.1.2, List.mem_of_getElem? h1.1.1.2, List.mem_of_getElem? h1.1.2, h1.2⟩
theorem zsl_spec {o i a n : Nat} (h : zsl.any (fun q => decide (q.1 = o ∧ q.2.1 = i ∧ q.2.2.1 = a ∧ q.2.2.2.1 = n)) = true) : Cond.methodLink (zR o) i (zname a) ∈ lw_tbl ∧ Cond.static (zname a) ∈ lw_tbl ∧ Cond.initialized (zname a).cls ∈ lw_tbl ∧ ((zname a).cls ≠ "java/lang/invoke/MethodHandle" ∧ (zname a).cls ≠ "java/lang/invoke/VarHandle" ∧ (parseMethodDescriptor (zname a).desc).map (fun d => d.parameters.length) = some n) := by
  obtain ⟨q, hq, hd⟩ := List.any_eq_true.mp h
  have h1 := List.all_eq_true.mp zsl_ok q hq
  simp only [Bool.and_eq_true, decide_eq_true_eq] at h1 hd
  obtain ⟨rfl, rfl, rfl, rfl⟩ := hd
  exact ⟨List.mem_of_getElem? h1.1.1.1, List.mem_of_getElem? h1.1.1.2, List.mem_of_getElem? h1.1.2, h1.2⟩
theorem zil_spec {o i a n : Nat} (h : zil.any (fun q => decide (q.1 = o ∧ q.2.1 = i ∧ q.2.2.1 = a ∧ q.2.2.2.1 = n)) = true) : Cond.methodLink (zR o) i (zname a) ∈ lw_tbl ∧ Cond.instanceMethod (zname a) ∈ lw_tbl ∧ Cond.initialized (zname a).cls ∈ lw_tbl ∧ (zname a).name = "<init>" ∧ zrt a = none ∧ ((zname a).cls ≠ "java/lang/invoke/MethodHandle" ∧ (zname a).cls ≠ "java/lang/invoke/VarHandle" ∧ (parseMethodDescriptor (zname a).desc).map (fun d => d.parameters.length) = some n) := by
  obtain ⟨q, hq, hd⟩ := List.any_eq_true.mp h
  have h1 := List.all_eq_true.mp zil_ok q hq
  simp only [Bool.and_eq_true, decide_eq_true_eq] at h1 hd
  obtain ⟨rfl, rfl, rfl, rfl⟩ := hd
  exact ⟨List.mem_of_getElem? h1.1.1.1.1.1, List.mem_of_getElem? h1.1.1.1.1.2, List.mem_of_getElem? h1.1.1.1.2, h1.1.1.2, h1.1.2, h1.2⟩
theorem znl_spec {o i a n : Nat} (h : znl.any (fun q => decide (q.1 = o ∧ q.2.1 = i ∧ q.2.2.1 = a ∧ q.2.2.2.1 = n)) = true) : Cond.methodLinkNest (zR o) i (zname a) "BumpsChart" ∈ lw_tbl ∧ Cond.instanceMethod (zname a) ∈ lw_tbl ∧ Cond.initialized (zname a).cls ∈ lw_tbl ∧ (zname a).name = "<init>" ∧ zrt a = none ∧ ((zname a).cls ≠ "java/lang/invoke/MethodHandle" ∧ (zname a).cls ≠ "java/lang/invoke/VarHandle" ∧ (parseMethodDescriptor (zname a).desc).map (fun d => d.parameters.length) = some n) := by
  obtain ⟨q, hq, hd⟩ := List.any_eq_true.mp h
  have h1 := List.all_eq_true.mp znl_ok q hq
  simp only [Bool.and_eq_true, decide_eq_true_eq] at h1 hd
  obtain ⟨rfl, rfl, rfl, rfl⟩ := hd
  exact ⟨List.mem_of_getElem? h1.1.1.1.1.1, List.mem_of_getElem? h1.1.1.1.1.2, List.mem_of_getElem? h1.1.1.1.2, h1.1.1.2, h1.1.2, h1.2⟩
set_option maxHeartbeats 4000000 in
theorem zcl_sound {p : Program} {l : Launch} {e : Env} {R : Room} {s : State} {m : MethodId} {args : Array Value} {below : List Frame} {meth : Method} {c : Code} {cA : Nat → ClassId} {D : va_G} {base b Lx : Nat} {xs : Nat → Int32} {y : Nat} {H : Heap} {locs : List Loc} {cells slots : Nat} {Q : State → Prop} {ls : Array Slot} {pc a : Nat} {L : zL} {st As rest : List zV} {σ σ1 : zS} {v : Option zV} (C : zCx p R s m args meth c cA D base b Lx xs y) (hH : zH cA D base b Lx xs s σ H locs cells) (hL : ∀ q ∈ L, zvr q.2) (hS : ∀ v ∈ st, zvr v) (hl : lv_has ls (zml y) (L.map (zcq base b))) (h : zcl y pc st σ = some (a, As, rest)) (hX : zSnd l a 0 (zargs 0 As) [] σ v σ1) (hrc : cells + (σ1.2.2.2 - σ.2.2.2) ≤ R.cells) (hrs : slots + (zsz σ1.2.2.2 - zsz σ.2.2.2) ≤ R.slots)
    (kk : ∀ (H1 : Heap) (locs1 : List Loc), zH cA D base b Lx xs s σ1 H1 locs1 (cells + (σ1.2.2.2 - σ.2.2.2)) → (∀ w ∈ v.toList ++ rest, zvr w) → zW p l e R s m args below meth c base b H1 locs1 (cells + (σ1.2.2.2 - σ.2.2.2)) (slots + (zsz σ1.2.2.2 - zsz σ.2.2.2)) Q (pc + 3) ls (v.toList ++ rest)) : zW p l e R s m args below meth c base b H locs cells slots Q pc ls st := by
  have hLx := C.2.2.2.2.2.2.2.2.2.2.2.1
  unfold zcl at h
  split at h
  · next idx len a' n hi =>
    obtain ⟨hd, ha⟩ := zchk_spec (zck y C.2.2.2.2.2.2.2.2.2.2.1) hi
    simp only [zaux, Bool.and_eq_true, decide_eq_true_eq] at ha
    obtain ⟨⟨⟨ha3, ha9⟩, hrm⟩, hany⟩ := ha
    split at h
    · next q r hdrop =>
      obtain ⟨hb, h⟩ := zbif h
      simp only [Prod.mk.injEq] at h
      obtain ⟨rfl, rfl, rfl⟩ := h
      simp only [Bool.and_eq_true] at hb
      obtain ⟨⟨⟨hob, hr8⟩, hlen⟩, hml⟩ := hb
      have hr8 := Nat.le_of_ble_eq_true hr8
      have hlen := Nat.eq_of_beq_eq_true hlen
      have hml := Nat.le_of_ble_eq_true hml
      simp only [zrm, Bool.and_eq_true, decide_eq_true_eq] at hrm
      obtain ⟨e1, e2, e3, e4⟩ := zob_spec hob (by omega)
      obtain ⟨w1, w2, w3, w4, w5⟩ := zvl_spec hany
      have hst : st = st.take n ++ vr q :: r := by rw [← hdrop]; exact (List.take_append_drop n st).symm
      have hsm : st.map (zcv base b) = ((st.take n).reverse.map (zcv base b)).reverse ++ Value.ref (base + (q - 1)) :: r.map (zcv base b) := by
        conv => lhs; rw [hst]
        rw [List.map_append, List.map_cons, zcv_o e3 e4, List.map_reverse, List.reverse_reverse]
      have hSr : ∀ v ∈ r, zvr v := fun v hv => hS v (by rw [hst]; exact List.mem_append_right _ (List.mem_cons_of_mem _ hv))
      have hSA : ∀ v ∈ vr q :: (st.take n).reverse, zvr v := zcons trivial (fun v hv => hS v (List.mem_of_mem_take (List.mem_reverse.mp hv)))
      have hM := zmet (cA := cA) (D := D) (base := base) (b := b) (Lx := Lx) (xs := xs) hX hrm.1.2 hrm.2 (by simpa [zcats, List.sum_reverse, zcat] using hml) hSA hH.1 hH.2.2.2.1 hH.2.2.2.2.1 hLx
      have hcls := (zcls_ok a' (Nat.lt_trans hrm.1.2 (by decide))).1
      refine zback (qa := (Value.ref (base + (q - 1)) :: (st.take n).reverse.map (zcv base b)).toArray) C hH hL hSr hl hX.1 hH.1 (va_runV (b := base + (q - 1)) (As := (st.take n).reverse.map (zcv base b)) (C := (zname a').cls) ⟨C.1, C.2.1, C.2.2.1, C.2.2.2.1, C.2.2.2.2.1⟩ hM (cwV n C.2.2.2.2.1 (zGI (fun w hw => ?_)) rfl rfl rfl ⟨rfl, w5⟩ ⟨Nat.le_trans hrm.1.1.1 C.2.2.2.2.2.2.2.1, Nat.le_trans hrm.1.1.2 C.2.2.2.2.2.2.2.2.1⟩) ⟨zblind, ?_, fun U hU hW => ?_⟩ rfl (by simpa using hlen) hl.1 hsm (by rw [zcats_map]; show 2 * 0 + _ ≤ 8; omega) (zlen hd ha3) ⟨hrc, hrs⟩) kk
      · rcases List.mem_append.mp hw with hw | hw
        · simp only [List.mem_cons, List.mem_nil_iff, or_false] at hw
          rcases hw with rfl | rfl | rfl | rfl
          · exact zgood w1 rfl
          · exact zgood w2 rfl
          · exact zgood w3 rfl
          · exact zgood w4 rfl
        · exact zwsy_in hrm.1.2 w hw
      · have := va_recv (q := (zR (zown a'), zT (zown a'), znf (zown a'))) C.2.2.2.2.2.2.1 hH.2.2.1 (zvw (zown a') ha9) (by rw [zws_get e3 e2, zE_obj e1 ha9])
        rw [hcls]
        exact this
      · refine ⟨?_, by rw [hU]; exact hH.2.1, by rw [hU]; exact hH.2.2.1, va_K.moved hW.alike C.2.2.2.2.2.2.1, fun w hw hg => zwarm hw hg hW (C.2.2.2.2.2.2.2.2.2.1 w hw hg), zscX C hH hU hW⟩
        simp only [List.map_cons, zcv_o e3 e4]
    · cases h
  · next idx len a' n hi =>
    obtain ⟨hd, ha⟩ := zchk_spec (zck y C.2.2.2.2.2.2.2.2.2.2.1) hi
    obtain ⟨hb, h⟩ := zbif h
    simp only [Prod.mk.injEq] at h
    obtain ⟨rfl, rfl, rfl⟩ := h
    simp only [Bool.and_eq_true] at hb
    obtain ⟨⟨⟨hlt, hr8⟩, hlen⟩, hml⟩ := hb
    have hlt : a' < 1000 := by simpa using hlt
    have hr8 := Nat.le_of_ble_eq_true hr8
    have hlen := Nat.eq_of_beq_eq_true hlen
    have hml := Nat.le_of_ble_eq_true hml
    have n1 : Nat.beq a' 1000 = false := zbeq_f (by omega)
    simp only [zaux, n1, cond_false, Bool.and_eq_true] at ha
    obtain ⟨ha3, hrm, hany⟩ := ha
    simp only [zrm, Bool.and_eq_true, decide_eq_true_eq] at hrm
    obtain ⟨w1, w2, w4, w5⟩ := zsl_spec hany
    have hst : st = st.take n ++ st.drop n := (List.take_append_drop n st).symm
    have hsm : st.map (zcv base b) = ((st.take n).reverse.map (zcv base b)).reverse ++ (st.drop n).map (zcv base b) := by
      conv => lhs; rw [hst]
      rw [List.map_append, List.map_reverse, List.reverse_reverse]
    have hSr : ∀ v ∈ st.drop n, zvr v := fun v hv => hS v (List.mem_of_mem_drop hv)
    have hSA : ∀ v ∈ (st.take n).reverse, zvr v := fun v hv => hS v (List.mem_of_mem_take (List.mem_reverse.mp hv))
    have hM := zmet (cA := cA) (D := D) (base := base) (b := b) (Lx := Lx) (xs := xs) hX hrm.1.2 hrm.2 (by simpa [zcats, List.sum_reverse] using hml) hSA hH.1 hH.2.2.2.1 hH.2.2.2.2.1 hLx
    refine zback (qa := ((st.take n).reverse.map (zcv base b)).toArray) C hH hL hSr hl hX.1 hH.1 (va_runS (As := (st.take n).reverse.map (zcv base b)) ⟨C.1, C.2.1, C.2.2.1, C.2.2.2.1, C.2.2.2.2.1⟩ hM ⟨callB_of n C.2.2.2.2.1 (zGI (zwsy_in hrm.1.2)) rfl rfl rfl (C.2.2.2.2.1 _ (zgood w4 rfl)) (C.2.2.2.2.1 _ (zgood w1 rfl)) w5 ⟨Nat.le_trans hrm.1.1.1 C.2.2.2.2.2.2.2.1, Nat.le_trans hrm.1.1.2 C.2.2.2.2.2.2.2.2.1⟩, C.2.2.2.2.1 _ (zgood w2 rfl)⟩ ⟨zblind, fun U hU hW => ⟨rfl, by rw [hU]; exact hH.2.1, by rw [hU]; exact hH.2.2.1, va_K.moved hW.alike C.2.2.2.2.2.2.1, fun w hw hg => zwarm hw hg hW (C.2.2.2.2.2.2.2.2.2.1 w hw hg), zscX C hH hU hW⟩⟩ rfl (by simpa using hlen) hl.1 hsm (by rw [zcats_map]; show 2 * 0 + _ ≤ 8; omega) (zlen hd ha3) ⟨hrc, hrs⟩) kk
  · next idx len a' n hi =>
    obtain ⟨hd, ha⟩ := zchk_spec (zck y C.2.2.2.2.2.2.2.2.2.2.1) hi
    split at h
    · next q r hdrop =>
      obtain ⟨hb, h⟩ := zbif h
      simp only [Prod.mk.injEq] at h
      obtain ⟨rfl, rfl, rfl⟩ := h
      simp only [Bool.and_eq_true] at hb
      obtain ⟨⟨⟨⟨hlt, hob⟩, hr8⟩, hlen⟩, hml⟩ := hb
      have hlt : a' < 1000 := by simpa using hlt
      have hr8 := Nat.le_of_ble_eq_true hr8
      have hlen := Nat.eq_of_beq_eq_true hlen
      have hml := Nat.le_of_ble_eq_true hml
      have n1 : Nat.beq a' 1002 = false := zbeq_f (by omega)
      simp only [zaux, n1, cond_false, Bool.and_eq_true, decide_eq_true_eq, Bool.or_eq_true] at ha
      obtain ⟨ha3, ⟨ha9, hrm⟩, hany⟩ := ha
      simp only [zrm, Bool.and_eq_true, decide_eq_true_eq] at hrm
      obtain ⟨e1, e2, e3, e4⟩ := zob_spec hob (by omega)
      have hst : st = st.take n ++ vr q :: r := by rw [← hdrop]; exact (List.take_append_drop n st).symm
      have hsm : st.map (zcv base b) = ((st.take n).reverse.map (zcv base b)).reverse ++ Value.ref (base + (q - 1)) :: r.map (zcv base b) := by
        conv => lhs; rw [hst]
        rw [List.map_append, List.map_cons, zcv_o e3 e4, List.map_reverse, List.reverse_reverse]
      have hSr : ∀ v ∈ r, zvr v := fun v hv => hS v (by rw [hst]; exact List.mem_append_right _ (List.mem_cons_of_mem _ hv))
      have hSA : ∀ v ∈ vr q :: (st.take n).reverse, zvr v := zcons trivial (fun v hv => hS v (List.mem_of_mem_take (List.mem_reverse.mp hv)))
      have hM := zmet (cA := cA) (D := D) (base := base) (b := b) (Lx := Lx) (xs := xs) hX hrm.1.2 hrm.2 (by simpa [zcats, List.sum_reverse, zcat] using hml) hSA hH.1 hH.2.2.2.1 hH.2.2.2.2.1 hLx
      have hpre : ∀ U : State, U.heap = H → s.WarmedH U.vm → zPc cA D base b Lx xs (vr q :: (st.take n).reverse) σ (Value.ref (base + (q - 1)) :: (st.take n).reverse.map (zcv base b)).toArray U := by
        intro U hU hW
        refine ⟨?_, by rw [hU]; exact hH.2.1, by rw [hU]; exact hH.2.2.1, va_K.moved hW.alike C.2.2.2.2.2.2.1, fun w hw hg => zwarm hw hg hW (C.2.2.2.2.2.2.2.2.2.1 w hw hg), zscX C hH hU hW⟩
        simp only [List.map_cons, zcv_o e3 e4]
      rcases hany with hany | hany
      · obtain ⟨w1, w2, w4, w6, w7, w5⟩ := zil_spec hany
        rw [show zwsy a' = Cond.code (zname a') (zb a') (zml a') none :: lw_good by rw [zwsy, w7]] at hM
        refine zback (qa := (Value.ref (base + (q - 1)) :: (st.take n).reverse.map (zcv base b)).toArray) C hH hL hSr hl hX.1 hH.1 (va_runI (b := base + (q - 1)) (As := (st.take n).reverse.map (zcv base b)) ⟨C.1, C.2.1, C.2.2.1, C.2.2.2.1, C.2.2.2.2.1⟩ hM (cwI n C.2.2.2.2.1 (zGI (by rw [← w7]; exact zwsy_in hrm.1.2)) rfl rfl rfl (C.2.2.2.2.1 _ (zgood w4 rfl)) (C.2.2.2.2.1 _ (zgood w1 rfl)) (C.2.2.2.2.1 _ (zgood w2 rfl)) w6 w5 ⟨Nat.le_trans hrm.1.1.1 C.2.2.2.2.2.2.2.1, Nat.le_trans hrm.1.1.2 C.2.2.2.2.2.2.2.2.1⟩) ⟨zblind, hpre⟩ rfl (by simpa using hlen) hl.1 hsm (by rw [zcats_map]; show 2 * 0 + _ ≤ 8; omega) (zlen hd ha3) ⟨hrc, hrs⟩) kk
      · obtain ⟨w1, w2, w4, w6, w7, w5⟩ := znl_spec hany
        rw [show zwsy a' = Cond.code (zname a') (zb a') (zml a') none :: lw_good by rw [zwsy, w7]] at hM
        refine zback (qa := (Value.ref (base + (q - 1)) :: (st.take n).reverse.map (zcv base b)).toArray) C hH hL hSr hl hX.1 hH.1 (va_runIN (b := base + (q - 1)) (As := (st.take n).reverse.map (zcv base b)) ⟨C.1, C.2.1, C.2.2.1, C.2.2.2.1, C.2.2.2.2.1⟩ hM ⟨va_cnB n C.2.2.2.2.1 (zGI (by rw [← w7]; exact zwsy_in hrm.1.2)) rfl rfl rfl (C.2.2.2.2.2.2.2.2.2.1 _ w1 rfl) (C.2.2.2.2.1 _ (zgood w4 rfl)) w5 ⟨Nat.le_trans hrm.1.1.1 C.2.2.2.2.2.2.2.1, Nat.le_trans hrm.1.1.2 C.2.2.2.2.2.2.2.2.1⟩, w6, C.2.2.2.2.1 _ (zgood w2 rfl)⟩ ⟨zblind, hpre⟩ rfl (by simpa using hlen) hl.1 hsm (by rw [zcats_map]; show 2 * 0 + _ ≤ 8; omega) (zlen hd ha3) ⟨hrc, hrs⟩) kk
    · cases h
  · cases h
theorem zbr_r {y pc t f : Nat} {st st1 : List zV} {P : Prop} (h : zbr y pc st = some (P, t, f, st1)) (hS : ∀ v ∈ st, zvr v) : ∀ v ∈ st1, zvr v := by
  unfold zbr at h
  repeat' split at h
  all_goals first
    | (cases h; done)
    | (cases h; exact zct (zct hS))
    | (cases h; exact zct hS)
theorem zarrV_congr {c : ClassId} {n : Nat} {f g : Nat → Value} (h : ∀ j, j < n → f j = g j) : arrV c n f = arrV c n g := by
  unfold arrV
  congr 1
  apply congrArg
  funext j
  exact h j.val j.isLt
theorem zat_congr {cA : Nat → ClassId} {D : va_G} {base b q r : Nat} {σ τ : zS} {H : Heap} (h : ∀ j : Nat, j < (zsh r).2 → τ.1 r j = σ.1 r j ∧ τ.2.1 r j = σ.2.1 r j ∧ τ.2.2.1 r j = σ.2.2.1 r j) (hA : va_at D vwCl (q, zE cA base b σ r) H) : va_at D vwCl (q, zE cA base b τ r) H := by
  by_cases h9 : (zsh r).1 < 8
  · have e : zE cA base b τ r = zE cA base b σ r := by
      rw [zE_obj rfl h9, zE_obj rfl h9]
      congr 2
      apply List.map_congr_left
      intro j hj
      have hj := List.mem_range.mp hj
      obtain ⟨a1, a2, -⟩ := h j (by rw [zshn r h9]; exact hj)
      simp only [zfv, a1, a2]
    rw [e]; exact hA
  · by_cases h13 : (zsh r).1 = 13
    · rw [zE_dbl h13] at hA ⊢
      refine Eq.trans hA (congrArg some ?_)
      exact zarrV_congr (c := cA 13) (f := fun j => .double (σ.2.2.1 r j)) (g := fun j => .double (τ.2.2.1 r j)) (fun j hj => by rw [(h j hj).2.2])
    · by_cases h14 : (zsh r).1 = 14
      · rw [zE_ref h14] at hA ⊢
        refine Eq.trans hA (congrArg some ?_)
        exact zarrV_congr (c := cA 14) (f := fun j => va_rf (zrf base b (σ.2.1 r j))) (g := fun j => va_rf (zrf base b (τ.2.1 r j))) (fun j hj => by rw [(h j hj).2.1])
      · rw [zE_int rfl h9 h13 h14] at hA ⊢
        refine Eq.trans hA (congrArg some ?_)
        exact zarrV_congr (c := cA (zsh r).1) (f := fun j => .int (Int32.ofInt (σ.1 r j))) (g := fun j => .int (Int32.ofInt (τ.1 r j))) (fun j hj => by rw [(h j hj).1])
/-- soundness -/
theorem zSnd_cl (l : Launch) : zCl (zSnd l) := by
  refine ⟨?_, ?_, ?_, ?_, ?_, ?_⟩
  · intro y pc L st σ g pc1 L1 st1 σ1 r τ h hg hX
    have hm := zst_mono h
    refine ⟨Nat.le_trans hm hX.1, ?_⟩
    intro p e R s m args below meth c cA D base b Lx xs H locs cells slots Q ls C hH hL hS hl hrc hrs K
    have z1 := zsz_mono hm
    have z2 := zsz_mono hX.1
    have h2 := hX.1
    refine zst_sound C hH hL hS hl h hg (by omega) (by omega) ?_
    intro ls1 H1 locs1 hH1 hL1 hS1 hl1
    refine hX.2 p e R s m args below meth c cA D base b Lx xs H1 locs1 _ _ Q ls1 C hH1 hL1 hS1 hl1 (by rw [zadd3 hm h2]; exact hrc) (by rw [zadd3 z1 z2]; exact hrs) ?_
    rw [zadd3 hm h2, zadd3 z1 z2]
    exact K
  · intro y pc L st σ P t f st1 r τ h ht hf
    by_cases hP : P
    · refine ⟨(ht hP).1, ?_⟩
      intro p e R s m args below meth c cA D base b Lx xs H locs cells slots Q ls C hH hL hS hl hrc hrs K
      exact zbr_sound C hH hL hS hl h (fun _ => (ht hP).2 p e R s m args below meth c cA D base b Lx xs H locs cells slots Q ls C hH hL (zbr_r h hS) hl hrc hrs K) (fun q => absurd hP q)
    · refine ⟨(hf hP).1, ?_⟩
      intro p e R s m args below meth c cA D base b Lx xs H locs cells slots Q ls C hH hL hS hl hrc hrs K
      exact zbr_sound C hH hL hS hl h (fun q => absurd q hP) (fun _ => (hf hP).2 p e R s m args below meth c cA D base b Lx xs H locs cells slots Q ls C hH hL (zbr_r h hS) hl hrc hrs K)
  · intro y pc L st σ a As rest v σ1 r τ h hX hY
    refine ⟨Nat.le_trans hX.1 hY.1, ?_⟩
    intro p e R s m args below meth c cA D base b Lx xs H locs cells slots Q ls C hH hL hS hl hrc hrs K
    have z1 := zsz_mono hX.1
    have z2 := zsz_mono hY.1
    have hm := hX.1
    have h2 := hY.1
    refine zcl_sound C hH hL hS hl h hX (by omega) (by omega) ?_
    intro H1 locs1 hH1 hS1
    refine hY.2 p e R s m args below meth c cA D base b Lx xs H1 locs1 _ _ Q ls C hH1 hL hS1 hl (by rw [zadd3 hm h2]; exact hrc) (by rw [zadd3 z1 z2]; exact hrs) ?_
    rw [zadd3 hm h2, zadd3 z1 z2]
    exact K
  · intro y pc L st σ r h
    refine ⟨Nat.le_refl _, ?_⟩
    intro p e R s m args below meth c cA D base b Lx xs H locs cells slots Q ls C hH hL hS hl hrc hrs K
    have k := K pc st ls H locs h hS (by simpa only [Nat.sub_self, Nat.add_zero] using hH)
    simpa only [Nat.sub_self, Nat.add_zero] using k
  · intro y pc L L1 st σ r τ hsub hX
    refine ⟨hX.1, ?_⟩
    intro p e R s m args below meth c cA D base b Lx xs H locs cells slots Q ls C hH hL hS hl hrc hrs K
    refine hX.2 p e R s m args below meth c cA D base b Lx xs H locs cells slots Q ls C hH (fun q hq => hL q (hsub q hq)) hS ⟨hl.1, hl.2.1, fun q hq => ?_⟩ hrc hrs K
    obtain ⟨z, hz, rfl⟩ := List.mem_map.mp hq
    exact hl.2.2 _ (List.mem_map.mpr ⟨z, hsub z hz, rfl⟩)
  · intro y pc L st σ σ1 r τ he hX
    obtain ⟨e1, e3, e4⟩ := he
    refine ⟨by rw [e1]; exact hX.1, ?_⟩
    intro p e R s m args below meth c cA D base b Lx xs H locs cells slots Q ls C hH hL hS hl hrc hrs K
    rw [e1] at hrc hrs K
    refine hX.2 p e R s m args below meth c cA D base b Lx xs H locs cells slots Q ls C ?_ hL hS hl hrc hrs K
    obtain ⟨h2, h3, h4, h5, h6, h7, h8⟩ := hH
    refine ⟨by rw [← e1]; exact h2, by rw [← e1]; exact h3, ?_, fun r hr j hj => by rw [(e4 r (by rw [e1]; exact hr) j hj).1]; exact h5 r (by rw [e1]; exact hr) j hj, ⟨by rw [e3]; exact h6.1, fun j hj => by rw [e3]; exact h6.2 j hj⟩, h7, by rw [← e1]; exact h8⟩
    intro k q hq
    obtain ⟨hk, rfl⟩ := zws_at hq
    have h9 := h4 k _ (show (zws cA base b σ)[k]? = some (base + k, zE cA base b σ (k + 1)) from zws_get (cA := cA) (base := base) (b := b) (σ := σ) (r := k + 1) (by omega) (by omega))
    exact zat_congr (fun j hj => e4 (k + 1) (by omega) j hj) h9

