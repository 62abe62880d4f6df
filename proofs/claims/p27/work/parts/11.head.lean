-- ===== end of PART A; then your names; then what follows =====
/-! THE CLAIM OUT OF ONE WALK OF THE LAW'S BODY. Your part is whole_start (and what it stands on); all else here is the same for every law, but numbers. -/
def R_law : String := "BumpsChartLaw"
def lw_P (b : Addr) (xs : List Int32) (args : Array Value) (s : State) : Prop := args = #[.ref b] ∧ s.IntsAt b xs ∧ xs.length ≤ 260 ∧ (Jvm.Cond.and given_1 narrow_1).before args s = true
/-- what a walk over the start with the record d0 says of its end, said of the start itself -/
theorem lw_closed {s t : State} {o : Outcome} {d0 : Drawn} {L : List Loc} {k n : Nat} (hd0 : s.drawn.sameBut d0 lw_cs) (hv : ∃ v, o = .returned v) (hW : (s.setDrawn d0).WarmedH t.vm) (hs : (s.setDrawn d0).sameButNew ({ t with vm := s.vm } : State) L k n) : State.butDraws s t lw_cs (fun t1 => Framed s o t1 L k n) := by
  have h2 : t.drawn = d0 := congrArg State.drawn hs.1
  refine ⟨⟨hv, hW, State.sameButNew.setDrawn hs s.drawn⟩, ?_, by decide⟩
  rw [h2]
  exact hd0
def lw_Q (_ : Array Value) (s : State) (o : Outcome) (t : State) : Prop := o = .returned (some (.int 1)) ∧ State.butDraws s t lw_cs (fun t1 => Framed s o t1 [] 600000 7302250)
def lw_Z (below : List Frame) (a : Array Value) (s : State) : State → Prop := fun t => ∃ o, t.status = .running ∧ Ended t below o ∧ lw_Q a s o t
/-- the law's own end, with 1 on the stack, nothing written that was there before, its room as the claim has it; d0: the record of draws at this point (at the entry s.drawn: begin with 'refine W.base ?_' and 'have hd0 := Drawn.sameBut.refl s.drawn lw_cs') -/
theorem lw_ret {p : Program} {l : Launch} {e : Env} {s : State} {m : MethodId} {below : List Frame} {meth : Method} {c : Code} {b : Nat} {d0 : Drawn} (hd0 : s.drawn.sameBut d0 lw_cs) (hx : p.tables.exec = Jvm.exec) (hb : c.code = code) (hr : meth.sig.returnType = ret) (hlocks : meth.locks = false) {pc : Nat} {H : Heap} {ls : Array Slot} (hdg : decode code pc = .ok (.ireturn, 1)) : W p l e room_1 (s.setDrawn d0) m #[Value.ref b] below meth c H [] 600000 7302250 (lw_Z below #[Value.ref b] s) (F0 m pc ls [.int 1]) := by
  intro T hT X
  obtain ⟨fs, hret, hrun, hended, hW, hframe⟩ := X.leave (v := some (.int 1)) (hlocks := hlocks) (fun h => by rw [hr] at h; cases h)
  have hmeth' : T.vm.method? m = some meth := X.method'
  refine ⟨T.setFrames fs, ?_, .returned (some (.int 1)), hrun, hended, rfl, lw_closed hd0 ⟨_, rfl⟩ hW hframe⟩
  jvm_step X.here [X.here.top, hx, hb, hdg, hmeth', hr, ret, narrow_b1]
  (try refine ⟨rfl, ?_⟩); (try refine ⟨rfl, ?_⟩)
  first | (intro acts; rw [hret _ acts rfl rfl rfl]) | rw [hret _ _ rfl rfl rfl]
  exact Steps.refl _
/-- what holds at the law's entry: the machine, the code, the tables' words (any of lw_tbl by 'hts w (by decide +kernel)'), the script of L ints xs at the cell b, what the Statement gives of the start (any of its parts by flat_of_before) -/
def lw_At (p : Program) (s : State) (m : MethodId) (meth : Method) (c : Code) (b L : Nat) (xs : Nat → Int32) : Prop :=
  p.tables.exec = Jvm.exec ∧ c.code = code ∧ meth.sig.returnType = ret ∧ c.maxLocals = 7 ∧ s.vm.findClass R_law = some m.cls ∧ (∀ w ∈ lw_tbl, w.before #[Value.ref b] s = true) ∧ va_X b L xs s s.heap ∧ b < s.heap.size ∧ meth.locks = false ∧ (Jvm.Cond.and given_1 narrow_1).before #[Value.ref b] s = true

/-- the state at the law's entry: the script alone -/
def zσ0 (L : Nat) (xs : Nat → Int32) : zS := (fun r j => if r = 1000 then (if j < 0 then (L : Int) else (xs j.toNat).toInt) else 0, fun _ _ => 0, fun _ _ => 0, 1)
set_option maxHeartbeats 4000000 in
theorem zstart {p : Program} {e : Env} {s : State} {m : MethodId} {below : List Frame} {meth : Method} {c : Code} (l : Launch) {b L : Nat} {xs : Nat → Int32} (hL : L ≤ 260) (C0 : lw_At p s m meth c b L xs) {τ : zS} (hrun : zMet zlaw [vr 1000] (zσ0 L xs) (some (vi 1)) τ) (hc : τ.2.2.2 ≤ 1000) (hz : zsz τ.2.2.2 ≤ 100000) : W p l e room_1 s m #[Value.ref b] below meth c s.heap [] 0 0 (lw_Z below #[Value.ref b] s) (entryFrame m ([Value.ref b] : List Value).toArray 7) := by
  obtain ⟨hx, hb, hr, hml, hown, hts, hX, hbl, hlocks, hgv⟩ := id C0
  have hK0 : ∀ ci, ci < 8 → ∃ (cC : ClassId) (iS : Nat → Nat), u_Kn s (zR ci) (zT ci) (znf ci) cC iS := by
    intro ci hci
    have hi : Cond.instantiable (zR ci) (znf ci) ∈ lw_tbl := by
      have h0 : (List.range 8).all (fun ci => decide (Cond.instantiable (zR ci) (znf ci) ∈ lw_tbl)) = true := by decide +kernel
      exact of_decide_eq_true (List.all_eq_true.mp h0 ci (List.mem_range.mpr hci))
    exact u_known hts (zlay ci hci) (hts _ hi)
  obtain ⟨D, hD⟩ : ∃ D : va_G, ∀ ci, ci < 8 → u_Kn s (zR ci) (zT ci) (znf ci) (D.1 ci) (D.2 ci) := by
    refine ⟨(fun ci => if h : ci < 8 then Classical.choose (hK0 ci h) else 0, fun ci => if h : ci < 8 then Classical.choose (Classical.choose_spec (hK0 ci h)) else fun _ => 0), ?_⟩
    intro ci hci
    simp only [dif_pos hci]
    exact Classical.choose_spec (Classical.choose_spec (hK0 ci hci))
  have hA : ∀ {i : Nat} {ty : FieldType}, lw_tbl[i]? = some (.arrayClass ty) → (∀ C0, ty ≠ .object C0) → ∃ cA, ArrOfT s cA ty ∧ va_RA s cA ty := by
    intro i ty hi hne
    obtain ⟨cA, kA, comp, h1, h2, h3⟩ := Cond.arrayClass_spec (hts _ (List.mem_of_getElem? hi))
    refine ⟨cA, fun n z => ⟨fun k h => (by cases h), kA, h2, comp, h3⟩, ?_⟩
    cases ty <;> first | exact h1 | exact absurd rfl (hne _)
  obtain ⟨a10, h10⟩ := hA zs_arrInt (fun _ h => by cases h)
  obtain ⟨a13, h13⟩ := hA zs_arrDouble (fun _ h => by cases h)
  obtain ⟨a14, h14⟩ : ∃ cA, ArrOfT s cA (.object RX1) ∧ va_RA s cA (.object RX1) := by
    obtain ⟨comp, cA, kA, h1, h2, h3, h4, h5⟩ := Cond.arrayOver_spec (hts _ (List.mem_of_getElem? zs_over))
    exact ⟨cA, fun n z => ⟨fun k h => (by cases h), kA, h3, comp, h4⟩, kA, comp, h3, h4, h1, h5⟩
  obtain ⟨cA, e10, e13, e14⟩ : ∃ cA : Nat → ClassId, cA 10 = a10 ∧ cA 13 = a13 ∧ cA 14 = a14 := ⟨fun k => if k = 10 then a10 else if k = 13 then a13 else a14, rfl, rfl, rfl⟩
  subst e10; subst e13; subst e14
  have hK : va_K D vwCl (ztys cA) s := by
    refine ⟨fun k q hq => ?_, fun k q hq => ?_⟩
    · have hk : k < 8 := (List.getElem?_eq_some_iff.mp hq).1
      rw [zvw k hk] at hq
      cases hq
      exact hD k hk
    · match k, hq with
      | 0, hq => cases hq; exact h10
      | 1, hq => cases hq; exact h13
      | 2, hq => cases hq; exact h14
      | k + 3, hq => simp [ztys] at hq
  have hN : ∀ w ∈ lw_tbl, zisn w = true → va_Nw w s := by
    intro w hw hg
    have h := hts w hw
    cases w <;> first
      | (cases hg; done)
      | exact va_Nw.of rfl h
      | exact h
  have C : zCx p room_1 s m #[Value.ref b] meth c cA D s.heap.size b L xs zlaw :=
    ⟨hx, hb, hml, hown, fun w hw => hts w (List.mem_filter.mp hw).1, fun h => absurd h (by decide), hK, by decide, by decide, hN, by decide, hL, ⟨hbl, hX⟩, Nat.le_refl _⟩
  have hH : zH cA D s.heap.size b L xs s (zσ0 L xs) s.heap [] 0 := by
    refine ⟨Nat.le_refl _, rfl, fun k q hq => by simp [zws, zσ0] at hq, ?_, ⟨rfl, ?_⟩, va_S.rf, rfl⟩
    · intro r hr j hj
      have hr0 : r < 1 := hr
      have : r = 0 := by omega
      subst this
      exact absurd hj (by have : (zsh 0).2 = 0 := rfl
                          omega)
    · intro j hj
      show (if (j : Int) < 0 then (L : Int) else (xs ((j : Int)).toNat).toInt) = _
      rw [if_neg (by omega)]
      rfl
  have hl := lv_entry ([.ref b]) (n := 7) (Nat.le_of_ble_eq_true rfl)
  rw [lg_entry_eq]
  generalize (lg_sl ([.ref b]) ++ List.replicate (7 - (lg_sl ([.ref b])).length) Slot.unset).toArray = ls at hl ⊢
  have hS := hrun (zSnd l) (zSnd_cl l)
  refine hS.2 p e room_1 s m #[Value.ref b] below meth c cA D s.heap.size b L xs s.heap [] 0 0 _ ls C hH (fun q hq => ?_) (fun v hv => by cases hv) ?_ ?_ ?_ ?_
  · rcases List.mem_cons.mp hq with rfl | hq
    · trivial
    · cases hq
  · exact hl
  · show 0 + (τ.2.2.2 - 1) ≤ 600000
    omega
  · show 0 + (zsz τ.2.2.2 - zsz 1) ≤ 7302250
    omega
  · intro pcq stq lsq Hq locsq hre hSq hHq
    have hd : stq = [vi 1] ∧ decode code pcq = .ok (.ireturn, 1) := by
      unfold zre at hre
      split at hre
      · next x hi =>
        obtain ⟨len, a, b'⟩ := x
        obtain ⟨hd, ha⟩ := zchk_spec (zck zlaw (by decide)) hi
        have hd := zlen hd ha
        split at hre
        · next x =>
          refine ⟨?_, hd⟩
          have e9 : zrt zlaw = some .boolean := by decide
          rw [e9] at hre
          simp only at hre
          obtain ⟨-, h⟩ := zbif hre
          cases h
          rfl
        · cases hre
      · split at hre
        · split at hre
          · cases hre
          · cases hre
        · cases hre
      · split at hre
        · split at hre
          · cases hre
          · cases hre
        · cases hre
      · split at hre
        · split at hre
          · cases hre
          · cases hre
        · cases hre
      · cases hre
    obtain ⟨rfl, hd⟩ := hd
    refine W.widen (k := 600000) (n := 7302250) (by show 0 + (τ.2.2.2 - 1) ≤ 600000; omega) (by show 0 + (zsz τ.2.2.2 - zsz 1) ≤ 7302250; omega) ?_
    refine W.base ?_
    refine va_forget (fun q hq => hHq.2.2.2.2.2.1.2.2 q hq) ?_
    exact lw_ret (Drawn.sameBut.refl s.drawn lw_cs) hx hb hr hlocks hd
