def zfind (pc : Nat) : List (Nat × Instr × Nat × Nat × Nat) → Option (Instr × Nat × Nat × Nat)
  | [] => none
  | e :: t => bif Nat.beq e.1 pc then some e.2 else zfind pc t
def zi (y pc : Nat) : Option (Instr × Nat × Nat × Nat) := zfind pc (zcode y)
def zrm (y a : Nat) : Bool := decide (zrank a + 1 ≤ zrank y) && decide (8 + (zml a + 11) + zneed a ≤ zneed y) && decide (a < zlaw) && plainFor (zname a)
/-- what a row of the code table says beyond the instruction itself -/
def zaux (y pc : Nat) (i : Instr) (len a b : Nat) : Bool := match i with
  | .aload_n _ => Nat.beq len 1 | .iload_n _ => Nat.beq len 1 | .fload_n _ => Nat.beq len 1 | .dload_n _ => Nat.beq len 1
  | .iload _ => Nat.beq len 2 | .dload _ => Nat.beq len 2
  | .istore_n k => Nat.beq len 1 && decide ((k : Nat) < zml y) | .astore_n k => Nat.beq len 1 && decide ((k : Nat) < zml y) | .fstore_n k => Nat.beq len 1 && decide ((k : Nat) < zml y)
  | .istore k => Nat.beq len 2 && decide (k < zml y) | .dstore k => Nat.beq len 2 && decide (k + 1 < zml y)
  | .iinc k _ => Nat.beq len 3 && decide (k < zml y)
  | .irem => Nat.beq len 1
  | .iconst n => Nat.beq len 1 && decide (-2147483648 ≤ n ∧ n ≤ 2147483647)
  | .bipush n => Nat.beq len 2 && decide ((Int8.ofInt n).toInt32 = Int32.ofInt n) && decide (-2147483648 ≤ n ∧ n ≤ 2147483647)
  | .sipush n => Nat.beq len 3 && decide ((Int16.ofInt n).toInt32 = Int32.ofInt n) && decide (-2147483648 ≤ n ∧ n ≤ 2147483647)
  | .getfield idx => Nat.beq len 3 && zfl.any (fun q => decide (q.1 = zown y ∧ q.2.1 = idx ∧ q.2.2.1 = a ∧ q.2.2.2.1 = b))
  | .putfield idx => Nat.beq len 3 && zfl.any (fun q => decide (q.1 = zown y ∧ q.2.1 = idx ∧ q.2.2.1 = a ∧ q.2.2.2.1 = b))
  | .goto off => Nat.beq len 3 && decide ((pc : Int) + off = (a : Int))
  | .ifnull off => Nat.beq len 3 && decide ((pc : Int) + off = (a : Int))
  | .ifnonnull off => Nat.beq len 3 && decide ((pc : Int) + off = (a : Int))
  | .ifCond _ off => Nat.beq len 3 && decide ((pc : Int) + off = (a : Int))
  | .if_icmp _ off => Nat.beq len 3 && decide ((pc : Int) + off = (a : Int))
  | .tableswitch d lo hi offs => decide (0 ≤ d) && offs.toList.all (fun o => decide (0 ≤ o)) && decide ((offs.toList.length : Int) = hi - lo + 1)
  | .lookupswitch d ps => decide (0 ≤ d) && ps.toList.all (fun o => decide (0 ≤ o.2)) && (ps.toList.zip (ps.toList.drop 1)).all (fun (a, next) => a.1 < next.1)
  | .newarray _ => Nat.beq len 2
  | .anewarray idx => Nat.beq len 3 && Nat.beq a 1 && zkl.any (fun q => decide (q.1 = zown y ∧ q.2.1 = idx ∧ q.2.2.1 = a))
  | .new idx => Nat.beq len 3 && zkl.any (fun q => decide (q.1 = zown y ∧ q.2.1 = idx ∧ q.2.2.1 = a))
  | .ldc idx => Nat.beq len 2 && (zkl_int.any (fun q => decide (q.1 = zown y ∧ q.2.1 = idx)) || zkl_flt.any (fun q => decide (q.1 = zown y ∧ q.2.1 = idx)))
  | .ldc_w idx => Nat.beq len 3 && zkl_int.any (fun q => decide (q.1 = zown y ∧ q.2.1 = idx))
  | .invokevirtual idx => Nat.beq len 3 && decide (zown a < 8) && zrm y a && zvl.any (fun q => decide (q.1 = zown y ∧ q.2.1 = idx ∧ q.2.2.1 = a ∧ q.2.2.2.1 = b))
  | .invokestatic idx => Nat.beq len 3 && (bif Nat.beq a 1000 then zal.any (fun q => decide (q.1 = zown y ∧ q.2.1 = idx)) && decide (1 ≤ zrank y) && decide (8 + 40 ≤ zneed y) else zrm y a && zsl.any (fun q => decide (q.1 = zown y ∧ q.2.1 = idx ∧ q.2.2.1 = a ∧ q.2.2.2.1 = b)))
  | .invokespecial idx => Nat.beq len 3 && (bif Nat.beq a 1002 then zol.any (fun q => decide (q.1 = zown y ∧ q.2.1 = idx)) && decide (1 ≤ zrank y) && decide (8 + 12 ≤ zneed y) else decide (zown a < 8) && zrm y a && (zil.any (fun q => decide (q.1 = zown y ∧ q.2.1 = idx ∧ q.2.2.1 = a ∧ q.2.2.2.1 = b)) || znl.any (fun q => decide (q.1 = zown y ∧ q.2.1 = idx ∧ q.2.2.1 = a ∧ q.2.2.2.1 = b))))
  | _ => Nat.beq len 1
def zchk (y : Nat) : Bool := (zcode y).all (fun e => decide (decode (zb y) e.1 = .ok (e.2.1, e.2.2.1)) && zaux y e.1 e.2.1 e.2.2.1 e.2.2.2.1 e.2.2.2.2)
theorem zfind_mem {pc : Nat} {v : Instr × Nat × Nat × Nat} : ∀ {l : List (Nat × Instr × Nat × Nat × Nat)}, zfind pc l = some v → (pc, v) ∈ l
  | [], h => by simp [zfind] at h
  | e :: t, h => by
    unfold zfind at h
    by_cases hq : e.1 = pc
    · subst hq
      simp at h
      subst h
      exact List.mem_cons_self
    · have : Nat.beq e.1 pc = false := by
        cases hb : Nat.beq e.1 pc with
        | false => rfl
        | true => exact absurd (Nat.eq_of_beq_eq_true hb) hq
      rw [this] at h
      exact List.mem_cons_of_mem _ (zfind_mem h)
theorem zchk_spec {y pc : Nat} {i : Instr} {len a b : Nat} (hc : zchk y = true) (h : zi y pc = some (i, len, a, b)) : decode (zb y) pc = .ok (i, len) ∧ zaux y pc i len a b = true := by
  have h1 := List.all_eq_true.mp hc _ (zfind_mem h)
  simp only [Bool.and_eq_true, decide_eq_true_eq] at h1
  exact h1
theorem zck0 : zchk 0 = true := by decide +kernel
theorem zck1 : zchk 1 = true := by decide +kernel
theorem zck2 : zchk 2 = true := by decide +kernel
theorem zck3 : zchk 3 = true := by decide +kernel
theorem zck4 : zchk 4 = true := by decide +kernel
theorem zck5 : zchk 5 = true := by decide +kernel
theorem zck6 : zchk 6 = true := by decide +kernel
theorem zck7 : zchk 7 = true := by decide +kernel
theorem zck8 : zchk 8 = true := by decide +kernel
theorem zck9 : zchk 9 = true := by decide +kernel
theorem zck10 : zchk 10 = true := by decide +kernel
theorem zck11 : zchk 11 = true := by decide +kernel
theorem zck12 : zchk 12 = true := by decide +kernel
theorem zck13 : zchk 13 = true := by decide +kernel
theorem zck14 : zchk 14 = true := by decide +kernel
theorem zck15 : zchk 15 = true := by decide +kernel
theorem zck16 : zchk 16 = true := by decide +kernel
theorem zck17 : zchk 17 = true := by decide +kernel
theorem zck18 : zchk 18 = true := by decide +kernel
theorem zck19 : zchk 19 = true := by decide +kernel
theorem zck20 : zchk 20 = true := by decide +kernel
theorem zck21 : zchk 21 = true := by decide +kernel
theorem zck22 : zchk 22 = true := by decide +kernel
theorem zck23 : zchk 23 = true := by decide +kernel
theorem zck24 : zchk 24 = true := by decide +kernel
theorem zck25 : zchk 25 = true := by decide +kernel
theorem zck26 : zchk 26 = true := by decide +kernel
theorem zck27 : zchk 27 = true := by decide +kernel
theorem zck28 : zchk 28 = true := by decide +kernel
theorem zck29 : zchk 29 = true := by decide +kernel
theorem zck30 : zchk 30 = true := by decide +kernel
theorem zck31 : zchk 31 = true := by decide +kernel
theorem zck32 : zchk 32 = true := by decide +kernel
theorem zck33 : zchk 33 = true := by decide +kernel
theorem zck34 : zchk 34 = true := by decide +kernel
theorem zck35 : zchk 35 = true := by decide +kernel
theorem zck36 : zchk 36 = true := by decide +kernel
theorem zck37 : zchk 37 = true := by decide +kernel
theorem zck38 : zchk 38 = true := by decide +kernel
theorem zck39 : zchk 39 = true := by decide +kernel
theorem zck40 : zchk 40 = true := by decide +kernel
theorem zck41 : zchk 41 = true := by decide +kernel
theorem zck42 : zchk 42 = true := by decide +kernel
theorem zck43 : zchk 43 = true := by decide +kernel
theorem zck44 : zchk 44 = true := by decide +kernel
theorem zck45 : zchk 45 = true := by decide +kernel
theorem zck46 : zchk 46 = true := by decide +kernel
theorem zck47 : zchk 47 = true := by decide +kernel
theorem zck48 : zchk 48 = true := by decide +kernel
theorem zck49 : zchk 49 = true := by decide +kernel
theorem zck50 : zchk 50 = true := by decide +kernel
theorem zck51 : zchk 51 = true := by decide +kernel
theorem zck52 : zchk 52 = true := by decide +kernel
theorem zck53 : zchk 53 = true := by decide +kernel
theorem zck54 : zchk 54 = true := by decide +kernel
theorem zck55 : zchk 55 = true := by decide +kernel
theorem zck56 : zchk 56 = true := by decide +kernel
theorem zck57 : zchk 57 = true := by decide +kernel
theorem zck58 : zchk 58 = true := by decide +kernel
theorem zck59 : zchk 59 = true := by decide +kernel
theorem zck60 : zchk 60 = true := by decide +kernel
theorem zck61 : zchk 61 = true := by decide +kernel
theorem zck62 : zchk 62 = true := by decide +kernel
theorem zck63 : zchk 63 = true := by decide +kernel
theorem zck64 : zchk 64 = true := by decide +kernel
theorem zck65 : zchk 65 = true := by decide +kernel
theorem zck66 : zchk 66 = true := by decide +kernel
theorem zck67 : zchk 67 = true := by decide +kernel
theorem zck68 : zchk 68 = true := by decide +kernel
theorem zck69 : zchk 69 = true := by decide +kernel
theorem zck70 : zchk 70 = true := by decide +kernel
theorem zck71 : zchk 71 = true := by decide +kernel
theorem zck72 : zchk 72 = true := by decide +kernel
theorem zck73 : zchk 73 = true := by decide +kernel
theorem zck74 : zchk 74 = true := by decide +kernel
theorem zck75 : zchk 75 = true := by decide +kernel
theorem zck76 : zchk 76 = true := by decide +kernel
theorem zck77 : zchk 77 = true := by decide +kernel
theorem zck78 : zchk 78 = true := by decide +kernel
theorem zck79 : zchk 79 = true := by decide +kernel
theorem zck80 : zchk 80 = true := by decide +kernel
theorem zck81 : zchk 81 = true := by decide +kernel
theorem zck82 : zchk 82 = true := by decide +kernel
theorem zck : ∀ y, y < 83 → zchk y = true := lt_s (lt_s (lt_s (lt_s (lt_s (lt_s (lt_s (lt_s (lt_s (lt_s (lt_s (lt_s (lt_s (lt_s (lt_s (lt_s (lt_s (lt_s (lt_s (lt_s (lt_s (lt_s (lt_s (lt_s (lt_s (lt_s (lt_s (lt_s (lt_s (lt_s (lt_s (lt_s (lt_s (lt_s (lt_s (lt_s (lt_s (lt_s (lt_s (lt_s (lt_s (lt_s (lt_s (lt_s (lt_s (lt_s (lt_s (lt_s (lt_s (lt_s (lt_s (lt_s (lt_s (lt_s (lt_s (lt_s (lt_s (lt_s (lt_s (lt_s (lt_s (lt_s (lt_s (lt_s (lt_s (lt_s (lt_s (lt_s (lt_s (lt_s (lt_s (lt_s (lt_s (lt_s (lt_s (lt_s (lt_s (lt_s (lt_s (lt_s (lt_s (lt_s (lt_s (lt_0) zck0) zck1) zck2) zck3) zck4) zck5) zck6) zck7) zck8) zck9) zck10) zck11) zck12) zck13) zck14) zck15) zck16) zck17) zck18) zck19) zck20) zck21) zck22) zck23) zck24) zck25) zck26) zck27) zck28) zck29) zck30) zck31) zck32) zck33) zck34) zck35) zck36) zck37) zck38) zck39) zck40) zck41) zck42) zck43) zck44) zck45) zck46) zck47) zck48) zck49) zck50) zck51) zck52) zck53) zck54) zck55) zck56) zck57) zck58) zck59) zck60) zck61) zck62) zck63) zck64) zck65) zck66) zck67) zck68) zck69) zck70) zck71) zck72) zck73) zck74) zck75) zck76) zck77) zck78) zck79) zck80) zck81) zck82
