/-! ===== the pure machine: values, states, steps ===== -/
abbrev zV : Type := Int ⊕ (Nat ⊕ (UInt32 ⊕ UInt64))
abbrev vi (x : Int) : zV := .inl x
abbrev vr (r : Nat) : zV := .inr (.inl r)
abbrev vf (x : UInt32) : zV := .inr (.inr (.inl x))
abbrev vd (x : UInt64) : zV := .inr (.inr (.inr x))
abbrev zL : Type := List (Nat × zV)
abbrev zI : Type := Nat → Int → Int
abbrev zP : Type := Nat → Int → Nat
abbrev zD : Type := Nat → Int → UInt64
abbrev zS : Type := zI × (zP × (zD × Nat))
abbrev zr (x : Int) : Prop := -2147483648 ≤ x ∧ x ≤ 2147483647
def zup (I : zI) (r : Nat) (k v : Int) : zI := fun r' k' => if r' = r ∧ k' = k then v else I r' k'
def zupP (I : zP) (r : Nat) (k : Int) (v : Nat) : zP := fun r' k' => if r' = r ∧ k' = k then v else I r' k'
def zupD (I : zD) (r : Nat) (k : Int) (v : UInt64) : zD := fun r' k' => if r' = r ∧ k' = k then v else I r' k'
/-- what each object is: the number of its class, or 10 (ints), 11 (chars), 12 (booleans), 13 (doubles), 14 (charts); how many places -/
def zshp : List (Nat × Nat) := [(99, 0), (7, 4), (1, 13), (0, 1), (10, 24), (0, 1), (10, 24), (0, 1), (10, 24), (5, 3), (0, 1), (10, 4), (0, 1), (10, 4), (4, 5), (0, 1), (10, 96), (0, 1), (10, 96), (0, 1), (10, 96), (0, 1), (10, 96), (0, 1), (10, 168), (3, 2), (14, 4), (1, 13), (0, 1), (10, 24), (0, 1), (10, 24), (0, 1), (10, 24), (5, 3), (0, 1), (10, 4), (0, 1), (10, 4), (4, 5), (0, 1), (10, 96), (0, 1), (10, 96), (0, 1), (10, 96), (0, 1), (10, 96), (0, 1), (10, 168), (1, 13), (0, 1), (10, 24), (0, 1), (10, 24), (0, 1), (10, 24), (5, 3), (0, 1), (10, 4), (0, 1), (10, 4), (4, 5), (0, 1), (10, 96), (0, 1), (10, 96), (0, 1), (10, 96), (0, 1), (10, 96), (0, 1), (10, 168), (1, 13), (0, 1), (10, 24), (0, 1), (10, 24), (0, 1), (10, 24), (5, 3), (0, 1), (10, 4), (0, 1), (10, 4), (4, 5), (0, 1), (10, 96), (0, 1), (10, 96), (0, 1), (10, 96), (0, 1), (10, 96), (0, 1), (10, 168), (1, 13), (0, 1), (10, 24), (0, 1), (10, 24), (0, 1), (10, 24), (5, 3), (0, 1), (10, 4), (0, 1), (10, 4), (4, 5), (0, 1), (10, 96), (0, 1), (10, 96), (0, 1), (10, 96), (0, 1), (10, 96), (0, 1), (10, 168), (2, 7), (0, 1), (10, 4), (0, 1), (10, 4), (13, 4), (0, 1), (10, 9), (0, 1), (10, 9), (6, 9), (5, 3), (0, 1), (10, 4), (0, 1), (10, 4), (0, 1), (10, 80)]
/-- the one method that reads the script -/
def zsc : Nat := 79
def zsh (r : Nat) : Nat × Nat := zshp.getD r (99, 0)
def zob (r k c : Nat) : Bool := Nat.beq (zsh r).1 k && Nat.blt r c
def zcat : zV → Nat
  | .inr (.inr (.inr _)) => 2
  | _ => 1
def zlk (k : Nat) : zL → Option zV
  | [] => none
  | q :: t => bif Nat.beq q.1 k then some q.2 else zlk k t
def zset1 (k : Nat) (v : zV) (L : zL) : zL := (k, v) :: L.filter (fun q => !(q.1 == k) && !(q.1 + 1 == k && zcat q.2 == 2))
def zset2 (k : Nat) (v : zV) (L : zL) : zL := (k, v) :: L.filter (fun q => !(q.1 == k) && (!(q.1 == k + 1) && !(q.1 + 1 == k && zcat q.2 == 2)))
def zargs : Nat → List zV → zL
  | _, [] => []
  | i, v :: vs => (i, v) :: zargs (if zcat v = 2 then i + 2 else i + 1) vs
def zcats (st : List zV) : Nat := (st.map zcat).sum
abbrev zfresh (σ : zS) : Prop := ∀ j, σ.1 σ.2.2.2 j = 0 ∧ σ.2.1 σ.2.2.2 j = 0 ∧ σ.2.2.1 σ.2.2.2 j = 0
def zkind : ArrayType → Nat
  | .int => 10 | .double => 13 | _ => 99
abbrev zNx : Type := Option (Option Prop × (Nat × (zL × (List zV × zS))))
def zldc (own idx : Nat) : Option zV := match zkl_int.find? (fun q => Nat.beq q.1 own && Nat.beq q.2.1 idx) with
  | some q => some (vi q.2.2.1)
  | none => match zkl_flt.find? (fun q => Nat.beq q.1 own && Nat.beq q.2.1 idx) with
    | some q => some (vf q.2.2.1)
    | none => none
/-- one step of an instruction that is no branch on values, call or return: what must hold (if anything), and the next frame and state -/
def zx (y : Nat) (i : Instr) (len a b pc : Nat) (L : zL) (st : List zV) (σ : zS) : zNx := match i with
  | .aload_n k => match zlk k.val L with
    | some (.inr (.inl r)) => some (none, pc + 1, L, vr r :: st, σ)
    | _ => none
  | .iload_n k => match zlk k.val L with
    | some (.inl x) => some (none, pc + 1, L, vi x :: st, σ)
    | _ => none
  | .iload k => match zlk k L with
    | some (.inl x) => some (none, pc + 2, L, vi x :: st, σ)
    | _ => none
  | .fload_n k => match zlk k.val L with
    | some (.inr (.inr (.inl x))) => some (none, pc + 1, L, vf x :: st, σ)
    | _ => none
  | .dload_n k => match zlk k.val L with
    | some (.inr (.inr (.inr x))) => some (none, pc + 1, L, vd x :: st, σ)
    | _ => none
  | .dload k => match zlk k L with
    | some (.inr (.inr (.inr x))) => some (none, pc + 2, L, vd x :: st, σ)
    | _ => none
  | .istore_n k => match st with
    | .inl x :: r => some (none, pc + 1, zset1 k.val (vi x) L, r, σ)
    | _ => none
  | .istore k => match st with
    | .inl x :: r => some (none, pc + 2, zset1 k (vi x) L, r, σ)
    | _ => none
  | .astore_n k => match st with
    | .inr (.inl x) :: r => some (none, pc + 1, zset1 k.val (vr x) L, r, σ)
    | _ => none
  | .fstore_n k => match st with
    | .inr (.inr (.inl x)) :: r => some (none, pc + 1, zset1 k.val (vf x) L, r, σ)
    | _ => none
  | .dstore k => match st with
    | .inr (.inr (.inr x)) :: r => some (none, pc + 2, zset2 k (vd x) L, r, σ)
    | _ => none
  | .iinc k n => match zlk k L with
    | some (.inl x) => some (some (zr (x + n)), pc + 3, zset1 k (vi (x + n)) L, st, σ)
    | _ => none
  | .iconst n => some (none, pc + 1, L, vi n :: st, σ)
  | .bipush n => some (none, pc + 2, L, vi n :: st, σ)
  | .sipush n => some (none, pc + 3, L, vi n :: st, σ)
  | .fconst k => match k with
    | 0 => some (none, pc + 1, L, vf FP.fconst0 :: st, σ)
    | 1 => some (none, pc + 1, L, vf FP.fconst1 :: st, σ)
    | 2 => some (none, pc + 1, L, vf FP.fconst2 :: st, σ)
  | .dconst k => match k with
    | 0 => some (none, pc + 1, L, vd FP.dconst0 :: st, σ)
    | 1 => none
  | .ldc idx => match zldc (zown y) idx with
    | some v => some (none, pc + 2, L, v :: st, σ)
    | none => none
  | .ldc_w idx => match zldc (zown y) idx with
    | some (.inl x) => some (none, pc + 3, L, vi x :: st, σ)
    | _ => none
  | .iadd => match st with
    | .inl q :: .inl p :: r => some (some (zr (p + q)), pc + 1, L, vi (p + q) :: r, σ)
    | _ => none
  | .isub => match st with
    | .inl q :: .inl p :: r => some (some (zr (p - q)), pc + 1, L, vi (p - q) :: r, σ)
    | _ => none
  | .imul => match st with
    | .inl q :: .inl p :: r => some (some (zr (p * q)), pc + 1, L, vi (p * q) :: r, σ)
    | _ => none
  | .idiv => match st with
    | .inl q :: .inl p :: r => some (some (0 ≤ p ∧ 0 < q), pc + 1, L, vi (p / q) :: r, σ)
    | _ => none
  | .irem => match st with
    | .inl q :: .inl p :: r => some (some (0 ≤ p ∧ 0 < q), pc + 1, L, vi (p % q) :: r, σ)
    | _ => none
  | .ishl => match st with
    | .inl q :: .inl p :: r => some (none, pc + 1, L, vi (Int32.ofInt p <<< (Int32.ofInt q &&& 31)).toInt :: r, σ)
    | _ => none
  | .ishr => match st with
    | .inl q :: .inl p :: r => some (none, pc + 1, L, vi (Int32.ofInt p >>> (Int32.ofInt q &&& 31)).toInt :: r, σ)
    | _ => none
  | .iushr => match st with
    | .inl q :: .inl p :: r => some (none, pc + 1, L, vi ((Int32.ofInt p).toUInt32 >>> ((Int32.ofInt q).toUInt32 &&& Int32.toUInt32 31)).toInt32.toInt :: r, σ)
    | _ => none
  | .ior => match st with
    | .inl q :: .inl p :: r => some (none, pc + 1, L, vi (Int32.ofInt p ||| Int32.ofInt q).toInt :: r, σ)
    | _ => none
  | .iand => match st with
    | .inl q :: .inl p :: r => some (none, pc + 1, L, vi (Int32.ofInt p &&& Int32.ofInt q).toInt :: r, σ)
    | _ => none
  | .i2c => match st with
    | .inl p :: r => some (some (0 ≤ p ∧ p ≤ 65535), pc + 1, L, vi p :: r, σ)
    | _ => none
  | .i2d => match st with
    | .inl p :: r => some (none, pc + 1, L, vd (FP.i2d (Int32.ofInt p)) :: r, σ)
    | _ => none
  | .d2f => match st with
    | .inr (.inr (.inr p)) :: r => some (some (vf_n32 (FP.d2f p)), pc + 1, L, vf (FP.d2f p) :: r, σ)
    | _ => none
  | .ddiv => match st with
    | .inr (.inr (.inr q)) :: .inr (.inr (.inr p)) :: r => some (some (vf_n64 (FP.ddiv p q)), pc + 1, L, vd (FP.ddiv p q) :: r, σ)
    | _ => none
  | .dmul => match st with
    | .inr (.inr (.inr q)) :: .inr (.inr (.inr p)) :: r => some (some (vf_n64 (FP.dmul p q)), pc + 1, L, vd (FP.dmul p q) :: r, σ)
    | _ => none
  | .dsub => match st with
    | .inr (.inr (.inr q)) :: .inr (.inr (.inr p)) :: r => some (some (vf_n64 (FP.dsub p q)), pc + 1, L, vd (FP.dsub p q) :: r, σ)
    | _ => none
  | .fdiv => match st with
    | .inr (.inr (.inl q)) :: .inr (.inr (.inl p)) :: r => some (some (vf_n32 (FP.fdiv p q)), pc + 1, L, vf (FP.fdiv p q) :: r, σ)
    | _ => none
  | .fmul => match st with
    | .inr (.inr (.inl q)) :: .inr (.inr (.inl p)) :: r => some (some (vf_n32 (FP.fmul p q)), pc + 1, L, vf (FP.fmul p q) :: r, σ)
    | _ => none
  | .fsub => match st with
    | .inr (.inr (.inl q)) :: .inr (.inr (.inl p)) :: r => some (some (vf_n32 (FP.fsub p q)), pc + 1, L, vf (FP.fsub p q) :: r, σ)
    | _ => none
  | .fneg => match st with
    | .inr (.inr (.inl p)) :: r => some (none, pc + 1, L, vf (FP.fneg p) :: r, σ)
    | _ => none
  | .f2i => match st with
    | .inr (.inr (.inl p)) :: r => some (none, pc + 1, L, vi (FP.f2i p).toInt :: r, σ)
    | _ => none
  | .fcmp op => match st with
    | .inr (.inr (.inl q)) :: .inr (.inr (.inl p)) :: r => some (none, pc + 1, L, vi (Op.cmpValue (FP.fcmp p q) op).toInt :: r, σ)
    | _ => none
  | .dcmp op => match st with
    | .inr (.inr (.inr q)) :: .inr (.inr (.inr p)) :: r => some (none, pc + 1, L, vi (Op.cmpValue (FP.dcmp p q) op).toInt :: r, σ)
    | _ => none
  | .dup => match st with
    | v :: r => bif Nat.beq (zcat v) 1 then some (none, pc + 1, L, v :: v :: r, σ) else none
    | _ => none
  | .dup2 => match st with
    | v :: w :: r => bif Nat.beq (zcat v) 1 && Nat.beq (zcat w) 1 then some (none, pc + 1, L, v :: w :: v :: w :: r, σ) else none
    | _ => none
  | .pop => match st with
    | v :: r => bif Nat.beq (zcat v) 1 then some (none, pc + 1, L, r, σ) else none
    | _ => none
  | .goto _ => some (none, a, L, st, σ)
  | .ifnull _ => match st with
    | .inr (.inl q) :: r => match q with
      | 0 => some (none, a, L, r, σ)
      | _ + 1 => some (none, pc + 3, L, r, σ)
    | _ => none
  | .ifnonnull _ => match st with
    | .inr (.inl q) :: r => match q with
      | 0 => some (none, pc + 3, L, r, σ)
      | _ + 1 => some (none, a, L, r, σ)
    | _ => none
  | .aconst_null => some (none, pc + 1, L, vr 0 :: st, σ)
  | .getfield _ => match st with
    | .inr (.inl q) :: r => bif zob q a σ.2.2.2 then some (none, pc + 3, L, (bif zfr a b then vr (σ.2.1 q b) else vi (σ.1 q b)) :: r, σ) else none
    | _ => none
  | .putfield _ => match st with
    | .inl x :: .inr (.inl q) :: r => bif zob q a σ.2.2.2 && !zfr a b && !(zT a b).2.2.2 then some (none, pc + 3, L, r, (zup σ.1 q b x, σ.2)) else none
    | .inr (.inl x) :: .inr (.inl q) :: r => bif zob q a σ.2.2.2 && zfr a b && (zT a b).2.2.2 && zini y && Nat.beq (zown y) a then some (none, pc + 3, L, r, (σ.1, zupP σ.2.1 q b x, σ.2.2)) else none
    | _ => none
  | .arraylength => match st with
    | .inr (.inl q) :: r => bif Nat.beq q 1000 && Nat.beq y zsc then some (none, pc + 1, L, vi (σ.1 1000 (-1)) :: r, σ) else bif Nat.ble 10 (zsh q).1 && Nat.ble (zsh q).1 14 && Nat.blt q σ.2.2.2 then some (none, pc + 1, L, vi ((zsh q).2 : Nat) :: r, σ) else none
    | _ => none
  | .iaload => match st with
    | .inl j :: .inr (.inl q) :: r => bif Nat.beq q 1000 && Nat.beq y zsc then some (some (0 ≤ j ∧ j < σ.1 1000 (-1)), pc + 1, L, vi (σ.1 1000 j) :: r, σ) else bif zob q 10 σ.2.2.2 then some (some (0 ≤ j ∧ j < ((zsh q).2 : Nat)), pc + 1, L, vi (σ.1 q j) :: r, σ) else none
    | _ => none
  | .daload => match st with
    | .inl j :: .inr (.inl q) :: r => bif zob q 13 σ.2.2.2 then some (some (0 ≤ j ∧ j < ((zsh q).2 : Nat)), pc + 1, L, vd (σ.2.2.1 q j) :: r, σ) else none
    | _ => none
  | .aaload => match st with
    | .inl j :: .inr (.inl q) :: r => bif zob q 14 σ.2.2.2 then some (some (0 ≤ j ∧ j < ((zsh q).2 : Nat)), pc + 1, L, vr (σ.2.1 q j) :: r, σ) else none
    | _ => none
  | .iastore => match st with
    | .inl x :: .inl j :: .inr (.inl q) :: r => bif zob q 10 σ.2.2.2 then some (some (0 ≤ j ∧ j < ((zsh q).2 : Nat)), pc + 1, L, r, (zup σ.1 q j x, σ.2)) else none
    | _ => none
  | .dastore => match st with
    | .inr (.inr (.inr x)) :: .inl j :: .inr (.inl q) :: r => bif zob q 13 σ.2.2.2 then some (some (0 ≤ j ∧ j < ((zsh q).2 : Nat)), pc + 1, L, r, (σ.1, σ.2.1, zupD σ.2.2.1 q j x, σ.2.2.2)) else none
    | _ => none
  | .aastore => match st with
    | .inr (.inl x) :: .inl j :: .inr (.inl q) :: r => bif zob q 14 σ.2.2.2 then some (some ((0 ≤ j ∧ j < ((zsh q).2 : Nat)) ∧ zob x 1 σ.2.2.2 = true), pc + 1, L, r, (σ.1, zupP σ.2.1 q j x, σ.2.2)) else none
    | _ => none
  | .newarray t => match st with
    | .inl n :: r => bif Nat.beq (zsh σ.2.2.2).1 (zkind t) && Nat.ble (zkind t) 13 then some (some (n = ((zsh σ.2.2.2).2 : Nat) ∧ zfresh σ), pc + 2, L, vr σ.2.2.2 :: r, (σ.1, σ.2.1, σ.2.2.1, σ.2.2.2 + 1)) else none
    | _ => none
  | .anewarray _ => match st with
    | .inl n :: r => bif Nat.beq (zsh σ.2.2.2).1 14 then some (some (n = ((zsh σ.2.2.2).2 : Nat) ∧ zfresh σ), pc + 3, L, vr σ.2.2.2 :: r, (σ.1, σ.2.1, σ.2.2.1, σ.2.2.2 + 1)) else none
    | _ => none
  | .new _ => bif Nat.beq (zsh σ.2.2.2).1 a && Nat.beq (zsh σ.2.2.2).2 (znf a) then some (some (zfresh σ), pc + 3, L, vr σ.2.2.2 :: st, (σ.1, σ.2.1, σ.2.2.1, σ.2.2.2 + 1)) else none
  | .invokespecial _ => match st with
    | .inr (.inl q) :: r => bif Nat.beq a 1002 && Nat.blt 0 q && Nat.ble (zcats r) 8 then some (none, pc + 3, L, r, σ) else none
    | _ => none
  | .invokestatic _ => bif Nat.beq a 1000 then (match st with
      | .inl n :: .inl dp :: .inr (.inl q1) :: .inl sp :: .inr (.inl q0) :: r => bif zob q0 10 σ.2.2.2 && zob q1 10 σ.2.2.2 && Nat.ble (zcats r) 8 then some (some (0 ≤ sp ∧ 0 ≤ dp ∧ 0 ≤ n ∧ sp + n ≤ ((zsh q0).2 : Nat) ∧ dp + n ≤ ((zsh q1).2 : Nat)), pc + 3, L, r, (fun r' k => if r' = q1 ∧ dp ≤ k ∧ k < dp + n then σ.1 q0 (sp + (k - dp)) else σ.1 r' k, σ.2)) else none
      | _ => none) else none
  | .tableswitch d lo hi offs => match st with
    | .inl x :: r => some (none, (if x < lo ∨ hi < x then pc + d.toNat else pc + (offs.toList.getD (x - lo).toNat d).toNat), L, r, σ)
    | _ => none
  | .lookupswitch d ps => match st with
    | .inl x :: r => some (none, pc + (Op.lookupswitch.offset ps.toList d x).toNat, L, r, σ)
    | _ => none
  | _ => none
def zst (y pc : Nat) (L : zL) (st : List zV) (σ : zS) : zNx := match zi y pc with
  | some (i, len, a, b) => zx y i len a b pc L st σ
  | none => none
/-- a branch on values: the condition, where to, where else, the stack behind it -/
def zcd (c : Jvm.ClassFile.Cond) (p q : Int) : Prop := match c with
  | .eq => p = q | .ne => ¬ p = q | .lt => p < q | .ge => q ≤ p | .gt => q < p | .le => p ≤ q
def zbr (y pc : Nat) (st : List zV) : Option (Prop × (Nat × (Nat × List zV))) := match zi y pc with
  | some (.ifCond c _, _, a, _) => match st with
    | .inl p :: r => some (zcd c p 0, a, pc + 3, r)
    | _ => none
  | some (.if_icmp c _, _, a, _) => match st with
    | .inl q :: .inl p :: r => some (zcd c p q, a, pc + 3, r)
    | _ => none
  | _ => none
/-- a call: the method, its arguments, the rest of the stack, what must hold of the receiver -/
def zcl (y pc : Nat) (st : List zV) (σ : zS) : Option (Nat × (List zV × List zV)) := match zi y pc with
  | some (.invokevirtual _, _, a, b) => match st.drop b with
    | .inr (.inl q) :: r => bif zob q (zown a) σ.2.2.2 && Nat.ble (zcats r) 8 && Nat.beq (st.take b).length b && Nat.ble (1 + zcats (st.take b)) (zml a) then some (a, vr q :: (st.take b).reverse, r) else none
    | _ => none
  | some (.invokestatic _, _, a, b) => bif Nat.blt a 1000 && Nat.ble (zcats (st.drop b)) 8 && Nat.beq (st.take b).length b && Nat.ble (zcats (st.take b)) (zml a) then some (a, (st.take b).reverse, st.drop b) else none
  | some (.invokespecial _, _, a, b) => match st.drop b with
    | .inr (.inl q) :: r => bif Nat.blt a 1000 && zob q (zown a) σ.2.2.2 && Nat.ble (zcats r) 8 && Nat.beq (st.take b).length b && Nat.ble (1 + zcats (st.take b)) (zml a) then some (a, vr q :: (st.take b).reverse, r) else none
    | _ => none
  | _ => none
/-- a return -/
def zre (y pc : Nat) (st : List zV) : Option (Option zV) := match zi y pc with
  | some (.ireturn, _) => match st with
    | [.inl x] => match zrt y with
      | some .int => some (some (vi x))
      | some .boolean => bif decide (x = 0) || decide (x = 1) then some (some (vi x)) else none
      | _ => none
    | _ => none
  | some (.dreturn, _) => match st with
    | [.inr (.inr (.inr x))] => match zrt y with
      | some .double => some (some (vd x))
      | _ => none
    | _ => none
  | some (.areturn, _) => match st with
    | [.inr (.inl x)] => match zrt y with
      | some (.object _) => some (some (vr x))
      | _ => none
    | _ => none
  | some (.return_, _) => match st with
    | [] => match zrt y with
      | none => some none
      | _ => none
    | _ => none
  | _ => none
/-- states that differ in nothing that is there -/
def zeq (σ τ : zS) : Prop := σ.2.2.2 = τ.2.2.2 ∧ (∀ j, τ.1 1000 j = σ.1 1000 j) ∧ ∀ r, r < σ.2.2.2 → ∀ j : Nat, j < (zsh r).2 → τ.1 r j = σ.1 r j ∧ τ.2.1 r j = σ.2.1 r j ∧ τ.2.2.1 r j = σ.2.2.1 r j
abbrev zRel : Type := Nat → Nat → zL → List zV → zS → Option zV → zS → Prop
def zCl (X : zRel) : Prop :=
  (∀ y pc L st σ g pc1 L1 st1 σ1 r τ, zst y pc L st σ = some (g, pc1, L1, st1, σ1) → (∀ P, g = some P → P) → X y pc1 L1 st1 σ1 r τ → X y pc L st σ r τ) ∧
  (∀ y pc L st σ c t f st1 r τ, zbr y pc st = some (c, t, f, st1) → (c → X y t L st1 σ r τ) → (¬ c → X y f L st1 σ r τ) → X y pc L st σ r τ) ∧
  (∀ y pc L st σ a As rest v σ1 r τ, zcl y pc st σ = some (a, As, rest) → X a 0 (zargs 0 As) [] σ v σ1 → X y (pc + 3) L (v.toList ++ rest) σ1 r τ → X y pc L st σ r τ) ∧
  (∀ y pc L st σ r, zre y pc st = some r → X y pc L st σ r σ) ∧
  (∀ y pc L L1 st σ r τ, (∀ q ∈ L1, q ∈ L) → X y pc L1 st σ r τ → X y pc L st σ r τ) ∧
  (∀ y pc L st σ σ1 r τ, zeq σ σ1 → X y pc L st σ1 r τ → X y pc L st σ r τ)
/-- from this frame and state the method comes to its end with this answer and state -/
def zRuns (y pc : Nat) (L : zL) (st : List zV) (σ : zS) (r : Option zV) (τ : zS) : Prop := ∀ X : zRel, zCl X → X y pc L st σ r τ
/-- a method at its start -/
abbrev zMet (y : Nat) (As : List zV) (σ : zS) (r : Option zV) (τ : zS) : Prop := zRuns y 0 (zargs 0 As) [] σ r τ
