theorem vf64 {a : UInt64} (h : FP.Core.val64 a ≠ .nan) : vf_n64 a := by
  unfold vf_n64
  rw [UInt64.le_iff_toNat_le, FP.Core.mask_toNat]
  exact (FP.Core.ne_nan a).mp h
theorem vf32 {a : UInt32} (h : FP.Core.val32 a ≠ .nan) : vf_n32 a := by
  unfold vf_n32
  rw [UInt32.le_iff_toNat_le, FP.Core.mask_toNat32]
  exact (FP.Core.ne_nan32 a).mp h
theorem zfn {a : UInt64} (h : FP.Core.DFin a) : FP.Core.val64 a ≠ .nan := by
  obtain ⟨s, c, q, e⟩ := h
  rw [e]; nofun
theorem zi2f {x : Int32} : FP.Core.DFin (FP.i2d x) := FP.Core.fin_of_lt (FP.Core.i2d_mag x) (by decide)
theorem zi2n {x : Int32} : FP.Core.val64 (FP.i2d x) ≠ .nan := zfn zi2f
theorem zdd {x y : Int} (hy : zr y) (h : ¬ y = 0) : FP.Core.DFin (FP.ddiv (FP.i2d (Int32.ofInt x)) (FP.i2d (Int32.ofInt y))) := by
  have h1 := FP.Core.i2d_mag (Int32.ofInt x)
  have h2 := FP.Core.i2d_big (v := Int32.ofInt y) (by rw [zti hy]; exact h)
  exact FP.Core.fin_of_lt (FP.Core.ddiv_mag h1 h2.1 h2.2 (by decide) (by decide)) (by decide)
theorem zd2c {a : UInt64} (h : FP.Core.val64 a ≠ .nan) : FP.d2f a = FP.Core.d2f a := by
  unfold FP.d2f
  rw [(FP.Core.notNaN_iff a).mpr h]
  rfl
theorem zd2f {a : UInt64} (h : FP.Core.val64 a ≠ .nan) : FP.Core.val32 (FP.d2f a) ≠ .nan := by
  rw [zd2c h, FP.Core.val32_d2f]
  cases e : FP.Core.val64 a with
  | nan => exact absurd e h
  | inf s => nofun
  | fin s c q => exact FP.Core.roundRatio_ne_nan _ _ _ _ _
abbrev zdk (a : UInt64) : Int := FP.Core.dkey a
theorem zc_cmp {a b : UInt64} (ha : FP.Core.val64 a ≠ .nan) (hb : FP.Core.val64 b ≠ .nan) (op : CmpOp) : ((Op.cmpValue (FP.dcmp a b) op).toInt < 0 ↔ zdk a < zdk b) ∧ ((Op.cmpValue (FP.dcmp a b) op).toInt = 0 ↔ zdk a = zdk b) := by
  rw [show FP.dcmp a b = some (compare (zdk a) (zdk b)) from FP.Core.dcmp_key ha hb]
  have h1 := FP.Core.compare_lt_iff (zdk a) (zdk b)
  have h2 := FP.Core.compare_eq_iff (zdk a) (zdk b)
  have h3 := FP.Core.compare_gt_iff (zdk a) (zdk b)
  cases e : compare (zdk a) (zdk b)
  · have := h1.mp e
    rw [show (Op.cmpValue (some Ordering.lt) op).toInt = -1 from rfl]; omega
  · have := h2.mp e
    rw [show (Op.cmpValue (some Ordering.eq) op).toInt = 0 from rfl]; omega
  · have := h3.mp e
    rw [show (Op.cmpValue (some Ordering.gt) op).toInt = 1 from rfl]; omega
