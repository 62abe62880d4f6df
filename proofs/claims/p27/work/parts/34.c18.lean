/-- alike outside the forecast -/
def zagr (J I : zI) : Prop := ∀ r, r ≠ 119 → r ≠ 121 → r ≠ 123 → r ≠ 126 → r ≠ 128 → J r = I r
theorem zFI_agr {I : zI} {D : zD} {c v : Int} : zagr (zFI I D c v) I := by
  intro r h1 h2 h3 h4 h5
  funext j
  unfold zFI zFS
  rw [if_neg h4, if_neg h5, if_neg h2, if_neg h3, if_neg (fun h => h1 h.1), if_neg (fun h => h1 h.1)]
theorem zagr_tr {A B C : zI} (h : zagr A B) (h2 : zagr B C) : zagr A C := fun r a b c d e => (h r a b c d e).trans (h2 r a b c d e)
