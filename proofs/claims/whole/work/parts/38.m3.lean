/-- the first k starters lined up, nobody out -/
def zLs (I : zI) (Or : Int → Int) (E k : Int) : zI := fun r j => if r = 141 ∧ 0 ≤ j ∧ j < k then Or (E + j) else if r = 142 ∧ 0 ≤ j ∧ j < k then 0 else if r = 137 ∧ j = 10 then k else I r j
theorem zLs_0 {I : zI} {Or : Int → Int} {E : Int} : zup I 137 10 0 = zLs I Or E 0 := by
  funext r j
  unfold zup zLs
  (repeat' split) <;> first | rfl | (exfalso; omega)
theorem zLs_s {I : zI} {Or : Int → Int} {E k : Int} (h : 0 ≤ k) : zup (zup (zup (zLs I Or E k) 141 k (Or (E + k))) 142 k 0) 137 10 (k + 1) = zLs I Or E (k + 1) := by
  funext r j
  unfold zup zLs
  (repeat' split) <;> first | rfl | (exfalso; omega) | (rw [show j = k by omega])
/-- all lined up, those of the first t bumps out -/
noncomputable def zLt (I : zI) (Or : Int → Int) (E n : Int) (u d : Int → Int) (t : Int) : zI := fun r j => if r = 142 ∧ 0 ≤ j ∧ j < n then @ite Int (zOut t u d (Or (E + j))) (Classical.propDecidable _) 1 0 else zLs I Or E n r j
theorem zLt_0 {I : zI} {Or u d : Int → Int} {E n : Int} : zLs I Or E n = zLt I Or E n u d 0 := by
  funext r j
  unfold zLt
  by_cases h : r = 142 ∧ 0 ≤ j ∧ j < n
  · rw [if_pos h, if_neg (fun ⟨k, k0, k1, _⟩ => by omega)]
    unfold zLs
    rw [if_neg (by omega), if_pos h]
  · rw [if_neg h]
theorem zLt_s {I : zI} {F Pl Q u d : Int → Int} {t : Int} (w : zW1 F) (v : zW2 F Pl Q) (h : 0 ≤ t) (hu : zIs F Pl (u t)) (hd : zIs F Pl (d t)) : zup (zup (zLt I Q (F 9 * F 6) (zns F) u d t) 142 (Pl (u t) - F 9 * F 6) 1) 142 (Pl (d t) - F 9 * F 6) 1 = zLt I Q (F 9 * F 6) (zns F) u d (t + 1) := by
  have hb := zns_b w
  have vu := v.1 _ hu.1.1 hu.1.2
  have vd := v.1 _ hd.1.1 hd.1.2
  have hu2 := hu.2
  have hd2 := hd.2
  funext r j
  unfold zup zLt
  by_cases hr : r = 142 ∧ 0 ≤ j ∧ j < zns F
  · rw [if_pos hr, if_pos hr]
    have vj := v.2.1 (F 9 * F 6 + j) (by omega) (by omega)
    by_cases e1 : j = Pl (d t) - F 9 * F 6
    · rw [if_pos ⟨hr.1, e1⟩, if_pos ((zOut_s h).mpr (Or.inr (Or.inr (by rw [e1, show F 9 * F 6 + (Pl (d t) - F 9 * F 6) = Pl (d t) by omega]; exact vd.2.2))))]
    · rw [if_neg (fun h9 => e1 h9.2)]
      by_cases e2 : j = Pl (u t) - F 9 * F 6
      · rw [if_pos ⟨hr.1, e2⟩, if_pos ((zOut_s h).mpr (Or.inr (Or.inl (by rw [e2, show F 9 * F 6 + (Pl (u t) - F 9 * F 6) = Pl (u t) by omega]; exact vu.2.2))))]
      · rw [if_neg (fun h9 => e2 h9.2)]
        have e : zOut (t + 1) u d (Q (F 9 * F 6 + j)) ↔ zOut t u d (Q (F 9 * F 6 + j)) := by
          rw [zOut_s h]
          constructor
          · rintro (h9 | h9 | h9)
            · exact h9
            · rw [h9] at vj; omega
            · rw [h9] at vj; omega
          · exact Or.inl
        by_cases ho : zOut t u d (Q (F 9 * F 6 + j))
        · rw [if_pos ho, if_pos (e.mpr ho)]
        · rw [if_neg ho, if_neg (fun h9 => ho (e.mp h9))]
  · rw [if_neg hr, if_neg hr, if_neg (by omega), if_neg (by omega)]
theorem zLt_ln {I : zI} {F Q u d : Int → Int} {t : Int} : zLn (zLt I Q (F 9 * F 6) (zns F) u d t) F Q (zOut t u d) := by
  refine ⟨?_, fun k k0 k1 => ?_, fun k k0 k1 => ?_⟩
  · unfold zLt zLs
    rw [if_neg (by omega), if_neg (by omega), if_neg (by omega), if_pos ⟨rfl, rfl⟩]
  · unfold zLt zLs
    rw [if_neg (by omega), if_pos ⟨rfl, k0, k1⟩]
  · unfold zLt
    rw [if_pos ⟨rfl, k0, k1⟩]
    by_cases ho : zOut t u d (Q (F 9 * F 6 + k))
    · exact Or.inl ⟨ho, if_pos ho⟩
    · exact Or.inr ⟨ho, if_neg ho⟩
