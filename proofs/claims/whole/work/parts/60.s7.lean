theorem zob_k {q k c : Nat} (h : zob q k c = true) (hk : k < 99) : q ≠ 1000 := by
  rintro rfl
  unfold zob at h
  rw [show (zsh 1000).1 = 99 from rfl] at h
  simp only [Bool.and_eq_true] at h
  have := Nat.eq_of_beq_eq_true h.1
  omega
theorem zst_1000 {y pc : Nat} {L : zL} {st : List zV} {σ : zS} {g : Option Prop} {pc1 : Nat} {L1 : zL} {st1 : List zV} {σ1 : zS} (hy : y < 144) (h : zst y pc L st σ = some (g, pc1, L1, st1, σ1)) : ∀ j, σ1.1 1000 j = σ.1 1000 j := by
  have w10 : ∀ {q k : Nat} {c : Nat} {j v : Int}, zob q k c = true → k < 99 → ∀ i, zup σ.1 q j v 1000 i = σ.1 1000 i := by
    intro q k c j v ho hk i
    have := zob_k ho hk
    rw [zup_ne (fun h => this h.symm)]
  unfold zst at h
  split at h
  · next i len a b hi =>
    have hpf : ∀ k, i = .putfield k → a < 99 := by
      intro k hk
      subst hk
      have hz := (zchk_spec (zck y hy) hi).2
      simp only [zaux, Bool.and_eq_true, List.any_eq_true, decide_eq_true_eq] at hz
      obtain ⟨-, q, hq, -, -, h3, -⟩ := hz
      have : ∀ q ∈ zfl, q.2.2.1 < 99 := by decide
      rw [← h3]; exact this q hq
    unfold zx at h
    simp only [Bool.cond_eq_ite] at h
    (repeat' split at h)
    all_goals first
      | (cases h; exact fun j => rfl)
      | (cases h)
      | skip
    all_goals rename_i hb
    · simp only [Bool.and_eq_true] at hb
      exact w10 hb.1.1 (hpf _ rfl)
    · exact w10 hb (by decide)
    · exact w10 hb (by decide)
    · exact w10 hb (by decide)
    · simp only [Bool.and_eq_true] at hb
      intro j
      have := zob_k hb.1.2 (by decide)
      exact if_neg (fun h => this h.1.symm)
  · cases h
theorem zcl_y {y pc : Nat} {st : List zV} {σ : zS} {a : Nat} {As rest : List zV} (hy : y < 144) (h : zcl y pc st σ = some (a, As, rest)) : a < 144 := by
  unfold zcl at h
  split at h
  · next i len a2 b hi =>
    have hz := (zchk_spec (zck y hy) hi).2
    simp only [zaux, Bool.and_eq_true, zrm, decide_eq_true_eq] at hz
    simp only [Bool.cond_eq_ite] at h
    (repeat' split at h) <;> cases h
    have := hz.1.2.1.2
    have e : zlaw = 143 := rfl
    omega
  · next i len a2 b hi =>
    have hz := (zchk_spec (zck y hy) hi).2
    simp only [zaux, Bool.cond_eq_ite] at hz
    simp only [Bool.cond_eq_ite] at h
    (repeat' split at h) <;> cases h
    rename_i hb
    simp only [Bool.and_eq_true] at hb
    have h1 : a < 1000 := by simpa using hb.1.1.1
    rw [if_neg (by intro h9; have := Nat.eq_of_beq_eq_true h9; omega)] at hz
    split at hz
    · rename_i h9
      have := Nat.eq_of_beq_eq_true h9
      omega
    · simp only [Bool.and_eq_true, zrm, decide_eq_true_eq] at hz
      have e : zlaw = 143 := rfl
      omega
  · next i len a2 b hi =>
    have hz := (zchk_spec (zck y hy) hi).2
    simp only [zaux, Bool.cond_eq_ite] at hz
    simp only [Bool.cond_eq_ite] at h
    (repeat' split at h) <;> cases h
    rename_i hb
    simp only [Bool.and_eq_true] at hb
    have h1 : a < 1000 := by simpa using hb.1.1.1.1
    rw [if_neg (by intro h9; have := Nat.eq_of_beq_eq_true h9; omega)] at hz
    simp only [Bool.and_eq_true, zrm, decide_eq_true_eq] at hz
    have e : zlaw = 143 := rfl
    omega
  · cases h
/-- the script stays -/
theorem zRuns_1000 {y pc : Nat} {L : zL} {st : List zV} {σ τ : zS} {r : Option zV} (h : zRuns y pc L st σ r τ) (hy : y < 144) : ∀ j, τ.1 1000 j = σ.1 1000 j := by
  refine h (fun y _ _ _ σ _ τ => y < 144 → ∀ j, τ.1 1000 j = σ.1 1000 j) ⟨?_, ?_, ?_, ?_, ?_, ?_⟩ hy
  · intro y pc L st σ g pc1 L1 st1 σ1 r τ hs _ hx hy j
    rw [hx hy j, zst_1000 hy hs j]
  · intro y pc L st σ c t f st1 r τ _ ht hf hy j
    by_cases hc : c
    · exact ht hc hy j
    · exact hf hc hy j
  · intro y pc L st σ a As rest v σ1 r τ hc hm hk hy j
    rw [hk hy j, hm (zcl_y hy hc) j]
  · intro y pc L st σ r _ hy j
    rfl
  · intro y pc L L1 st σ r τ _ hx hy j
    exact hx hy j
  · intro y pc L st σ σ1 r τ he hx hy j
    rw [hx hy j, he.2.1 j]
