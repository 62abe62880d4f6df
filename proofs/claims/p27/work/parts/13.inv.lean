def zpt : List (List Nat) := [[], [2, 25, 119, 129], [3, 5, 7, 9, 14, 0, 0, 0, 0, 0, 0, 0, 23], [4], [], [6], [], [8], [], [10, 12, 0], [11], [], [13], [], [15, 17, 19, 21, 0], [16], [], [18], [], [20], [], [22], [], [24], [], [26, 0], [], [28, 30, 32, 34, 39, 0, 0, 0, 0, 0, 0, 0, 48], [29], [], [31], [], [33], [], [35, 37, 0], [36], [], [38], [], [40, 42, 44, 46, 0], [41], [], [43], [], [45], [], [47], [], [49], [], [51, 53, 55, 57, 62, 0, 0, 0, 0, 0, 0, 0, 71], [52], [], [54], [], [56], [], [58, 60, 0], [59], [], [61], [], [63, 65, 67, 69, 0], [64], [], [66], [], [68], [], [70], [], [72], [], [74, 76, 78, 80, 85, 0, 0, 0, 0, 0, 0, 0, 94], [75], [], [77], [], [79], [], [81, 83, 0], [82], [], [84], [], [86, 88, 90, 92, 0], [87], [], [89], [], [91], [], [93], [], [95], [], [97, 99, 101, 103, 108, 0, 0, 0, 0, 0, 0, 0, 117], [98], [], [100], [], [102], [], [104, 106, 0], [105], [], [107], [], [109, 111, 113, 115, 0], [110], [], [112], [], [114], [], [116], [], [118], [], [120, 122, 0, 124, 125, 127, 0], [121], [], [123], [], [], [126], [], [128], [], [0, 0, 0, 0, 130, 135, 0, 0, 0], [131, 133, 0], [132], [], [134], [], [136], []]
/-- the references as they stand once everything is made; the past charts' places apart -/
def zPp (π : Int → Nat) : zP := fun r j => bif Nat.beq r 26 then π j else (zpt.getD r []).getD j.toNat 0

/-- how often c stands among the first n -/
def zcnt (f : Int → Int) (c : Int) : Nat → Int
  | 0 => 0
  | n + 1 => zcnt f c n + (if f n = c then 1 else 0)
theorem zcnt_s {f : Int → Int} {c k : Int} (h : 0 ≤ k) : zcnt f c (k + 1).toNat = zcnt f c k.toNat + (if f k = c then 1 else 0) := by
  obtain ⟨j, rfl⟩ : ∃ j : Nat, k = j := ⟨k.toNat, by omega⟩
  rfl
theorem zcnt_b {f : Int → Int} {c : Int} : ∀ n : Nat, 0 ≤ zcnt f c n ∧ zcnt f c n ≤ n
  | 0 => ⟨by simp [zcnt], by simp [zcnt]⟩
  | n + 1 => by
    have := zcnt_b (f := f) (c := c) n
    unfold zcnt
    split <;> omega
/-- days of a rise, of a fall: g the place after each day -/
def zris (g : Int → Int) : Nat → Int
  | 0 => 0
  | n + 1 => zris g n + (if g (n + 1) < g n then 1 else 0)
def zfal (g : Int → Int) : Nat → Int
  | 0 => 0
  | n + 1 => zfal g n + (if g n < g (n + 1) then 1 else 0)
theorem zris_s {g : Int → Int} {k : Int} (h : 0 ≤ k) : zris g (k + 1).toNat = zris g k.toNat + (if g (k + 1) < g k then 1 else 0) := by
  obtain ⟨j, rfl⟩ : ∃ j : Nat, k = j := ⟨k.toNat, by omega⟩
  rfl
theorem zfal_s {g : Int → Int} {k : Int} (h : 0 ≤ k) : zfal g (k + 1).toNat = zfal g k.toNat + (if g k < g (k + 1) then 1 else 0) := by
  obtain ⟨j, rfl⟩ : ∃ j : Nat, k = j := ⟨k.toNat, by omega⟩
  rfl
theorem zris_b {g : Int → Int} : ∀ n : Nat, 0 ≤ zris g n ∧ zris g n ≤ n
  | 0 => ⟨by simp [zris], by simp [zris]⟩
  | n + 1 => by
    have := zris_b (g := g) n
    unfold zris
    split <;> omega
theorem zfal_b {g : Int → Int} : ∀ n : Nat, 0 ≤ zfal g n ∧ zfal g n ≤ n
  | 0 => ⟨by simp [zfal], by simp [zfal]⟩
  | n + 1 => by
    have := zfal_b (g := g) n
    unfold zfal
    split <;> omega
/-- a crew's place by its bumps alone -/
def zfol (u d s : Int → Int) (c : Int) : Nat → Int
  | 0 => c
  | n + 1 => if u n = c then zfol u d s c n - s n else if d n = c then zfol u d s c n + s n else zfol u d s c n
theorem zfol_s {u d s : Int → Int} {c k : Int} (h : 0 ≤ k) : zfol u d s c (k + 1).toNat = if u k = c then zfol u d s c k.toNat - s k else if d k = c then zfol u d s c k.toNat + s k else zfol u d s c k.toNat := by
  obtain ⟨j, rfl⟩ : ∃ j : Nat, k = j := ⟨k.toNat, by omega⟩
  rfl
/-- the one that rose most among the first n places -/
def zbst (ri Or : Int → Int) : Nat → Int
  | 0 => -1
  | n + 1 => if n = 0 then Or 0 else if ri (zbst ri Or n) < ri (Or n) then Or n else zbst ri Or n
theorem zbst_s {ri Or : Int → Int} {k : Int} (h : 0 ≤ k) : zbst ri Or (k + 1).toNat = if k = 0 then Or 0 else if ri (zbst ri Or k.toNat) < ri (Or k) then Or k else zbst ri Or k.toNat := by
  obtain ⟨j, rfl⟩ : ∃ j : Nat, k = j := ⟨k.toNat, by omega⟩
  show zbst ri Or (j + 1) = if (j : Int) = 0 then Or 0 else if ri (zbst ri Or j) < ri (Or j) then Or j else zbst ri Or j
  by_cases h0 : j = 0
  · subst h0; rfl
  · rw [if_neg (show ¬ (j : Int) = 0 by omega)]
    conv => lhs; unfold zbst
    rw [if_neg h0]
theorem zbst_in {ri Or : Int → Int} {N : Int} (ho : ∀ q, 0 ≤ q → q < N → 0 ≤ Or q ∧ Or q < N) : ∀ n : Nat, 0 < n → (n : Int) ≤ N → 0 ≤ zbst ri Or n ∧ zbst ri Or n < N
  | 0, h, _ => absurd h (by omega)
  | n + 1, _, hn => by
    unfold zbst
    by_cases h0 : n = 0
    · rw [if_pos h0]; exact ho 0 (by omega) (by omega)
    · rw [if_neg h0]
      split
      · exact ho n (by omega) (by omega)
      · exact zbst_in ho n (by omega) (by omega)

/-- numbers of a chart: F its fields -/
def zW1 (F : Int → Int) : Prop := (2 ≤ F 5 ∧ F 5 ≤ 24) ∧ (3 ≤ F 6 ∧ F 6 ≤ 8) ∧ (1 ≤ F 7 ∧ F 7 ≤ 6) ∧ (0 ≤ F 8 ∧ F 8 ≤ F 7) ∧ (-1 ≤ F 9 ∧ F 9 ≤ 7) ∧ (F 9 = -1 ↔ F 8 = F 7) ∧ ((-8 ≤ F 9 * F 6 ∧ F 9 * F 6 < F 5) ∧ (F 9 = -1 ∨ 0 ≤ F 9 * F 6)) ∧ (100 ≤ F 10 ∧ F 10 ≤ 5000) ∧ (1 ≤ F 11 ∧ F 11 ≤ 1000)
/-- how many start -/
def zns (F : Int → Int) : Int := if F 9 = -1 then 0 else if F 6 + 1 ≤ F 5 - F 9 * F 6 then F 6 + 1 else F 5 - F 9 * F 6
/-- places and order -/
def zW2 (F Pl Or : Int → Int) : Prop := (∀ c, 0 ≤ c → c < F 5 → 0 ≤ Pl c ∧ Pl c < F 5 ∧ Or (Pl c) = c) ∧ (∀ q, 0 ≤ q → q < F 5 → 0 ≤ Or q ∧ Or q < F 5 ∧ Pl (Or q) = q) ∧ (∀ c, 0 ≤ c → c < 24 → 0 ≤ Pl c ∧ Pl c < 24)
/-- c starts -/
def zIs (F Pl : Int → Int) (c : Int) : Prop := (0 ≤ c ∧ c < F 5) ∧ F 9 * F 6 ≤ Pl c ∧ Pl c < F 9 * F 6 + zns F
def zOut (M : Int) (Up Dn : Int → Int) (c : Int) : Prop := ∃ k, 0 ≤ k ∧ k < M ∧ (Up k = c ∨ Dn k = c)
/-- why a can't bump b, 0 if it can -/
def zReas (F Pl Or : Int → Int) (M : Int) (Up Dn : Int → Int) (a b res : Int) : Prop :=
  (res = 2 ∧ ¬ (zIs F Pl a ∧ zIs F Pl b)) ∨ (zIs F Pl a ∧ zIs F Pl b ∧ ((res = 3 ∧ (zOut M Up Dn a ∨ zOut M Up Dn b)) ∨ (¬ zOut M Up Dn a ∧ ¬ zOut M Up Dn b ∧
    ((res = 4 ∧ Pl a ≤ Pl b) ∨ (Pl b < Pl a ∧ ((res = 5 ∧ ∃ q, Pl b < q ∧ q < Pl a ∧ ¬ zOut M Up Dn (Or q)) ∨ (res = 0 ∧ ∀ q, Pl b < q → q < Pl a → zOut M Up Dn (Or q))))))))
