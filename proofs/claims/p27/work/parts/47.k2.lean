/-- the past charts as they are made -/
def zπ0 : Int → Nat := fun k => if k = 0 then 27 else if k = 1 then 50 else if k = 2 then 73 else if k = 3 then 96 else 0
def zPz : zP := fun _ _ => 0
def zDz : zD := fun _ _ => 0
theorem zeq_P {I : zI} {P Q : zP} {D : zD} {c : Nat} (h : ∀ r, r < c → ∀ j : Nat, j < (zsh r).2 → Q r j = P r j) : zeq (I, P, D, c) (I, Q, D, c) := ⟨rfl, fun _ => rfl, fun r hr j hj => ⟨rfl, h r hr j hj, rfl⟩⟩
theorem zk_1 : ∀ r, r < 137 → ∀ j : Nat, j < (zsh r).2 → zPp zπ0 r j = (zupP (zupP (zupP (zupP (zupP (zupP (zupP (zupP (zupP (zupP (zupP (zupP (zupP (zupP (zupP (zupP (zupP (zupP (zupP (zupP (zupP (zupP (zupP (zupP (zupP (zupP (zupP (zupP (zupP (zupP (zupP (zupP (zupP (zupP (zupP (zupP (zupP (zupP (zupP (zupP (zupP (zupP (zupP (zupP (zupP (zupP (zupP (zupP (zupP (zupP (zupP (zupP (zupP (zupP (zupP (zupP (zupP (zupP (zupP (zupP (zupP (zupP (zupP (zupP (zupP (zupP (zupP (zupP (zupP (zupP (zupP (zupP (zupP (zupP (zupP (zupP (zupP (zupP (zupP (zupP (zupP (zupP (zupP (zupP (zupP (zupP (zupP (zupP (zupP (zupP (zupP (zupP (zupP (zupP (zupP (zupP (zupP (zupP (zupP (zupP (zupP (zupP (zupP (zupP (zupP (zupP (zupP (zupP (zupP (zupP (zupP (zupP (zupP (zupP (zupP (zupP (zupP (zupP (zupP (zupP (zupP (zupP (zupP (zupP (zupP (zupP (zupP (zupP (zupP (zupP (zupP (zupP (zupP (zupP (zupP zPz 3 0 4) 2 0 3) 5 0 6) 2 1 5) 7 0 8) 2 2 7) 10 0 11) 9 0 10) 12 0 13) 9 1 12) 2 3 9) 15 0 16) 14 0 15) 17 0 18) 14 1 17) 19 0 20) 14 2 19) 21 0 22) 14 3 21) 2 4 14) 23 0 24) 2 12 23) 1 0 2) 25 0 26) 28 0 29) 27 0 28) 30 0 31) 27 1 30) 32 0 33) 27 2 32) 35 0 36) 34 0 35) 37 0 38) 34 1 37) 27 3 34) 40 0 41) 39 0 40) 42 0 43) 39 1 42) 44 0 45) 39 2 44) 46 0 47) 39 3 46) 27 4 39) 48 0 49) 27 12 48) 26 0 27) 51 0 52) 50 0 51) 53 0 54) 50 1 53) 55 0 56) 50 2 55) 58 0 59) 57 0 58) 60 0 61) 57 1 60) 50 3 57) 63 0 64) 62 0 63) 65 0 66) 62 1 65) 67 0 68) 62 2 67) 69 0 70) 62 3 69) 50 4 62) 71 0 72) 50 12 71) 26 1 50) 74 0 75) 73 0 74) 76 0 77) 73 1 76) 78 0 79) 73 2 78) 81 0 82) 80 0 81) 83 0 84) 80 1 83) 73 3 80) 86 0 87) 85 0 86) 88 0 89) 85 1 88) 90 0 91) 85 2 90) 92 0 93) 85 3 92) 73 4 85) 94 0 95) 73 12 94) 26 2 73) 97 0 98) 96 0 97) 99 0 100) 96 1 99) 101 0 102) 96 2 101) 104 0 105) 103 0 104) 106 0 107) 103 1 106) 96 3 103) 109 0 110) 108 0 109) 111 0 112) 108 1 111) 113 0 114) 108 2 113) 115 0 116) 108 3 115) 96 4 108) 117 0 118) 96 12 117) 26 3 96) 1 1 25) 120 0 121) 119 0 120) 122 0 123) 119 1 122) 119 3 124) 125 0 126) 119 4 125) 127 0 128) 119 5 127) 1 2 119) 131 0 132) 130 0 131) 133 0 134) 130 1 133) 129 4 130) 135 0 136) 129 5 135) 1 3 129) r j := by decide +kernel
set_option maxRecDepth 20000 in
theorem m_cnew {I : zI} (hI : ∀ r, 1 ≤ r → r < 137 → ∀ j, I r j = 0) : zMet 57 [vr 1] (I, zPz, zDz, 2) none ((zBeg (zup (zup (zup (zup (zup (zup (zup (zup (zup (zup (zup (zup (zup (zup (zup (zup (zup (zup (zup I 2 9 (-1)) 2 10 1500) 2 11 300) 27 9 (-1)) 27 10 1500) 27 11 300) 50 9 (-1)) 50 10 1500) 50 11 300) 73 9 (-1)) 73 10 1500) 73 11 300) 96 9 (-1)) 96 10 1500) 96 11 300) 2 5 12) 2 6 4) 2 7 4) 2 8 0)), zPp zπ0, zDz, 137) := by
  have f2 : ∀ j, I 2 j = 0 ∧ zPz 2 j = 0 ∧ zDz 2 j = 0 := fun j => ⟨hI 2 (by decide) (by decide) j, rfl, rfl⟩
  have f3 : ∀ j, I 3 j = 0 ∧ zPz 3 j = 0 ∧ zDz 3 j = 0 := fun j => ⟨hI 3 (by decide) (by decide) j, rfl, rfl⟩
  have f4 : ∀ j, I 4 j = 0 ∧ zPz 4 j = 0 ∧ zDz 4 j = 0 := fun j => ⟨hI 4 (by decide) (by decide) j, rfl, rfl⟩
  have f5 : ∀ j, I 5 j = 0 ∧ zPz 5 j = 0 ∧ zDz 5 j = 0 := fun j => ⟨hI 5 (by decide) (by decide) j, rfl, rfl⟩
  have f6 : ∀ j, I 6 j = 0 ∧ zPz 6 j = 0 ∧ zDz 6 j = 0 := fun j => ⟨hI 6 (by decide) (by decide) j, rfl, rfl⟩
  have f7 : ∀ j, I 7 j = 0 ∧ zPz 7 j = 0 ∧ zDz 7 j = 0 := fun j => ⟨hI 7 (by decide) (by decide) j, rfl, rfl⟩
  have f8 : ∀ j, I 8 j = 0 ∧ zPz 8 j = 0 ∧ zDz 8 j = 0 := fun j => ⟨hI 8 (by decide) (by decide) j, rfl, rfl⟩
  have f9 : ∀ j, I 9 j = 0 ∧ zPz 9 j = 0 ∧ zDz 9 j = 0 := fun j => ⟨hI 9 (by decide) (by decide) j, rfl, rfl⟩
  have f10 : ∀ j, I 10 j = 0 ∧ zPz 10 j = 0 ∧ zDz 10 j = 0 := fun j => ⟨hI 10 (by decide) (by decide) j, rfl, rfl⟩
  have f11 : ∀ j, I 11 j = 0 ∧ zPz 11 j = 0 ∧ zDz 11 j = 0 := fun j => ⟨hI 11 (by decide) (by decide) j, rfl, rfl⟩
  have f12 : ∀ j, I 12 j = 0 ∧ zPz 12 j = 0 ∧ zDz 12 j = 0 := fun j => ⟨hI 12 (by decide) (by decide) j, rfl, rfl⟩
  have f13 : ∀ j, I 13 j = 0 ∧ zPz 13 j = 0 ∧ zDz 13 j = 0 := fun j => ⟨hI 13 (by decide) (by decide) j, rfl, rfl⟩
  have f14 : ∀ j, I 14 j = 0 ∧ zPz 14 j = 0 ∧ zDz 14 j = 0 := fun j => ⟨hI 14 (by decide) (by decide) j, rfl, rfl⟩
  have f15 : ∀ j, I 15 j = 0 ∧ zPz 15 j = 0 ∧ zDz 15 j = 0 := fun j => ⟨hI 15 (by decide) (by decide) j, rfl, rfl⟩
  have f16 : ∀ j, I 16 j = 0 ∧ zPz 16 j = 0 ∧ zDz 16 j = 0 := fun j => ⟨hI 16 (by decide) (by decide) j, rfl, rfl⟩
  have f17 : ∀ j, I 17 j = 0 ∧ zPz 17 j = 0 ∧ zDz 17 j = 0 := fun j => ⟨hI 17 (by decide) (by decide) j, rfl, rfl⟩
  have f18 : ∀ j, I 18 j = 0 ∧ zPz 18 j = 0 ∧ zDz 18 j = 0 := fun j => ⟨hI 18 (by decide) (by decide) j, rfl, rfl⟩
  have f19 : ∀ j, I 19 j = 0 ∧ zPz 19 j = 0 ∧ zDz 19 j = 0 := fun j => ⟨hI 19 (by decide) (by decide) j, rfl, rfl⟩
  have f20 : ∀ j, I 20 j = 0 ∧ zPz 20 j = 0 ∧ zDz 20 j = 0 := fun j => ⟨hI 20 (by decide) (by decide) j, rfl, rfl⟩
  have f21 : ∀ j, I 21 j = 0 ∧ zPz 21 j = 0 ∧ zDz 21 j = 0 := fun j => ⟨hI 21 (by decide) (by decide) j, rfl, rfl⟩
  have f22 : ∀ j, I 22 j = 0 ∧ zPz 22 j = 0 ∧ zDz 22 j = 0 := fun j => ⟨hI 22 (by decide) (by decide) j, rfl, rfl⟩
  have f23 : ∀ j, I 23 j = 0 ∧ zPz 23 j = 0 ∧ zDz 23 j = 0 := fun j => ⟨hI 23 (by decide) (by decide) j, rfl, rfl⟩
  have f24 : ∀ j, I 24 j = 0 ∧ zPz 24 j = 0 ∧ zDz 24 j = 0 := fun j => ⟨hI 24 (by decide) (by decide) j, rfl, rfl⟩
  have f25 : ∀ j, I 25 j = 0 ∧ zPz 25 j = 0 ∧ zDz 25 j = 0 := fun j => ⟨hI 25 (by decide) (by decide) j, rfl, rfl⟩
  have f26 : ∀ j, I 26 j = 0 ∧ zPz 26 j = 0 ∧ zDz 26 j = 0 := fun j => ⟨hI 26 (by decide) (by decide) j, rfl, rfl⟩
  have f27 : ∀ j, I 27 j = 0 ∧ zPz 27 j = 0 ∧ zDz 27 j = 0 := fun j => ⟨hI 27 (by decide) (by decide) j, rfl, rfl⟩
  have f28 : ∀ j, I 28 j = 0 ∧ zPz 28 j = 0 ∧ zDz 28 j = 0 := fun j => ⟨hI 28 (by decide) (by decide) j, rfl, rfl⟩
  have f29 : ∀ j, I 29 j = 0 ∧ zPz 29 j = 0 ∧ zDz 29 j = 0 := fun j => ⟨hI 29 (by decide) (by decide) j, rfl, rfl⟩
  have f30 : ∀ j, I 30 j = 0 ∧ zPz 30 j = 0 ∧ zDz 30 j = 0 := fun j => ⟨hI 30 (by decide) (by decide) j, rfl, rfl⟩
  have f31 : ∀ j, I 31 j = 0 ∧ zPz 31 j = 0 ∧ zDz 31 j = 0 := fun j => ⟨hI 31 (by decide) (by decide) j, rfl, rfl⟩
  have f32 : ∀ j, I 32 j = 0 ∧ zPz 32 j = 0 ∧ zDz 32 j = 0 := fun j => ⟨hI 32 (by decide) (by decide) j, rfl, rfl⟩
  have f33 : ∀ j, I 33 j = 0 ∧ zPz 33 j = 0 ∧ zDz 33 j = 0 := fun j => ⟨hI 33 (by decide) (by decide) j, rfl, rfl⟩
  have f34 : ∀ j, I 34 j = 0 ∧ zPz 34 j = 0 ∧ zDz 34 j = 0 := fun j => ⟨hI 34 (by decide) (by decide) j, rfl, rfl⟩
  have f35 : ∀ j, I 35 j = 0 ∧ zPz 35 j = 0 ∧ zDz 35 j = 0 := fun j => ⟨hI 35 (by decide) (by decide) j, rfl, rfl⟩
  have f36 : ∀ j, I 36 j = 0 ∧ zPz 36 j = 0 ∧ zDz 36 j = 0 := fun j => ⟨hI 36 (by decide) (by decide) j, rfl, rfl⟩
  have f37 : ∀ j, I 37 j = 0 ∧ zPz 37 j = 0 ∧ zDz 37 j = 0 := fun j => ⟨hI 37 (by decide) (by decide) j, rfl, rfl⟩
  have f38 : ∀ j, I 38 j = 0 ∧ zPz 38 j = 0 ∧ zDz 38 j = 0 := fun j => ⟨hI 38 (by decide) (by decide) j, rfl, rfl⟩
  have f39 : ∀ j, I 39 j = 0 ∧ zPz 39 j = 0 ∧ zDz 39 j = 0 := fun j => ⟨hI 39 (by decide) (by decide) j, rfl, rfl⟩
  have f40 : ∀ j, I 40 j = 0 ∧ zPz 40 j = 0 ∧ zDz 40 j = 0 := fun j => ⟨hI 40 (by decide) (by decide) j, rfl, rfl⟩
  have f41 : ∀ j, I 41 j = 0 ∧ zPz 41 j = 0 ∧ zDz 41 j = 0 := fun j => ⟨hI 41 (by decide) (by decide) j, rfl, rfl⟩
  have f42 : ∀ j, I 42 j = 0 ∧ zPz 42 j = 0 ∧ zDz 42 j = 0 := fun j => ⟨hI 42 (by decide) (by decide) j, rfl, rfl⟩
  have f43 : ∀ j, I 43 j = 0 ∧ zPz 43 j = 0 ∧ zDz 43 j = 0 := fun j => ⟨hI 43 (by decide) (by decide) j, rfl, rfl⟩
  have f44 : ∀ j, I 44 j = 0 ∧ zPz 44 j = 0 ∧ zDz 44 j = 0 := fun j => ⟨hI 44 (by decide) (by decide) j, rfl, rfl⟩
  have f45 : ∀ j, I 45 j = 0 ∧ zPz 45 j = 0 ∧ zDz 45 j = 0 := fun j => ⟨hI 45 (by decide) (by decide) j, rfl, rfl⟩
  have f46 : ∀ j, I 46 j = 0 ∧ zPz 46 j = 0 ∧ zDz 46 j = 0 := fun j => ⟨hI 46 (by decide) (by decide) j, rfl, rfl⟩
  have f47 : ∀ j, I 47 j = 0 ∧ zPz 47 j = 0 ∧ zDz 47 j = 0 := fun j => ⟨hI 47 (by decide) (by decide) j, rfl, rfl⟩
  have f48 : ∀ j, I 48 j = 0 ∧ zPz 48 j = 0 ∧ zDz 48 j = 0 := fun j => ⟨hI 48 (by decide) (by decide) j, rfl, rfl⟩
  have f49 : ∀ j, I 49 j = 0 ∧ zPz 49 j = 0 ∧ zDz 49 j = 0 := fun j => ⟨hI 49 (by decide) (by decide) j, rfl, rfl⟩
  have f50 : ∀ j, I 50 j = 0 ∧ zPz 50 j = 0 ∧ zDz 50 j = 0 := fun j => ⟨hI 50 (by decide) (by decide) j, rfl, rfl⟩
  have f51 : ∀ j, I 51 j = 0 ∧ zPz 51 j = 0 ∧ zDz 51 j = 0 := fun j => ⟨hI 51 (by decide) (by decide) j, rfl, rfl⟩
  have f52 : ∀ j, I 52 j = 0 ∧ zPz 52 j = 0 ∧ zDz 52 j = 0 := fun j => ⟨hI 52 (by decide) (by decide) j, rfl, rfl⟩
  have f53 : ∀ j, I 53 j = 0 ∧ zPz 53 j = 0 ∧ zDz 53 j = 0 := fun j => ⟨hI 53 (by decide) (by decide) j, rfl, rfl⟩
  have f54 : ∀ j, I 54 j = 0 ∧ zPz 54 j = 0 ∧ zDz 54 j = 0 := fun j => ⟨hI 54 (by decide) (by decide) j, rfl, rfl⟩
  have f55 : ∀ j, I 55 j = 0 ∧ zPz 55 j = 0 ∧ zDz 55 j = 0 := fun j => ⟨hI 55 (by decide) (by decide) j, rfl, rfl⟩
  have f56 : ∀ j, I 56 j = 0 ∧ zPz 56 j = 0 ∧ zDz 56 j = 0 := fun j => ⟨hI 56 (by decide) (by decide) j, rfl, rfl⟩
  have f57 : ∀ j, I 57 j = 0 ∧ zPz 57 j = 0 ∧ zDz 57 j = 0 := fun j => ⟨hI 57 (by decide) (by decide) j, rfl, rfl⟩
  have f58 : ∀ j, I 58 j = 0 ∧ zPz 58 j = 0 ∧ zDz 58 j = 0 := fun j => ⟨hI 58 (by decide) (by decide) j, rfl, rfl⟩
  have f59 : ∀ j, I 59 j = 0 ∧ zPz 59 j = 0 ∧ zDz 59 j = 0 := fun j => ⟨hI 59 (by decide) (by decide) j, rfl, rfl⟩
  have f60 : ∀ j, I 60 j = 0 ∧ zPz 60 j = 0 ∧ zDz 60 j = 0 := fun j => ⟨hI 60 (by decide) (by decide) j, rfl, rfl⟩
  have f61 : ∀ j, I 61 j = 0 ∧ zPz 61 j = 0 ∧ zDz 61 j = 0 := fun j => ⟨hI 61 (by decide) (by decide) j, rfl, rfl⟩
  have f62 : ∀ j, I 62 j = 0 ∧ zPz 62 j = 0 ∧ zDz 62 j = 0 := fun j => ⟨hI 62 (by decide) (by decide) j, rfl, rfl⟩
  have f63 : ∀ j, I 63 j = 0 ∧ zPz 63 j = 0 ∧ zDz 63 j = 0 := fun j => ⟨hI 63 (by decide) (by decide) j, rfl, rfl⟩
  have f64 : ∀ j, I 64 j = 0 ∧ zPz 64 j = 0 ∧ zDz 64 j = 0 := fun j => ⟨hI 64 (by decide) (by decide) j, rfl, rfl⟩
  have f65 : ∀ j, I 65 j = 0 ∧ zPz 65 j = 0 ∧ zDz 65 j = 0 := fun j => ⟨hI 65 (by decide) (by decide) j, rfl, rfl⟩
  have f66 : ∀ j, I 66 j = 0 ∧ zPz 66 j = 0 ∧ zDz 66 j = 0 := fun j => ⟨hI 66 (by decide) (by decide) j, rfl, rfl⟩
  have f67 : ∀ j, I 67 j = 0 ∧ zPz 67 j = 0 ∧ zDz 67 j = 0 := fun j => ⟨hI 67 (by decide) (by decide) j, rfl, rfl⟩
  have f68 : ∀ j, I 68 j = 0 ∧ zPz 68 j = 0 ∧ zDz 68 j = 0 := fun j => ⟨hI 68 (by decide) (by decide) j, rfl, rfl⟩
  have f69 : ∀ j, I 69 j = 0 ∧ zPz 69 j = 0 ∧ zDz 69 j = 0 := fun j => ⟨hI 69 (by decide) (by decide) j, rfl, rfl⟩
  have f70 : ∀ j, I 70 j = 0 ∧ zPz 70 j = 0 ∧ zDz 70 j = 0 := fun j => ⟨hI 70 (by decide) (by decide) j, rfl, rfl⟩
  have f71 : ∀ j, I 71 j = 0 ∧ zPz 71 j = 0 ∧ zDz 71 j = 0 := fun j => ⟨hI 71 (by decide) (by decide) j, rfl, rfl⟩
  have f72 : ∀ j, I 72 j = 0 ∧ zPz 72 j = 0 ∧ zDz 72 j = 0 := fun j => ⟨hI 72 (by decide) (by decide) j, rfl, rfl⟩
  have f73 : ∀ j, I 73 j = 0 ∧ zPz 73 j = 0 ∧ zDz 73 j = 0 := fun j => ⟨hI 73 (by decide) (by decide) j, rfl, rfl⟩
  have f74 : ∀ j, I 74 j = 0 ∧ zPz 74 j = 0 ∧ zDz 74 j = 0 := fun j => ⟨hI 74 (by decide) (by decide) j, rfl, rfl⟩
  have f75 : ∀ j, I 75 j = 0 ∧ zPz 75 j = 0 ∧ zDz 75 j = 0 := fun j => ⟨hI 75 (by decide) (by decide) j, rfl, rfl⟩
  have f76 : ∀ j, I 76 j = 0 ∧ zPz 76 j = 0 ∧ zDz 76 j = 0 := fun j => ⟨hI 76 (by decide) (by decide) j, rfl, rfl⟩
  have f77 : ∀ j, I 77 j = 0 ∧ zPz 77 j = 0 ∧ zDz 77 j = 0 := fun j => ⟨hI 77 (by decide) (by decide) j, rfl, rfl⟩
  have f78 : ∀ j, I 78 j = 0 ∧ zPz 78 j = 0 ∧ zDz 78 j = 0 := fun j => ⟨hI 78 (by decide) (by decide) j, rfl, rfl⟩
  have f79 : ∀ j, I 79 j = 0 ∧ zPz 79 j = 0 ∧ zDz 79 j = 0 := fun j => ⟨hI 79 (by decide) (by decide) j, rfl, rfl⟩
  have f80 : ∀ j, I 80 j = 0 ∧ zPz 80 j = 0 ∧ zDz 80 j = 0 := fun j => ⟨hI 80 (by decide) (by decide) j, rfl, rfl⟩
  have f81 : ∀ j, I 81 j = 0 ∧ zPz 81 j = 0 ∧ zDz 81 j = 0 := fun j => ⟨hI 81 (by decide) (by decide) j, rfl, rfl⟩
  have f82 : ∀ j, I 82 j = 0 ∧ zPz 82 j = 0 ∧ zDz 82 j = 0 := fun j => ⟨hI 82 (by decide) (by decide) j, rfl, rfl⟩
  have f83 : ∀ j, I 83 j = 0 ∧ zPz 83 j = 0 ∧ zDz 83 j = 0 := fun j => ⟨hI 83 (by decide) (by decide) j, rfl, rfl⟩
  have f84 : ∀ j, I 84 j = 0 ∧ zPz 84 j = 0 ∧ zDz 84 j = 0 := fun j => ⟨hI 84 (by decide) (by decide) j, rfl, rfl⟩
  have f85 : ∀ j, I 85 j = 0 ∧ zPz 85 j = 0 ∧ zDz 85 j = 0 := fun j => ⟨hI 85 (by decide) (by decide) j, rfl, rfl⟩
  have f86 : ∀ j, I 86 j = 0 ∧ zPz 86 j = 0 ∧ zDz 86 j = 0 := fun j => ⟨hI 86 (by decide) (by decide) j, rfl, rfl⟩
  have f87 : ∀ j, I 87 j = 0 ∧ zPz 87 j = 0 ∧ zDz 87 j = 0 := fun j => ⟨hI 87 (by decide) (by decide) j, rfl, rfl⟩
  have f88 : ∀ j, I 88 j = 0 ∧ zPz 88 j = 0 ∧ zDz 88 j = 0 := fun j => ⟨hI 88 (by decide) (by decide) j, rfl, rfl⟩
  have f89 : ∀ j, I 89 j = 0 ∧ zPz 89 j = 0 ∧ zDz 89 j = 0 := fun j => ⟨hI 89 (by decide) (by decide) j, rfl, rfl⟩
  have f90 : ∀ j, I 90 j = 0 ∧ zPz 90 j = 0 ∧ zDz 90 j = 0 := fun j => ⟨hI 90 (by decide) (by decide) j, rfl, rfl⟩
  have f91 : ∀ j, I 91 j = 0 ∧ zPz 91 j = 0 ∧ zDz 91 j = 0 := fun j => ⟨hI 91 (by decide) (by decide) j, rfl, rfl⟩
  have f92 : ∀ j, I 92 j = 0 ∧ zPz 92 j = 0 ∧ zDz 92 j = 0 := fun j => ⟨hI 92 (by decide) (by decide) j, rfl, rfl⟩
  have f93 : ∀ j, I 93 j = 0 ∧ zPz 93 j = 0 ∧ zDz 93 j = 0 := fun j => ⟨hI 93 (by decide) (by decide) j, rfl, rfl⟩
  have f94 : ∀ j, I 94 j = 0 ∧ zPz 94 j = 0 ∧ zDz 94 j = 0 := fun j => ⟨hI 94 (by decide) (by decide) j, rfl, rfl⟩
  have f95 : ∀ j, I 95 j = 0 ∧ zPz 95 j = 0 ∧ zDz 95 j = 0 := fun j => ⟨hI 95 (by decide) (by decide) j, rfl, rfl⟩
  have f96 : ∀ j, I 96 j = 0 ∧ zPz 96 j = 0 ∧ zDz 96 j = 0 := fun j => ⟨hI 96 (by decide) (by decide) j, rfl, rfl⟩
  have f97 : ∀ j, I 97 j = 0 ∧ zPz 97 j = 0 ∧ zDz 97 j = 0 := fun j => ⟨hI 97 (by decide) (by decide) j, rfl, rfl⟩
  have f98 : ∀ j, I 98 j = 0 ∧ zPz 98 j = 0 ∧ zDz 98 j = 0 := fun j => ⟨hI 98 (by decide) (by decide) j, rfl, rfl⟩
  have f99 : ∀ j, I 99 j = 0 ∧ zPz 99 j = 0 ∧ zDz 99 j = 0 := fun j => ⟨hI 99 (by decide) (by decide) j, rfl, rfl⟩
  have f100 : ∀ j, I 100 j = 0 ∧ zPz 100 j = 0 ∧ zDz 100 j = 0 := fun j => ⟨hI 100 (by decide) (by decide) j, rfl, rfl⟩
  have f101 : ∀ j, I 101 j = 0 ∧ zPz 101 j = 0 ∧ zDz 101 j = 0 := fun j => ⟨hI 101 (by decide) (by decide) j, rfl, rfl⟩
  have f102 : ∀ j, I 102 j = 0 ∧ zPz 102 j = 0 ∧ zDz 102 j = 0 := fun j => ⟨hI 102 (by decide) (by decide) j, rfl, rfl⟩
  have f103 : ∀ j, I 103 j = 0 ∧ zPz 103 j = 0 ∧ zDz 103 j = 0 := fun j => ⟨hI 103 (by decide) (by decide) j, rfl, rfl⟩
  have f104 : ∀ j, I 104 j = 0 ∧ zPz 104 j = 0 ∧ zDz 104 j = 0 := fun j => ⟨hI 104 (by decide) (by decide) j, rfl, rfl⟩
  have f105 : ∀ j, I 105 j = 0 ∧ zPz 105 j = 0 ∧ zDz 105 j = 0 := fun j => ⟨hI 105 (by decide) (by decide) j, rfl, rfl⟩
  have f106 : ∀ j, I 106 j = 0 ∧ zPz 106 j = 0 ∧ zDz 106 j = 0 := fun j => ⟨hI 106 (by decide) (by decide) j, rfl, rfl⟩
  have f107 : ∀ j, I 107 j = 0 ∧ zPz 107 j = 0 ∧ zDz 107 j = 0 := fun j => ⟨hI 107 (by decide) (by decide) j, rfl, rfl⟩
  have f108 : ∀ j, I 108 j = 0 ∧ zPz 108 j = 0 ∧ zDz 108 j = 0 := fun j => ⟨hI 108 (by decide) (by decide) j, rfl, rfl⟩
  have f109 : ∀ j, I 109 j = 0 ∧ zPz 109 j = 0 ∧ zDz 109 j = 0 := fun j => ⟨hI 109 (by decide) (by decide) j, rfl, rfl⟩
  have f110 : ∀ j, I 110 j = 0 ∧ zPz 110 j = 0 ∧ zDz 110 j = 0 := fun j => ⟨hI 110 (by decide) (by decide) j, rfl, rfl⟩
  have f111 : ∀ j, I 111 j = 0 ∧ zPz 111 j = 0 ∧ zDz 111 j = 0 := fun j => ⟨hI 111 (by decide) (by decide) j, rfl, rfl⟩
  have f112 : ∀ j, I 112 j = 0 ∧ zPz 112 j = 0 ∧ zDz 112 j = 0 := fun j => ⟨hI 112 (by decide) (by decide) j, rfl, rfl⟩
  have f113 : ∀ j, I 113 j = 0 ∧ zPz 113 j = 0 ∧ zDz 113 j = 0 := fun j => ⟨hI 113 (by decide) (by decide) j, rfl, rfl⟩
  have f114 : ∀ j, I 114 j = 0 ∧ zPz 114 j = 0 ∧ zDz 114 j = 0 := fun j => ⟨hI 114 (by decide) (by decide) j, rfl, rfl⟩
  have f115 : ∀ j, I 115 j = 0 ∧ zPz 115 j = 0 ∧ zDz 115 j = 0 := fun j => ⟨hI 115 (by decide) (by decide) j, rfl, rfl⟩
  have f116 : ∀ j, I 116 j = 0 ∧ zPz 116 j = 0 ∧ zDz 116 j = 0 := fun j => ⟨hI 116 (by decide) (by decide) j, rfl, rfl⟩
  have f117 : ∀ j, I 117 j = 0 ∧ zPz 117 j = 0 ∧ zDz 117 j = 0 := fun j => ⟨hI 117 (by decide) (by decide) j, rfl, rfl⟩
  have f118 : ∀ j, I 118 j = 0 ∧ zPz 118 j = 0 ∧ zDz 118 j = 0 := fun j => ⟨hI 118 (by decide) (by decide) j, rfl, rfl⟩
  have f119 : ∀ j, I 119 j = 0 ∧ zPz 119 j = 0 ∧ zDz 119 j = 0 := fun j => ⟨hI 119 (by decide) (by decide) j, rfl, rfl⟩
  have f120 : ∀ j, I 120 j = 0 ∧ zPz 120 j = 0 ∧ zDz 120 j = 0 := fun j => ⟨hI 120 (by decide) (by decide) j, rfl, rfl⟩
  have f121 : ∀ j, I 121 j = 0 ∧ zPz 121 j = 0 ∧ zDz 121 j = 0 := fun j => ⟨hI 121 (by decide) (by decide) j, rfl, rfl⟩
  have f122 : ∀ j, I 122 j = 0 ∧ zPz 122 j = 0 ∧ zDz 122 j = 0 := fun j => ⟨hI 122 (by decide) (by decide) j, rfl, rfl⟩
  have f123 : ∀ j, I 123 j = 0 ∧ zPz 123 j = 0 ∧ zDz 123 j = 0 := fun j => ⟨hI 123 (by decide) (by decide) j, rfl, rfl⟩
  have f124 : ∀ j, I 124 j = 0 ∧ zPz 124 j = 0 ∧ zDz 124 j = 0 := fun j => ⟨hI 124 (by decide) (by decide) j, rfl, rfl⟩
  have f125 : ∀ j, I 125 j = 0 ∧ zPz 125 j = 0 ∧ zDz 125 j = 0 := fun j => ⟨hI 125 (by decide) (by decide) j, rfl, rfl⟩
  have f126 : ∀ j, I 126 j = 0 ∧ zPz 126 j = 0 ∧ zDz 126 j = 0 := fun j => ⟨hI 126 (by decide) (by decide) j, rfl, rfl⟩
  have f127 : ∀ j, I 127 j = 0 ∧ zPz 127 j = 0 ∧ zDz 127 j = 0 := fun j => ⟨hI 127 (by decide) (by decide) j, rfl, rfl⟩
  have f128 : ∀ j, I 128 j = 0 ∧ zPz 128 j = 0 ∧ zDz 128 j = 0 := fun j => ⟨hI 128 (by decide) (by decide) j, rfl, rfl⟩
  have f129 : ∀ j, I 129 j = 0 ∧ zPz 129 j = 0 ∧ zDz 129 j = 0 := fun j => ⟨hI 129 (by decide) (by decide) j, rfl, rfl⟩
  have f130 : ∀ j, I 130 j = 0 ∧ zPz 130 j = 0 ∧ zDz 130 j = 0 := fun j => ⟨hI 130 (by decide) (by decide) j, rfl, rfl⟩
  have f131 : ∀ j, I 131 j = 0 ∧ zPz 131 j = 0 ∧ zDz 131 j = 0 := fun j => ⟨hI 131 (by decide) (by decide) j, rfl, rfl⟩
  have f132 : ∀ j, I 132 j = 0 ∧ zPz 132 j = 0 ∧ zDz 132 j = 0 := fun j => ⟨hI 132 (by decide) (by decide) j, rfl, rfl⟩
  have f133 : ∀ j, I 133 j = 0 ∧ zPz 133 j = 0 ∧ zDz 133 j = 0 := fun j => ⟨hI 133 (by decide) (by decide) j, rfl, rfl⟩
  have f134 : ∀ j, I 134 j = 0 ∧ zPz 134 j = 0 ∧ zDz 134 j = 0 := fun j => ⟨hI 134 (by decide) (by decide) j, rfl, rfl⟩
  have f135 : ∀ j, I 135 j = 0 ∧ zPz 135 j = 0 ∧ zDz 135 j = 0 := fun j => ⟨hI 135 (by decide) (by decide) j, rfl, rfl⟩
  have f136 : ∀ j, I 136 j = 0 ∧ zPz 136 j = 0 ∧ zDz 136 j = 0 := fun j => ⟨hI 136 (by decide) (by decide) j, rfl, rfl⟩
  have hk1 := zk_1
  have h6 : ∀ c, 0 ≤ c → c < 24 → 0 ≤ (zup (zup (zup (zup (zup (zup (zup (zup (zup (zup (zup (zup (zup (zup (zup I 2 9 (-1)) 2 10 1500) 2 11 300) 27 9 (-1)) 27 10 1500) 27 11 300) 50 9 (-1)) 50 10 1500) 50 11 300) 73 9 (-1)) 73 10 1500) 73 11 300) 96 9 (-1)) 96 10 1500) 96 11 300) 6 c ∧ (zup (zup (zup (zup (zup (zup (zup (zup (zup (zup (zup (zup (zup (zup (zup I 2 9 (-1)) 2 10 1500) 2 11 300) 27 9 (-1)) 27 10 1500) 27 11 300) 50 9 (-1)) 50 10 1500) 50 11 300) 73 9 (-1)) 73 10 1500) 73 11 300) 96 9 (-1)) 96 10 1500) 96 11 300) 6 c < 24 := fun c _ _ => by
    show 0 ≤ I 6 c ∧ I 6 c < 24
    rw [hI 6 (by decide) (by decide)]
    omega
  refine z_n 5 (9, [(0, vr 1)], [vr 2, vr 2, vr 1], (I, zPz, zDz, 3)) (G := (zfresh (I, zPz, zDz, 2)) ∧ True) rfl ⟨f2, trivial⟩ ?_
  refine z_cv 4 [vr 2] [vr 2, vr 1] rfl (m_ct_2 f3 f4 f5 f6 f7 f8 f9 f10 f11 f12 f13 f14 f15 f16 f17 f18 f19 f20 f21 f22 f23 f24) ?_
  refine z_n 4 (20, [(0, vr 1)], [vr 25, vr 25, vr 1], ((zup (zup (zup I 2 9 (-1)) 2 10 1500) 2 11 300), (zupP (zupP (zupP (zupP (zupP (zupP (zupP (zupP (zupP (zupP (zupP (zupP (zupP (zupP (zupP (zupP (zupP (zupP (zupP (zupP (zupP (zupP (zupP zPz 3 0 4) 2 0 3) 5 0 6) 2 1 5) 7 0 8) 2 2 7) 10 0 11) 9 0 10) 12 0 13) 9 1 12) 2 3 9) 15 0 16) 14 0 15) 17 0 18) 14 1 17) 19 0 20) 14 2 19) 21 0 22) 14 3 21) 2 4 14) 23 0 24) 2 12 23) 1 0 2), zDz, 26)) (G := (zfresh ((zup (zup (zup I 2 9 (-1)) 2 10 1500) 2 11 300), (zupP (zupP (zupP (zupP (zupP (zupP (zupP (zupP (zupP (zupP (zupP (zupP (zupP (zupP (zupP (zupP (zupP (zupP (zupP (zupP (zupP (zupP (zupP zPz 3 0 4) 2 0 3) 5 0 6) 2 1 5) 7 0 8) 2 2 7) 10 0 11) 9 0 10) 12 0 13) 9 1 12) 2 3 9) 15 0 16) 14 0 15) 17 0 18) 14 1 17) 19 0 20) 14 2 19) 21 0 22) 14 3 21) 2 4 14) 23 0 24) 2 12 23) 1 0 2), zDz, 25)) ∧ True) rfl ⟨f25, trivial⟩ ?_
  refine z_cv 37 [vr 25] [vr 25, vr 1] rfl (m_ct_25 f26 f27 f28 f29 f30 f31 f32 f33 f34 f35 f36 f37 f38 f39 f40 f41 f42 f43 f44 f45 f46 f47 f48 f49 f50 f51 f52 f53 f54 f55 f56 f57 f58 f59 f60 f61 f62 f63 f64 f65 f66 f67 f68 f69 f70 f71 f72 f73 f74 f75 f76 f77 f78 f79 f80 f81 f82 f83 f84 f85 f86 f87 f88 f89 f90 f91 f92 f93 f94 f95 f96 f97 f98 f99 f100 f101 f102 f103 f104 f105 f106 f107 f108 f109 f110 f111 f112 f113 f114 f115 f116 f117 f118) ?_
  refine z_n 4 (31, [(0, vr 1)], [vr 119, vr 119, vr 1], ((zup (zup (zup (zup (zup (zup (zup (zup (zup (zup (zup (zup (zup (zup (zup I 2 9 (-1)) 2 10 1500) 2 11 300) 27 9 (-1)) 27 10 1500) 27 11 300) 50 9 (-1)) 50 10 1500) 50 11 300) 73 9 (-1)) 73 10 1500) 73 11 300) 96 9 (-1)) 96 10 1500) 96 11 300), (zupP (zupP (zupP (zupP (zupP (zupP (zupP (zupP (zupP (zupP (zupP (zupP (zupP (zupP (zupP (zupP (zupP (zupP (zupP (zupP (zupP (zupP (zupP (zupP (zupP (zupP (zupP (zupP (zupP (zupP (zupP (zupP (zupP (zupP (zupP (zupP (zupP (zupP (zupP (zupP (zupP (zupP (zupP (zupP (zupP (zupP (zupP (zupP (zupP (zupP (zupP (zupP (zupP (zupP (zupP (zupP (zupP (zupP (zupP (zupP (zupP (zupP (zupP (zupP (zupP (zupP (zupP (zupP (zupP (zupP (zupP (zupP (zupP (zupP (zupP (zupP (zupP (zupP (zupP (zupP (zupP (zupP (zupP (zupP (zupP (zupP (zupP (zupP (zupP (zupP (zupP (zupP (zupP (zupP (zupP (zupP (zupP (zupP (zupP (zupP (zupP (zupP (zupP (zupP (zupP (zupP (zupP (zupP (zupP (zupP (zupP (zupP (zupP (zupP (zupP (zupP (zupP zPz 3 0 4) 2 0 3) 5 0 6) 2 1 5) 7 0 8) 2 2 7) 10 0 11) 9 0 10) 12 0 13) 9 1 12) 2 3 9) 15 0 16) 14 0 15) 17 0 18) 14 1 17) 19 0 20) 14 2 19) 21 0 22) 14 3 21) 2 4 14) 23 0 24) 2 12 23) 1 0 2) 25 0 26) 28 0 29) 27 0 28) 30 0 31) 27 1 30) 32 0 33) 27 2 32) 35 0 36) 34 0 35) 37 0 38) 34 1 37) 27 3 34) 40 0 41) 39 0 40) 42 0 43) 39 1 42) 44 0 45) 39 2 44) 46 0 47) 39 3 46) 27 4 39) 48 0 49) 27 12 48) 26 0 27) 51 0 52) 50 0 51) 53 0 54) 50 1 53) 55 0 56) 50 2 55) 58 0 59) 57 0 58) 60 0 61) 57 1 60) 50 3 57) 63 0 64) 62 0 63) 65 0 66) 62 1 65) 67 0 68) 62 2 67) 69 0 70) 62 3 69) 50 4 62) 71 0 72) 50 12 71) 26 1 50) 74 0 75) 73 0 74) 76 0 77) 73 1 76) 78 0 79) 73 2 78) 81 0 82) 80 0 81) 83 0 84) 80 1 83) 73 3 80) 86 0 87) 85 0 86) 88 0 89) 85 1 88) 90 0 91) 85 2 90) 92 0 93) 85 3 92) 73 4 85) 94 0 95) 73 12 94) 26 2 73) 97 0 98) 96 0 97) 99 0 100) 96 1 99) 101 0 102) 96 2 101) 104 0 105) 103 0 104) 106 0 107) 103 1 106) 96 3 103) 109 0 110) 108 0 109) 111 0 112) 108 1 111) 113 0 114) 108 2 113) 115 0 116) 108 3 115) 96 4 108) 117 0 118) 96 12 117) 26 3 96) 1 1 25), zDz, 120)) (G := (zfresh ((zup (zup (zup (zup (zup (zup (zup (zup (zup (zup (zup (zup (zup (zup (zup I 2 9 (-1)) 2 10 1500) 2 11 300) 27 9 (-1)) 27 10 1500) 27 11 300) 50 9 (-1)) 50 10 1500) 50 11 300) 73 9 (-1)) 73 10 1500) 73 11 300) 96 9 (-1)) 96 10 1500) 96 11 300), (zupP (zupP (zupP (zupP (zupP (zupP (zupP (zupP (zupP (zupP (zupP (zupP (zupP (zupP (zupP (zupP (zupP (zupP (zupP (zupP (zupP (zupP (zupP (zupP (zupP (zupP (zupP (zupP (zupP (zupP (zupP (zupP (zupP (zupP (zupP (zupP (zupP (zupP (zupP (zupP (zupP (zupP (zupP (zupP (zupP (zupP (zupP (zupP (zupP (zupP (zupP (zupP (zupP (zupP (zupP (zupP (zupP (zupP (zupP (zupP (zupP (zupP (zupP (zupP (zupP (zupP (zupP (zupP (zupP (zupP (zupP (zupP (zupP (zupP (zupP (zupP (zupP (zupP (zupP (zupP (zupP (zupP (zupP (zupP (zupP (zupP (zupP (zupP (zupP (zupP (zupP (zupP (zupP (zupP (zupP (zupP (zupP (zupP (zupP (zupP (zupP (zupP (zupP (zupP (zupP (zupP (zupP (zupP (zupP (zupP (zupP (zupP (zupP (zupP (zupP (zupP (zupP zPz 3 0 4) 2 0 3) 5 0 6) 2 1 5) 7 0 8) 2 2 7) 10 0 11) 9 0 10) 12 0 13) 9 1 12) 2 3 9) 15 0 16) 14 0 15) 17 0 18) 14 1 17) 19 0 20) 14 2 19) 21 0 22) 14 3 21) 2 4 14) 23 0 24) 2 12 23) 1 0 2) 25 0 26) 28 0 29) 27 0 28) 30 0 31) 27 1 30) 32 0 33) 27 2 32) 35 0 36) 34 0 35) 37 0 38) 34 1 37) 27 3 34) 40 0 41) 39 0 40) 42 0 43) 39 1 42) 44 0 45) 39 2 44) 46 0 47) 39 3 46) 27 4 39) 48 0 49) 27 12 48) 26 0 27) 51 0 52) 50 0 51) 53 0 54) 50 1 53) 55 0 56) 50 2 55) 58 0 59) 57 0 58) 60 0 61) 57 1 60) 50 3 57) 63 0 64) 62 0 63) 65 0 66) 62 1 65) 67 0 68) 62 2 67) 69 0 70) 62 3 69) 50 4 62) 71 0 72) 50 12 71) 26 1 50) 74 0 75) 73 0 74) 76 0 77) 73 1 76) 78 0 79) 73 2 78) 81 0 82) 80 0 81) 83 0 84) 80 1 83) 73 3 80) 86 0 87) 85 0 86) 88 0 89) 85 1 88) 90 0 91) 85 2 90) 92 0 93) 85 3 92) 73 4 85) 94 0 95) 73 12 94) 26 2 73) 97 0 98) 96 0 97) 99 0 100) 96 1 99) 101 0 102) 96 2 101) 104 0 105) 103 0 104) 106 0 107) 103 1 106) 96 3 103) 109 0 110) 108 0 109) 111 0 112) 108 1 111) 113 0 114) 108 2 113) 115 0 116) 108 3 115) 96 4 108) 117 0 118) 96 12 117) 26 3 96) 1 1 25), zDz, 119)) ∧ True) rfl ⟨f119, trivial⟩ ?_
  refine z_cv 31 [vr 119] [vr 119, vr 1] rfl (m_ct_119 f120 f121 f122 f123 f124 f125 f126 f127 f128) ?_
  refine z_n 4 (42, [(0, vr 1)], [vr 129, vr 129, vr 1], ((zup (zup (zup (zup (zup (zup (zup (zup (zup (zup (zup (zup (zup (zup (zup I 2 9 (-1)) 2 10 1500) 2 11 300) 27 9 (-1)) 27 10 1500) 27 11 300) 50 9 (-1)) 50 10 1500) 50 11 300) 73 9 (-1)) 73 10 1500) 73 11 300) 96 9 (-1)) 96 10 1500) 96 11 300), (zupP (zupP (zupP (zupP (zupP (zupP (zupP (zupP (zupP (zupP (zupP (zupP (zupP (zupP (zupP (zupP (zupP (zupP (zupP (zupP (zupP (zupP (zupP (zupP (zupP (zupP (zupP (zupP (zupP (zupP (zupP (zupP (zupP (zupP (zupP (zupP (zupP (zupP (zupP (zupP (zupP (zupP (zupP (zupP (zupP (zupP (zupP (zupP (zupP (zupP (zupP (zupP (zupP (zupP (zupP (zupP (zupP (zupP (zupP (zupP (zupP (zupP (zupP (zupP (zupP (zupP (zupP (zupP (zupP (zupP (zupP (zupP (zupP (zupP (zupP (zupP (zupP (zupP (zupP (zupP (zupP (zupP (zupP (zupP (zupP (zupP (zupP (zupP (zupP (zupP (zupP (zupP (zupP (zupP (zupP (zupP (zupP (zupP (zupP (zupP (zupP (zupP (zupP (zupP (zupP (zupP (zupP (zupP (zupP (zupP (zupP (zupP (zupP (zupP (zupP (zupP (zupP (zupP (zupP (zupP (zupP (zupP (zupP (zupP (zupP (zupP (zupP zPz 3 0 4) 2 0 3) 5 0 6) 2 1 5) 7 0 8) 2 2 7) 10 0 11) 9 0 10) 12 0 13) 9 1 12) 2 3 9) 15 0 16) 14 0 15) 17 0 18) 14 1 17) 19 0 20) 14 2 19) 21 0 22) 14 3 21) 2 4 14) 23 0 24) 2 12 23) 1 0 2) 25 0 26) 28 0 29) 27 0 28) 30 0 31) 27 1 30) 32 0 33) 27 2 32) 35 0 36) 34 0 35) 37 0 38) 34 1 37) 27 3 34) 40 0 41) 39 0 40) 42 0 43) 39 1 42) 44 0 45) 39 2 44) 46 0 47) 39 3 46) 27 4 39) 48 0 49) 27 12 48) 26 0 27) 51 0 52) 50 0 51) 53 0 54) 50 1 53) 55 0 56) 50 2 55) 58 0 59) 57 0 58) 60 0 61) 57 1 60) 50 3 57) 63 0 64) 62 0 63) 65 0 66) 62 1 65) 67 0 68) 62 2 67) 69 0 70) 62 3 69) 50 4 62) 71 0 72) 50 12 71) 26 1 50) 74 0 75) 73 0 74) 76 0 77) 73 1 76) 78 0 79) 73 2 78) 81 0 82) 80 0 81) 83 0 84) 80 1 83) 73 3 80) 86 0 87) 85 0 86) 88 0 89) 85 1 88) 90 0 91) 85 2 90) 92 0 93) 85 3 92) 73 4 85) 94 0 95) 73 12 94) 26 2 73) 97 0 98) 96 0 97) 99 0 100) 96 1 99) 101 0 102) 96 2 101) 104 0 105) 103 0 104) 106 0 107) 103 1 106) 96 3 103) 109 0 110) 108 0 109) 111 0 112) 108 1 111) 113 0 114) 108 2 113) 115 0 116) 108 3 115) 96 4 108) 117 0 118) 96 12 117) 26 3 96) 1 1 25) 120 0 121) 119 0 120) 122 0 123) 119 1 122) 119 3 124) 125 0 126) 119 4 125) 127 0 128) 119 5 127) 1 2 119), zDz, 130)) (G := (zfresh ((zup (zup (zup (zup (zup (zup (zup (zup (zup (zup (zup (zup (zup (zup (zup I 2 9 (-1)) 2 10 1500) 2 11 300) 27 9 (-1)) 27 10 1500) 27 11 300) 50 9 (-1)) 50 10 1500) 50 11 300) 73 9 (-1)) 73 10 1500) 73 11 300) 96 9 (-1)) 96 10 1500) 96 11 300), (zupP (zupP (zupP (zupP (zupP (zupP (zupP (zupP (zupP (zupP (zupP (zupP (zupP (zupP (zupP (zupP (zupP (zupP (zupP (zupP (zupP (zupP (zupP (zupP (zupP (zupP (zupP (zupP (zupP (zupP (zupP (zupP (zupP (zupP (zupP (zupP (zupP (zupP (zupP (zupP (zupP (zupP (zupP (zupP (zupP (zupP (zupP (zupP (zupP (zupP (zupP (zupP (zupP (zupP (zupP (zupP (zupP (zupP (zupP (zupP (zupP (zupP (zupP (zupP (zupP (zupP (zupP (zupP (zupP (zupP (zupP (zupP (zupP (zupP (zupP (zupP (zupP (zupP (zupP (zupP (zupP (zupP (zupP (zupP (zupP (zupP (zupP (zupP (zupP (zupP (zupP (zupP (zupP (zupP (zupP (zupP (zupP (zupP (zupP (zupP (zupP (zupP (zupP (zupP (zupP (zupP (zupP (zupP (zupP (zupP (zupP (zupP (zupP (zupP (zupP (zupP (zupP (zupP (zupP (zupP (zupP (zupP (zupP (zupP (zupP (zupP (zupP zPz 3 0 4) 2 0 3) 5 0 6) 2 1 5) 7 0 8) 2 2 7) 10 0 11) 9 0 10) 12 0 13) 9 1 12) 2 3 9) 15 0 16) 14 0 15) 17 0 18) 14 1 17) 19 0 20) 14 2 19) 21 0 22) 14 3 21) 2 4 14) 23 0 24) 2 12 23) 1 0 2) 25 0 26) 28 0 29) 27 0 28) 30 0 31) 27 1 30) 32 0 33) 27 2 32) 35 0 36) 34 0 35) 37 0 38) 34 1 37) 27 3 34) 40 0 41) 39 0 40) 42 0 43) 39 1 42) 44 0 45) 39 2 44) 46 0 47) 39 3 46) 27 4 39) 48 0 49) 27 12 48) 26 0 27) 51 0 52) 50 0 51) 53 0 54) 50 1 53) 55 0 56) 50 2 55) 58 0 59) 57 0 58) 60 0 61) 57 1 60) 50 3 57) 63 0 64) 62 0 63) 65 0 66) 62 1 65) 67 0 68) 62 2 67) 69 0 70) 62 3 69) 50 4 62) 71 0 72) 50 12 71) 26 1 50) 74 0 75) 73 0 74) 76 0 77) 73 1 76) 78 0 79) 73 2 78) 81 0 82) 80 0 81) 83 0 84) 80 1 83) 73 3 80) 86 0 87) 85 0 86) 88 0 89) 85 1 88) 90 0 91) 85 2 90) 92 0 93) 85 3 92) 73 4 85) 94 0 95) 73 12 94) 26 2 73) 97 0 98) 96 0 97) 99 0 100) 96 1 99) 101 0 102) 96 2 101) 104 0 105) 103 0 104) 106 0 107) 103 1 106) 96 3 103) 109 0 110) 108 0 109) 111 0 112) 108 1 111) 113 0 114) 108 2 113) 115 0 116) 108 3 115) 96 4 108) 117 0 118) 96 12 117) 26 3 96) 1 1 25) 120 0 121) 119 0 120) 122 0 123) 119 1 122) 119 3 124) 125 0 126) 119 4 125) 127 0 128) 119 5 127) 1 2 119), zDz, 129)) ∧ True) rfl ⟨f129, trivial⟩ ?_
  refine z_cv 56 [vr 129] [vr 129, vr 1] rfl (m_ct_129 f130 f131 f132 f133 f134 f135 f136) ?_
  refine z_n 1 (48, [(0, vr 1)], [], ((zup (zup (zup (zup (zup (zup (zup (zup (zup (zup (zup (zup (zup (zup (zup I 2 9 (-1)) 2 10 1500) 2 11 300) 27 9 (-1)) 27 10 1500) 27 11 300) 50 9 (-1)) 50 10 1500) 50 11 300) 73 9 (-1)) 73 10 1500) 73 11 300) 96 9 (-1)) 96 10 1500) 96 11 300), (zupP (zupP (zupP (zupP (zupP (zupP (zupP (zupP (zupP (zupP (zupP (zupP (zupP (zupP (zupP (zupP (zupP (zupP (zupP (zupP (zupP (zupP (zupP (zupP (zupP (zupP (zupP (zupP (zupP (zupP (zupP (zupP (zupP (zupP (zupP (zupP (zupP (zupP (zupP (zupP (zupP (zupP (zupP (zupP (zupP (zupP (zupP (zupP (zupP (zupP (zupP (zupP (zupP (zupP (zupP (zupP (zupP (zupP (zupP (zupP (zupP (zupP (zupP (zupP (zupP (zupP (zupP (zupP (zupP (zupP (zupP (zupP (zupP (zupP (zupP (zupP (zupP (zupP (zupP (zupP (zupP (zupP (zupP (zupP (zupP (zupP (zupP (zupP (zupP (zupP (zupP (zupP (zupP (zupP (zupP (zupP (zupP (zupP (zupP (zupP (zupP (zupP (zupP (zupP (zupP (zupP (zupP (zupP (zupP (zupP (zupP (zupP (zupP (zupP (zupP (zupP (zupP (zupP (zupP (zupP (zupP (zupP (zupP (zupP (zupP (zupP (zupP (zupP (zupP (zupP (zupP (zupP (zupP (zupP (zupP zPz 3 0 4) 2 0 3) 5 0 6) 2 1 5) 7 0 8) 2 2 7) 10 0 11) 9 0 10) 12 0 13) 9 1 12) 2 3 9) 15 0 16) 14 0 15) 17 0 18) 14 1 17) 19 0 20) 14 2 19) 21 0 22) 14 3 21) 2 4 14) 23 0 24) 2 12 23) 1 0 2) 25 0 26) 28 0 29) 27 0 28) 30 0 31) 27 1 30) 32 0 33) 27 2 32) 35 0 36) 34 0 35) 37 0 38) 34 1 37) 27 3 34) 40 0 41) 39 0 40) 42 0 43) 39 1 42) 44 0 45) 39 2 44) 46 0 47) 39 3 46) 27 4 39) 48 0 49) 27 12 48) 26 0 27) 51 0 52) 50 0 51) 53 0 54) 50 1 53) 55 0 56) 50 2 55) 58 0 59) 57 0 58) 60 0 61) 57 1 60) 50 3 57) 63 0 64) 62 0 63) 65 0 66) 62 1 65) 67 0 68) 62 2 67) 69 0 70) 62 3 69) 50 4 62) 71 0 72) 50 12 71) 26 1 50) 74 0 75) 73 0 74) 76 0 77) 73 1 76) 78 0 79) 73 2 78) 81 0 82) 80 0 81) 83 0 84) 80 1 83) 73 3 80) 86 0 87) 85 0 86) 88 0 89) 85 1 88) 90 0 91) 85 2 90) 92 0 93) 85 3 92) 73 4 85) 94 0 95) 73 12 94) 26 2 73) 97 0 98) 96 0 97) 99 0 100) 96 1 99) 101 0 102) 96 2 101) 104 0 105) 103 0 104) 106 0 107) 103 1 106) 96 3 103) 109 0 110) 108 0 109) 111 0 112) 108 1 111) 113 0 114) 108 2 113) 115 0 116) 108 3 115) 96 4 108) 117 0 118) 96 12 117) 26 3 96) 1 1 25) 120 0 121) 119 0 120) 122 0 123) 119 1 122) 119 3 124) 125 0 126) 119 4 125) 127 0 128) 119 5 127) 1 2 119) 131 0 132) 130 0 131) 133 0 134) 130 1 133) 129 4 130) 135 0 136) 129 5 135) 1 3 129), zDz, 137)) rfl trivial ?_
  refine z_eqs (σ1 := ((zup (zup (zup (zup (zup (zup (zup (zup (zup (zup (zup (zup (zup (zup (zup I 2 9 (-1)) 2 10 1500) 2 11 300) 27 9 (-1)) 27 10 1500) 27 11 300) 50 9 (-1)) 50 10 1500) 50 11 300) 73 9 (-1)) 73 10 1500) 73 11 300) 96 9 (-1)) 96 10 1500) 96 11 300), zPp zπ0, zDz, 137)) (zeq_P hk1) ?_
  refine z_n 5 (56, [(0, vr 1)], [vi 4, vi 4, vi 12, vr 2], ((zup (zup (zup (zup (zup (zup (zup (zup (zup (zup (zup (zup (zup (zup (zup I 2 9 (-1)) 2 10 1500) 2 11 300) 27 9 (-1)) 27 10 1500) 27 11 300) 50 9 (-1)) 50 10 1500) 50 11 300) 73 9 (-1)) 73 10 1500) 73 11 300) 96 9 (-1)) 96 10 1500) 96 11 300), zPp zπ0, zDz, 137)) rfl trivial ?_
  refine z_cv 5 [vr 2, vi 12, vi 4, vi 4] [] rfl (m_anew (I := (zup (zup (zup (zup (zup (zup (zup (zup (zup (zup (zup (zup (zup (zup (zup I 2 9 (-1)) 2 10 1500) 2 11 300) 27 9 (-1)) 27 10 1500) 27 11 300) 50 9 (-1)) 50 10 1500) 50 11 300) 73 9 (-1)) 73 10 1500) 73 11 300) 96 9 (-1)) 96 10 1500) 96 11 300)) (by decide) (by decide) (by decide) h6) ?_
  exact z_ret rfl rfl rfl
/-- what holds of an object that has just been made -/
theorem zSm_0 {I : zI} (hI : ∀ r, 1 ≤ r → r < 137 → ∀ j, I r j = 0) : zSm (zBeg (zup (zup (zup (zup (zup (zup (zup (zup (zup (zup (zup (zup (zup (zup (zup (zup (zup (zup (zup I 2 9 (-1)) 2 10 1500) 2 11 300) 27 9 (-1)) 27 10 1500) 27 11 300) 50 9 (-1)) 50 10 1500) 50 11 300) 73 9 (-1)) 73 10 1500) 73 11 300) 96 9 (-1)) 96 10 1500) 96 11 300) 2 5 12) 2 6 4) 2 7 4) 2 8 0)) zπ0 := by
  obtain ⟨K0, e0⟩ : ∃ K0, K0 = (zup (zup (zup (zup (zup (zup (zup (zup (zup (zup (zup (zup (zup (zup (zup I 2 9 (-1)) 2 10 1500) 2 11 300) 27 9 (-1)) 27 10 1500) 27 11 300) 50 9 (-1)) 50 10 1500) 50 11 300) 73 9 (-1)) 73 10 1500) 73 11 300) 96 9 (-1)) 96 10 1500) 96 11 300) := ⟨_, rfl⟩
  have z6 : K0 6 = I 6 := by rw [e0]; rfl
  have z10 : K0 2 10 = 1500 := by rw [e0]; rfl
  have z11 : K0 2 11 = 300 := by rw [e0]; rfl
  have z25 : K0 25 = I 25 := by rw [e0]; rfl
  rw [← e0]
  obtain ⟨I1, eI, r4, r8, r6, rr⟩ := zBeg_r (J := K0) (a := 12) (b := 4) (c := 4) (by decide) (by decide) (by rw [z6]; intro q _ _; rw [hI 6 (by decide) (by decide)]; omega)
  have f : I1 2 5 = 12 ∧ I1 2 6 = 4 ∧ I1 2 7 = 4 ∧ I1 2 8 = 0 ∧ I1 2 9 = (12 + 4 - 1) / 4 - 1 ∧ I1 2 10 = 1500 ∧ I1 2 11 = 300 :=
    ⟨by rw [eI]; rfl, by rw [eI]; rfl, by rw [eI]; rfl, by rw [eI]; rfl, by rw [eI]; rfl, by rw [eI]; exact z10, by rw [eI]; exact z11⟩
  have f9 : I1 9 2 = 0 := by rw [eI]; rfl
  have f14 : I1 14 4 = 0 := by rw [eI]; rfl
  rw [← eI]
  have hc : zCI (zX I1 2) := zBeg_CI (by decide) (by decide) (by decide) (by decide) (by decide) f r4 r8 r6 f9 f14
  have i25 : I1 25 1 = 0 := by rw [rr 25 (by decide), z25]; exact hI 25 (by decide) (by decide) 1
  refine ⟨⟨hc, zBeg_H f.1 f.2.2.2.1 f14 (fun q q0 q1 => (r4 q q0 q1).2.2)⟩, by rw [i25]; omega, ?_, ?_, fun k k0 k1 => by rw [i25] at k1; omega⟩
  · intro k k0 k1
    rcases (show k = 0 ∨ k = 1 ∨ k = 2 ∨ k = 3 by omega) with h | h | h | h <;> subst h <;> decide
  · intro j k j0 j1 k0 k1 h
    rcases (show j = 0 ∨ j = 1 ∨ j = 2 ∨ j = 3 by omega) with h1 | h1 | h1 | h1 <;> rcases (show k = 0 ∨ k = 1 ∨ k = 2 ∨ k = 3 by omega) with h2 | h2 | h2 | h2 <;> subst h1 <;> subst h2 <;> first | rfl | exact absurd h (by decide)
