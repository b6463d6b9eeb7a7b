/-! ===== the shape of the whole world: 0..78 the class's cells, 79..94 the reference's ===== -/
def esr (r0 : Int) (n : Nat) : List (Option Int) := (List.range n).map (fun i : Nat => some (r0 + (i : Int)))
theorem esr_at {r0 j : Int} {n : Nat} (h : 0 ≤ j ∧ j < (n : Int)) : (esr r0 n)[j.toNat]? = some (some (r0 + j)) := by
  unfold esr
  rw [List.getElem?_map, List.getElem?_range (by omega)]
  simp [Int.toNat_of_nonneg h.1]
def SH : List Sh := [
  .inl (7, [some (some 1), some (some 18), some (some 19), some (some 20), some (some 22), some (some 29), some (some 37), some (some 40)]),
  .inl (2, [some (some 2), some (some 7), some (some 14), none, none]),
  .inr (2, 4, esr 3 4),
  .inr (0, 6, []),
  .inr (0, 6, []),
  .inr (0, 6, []),
  .inr (0, 6, []),
  .inr (2, 6, esr 8 6),
  .inr (0, 6, []),
  .inr (0, 6, []),
  .inr (0, 6, []),
  .inr (0, 6, []),
  .inr (0, 6, []),
  .inr (0, 6, []),
  .inl (4, [some (some 15), some (some 16), some (some 17), none]),
  .inr (0, 8, []),
  .inr (0, 8, []),
  .inr (0, 8, []),
  .inr (3, 2, [some 45, some 62]),
  .inr (1, 2, []),
  .inl (5, [some (some 21), none]),
  .inr (0, 40, []),
  .inl (6, [some (some 23), some (some 28), none, none, none]),
  .inr (2, 4, esr 24 4),
  .inr (0, 6, []),
  .inr (0, 6, []),
  .inr (0, 6, []),
  .inr (0, 6, []),
  .inr (0, 6, []),
  .inl (0, [some (some 30), some (some 31), none, none, some (some 32), some (some 33), some (some 34), some (some 35), some (some 36), none]),
  .inr (0, 8, []),
  .inr (0, 6, []),
  .inr (0, 6, []),
  .inr (0, 6, []),
  .inr (0, 2048, []),
  .inr (0, 256, []),
  .inr (1, 256, []),
  .inl (3, [some (some 38), some (some 39)]),
  .inr (0, 64, []),
  .inr (0, 64, []),
  .inl (1, [some (some 41), none, some (some 42), some (some 43), some (some 44)]),
  .inr (0, 12, []),
  .inr (0, 12, []),
  .inr (0, 6, []),
  .inr (0, 6, []),
  .inl (2, [some (some 46), some (some 51), some (some 58), none, none]),
  .inr (2, 4, esr 47 4),
  .inr (0, 6, []),
  .inr (0, 6, []),
  .inr (0, 6, []),
  .inr (0, 6, []),
  .inr (2, 6, esr 52 6),
  .inr (0, 6, []),
  .inr (0, 6, []),
  .inr (0, 6, []),
  .inr (0, 6, []),
  .inr (0, 6, []),
  .inr (0, 6, []),
  .inl (4, [some (some 59), some (some 60), some (some 61), none]),
  .inr (0, 8, []),
  .inr (0, 8, []),
  .inr (0, 8, []),
  .inl (2, [some (some 63), some (some 68), some (some 75), none, none]),
  .inr (2, 4, esr 64 4),
  .inr (0, 6, []),
  .inr (0, 6, []),
  .inr (0, 6, []),
  .inr (0, 6, []),
  .inr (2, 6, esr 69 6),
  .inr (0, 6, []),
  .inr (0, 6, []),
  .inr (0, 6, []),
  .inr (0, 6, []),
  .inr (0, 6, []),
  .inr (0, 6, []),
  .inl (4, [some (some 76), some (some 77), some (some 78), none]),
  .inr (0, 8, []),
  .inr (0, 8, []),
  .inr (0, 8, []),
  .inl (8, [some (some 80), none, none, none, some (some 81), none, some (some 82), some (some 83), some (some 84), some (some 85), none, none, none, some (some 86), some (some 87), some (some 88), some (some 89), some (some 90), some (some 91), some (some 92), some (some 93), some (some 94)]),
  .inr (0, 24, []),
  .inr (0, 40, []),
  .inr (0, 24, []),
  .inr (0, 36, []),
  .inr (0, 24, []),
  .inr (0, 6, []),
  .inr (0, 6, []),
  .inr (0, 256, []),
  .inr (0, 4, []),
  .inr (0, 4, []),
  .inr (0, 64, []),
  .inr (0, 12, []),
  .inr (0, 6, []),
  .inr (0, 176, []),
  .inr (1, 2, [])
]
theorem SH_len : SH.length = 95 := rfl
theorem sh0 : SH[((0 : Int)).toNat]? = some (.inl (7, [some (some 1), some (some 18), some (some 19), some (some 20), some (some 22), some (some 29), some (some 37), some (some 40)])) := rfl
theorem sh1 : SH[((1 : Int)).toNat]? = some (.inl (2, [some (some 2), some (some 7), some (some 14), none, none])) := rfl
theorem sh2 : SH[((2 : Int)).toNat]? = some (.inr (2, 4, esr 3 4)) := rfl
theorem sh3 : SH[((3 : Int)).toNat]? = some (.inr (0, 6, [])) := rfl
theorem sh4 : SH[((4 : Int)).toNat]? = some (.inr (0, 6, [])) := rfl
theorem sh5 : SH[((5 : Int)).toNat]? = some (.inr (0, 6, [])) := rfl
theorem sh6 : SH[((6 : Int)).toNat]? = some (.inr (0, 6, [])) := rfl
theorem sh7 : SH[((7 : Int)).toNat]? = some (.inr (2, 6, esr 8 6)) := rfl
theorem sh8 : SH[((8 : Int)).toNat]? = some (.inr (0, 6, [])) := rfl
theorem sh9 : SH[((9 : Int)).toNat]? = some (.inr (0, 6, [])) := rfl
theorem sh10 : SH[((10 : Int)).toNat]? = some (.inr (0, 6, [])) := rfl
theorem sh11 : SH[((11 : Int)).toNat]? = some (.inr (0, 6, [])) := rfl
theorem sh12 : SH[((12 : Int)).toNat]? = some (.inr (0, 6, [])) := rfl
theorem sh13 : SH[((13 : Int)).toNat]? = some (.inr (0, 6, [])) := rfl
theorem sh14 : SH[((14 : Int)).toNat]? = some (.inl (4, [some (some 15), some (some 16), some (some 17), none])) := rfl
theorem sh15 : SH[((15 : Int)).toNat]? = some (.inr (0, 8, [])) := rfl
theorem sh16 : SH[((16 : Int)).toNat]? = some (.inr (0, 8, [])) := rfl
theorem sh17 : SH[((17 : Int)).toNat]? = some (.inr (0, 8, [])) := rfl
theorem sh18 : SH[((18 : Int)).toNat]? = some (.inr (3, 2, [some 45, some 62])) := rfl
theorem sh19 : SH[((19 : Int)).toNat]? = some (.inr (1, 2, [])) := rfl
theorem sh20 : SH[((20 : Int)).toNat]? = some (.inl (5, [some (some 21), none])) := rfl
theorem sh21 : SH[((21 : Int)).toNat]? = some (.inr (0, 40, [])) := rfl
theorem sh22 : SH[((22 : Int)).toNat]? = some (.inl (6, [some (some 23), some (some 28), none, none, none])) := rfl
theorem sh23 : SH[((23 : Int)).toNat]? = some (.inr (2, 4, esr 24 4)) := rfl
theorem sh24 : SH[((24 : Int)).toNat]? = some (.inr (0, 6, [])) := rfl
theorem sh25 : SH[((25 : Int)).toNat]? = some (.inr (0, 6, [])) := rfl
theorem sh26 : SH[((26 : Int)).toNat]? = some (.inr (0, 6, [])) := rfl
theorem sh27 : SH[((27 : Int)).toNat]? = some (.inr (0, 6, [])) := rfl
theorem sh28 : SH[((28 : Int)).toNat]? = some (.inr (0, 6, [])) := rfl
theorem sh29 : SH[((29 : Int)).toNat]? = some (.inl (0, [some (some 30), some (some 31), none, none, some (some 32), some (some 33), some (some 34), some (some 35), some (some 36), none])) := rfl
theorem sh30 : SH[((30 : Int)).toNat]? = some (.inr (0, 8, [])) := rfl
theorem sh31 : SH[((31 : Int)).toNat]? = some (.inr (0, 6, [])) := rfl
theorem sh32 : SH[((32 : Int)).toNat]? = some (.inr (0, 6, [])) := rfl
theorem sh33 : SH[((33 : Int)).toNat]? = some (.inr (0, 6, [])) := rfl
theorem sh34 : SH[((34 : Int)).toNat]? = some (.inr (0, 2048, [])) := rfl
theorem sh35 : SH[((35 : Int)).toNat]? = some (.inr (0, 256, [])) := rfl
theorem sh36 : SH[((36 : Int)).toNat]? = some (.inr (1, 256, [])) := rfl
theorem sh37 : SH[((37 : Int)).toNat]? = some (.inl (3, [some (some 38), some (some 39)])) := rfl
theorem sh38 : SH[((38 : Int)).toNat]? = some (.inr (0, 64, [])) := rfl
theorem sh39 : SH[((39 : Int)).toNat]? = some (.inr (0, 64, [])) := rfl
theorem sh40 : SH[((40 : Int)).toNat]? = some (.inl (1, [some (some 41), none, some (some 42), some (some 43), some (some 44)])) := rfl
theorem sh41 : SH[((41 : Int)).toNat]? = some (.inr (0, 12, [])) := rfl
theorem sh42 : SH[((42 : Int)).toNat]? = some (.inr (0, 12, [])) := rfl
theorem sh43 : SH[((43 : Int)).toNat]? = some (.inr (0, 6, [])) := rfl
theorem sh44 : SH[((44 : Int)).toNat]? = some (.inr (0, 6, [])) := rfl
theorem sh45 : SH[((45 : Int)).toNat]? = some (.inl (2, [some (some 46), some (some 51), some (some 58), none, none])) := rfl
theorem sh46 : SH[((46 : Int)).toNat]? = some (.inr (2, 4, esr 47 4)) := rfl
theorem sh47 : SH[((47 : Int)).toNat]? = some (.inr (0, 6, [])) := rfl
theorem sh48 : SH[((48 : Int)).toNat]? = some (.inr (0, 6, [])) := rfl
theorem sh49 : SH[((49 : Int)).toNat]? = some (.inr (0, 6, [])) := rfl
theorem sh50 : SH[((50 : Int)).toNat]? = some (.inr (0, 6, [])) := rfl
theorem sh51 : SH[((51 : Int)).toNat]? = some (.inr (2, 6, esr 52 6)) := rfl
theorem sh52 : SH[((52 : Int)).toNat]? = some (.inr (0, 6, [])) := rfl
theorem sh53 : SH[((53 : Int)).toNat]? = some (.inr (0, 6, [])) := rfl
theorem sh54 : SH[((54 : Int)).toNat]? = some (.inr (0, 6, [])) := rfl
theorem sh55 : SH[((55 : Int)).toNat]? = some (.inr (0, 6, [])) := rfl
theorem sh56 : SH[((56 : Int)).toNat]? = some (.inr (0, 6, [])) := rfl
theorem sh57 : SH[((57 : Int)).toNat]? = some (.inr (0, 6, [])) := rfl
theorem sh58 : SH[((58 : Int)).toNat]? = some (.inl (4, [some (some 59), some (some 60), some (some 61), none])) := rfl
theorem sh59 : SH[((59 : Int)).toNat]? = some (.inr (0, 8, [])) := rfl
theorem sh60 : SH[((60 : Int)).toNat]? = some (.inr (0, 8, [])) := rfl
theorem sh61 : SH[((61 : Int)).toNat]? = some (.inr (0, 8, [])) := rfl
theorem sh62 : SH[((62 : Int)).toNat]? = some (.inl (2, [some (some 63), some (some 68), some (some 75), none, none])) := rfl
theorem sh63 : SH[((63 : Int)).toNat]? = some (.inr (2, 4, esr 64 4)) := rfl
theorem sh64 : SH[((64 : Int)).toNat]? = some (.inr (0, 6, [])) := rfl
theorem sh65 : SH[((65 : Int)).toNat]? = some (.inr (0, 6, [])) := rfl
theorem sh66 : SH[((66 : Int)).toNat]? = some (.inr (0, 6, [])) := rfl
theorem sh67 : SH[((67 : Int)).toNat]? = some (.inr (0, 6, [])) := rfl
theorem sh68 : SH[((68 : Int)).toNat]? = some (.inr (2, 6, esr 69 6)) := rfl
theorem sh69 : SH[((69 : Int)).toNat]? = some (.inr (0, 6, [])) := rfl
theorem sh70 : SH[((70 : Int)).toNat]? = some (.inr (0, 6, [])) := rfl
theorem sh71 : SH[((71 : Int)).toNat]? = some (.inr (0, 6, [])) := rfl
theorem sh72 : SH[((72 : Int)).toNat]? = some (.inr (0, 6, [])) := rfl
theorem sh73 : SH[((73 : Int)).toNat]? = some (.inr (0, 6, [])) := rfl
theorem sh74 : SH[((74 : Int)).toNat]? = some (.inr (0, 6, [])) := rfl
theorem sh75 : SH[((75 : Int)).toNat]? = some (.inl (4, [some (some 76), some (some 77), some (some 78), none])) := rfl
theorem sh76 : SH[((76 : Int)).toNat]? = some (.inr (0, 8, [])) := rfl
theorem sh77 : SH[((77 : Int)).toNat]? = some (.inr (0, 8, [])) := rfl
theorem sh78 : SH[((78 : Int)).toNat]? = some (.inr (0, 8, [])) := rfl
theorem sh79 : SH[((79 : Int)).toNat]? = some (.inl (8, [some (some 80), none, none, none, some (some 81), none, some (some 82), some (some 83), some (some 84), some (some 85), none, none, none, some (some 86), some (some 87), some (some 88), some (some 89), some (some 90), some (some 91), some (some 92), some (some 93), some (some 94)])) := rfl
theorem sh80 : SH[((80 : Int)).toNat]? = some (.inr (0, 24, [])) := rfl
theorem sh81 : SH[((81 : Int)).toNat]? = some (.inr (0, 40, [])) := rfl
theorem sh82 : SH[((82 : Int)).toNat]? = some (.inr (0, 24, [])) := rfl
theorem sh83 : SH[((83 : Int)).toNat]? = some (.inr (0, 36, [])) := rfl
theorem sh84 : SH[((84 : Int)).toNat]? = some (.inr (0, 24, [])) := rfl
theorem sh85 : SH[((85 : Int)).toNat]? = some (.inr (0, 6, [])) := rfl
theorem sh86 : SH[((86 : Int)).toNat]? = some (.inr (0, 6, [])) := rfl
theorem sh87 : SH[((87 : Int)).toNat]? = some (.inr (0, 256, [])) := rfl
theorem sh88 : SH[((88 : Int)).toNat]? = some (.inr (0, 4, [])) := rfl
theorem sh89 : SH[((89 : Int)).toNat]? = some (.inr (0, 4, [])) := rfl
theorem sh90 : SH[((90 : Int)).toNat]? = some (.inr (0, 64, [])) := rfl
theorem sh91 : SH[((91 : Int)).toNat]? = some (.inr (0, 12, [])) := rfl
theorem sh92 : SH[((92 : Int)).toNat]? = some (.inr (0, 6, [])) := rfl
theorem sh93 : SH[((93 : Int)).toNat]? = some (.inr (0, 176, [])) := rfl
theorem sh94 : SH[((94 : Int)).toNat]? = some (.inr (1, 2, [])) := rfl
theorem shr2 {j : Int} (h : 0 ≤ j ∧ j < 4) : SH[((3 : Int) + j).toNat]? = some (.inr (0, 6, [])) := by
  have : j = 0 ∨ j = 1 ∨ j = 2 ∨ j = 3 := by omega
  rcases this with rfl | rfl | rfl | rfl <;> rfl
theorem shr7 {j : Int} (h : 0 ≤ j ∧ j < 6) : SH[((8 : Int) + j).toNat]? = some (.inr (0, 6, [])) := by
  have : j = 0 ∨ j = 1 ∨ j = 2 ∨ j = 3 ∨ j = 4 ∨ j = 5 := by omega
  rcases this with rfl | rfl | rfl | rfl | rfl | rfl <;> rfl
theorem shr23 {j : Int} (h : 0 ≤ j ∧ j < 4) : SH[((24 : Int) + j).toNat]? = some (.inr (0, 6, [])) := by
  have : j = 0 ∨ j = 1 ∨ j = 2 ∨ j = 3 := by omega
  rcases this with rfl | rfl | rfl | rfl <;> rfl
theorem shr46 {j : Int} (h : 0 ≤ j ∧ j < 4) : SH[((47 : Int) + j).toNat]? = some (.inr (0, 6, [])) := by
  have : j = 0 ∨ j = 1 ∨ j = 2 ∨ j = 3 := by omega
  rcases this with rfl | rfl | rfl | rfl <;> rfl
theorem shr51 {j : Int} (h : 0 ≤ j ∧ j < 6) : SH[((52 : Int) + j).toNat]? = some (.inr (0, 6, [])) := by
  have : j = 0 ∨ j = 1 ∨ j = 2 ∨ j = 3 ∨ j = 4 ∨ j = 5 := by omega
  rcases this with rfl | rfl | rfl | rfl | rfl | rfl <;> rfl
theorem shr63 {j : Int} (h : 0 ≤ j ∧ j < 4) : SH[((64 : Int) + j).toNat]? = some (.inr (0, 6, [])) := by
  have : j = 0 ∨ j = 1 ∨ j = 2 ∨ j = 3 := by omega
  rcases this with rfl | rfl | rfl | rfl <;> rfl
theorem shr68 {j : Int} (h : 0 ≤ j ∧ j < 6) : SH[((69 : Int) + j).toNat]? = some (.inr (0, 6, [])) := by
  have : j = 0 ∨ j = 1 ∨ j = 2 ∨ j = 3 ∨ j = 4 ∨ j = 5 := by omega
  rcases this with rfl | rfl | rfl | rfl | rfl | rfl <;> rfl
