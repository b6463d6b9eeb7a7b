/-! ===== bits of small numbers ===== -/
theorem bv_toInt {w : BitVec 32} (h : w.toNat < 2147483648) : w.toInt = (w.toNat : Int) := BitVec.toInt_eq_toNat_of_lt (by omega)
theorem i_bv (a : Nat) : (Int32.ofInt (a : Int)).toBitVec = BitVec.ofNat 32 a := by rw [Int32.ofInt_eq_ofNat]; rfl
theorem and_lt31 {a b : Nat} (ha : a < 2147483648) : a &&& b < 2147483648 := Nat.lt_of_le_of_lt Nat.and_le_left ha
theorem iAnd_nat {a b : Nat} (ha : a < 2147483648) (hb : b < 4294967296) : iAnd (a : Int) (b : Int) = ((a &&& b : Nat) : Int) := by
  have e : (BitVec.ofNat 32 a &&& BitVec.ofNat 32 b).toNat = a &&& b := by
    rw [BitVec.toNat_and, BitVec.toNat_ofNat, BitVec.toNat_ofNat, Nat.mod_eq_of_lt (by omega), Nat.mod_eq_of_lt hb]
  unfold iAnd
  show ((Int32.ofInt (a : Int)).toBitVec &&& (Int32.ofInt (b : Int)).toBitVec).toInt = _
  rw [i_bv, i_bv, bv_toInt (by rw [e]; exact and_lt31 ha), e]
theorem iOr_nat {a b : Nat} (ha : a < 2147483648) (hb : b < 2147483648) : iOr (a : Int) (b : Int) = ((a ||| b : Nat) : Int) := by
  have e : (BitVec.ofNat 32 a ||| BitVec.ofNat 32 b).toNat = a ||| b := by
    rw [BitVec.toNat_or, BitVec.toNat_ofNat, BitVec.toNat_ofNat, Nat.mod_eq_of_lt (by omega), Nat.mod_eq_of_lt (by omega)]
  unfold iOr
  show ((Int32.ofInt (a : Int)).toBitVec ||| (Int32.ofInt (b : Int)).toBitVec).toInt = _
  rw [i_bv, i_bv, bv_toInt (by rw [e]; exact Nat.or_lt_two_pow (n := 31) ha hb), e]
theorem bv_m1 : (Int32.ofInt (-1)).toBitVec = BitVec.ofNat 32 4294967295 := by decide
/-- x and not y -/
theorem iAndNot_nat {a b : Nat} (ha : a < 2147483648) (hb : b < 4294967296) : iAnd (a : Int) (iXor (b : Int) (-1)) = ((a &&& (b ^^^ 4294967295) : Nat) : Int) := by
  have e : (BitVec.ofNat 32 a &&& (BitVec.ofNat 32 b ^^^ BitVec.ofNat 32 4294967295)).toNat = a &&& (b ^^^ 4294967295) := by
    rw [BitVec.toNat_and, BitVec.toNat_xor, BitVec.toNat_ofNat, BitVec.toNat_ofNat, BitVec.toNat_ofNat, Nat.mod_eq_of_lt (by omega), Nat.mod_eq_of_lt hb, Nat.mod_eq_of_lt (by omega)]
  unfold iAnd iXor
  rw [Int32.ofInt_toInt]
  show ((Int32.ofInt (a : Int)).toBitVec &&& ((Int32.ofInt (b : Int)).toBitVec ^^^ (Int32.ofInt (-1)).toBitVec)).toInt = _
  rw [i_bv, i_bv, bv_m1, bv_toInt (by rw [e]; exact and_lt31 ha), e]
theorem sh_amt : ∀ k : Nat, k < 31 → ((Int32.ofInt (k : Int) &&& 31).toBitVec.smod 32).toNat = k := by decide +kernel
theorem iShr_nat {a k : Nat} (ha : a < 2147483648) (hk : k < 31) : iShr (a : Int) (k : Int) = ((a >>> k : Nat) : Int) := by
  unfold iShr
  show (BitVec.sshiftRight' (Int32.ofInt (a : Int)).toBitVec ((Int32.ofInt (k : Int) &&& 31).toBitVec.smod 32)).toInt = _
  unfold BitVec.sshiftRight'
  rw [BitVec.toInt_sshiftRight, sh_amt k hk, i_bv, bv_toInt (by rw [BitVec.toNat_ofNat]; omega), BitVec.toNat_ofNat, Nat.mod_eq_of_lt (by omega)]
  rfl
theorem iShl1 : ∀ k : Nat, k < 31 → iShl 1 (k : Int) = ((2 ^ k : Nat) : Int) := by decide +kernel
def bt (s i : Int) : Prop := iAnd (iShr s i) 1 = 1
theorem iAnd1 (x : Int) : iAnd x 1 = 0 ∨ iAnd x 1 = 1 := by
  unfold iAnd
  show ((Int32.ofInt x).toBitVec &&& 1#32).toInt = 0 ∨ ((Int32.ofInt x).toBitVec &&& 1#32).toInt = 1
  have h : ((Int32.ofInt x).toBitVec &&& 1#32).toNat = (Int32.ofInt x).toBitVec.toNat &&& 1 := by rw [BitVec.toNat_and]; rfl
  have h2 : (Int32.ofInt x).toBitVec.toNat &&& 1 = (Int32.ofInt x).toBitVec.toNat % 2 := Nat.and_one_is_mod _
  rw [bv_toInt (by rw [h, h2]; omega), h, h2]
  omega
theorem bt_nat {s i : Nat} (hs : s < 2147483648) (hi : i < 31) : bt (s : Int) (i : Int) ↔ s.testBit i = true := by
  unfold bt
  have h : s >>> i &&& 1 = s >>> i % 2 := Nat.and_one_is_mod _
  rw [iShr_nat hs hi, show (1 : Int) = ((1 : Nat) : Int) from rfl, iAnd_nat (Nat.lt_of_le_of_lt (Nat.shiftRight_le s i) hs) (by decide), Nat.testBit, Nat.and_comm 1, h, bne_iff_ne]
  generalize s >>> i = t
  omega
theorem nbt0 {s i : Int} (h : ¬ bt s i) : iAnd (iShr s i) 1 = 0 := (iAnd1 _).elim id (fun q => absurd q h)
theorem or_add_8 : ∀ i : Nat, i < 8 → ∀ s : Nat, s < 256 → s.testBit i = false → s ||| 2 ^ i = s + 2 ^ i := by decide +kernel
theorem iOr_add {s i : Nat} (hs : s < 256) (hi : i < 8) (h : ¬ bt (s : Int) (i : Int)) : iOr (s : Int) (iShl 1 (i : Int)) = ((s ||| 2 ^ i : Nat) : Int) ∧ s ||| 2 ^ i = s + 2 ^ i := by
  have h2 : 2 ^ i < 1073741824 := Nat.pow_lt_pow_right (by decide) (show i < 30 by omega)
  rw [iShl1 i (by omega), iOr_nat (by omega) (by omega)]
  refine ⟨rfl, ?_⟩
  rw [bt_nat (by omega) (by omega), Bool.not_eq_true] at h
  exact or_add_8 i hi s hs h
theorem tb_or {s i j : Nat} : (s ||| 2 ^ i).testBit j = true ↔ s.testBit j = true ∨ i = j := by
  rw [Nat.testBit_or, Nat.testBit_two_pow]
  simp
