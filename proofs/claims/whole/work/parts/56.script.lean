/-! ===== the law reads its script, which lies at the special address ===== -/
def SX (L : Nat) (xs : Nat → Int32) : Ev → Prop
  | (_, _, _, _, s, _, _, _, _, _, _, A, _, _, x) => va_X x L xs s s.heap ∧ x < s.heap.size ∧ ¬ A x
/-- the script's cell as a number -/
def xz (xs : Nat → Int32) (j : Int) : Int := (xs j.toNat).toInt
theorem xz_in (xs : Nat → Int32) (j : Int) : inI (xz xs j) := by
  have a := Int32.le_toInt (xs j.toNat)
  have b := Int32.toInt_lt (xs j.toNat)
  unfold xz
  constructor <;> omega
section SCRIPT
variable {v : Ev} {cc : ByteArray} {nL d pc : Nat} {own : String} {as : List Nat} {sh : List Sh} {ls : List (Option Vv)} {st : List Vv} {M : Mm} {mc ms L : Nat} {xs : Nat → Int32}
theorem s_sld (E : Cx v cc nL own d) (hX : SX L xs v) (hL : L ≤ 2048) {j : Int} (hd : decode cc pc = .ok (.iaload, 1)) (hj : 0 ≤ j ∧ j < (L : Int))
    (k : Ws v as sh mc ms (pc + 1) ls (iv (xz xs j) :: st) M) : Ws v as sh mc ms pc ls (iv j :: rv (-1) :: st) M := by
  obtain ⟨p, l, e, R, s, m, args, below, meth, c, Q, A, D, cA, x⟩ := v
  obtain ⟨hx, hb, hml, hown, hts, hK, hA, hfr, hlo, hNs⟩ := E
  intro H locs lsA hW hS hl
  have hji : inI j := ⟨by omega, by omega⟩
  have h := k H locs lsA hW hS hl
  refine va_sld hx hb hX.1 hX.2.1 hX.2.2 hS (i_in (n := L) hji hj) hd ?_
  rw [i_nat hji]
  have e : Int32.ofInt (xz xs j) = xs j.toNat := Int32.ofInt_toInt _
  simp only [List.map_cons, enc, e] at h
  exact h
theorem s_slen (E : Cx v cc nL own d) (hX : SX L xs v) (hd : decode cc pc = .ok (.arraylength, 1))
    (k : Ws v as sh mc ms (pc + 1) ls (iv (L : Int) :: st) M) : Ws v as sh mc ms pc ls (rv (-1) :: st) M := by
  obtain ⟨p, l, e, R, s, m, args, below, meth, c, Q, A, D, cA, x⟩ := v
  obtain ⟨hx, hb, hml, hown, hts, hK, hA, hfr, hlo, hNs⟩ := E
  intro H locs lsA hW hS hl
  have h := k H locs lsA hW hS hl
  refine va_slen hx hb hX.1 hX.2.1 hX.2.2 hS hd ?_
  rw [← Int32.ofInt_eq_ofNat]
  exact h
end SCRIPT
