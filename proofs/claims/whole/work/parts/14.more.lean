/-! ===== answers that are yes or no, and a few more rows ===== -/
noncomputable def b2 (p : Prop) : Int := @ite Int p (Classical.propDecidable p) 1 0
theorem b2_pos {p : Prop} (h : p) : b2 p = 1 := if_pos h
theorem b2_neg {p : Prop} (h : ¬ p) : b2 p = 0 := if_neg h
theorem b2_01 (p : Prop) : b2 p = 0 ∨ b2 p = 1 := by
  by_cases h : p
  · exact Or.inr (b2_pos h)
  · exact Or.inl (b2_neg h)
theorem b2_eq1 {p : Prop} : b2 p = 1 ↔ p := by
  by_cases h : p
  · rw [b2_pos h]; exact ⟨fun _ => h, fun _ => rfl⟩
  · rw [b2_neg h]; exact ⟨fun q => absurd q (by decide), fun q => absurd q h⟩
theorem b2_eq0 {p : Prop} : b2 p = 0 ↔ ¬ p := by
  by_cases h : p
  · rw [b2_pos h]; exact ⟨fun q => absurd q (by decide), fun q => absurd h q⟩
  · rw [b2_neg h]; exact ⟨fun _ => h, fun _ => rfl⟩
theorem b2_congr {p q : Prop} (h : p ↔ q) : b2 p = b2 q := by rw [propext h]
theorem inI_b2 (p : Prop) : inI (b2 p) := by rcases b2_01 p with h | h <;> rw [h] <;> decide
section MORE
variable {v : Ev} {cc : ByteArray} {nL d pc mc ms : Nat} {own : String} {as : List Nat} {sh : List Sh} {ls : List (Option Vv)} {st : List Vv} {M : Mm}
theorem s_ifeqB (E : Cx v cc nL own d) {p : Prop} {off : Int} (tgt : Nat) (hd : decode cc pc = .ok (.ifCond .eq off, 3)) (ht : (pc : Int) + off = (tgt : Int)) (kt : ¬ p → Ws v as sh mc ms tgt ls st M) (kf : p → Ws v as sh mc ms (pc + 3) ls st M) : Ws v as sh mc ms pc ls (iv (b2 p) :: st) M :=
  s_if_eq E tgt hd ht (inI_b2 p) (fun h => kt (b2_eq0.mp h)) (fun h => kf (Classical.byContradiction fun q => h (b2_eq0.mpr q)))
theorem s_ifneB (E : Cx v cc nL own d) {p : Prop} {off : Int} (tgt : Nat) (hd : decode cc pc = .ok (.ifCond .ne off, 3)) (ht : (pc : Int) + off = (tgt : Int)) (kt : p → Ws v as sh mc ms tgt ls st M) (kf : ¬ p → Ws v as sh mc ms (pc + 3) ls st M) : Ws v as sh mc ms pc ls (iv (b2 p) :: st) M :=
  s_if_ne E tgt hd ht (inI_b2 p) (fun h => kt (Classical.byContradiction fun q => h (b2_eq0.mpr q))) (fun h => kf (fun q => h (fun w => b2_eq0.mp w q)))
theorem s_aaldR (E : Cx v cc nL own d) {n : Nat} {o j r0 : Int} (hd : decode cc pc = .ok (.aaload, 1)) (ho : 0 ≤ o) (hs : sh[o.toNat]? = some (.inr (2, n, esr r0 n))) (hn : n ≤ 65536) (hj : 0 ≤ j ∧ j < (n : Int)) (k : Ws v as sh mc ms (pc + 1) ls (rv (r0 + j) :: st) M) : Ws v as sh mc ms pc ls (iv j :: rv o :: st) M :=
  s_aald (kd := 0) E hd ho hs hn hj (esr_at hj) k
theorem s_tcase (E : Cx v cc nL own d) {dflt lo hi off : Int} {offs : Array Int} {len : Nat} {a : Int} (kk : Int) (tgt : Nat) (hd : decode cc pc = .ok (.tableswitch dflt lo hi offs, len)) (hk : inI kk ∧ ¬ kk < lo ∧ ¬ hi < kk) (ho : offs[(kk - lo).toNat]? = some off) (ht : (pc : Int) + off = (tgt : Int))
    (k1 : a = kk → Ws v as sh mc ms tgt ls st M) (k2 : a ≠ kk → Ws v as sh mc ms pc ls (iv a :: st) M) : Ws v as sh mc ms pc ls (iv a :: st) M := by
  by_cases h : a = kk
  · exact s_tin E tgt kk hd h hk ho ht (k1 h)
  · exact k2 h
theorem s_lcase (E : Cx v cc nL own d) {dflt off : Int} {ps : Array (Int × Int)} {len : Nat} {a : Int} (kk : Int) (tgt : Nat) (hd : decode cc pc = .ok (.lookupswitch dflt ps, len)) (hk : inI kk) (hp : (ps.toList.zip (ps.toList.drop 1)).all (fun (a, next) => a.1 < next.1) = true) (ho : Op.lookupswitch.offset ps.toList dflt kk = off) (ht : (pc : Int) + off = (tgt : Int))
    (k1 : a = kk → Ws v as sh mc ms tgt ls st M) (k2 : a ≠ kk → Ws v as sh mc ms pc ls (iv a :: st) M) : Ws v as sh mc ms pc ls (iv a :: st) M := by
  by_cases h : a = kk
  · exact s_lsw E tgt hd (by rw [h]; exact hk) hp (by rw [h]; exact ho) ht (k1 h)
  · exact k2 h
theorem s_lout (E : Cx v cc nL own d) {dflt : Int} {ps : Array (Int × Int)} {len : Nat} {a : Int} (tgt : Nat) (hd : decode cc pc = .ok (.lookupswitch dflt ps, len)) (ha : inI a) (hp : (ps.toList.zip (ps.toList.drop 1)).all (fun (a, next) => a.1 < next.1) = true) (ho : Op.lookupswitch.offset ps.toList dflt a = dflt) (ht : (pc : Int) + dflt = (tgt : Int))
    (k : Ws v as sh mc ms tgt ls st M) : Ws v as sh mc ms pc ls (iv a :: st) M := s_lsw E tgt hd ha hp ho ht k
end MORE
def iUshr (x y : Int) : Int := ((Int32.ofInt x).toUInt32 >>> ((Int32.ofInt y).toUInt32 &&& Int32.toUInt32 31)).toInt32.toInt
section MORE2
variable {v : Ev} {cc : ByteArray} {nL d pc mc ms : Nat} {own : String} {as : List Nat} {sh : List Sh} {ls : List (Option Vv)} {st : List Vv} {M : Mm}
theorem s_iushr (E : Cx v cc nL own d) {a b : Int} (hd : decode cc pc = .ok (.iushr, 1)) (k : Ws v as sh mc ms (pc + 1) ls (iv (iUshr a b) :: st) M) : Ws v as sh mc ms pc ls (iv b :: iv a :: st) M := by
  obtain ⟨p, l, e, R, s, m, args, below, meth, c, Q, A, D, cA, x⟩ := v
  obtain ⟨hx, hb, hml, hown, hts, hK, hA, hfr, hlo, hNs⟩ := E
  intro H locs lsA hW hS hl
  have h := k H locs lsA hW hS hl
  simp only [List.map_cons, enc, iUshr, Int32.ofInt_toInt] at h ⊢
  exact lv_iushr hx hb hd rfl h
theorem s_ldcw (E : Cx v cc nL own d) {n : Int} {idx : Nat} (hd : decode cc pc = .ok (.ldc_w idx, 3)) (hw : Cond.constant own idx (Int32.ofInt n) ∈ BIG) (k : Ws v as sh mc ms (pc + 3) ls (iv n :: st) M) : Ws v as sh mc ms pc ls st M := by
  obtain ⟨p, l, e, R, s, m, args, below, meth, c, Q, A, D, cA, x⟩ := v
  obtain ⟨hx, hb, hml, hown, hts, hK, hA, hfr, hlo, hNs⟩ := E
  intro H locs lsA hW hS hl
  exact lv_ldcw hx hb hown (hts _ hw) hd (k H locs lsA hW hS hl)
end MORE2
