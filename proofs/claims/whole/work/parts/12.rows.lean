/-! ===== one-instruction rows over Ws ===== -/
section ROWS
variable {v : Ev} {cc : ByteArray} {nL d pc mc ms : Nat} {own : String} {as : List Nat} {sh : List Sh} {ls : List (Option Vv)} {st : List Vv} {M : Mm}
theorem s_iconst (E : Cx v cc nL own d) {n : Int} (hd : decode cc pc = .ok (.iconst n, 1))
    (k : Ws v as sh mc ms (pc + 1) ls (iv n :: st) M) : Ws v as sh mc ms pc ls st M := by
  obtain ⟨p, l, e, R, s, m, args, below, meth, c, Q, A, D, cA, x⟩ := v
  obtain ⟨hx, hb, hml, hown, hts, hK, hA, hfr, hlo, hNs⟩ := E
  intro H locs lsA hW hS hl
  exact lv_iconst hx hb hd rfl (k H locs lsA hW hS hl)
theorem s_bipush (E : Cx v cc nL own d) {n : Int} (hd : decode cc pc = .ok (.bipush n, 2)) (hn : (Int8.ofInt n).toInt32 = Int32.ofInt n)
    (k : Ws v as sh mc ms (pc + 2) ls (iv n :: st) M) : Ws v as sh mc ms pc ls st M := by
  obtain ⟨p, l, e, R, s, m, args, below, meth, c, Q, A, D, cA, x⟩ := v
  obtain ⟨hx, hb, hml, hown, hts, hK, hA, hfr, hlo, hNs⟩ := E
  intro H locs lsA hW hS hl
  exact lv_bipush hx hb hd hn (k H locs lsA hW hS hl)
theorem s_sipush (E : Cx v cc nL own d) {n : Int} (hd : decode cc pc = .ok (.sipush n, 3)) (hn : (Int16.ofInt n).toInt32 = Int32.ofInt n)
    (k : Ws v as sh mc ms (pc + 3) ls (iv n :: st) M) : Ws v as sh mc ms pc ls st M := by
  obtain ⟨p, l, e, R, s, m, args, below, meth, c, Q, A, D, cA, x⟩ := v
  obtain ⟨hx, hb, hml, hown, hts, hK, hA, hfr, hlo, hNs⟩ := E
  intro H locs lsA hW hS hl
  exact lv_sipush hx hb hd hn (k H locs lsA hW hS hl)
theorem s_ldc (E : Cx v cc nL own d) {n : Int} {idx : Nat} (hd : decode cc pc = .ok (.ldc idx, 2)) (hw : Cond.constant own idx (Int32.ofInt n) ∈ BIG)
    (k : Ws v as sh mc ms (pc + 2) ls (iv n :: st) M) : Ws v as sh mc ms pc ls st M := by
  obtain ⟨p, l, e, R, s, m, args, below, meth, c, Q, A, D, cA, x⟩ := v
  obtain ⟨hx, hb, hml, hown, hts, hK, hA, hfr, hlo, hNs⟩ := E
  intro H locs lsA hW hS hl
  exact lv_ldc hx hb hown (hts _ hw) hd (k H locs lsA hW hS hl)
theorem s_iload_n (E : Cx v cc nL own d) {i : Fin 4} {z : Int} (hd : decode cc pc = .ok (.iload_n i, 1)) (hz : ls[(i : Nat)]? = some (some (iv z)))
    (k : Ws v as sh mc ms (pc + 1) ls (iv z :: st) M) : Ws v as sh mc ms pc ls st M := by
  obtain ⟨p, l, e, R, s, m, args, below, meth, c, Q, A, D, cA, x⟩ := v
  obtain ⟨hx, hb, hml, hown, hts, hK, hA, hfr, hlo, hNs⟩ := E
  intro H locs lsA hW hS hl
  exact lv_iload_n hx hb hd rfl (hl.2.2.2 _ _ hz) (k H locs lsA hW hS hl)
theorem s_iload (E : Cx v cc nL own d) {i : Nat} {z : Int} (hd : decode cc pc = .ok (.iload i, 2)) (hz : ls[i]? = some (some (iv z)))
    (k : Ws v as sh mc ms (pc + 2) ls (iv z :: st) M) : Ws v as sh mc ms pc ls st M := by
  obtain ⟨p, l, e, R, s, m, args, below, meth, c, Q, A, D, cA, x⟩ := v
  obtain ⟨hx, hb, hml, hown, hts, hK, hA, hfr, hlo, hNs⟩ := E
  intro H locs lsA hW hS hl
  exact lv_iload hx hb hd (hl.2.2.2 _ _ hz) (k H locs lsA hW hS hl)
theorem s_aload_n (E : Cx v cc nL own d) {i : Fin 4} {z : Int} (hd : decode cc pc = .ok (.aload_n i, 1)) (hz : ls[(i : Nat)]? = some (some (rv z)))
    (k : Ws v as sh mc ms (pc + 1) ls (rv z :: st) M) : Ws v as sh mc ms pc ls st M := by
  obtain ⟨p, l, e, R, s, m, args, below, meth, c, Q, A, D, cA, x⟩ := v
  obtain ⟨hx, hb, hml, hown, hts, hK, hA, hfr, hlo, hNs⟩ := E
  intro H locs lsA hW hS hl
  exact lv_aload_n hx hb hd rfl (hl.2.2.2 _ _ hz) (k H locs lsA hW hS hl)
theorem s_aload (E : Cx v cc nL own d) {i : Nat} {z : Int} (hd : decode cc pc = .ok (.aload i, 2)) (hz : ls[i]? = some (some (rv z)))
    (k : Ws v as sh mc ms (pc + 2) ls (rv z :: st) M) : Ws v as sh mc ms pc ls st M := by
  obtain ⟨p, l, e, R, s, m, args, below, meth, c, Q, A, D, cA, x⟩ := v
  obtain ⟨hx, hb, hml, hown, hts, hK, hA, hfr, hlo, hNs⟩ := E
  intro H locs lsA hW hS hl
  exact lv_aload hx hb hd (hl.2.2.2 _ _ hz) (k H locs lsA hW hS hl)
theorem s_istore_n (E : Cx v cc nL own d) {i : Fin 4} {z : Int} {ls' : List (Option Vv)} (hd : decode cc pc = .ok (.istore_n i, 1)) (hi : (i : Nat) < ls.length) (hs : ls.set (i : Nat) (some (iv z)) = ls')
    (k : Ws v as sh mc ms (pc + 1) ls' st M) : Ws v as sh mc ms pc ls (iv z :: st) M := by
  obtain ⟨p, l, e, R, s, m, args, below, meth, c, Q, A, D, cA, x⟩ := v
  obtain ⟨hx, hb, hml, hown, hts, hK, hA, hfr, hlo, hNs⟩ := E
  intro H locs lsA hW hS hl
  subst hs
  exact lv_istore_n hx hb hd rfl hl.lv (Nat.lt_of_lt_of_le hi hl.2.2.1) rfl (fun lsB h => k H locs lsB hW hS (hasL.set hl hi h))
theorem s_istore (E : Cx v cc nL own d) {i : Nat} {z : Int} {ls' : List (Option Vv)} (hd : decode cc pc = .ok (.istore i, 2)) (hi : i < ls.length) (hs : ls.set i (some (iv z)) = ls')
    (k : Ws v as sh mc ms (pc + 2) ls' st M) : Ws v as sh mc ms pc ls (iv z :: st) M := by
  obtain ⟨p, l, e, R, s, m, args, below, meth, c, Q, A, D, cA, x⟩ := v
  obtain ⟨hx, hb, hml, hown, hts, hK, hA, hfr, hlo, hNs⟩ := E
  intro H locs lsA hW hS hl
  subst hs
  exact lv_istore hx hb hd hl.lv (Nat.lt_of_lt_of_le hi hl.2.2.1) rfl (fun lsB h => k H locs lsB hW hS (hasL.set hl hi h))
theorem s_astore_n (E : Cx v cc nL own d) {i : Fin 4} {z : Int} {ls' : List (Option Vv)} (hd : decode cc pc = .ok (.astore_n i, 1)) (hi : (i : Nat) < ls.length) (hs : ls.set (i : Nat) (some (rv z)) = ls')
    (k : Ws v as sh mc ms (pc + 1) ls' st M) : Ws v as sh mc ms pc ls (rv z :: st) M := by
  obtain ⟨p, l, e, R, s, m, args, below, meth, c, Q, A, D, cA, x⟩ := v
  obtain ⟨hx, hb, hml, hown, hts, hK, hA, hfr, hlo, hNs⟩ := E
  intro H locs lsA hW hS hl
  subst hs
  exact lv_astore_n hx hb hd rfl hl.lv (Nat.lt_of_lt_of_le hi hl.2.2.1) rfl (fun lsB h => k H locs lsB hW hS (hasL.set hl hi h))
theorem s_astore (E : Cx v cc nL own d) {i : Nat} {z : Int} {ls' : List (Option Vv)} (hd : decode cc pc = .ok (.astore i, 2)) (hi : i < ls.length) (hs : ls.set i (some (rv z)) = ls')
    (k : Ws v as sh mc ms (pc + 2) ls' st M) : Ws v as sh mc ms pc ls (rv z :: st) M := by
  obtain ⟨p, l, e, R, s, m, args, below, meth, c, Q, A, D, cA, x⟩ := v
  obtain ⟨hx, hb, hml, hown, hts, hK, hA, hfr, hlo, hNs⟩ := E
  intro H locs lsA hW hS hl
  subst hs
  exact lv_astore hx hb hd hl.lv (Nat.lt_of_lt_of_le hi hl.2.2.1) rfl (fun lsB h => k H locs lsB hW hS (hasL.set hl hi h))
theorem s_iinc (E : Cx v cc nL own d) {i : Nat} {n z : Int} {ls' : List (Option Vv)} (hd : decode cc pc = .ok (.iinc i n, 3)) (hz : ls[i]? = some (some (iv z))) (hs : ls.set i (some (iv (z + n))) = ls')
    (k : Ws v as sh mc ms (pc + 3) ls' st M) : Ws v as sh mc ms pc ls st M := by
  obtain ⟨p, l, e, R, s, m, args, below, meth, c, Q, A, D, cA, x⟩ := v
  obtain ⟨hx, hb, hml, hown, hts, hK, hA, hfr, hlo, hNs⟩ := E
  intro H locs lsA hW hS hl
  subst hs
  have hi : i < ls.length := (List.getElem?_eq_some_iff.mp hz).1
  obtain ⟨q, hq⟩ := List.getElem?_of_mem (mem_encL (x := x) (as := as) hz)
  exact lv_iinc (v := Int32.ofInt (z + n)) hx hb hd hl.lv (k := q) hq (Int32.ofInt_add z n).symm (Nat.lt_of_lt_of_le hi hl.2.2.1) rfl (fun lsB h => k H locs lsB hW hS (hasL.set (v := iv (z + n)) hl hi h))
theorem s_dup (E : Cx v cc nL own d) {w : Vv} (hd : decode cc pc = .ok (.dup, 1))
    (k : Ws v as sh mc ms (pc + 1) ls (w :: w :: st) M) : Ws v as sh mc ms pc ls (w :: st) M := by
  obtain ⟨p, l, e, R, s, m, args, below, meth, c, Q, A, D, cA, x⟩ := v
  obtain ⟨hx, hb, hml, hown, hts, hK, hA, hfr, hlo, hNs⟩ := E
  intro H locs lsA hW hS hl
  exact lv_dup hx hb hd (enc_cat x as w) (k H locs lsA hW hS hl)
theorem s_dup2 (E : Cx v cc nL own d) {w u : Vv} (hd : decode cc pc = .ok (.dup2, 1))
    (k : Ws v as sh mc ms (pc + 1) ls (w :: u :: w :: u :: st) M) : Ws v as sh mc ms pc ls (w :: u :: st) M := by
  obtain ⟨p, l, e, R, s, m, args, below, meth, c, Q, A, D, cA, x⟩ := v
  obtain ⟨hx, hb, hml, hown, hts, hK, hA, hfr, hlo, hNs⟩ := E
  intro H locs lsA hW hS hl
  exact lv_dup2_11 hx hb hd (enc_cat x as w) (enc_cat x as u) (k H locs lsA hW hS hl)
theorem s_iadd (E : Cx v cc nL own d) {a b : Int} (hd : decode cc pc = .ok (.iadd, 1))
    (k : Ws v as sh mc ms (pc + 1) ls (iv (a + b) :: st) M) : Ws v as sh mc ms pc ls (iv b :: iv a :: st) M := by
  obtain ⟨p, l, e, R, s, m, args, below, meth, c, Q, A, D, cA, x⟩ := v
  obtain ⟨hx, hb, hml, hown, hts, hK, hA, hfr, hlo, hNs⟩ := E
  intro H locs lsA hW hS hl
  have h := k H locs lsA hW hS hl
  simp only [List.map_cons, enc] at h ⊢
  rw [Int32.ofInt_add a b] at h
  exact lv_iadd hx hb hd h
theorem s_isub (E : Cx v cc nL own d) {a b : Int} (hd : decode cc pc = .ok (.isub, 1))
    (k : Ws v as sh mc ms (pc + 1) ls (iv (a - b) :: st) M) : Ws v as sh mc ms pc ls (iv b :: iv a :: st) M := by
  obtain ⟨p, l, e, R, s, m, args, below, meth, c, Q, A, D, cA, x⟩ := v
  obtain ⟨hx, hb, hml, hown, hts, hK, hA, hfr, hlo, hNs⟩ := E
  intro H locs lsA hW hS hl
  have h := k H locs lsA hW hS hl
  simp only [List.map_cons, enc] at h ⊢
  rw [Int32.ofInt_sub a b] at h
  exact lv_isub hx hb hd h
theorem s_imul (E : Cx v cc nL own d) {a b : Int} (hd : decode cc pc = .ok (.imul, 1))
    (k : Ws v as sh mc ms (pc + 1) ls (iv (a * b) :: st) M) : Ws v as sh mc ms pc ls (iv b :: iv a :: st) M := by
  obtain ⟨p, l, e, R, s, m, args, below, meth, c, Q, A, D, cA, x⟩ := v
  obtain ⟨hx, hb, hml, hown, hts, hK, hA, hfr, hlo, hNs⟩ := E
  intro H locs lsA hW hS hl
  have h := k H locs lsA hW hS hl
  simp only [List.map_cons, enc] at h ⊢
  rw [Int32.ofInt_mul a b] at h
  exact lv_imul hx hb hd h
theorem s_ineg (E : Cx v cc nL own d) {a : Int} (hd : decode cc pc = .ok (.ineg, 1))
    (k : Ws v as sh mc ms (pc + 1) ls (iv (-a) :: st) M) : Ws v as sh mc ms pc ls (iv a :: st) M := by
  obtain ⟨p, l, e, R, s, m, args, below, meth, c, Q, A, D, cA, x⟩ := v
  obtain ⟨hx, hb, hml, hown, hts, hK, hA, hfr, hlo, hNs⟩ := E
  intro H locs lsA hW hS hl
  have h := k H locs lsA hW hS hl
  simp only [List.map_cons, enc] at h ⊢
  rw [Int32.ofInt_neg a] at h
  exact lv_ineg hx hb hd h
theorem s_iand (E : Cx v cc nL own d) {a b : Int} (hd : decode cc pc = .ok (.iand, 1))
    (k : Ws v as sh mc ms (pc + 1) ls (iv (iAnd a b) :: st) M) : Ws v as sh mc ms pc ls (iv b :: iv a :: st) M := by
  obtain ⟨p, l, e, R, s, m, args, below, meth, c, Q, A, D, cA, x⟩ := v
  obtain ⟨hx, hb, hml, hown, hts, hK, hA, hfr, hlo, hNs⟩ := E
  intro H locs lsA hW hS hl
  have h := k H locs lsA hW hS hl
  simp only [List.map_cons, enc, iAnd, Int32.ofInt_toInt] at h ⊢
  exact lv_iand hx hb hd h
theorem s_ior (E : Cx v cc nL own d) {a b : Int} (hd : decode cc pc = .ok (.ior, 1))
    (k : Ws v as sh mc ms (pc + 1) ls (iv (iOr a b) :: st) M) : Ws v as sh mc ms pc ls (iv b :: iv a :: st) M := by
  obtain ⟨p, l, e, R, s, m, args, below, meth, c, Q, A, D, cA, x⟩ := v
  obtain ⟨hx, hb, hml, hown, hts, hK, hA, hfr, hlo, hNs⟩ := E
  intro H locs lsA hW hS hl
  have h := k H locs lsA hW hS hl
  simp only [List.map_cons, enc, iOr, Int32.ofInt_toInt] at h ⊢
  exact lv_ior hx hb hd h
theorem s_ixor (E : Cx v cc nL own d) {a b : Int} (hd : decode cc pc = .ok (.ixor, 1))
    (k : Ws v as sh mc ms (pc + 1) ls (iv (iXor a b) :: st) M) : Ws v as sh mc ms pc ls (iv b :: iv a :: st) M := by
  obtain ⟨p, l, e, R, s, m, args, below, meth, c, Q, A, D, cA, x⟩ := v
  obtain ⟨hx, hb, hml, hown, hts, hK, hA, hfr, hlo, hNs⟩ := E
  intro H locs lsA hW hS hl
  have h := k H locs lsA hW hS hl
  simp only [List.map_cons, enc, iXor, Int32.ofInt_toInt] at h ⊢
  exact lv_ixor hx hb hd h
theorem s_ishl (E : Cx v cc nL own d) {a b : Int} (hd : decode cc pc = .ok (.ishl, 1))
    (k : Ws v as sh mc ms (pc + 1) ls (iv (iShl a b) :: st) M) : Ws v as sh mc ms pc ls (iv b :: iv a :: st) M := by
  obtain ⟨p, l, e, R, s, m, args, below, meth, c, Q, A, D, cA, x⟩ := v
  obtain ⟨hx, hb, hml, hown, hts, hK, hA, hfr, hlo, hNs⟩ := E
  intro H locs lsA hW hS hl
  have h := k H locs lsA hW hS hl
  simp only [List.map_cons, enc, iShl, Int32.ofInt_toInt] at h ⊢
  exact lv_ishl hx hb hd h
theorem s_ishr (E : Cx v cc nL own d) {a b : Int} (hd : decode cc pc = .ok (.ishr, 1))
    (k : Ws v as sh mc ms (pc + 1) ls (iv (iShr a b) :: st) M) : Ws v as sh mc ms pc ls (iv b :: iv a :: st) M := by
  obtain ⟨p, l, e, R, s, m, args, below, meth, c, Q, A, D, cA, x⟩ := v
  obtain ⟨hx, hb, hml, hown, hts, hK, hA, hfr, hlo, hNs⟩ := E
  intro H locs lsA hW hS hl
  have h := k H locs lsA hW hS hl
  simp only [List.map_cons, enc, iShr, Int32.ofInt_toInt] at h ⊢
  exact lv_ishr hx hb hd h
theorem s_idiv (E : Cx v cc nL own d) {a b : Int} (hd : decode cc pc = .ok (.idiv, 1)) (ha : 0 ≤ a ∧ a ≤ 2147483647) (hp : 0 < b ∧ b ≤ 2147483647)
    (k : Ws v as sh mc ms (pc + 1) ls (iv (a / b) :: st) M) : Ws v as sh mc ms pc ls (iv b :: iv a :: st) M := by
  obtain ⟨p, l, e, R, s, m, args, below, meth, c, Q, A, D, cA, x⟩ := v
  obtain ⟨hx, hb, hml, hown, hts, hK, hA, hfr, hlo, hNs⟩ := E
  intro H locs lsA hW hS hl
  have h := k H locs lsA hW hS hl
  simp only [List.map_cons, enc] at h ⊢
  have hia : inI a := ⟨by omega, ha.2⟩
  have hib : inI b := ⟨by omega, hp.2⟩
  refine lv_idiv hx hb hd (by rw [i_eq0 hib]; omega) ?_
  rw [i_div ha hp] at h
  exact h
theorem s_irem (E : Cx v cc nL own d) {a b : Int} (hd : decode cc pc = .ok (.irem, 1)) (ha : 0 ≤ a ∧ a ≤ 2147483647) (hp : 0 < b ∧ b ≤ 2147483647)
    (k : Ws v as sh mc ms (pc + 1) ls (iv (a % b) :: st) M) : Ws v as sh mc ms pc ls (iv b :: iv a :: st) M := by
  obtain ⟨p, l, e, R, s, m, args, below, meth, c, Q, A, D, cA, x⟩ := v
  obtain ⟨hx, hb, hml, hown, hts, hK, hA, hfr, hlo, hNs⟩ := E
  intro H locs lsA hW hS hl
  have h := k H locs lsA hW hS hl
  simp only [List.map_cons, enc] at h ⊢
  have hib : inI b := ⟨by omega, hp.2⟩
  refine lv_irem hx hb hd (by rw [i_eq0 hib]; omega) ?_
  rw [← i_div ha hp, ← Int32.ofInt_mul, ← Int32.ofInt_sub]
  have e : a - a / b * b = a % b := by
    have := Int.emod_add_mul_ediv a b
    rw [Int.mul_comm] at this
    omega
  rw [e]
  exact h
theorem s_goto (E : Cx v cc nL own d) {off : Int} (tgt : Nat) (hd : decode cc pc = .ok (.goto off, 3)) (ht : (pc : Int) + off = (tgt : Int))
    (k : Ws v as sh mc ms tgt ls st M) : Ws v as sh mc ms pc ls st M := by
  obtain ⟨p, l, e, R, s, m, args, below, meth, c, Q, A, D, cA, x⟩ := v
  obtain ⟨hx, hb, hml, hown, hts, hK, hA, hfr, hlo, hNs⟩ := E
  intro H locs lsA hW hS hl
  exact lv_goto hx hb hd ht (k H locs lsA hW hS hl)
theorem s_icmp_eq (E : Cx v cc nL own d) {a b off : Int} (tgt : Nat) (hd : decode cc pc = .ok (.if_icmp .eq off, 3)) (ht : (pc : Int) + off = (tgt : Int)) (ha : inI a) (hbb : inI b)
    (kt : a = b → Ws v as sh mc ms tgt ls st M) (kf : ¬ (a = b) → Ws v as sh mc ms (pc + 3) ls st M) : Ws v as sh mc ms pc ls (iv b :: iv a :: st) M := by
  obtain ⟨p, l, e, R, s, m, args, below, meth, c, Q, A, D, cA, x⟩ := v
  obtain ⟨hx, hb, hml, hown, hts, hK, hA, hfr, hlo, hNs⟩ := E
  intro H locs lsA hW hS hl
  exact lv_icmp_eq hx hb hd ht (fun q => kt ((i_eq ha hbb).mp q) H locs lsA hW hS hl) (fun q => kf (fun z => q ((i_eq ha hbb).mpr z)) H locs lsA hW hS hl)
theorem s_if_eq (E : Cx v cc nL own d) {a off : Int} (tgt : Nat) (hd : decode cc pc = .ok (.ifCond .eq off, 3)) (ht : (pc : Int) + off = (tgt : Int)) (ha : inI a)
    (kt : a = 0 → Ws v as sh mc ms tgt ls st M) (kf : ¬ (a = 0) → Ws v as sh mc ms (pc + 3) ls st M) : Ws v as sh mc ms pc ls (iv a :: st) M := by
  obtain ⟨p, l, e, R, s, m, args, below, meth, c, Q, A, D, cA, x⟩ := v
  obtain ⟨hx, hb, hml, hown, hts, hK, hA, hfr, hlo, hNs⟩ := E
  intro H locs lsA hW hS hl
  exact lv_if_eq hx hb hd ht (fun q => kt ((i_eq0 ha).mp q) H locs lsA hW hS hl) (fun q => kf (fun z => q ((i_eq0 ha).mpr z)) H locs lsA hW hS hl)
theorem s_icmp_ne (E : Cx v cc nL own d) {a b off : Int} (tgt : Nat) (hd : decode cc pc = .ok (.if_icmp .ne off, 3)) (ht : (pc : Int) + off = (tgt : Int)) (ha : inI a) (hbb : inI b)
    (kt : a ≠ b → Ws v as sh mc ms tgt ls st M) (kf : ¬ (a ≠ b) → Ws v as sh mc ms (pc + 3) ls st M) : Ws v as sh mc ms pc ls (iv b :: iv a :: st) M := by
  obtain ⟨p, l, e, R, s, m, args, below, meth, c, Q, A, D, cA, x⟩ := v
  obtain ⟨hx, hb, hml, hown, hts, hK, hA, hfr, hlo, hNs⟩ := E
  intro H locs lsA hW hS hl
  exact lv_icmp_ne hx hb hd ht (fun q => kt (fun z => q ((i_eq ha hbb).mpr z)) H locs lsA hW hS hl) (fun q => kf (fun z => z ((i_eq ha hbb).mp q)) H locs lsA hW hS hl)
theorem s_if_ne (E : Cx v cc nL own d) {a off : Int} (tgt : Nat) (hd : decode cc pc = .ok (.ifCond .ne off, 3)) (ht : (pc : Int) + off = (tgt : Int)) (ha : inI a)
    (kt : a ≠ 0 → Ws v as sh mc ms tgt ls st M) (kf : ¬ (a ≠ 0) → Ws v as sh mc ms (pc + 3) ls st M) : Ws v as sh mc ms pc ls (iv a :: st) M := by
  obtain ⟨p, l, e, R, s, m, args, below, meth, c, Q, A, D, cA, x⟩ := v
  obtain ⟨hx, hb, hml, hown, hts, hK, hA, hfr, hlo, hNs⟩ := E
  intro H locs lsA hW hS hl
  exact lv_if_ne hx hb hd ht (fun q => kt (fun z => q ((i_eq0 ha).mpr z)) H locs lsA hW hS hl) (fun q => kf (fun z => z ((i_eq0 ha).mp q)) H locs lsA hW hS hl)
theorem s_icmp_lt (E : Cx v cc nL own d) {a b off : Int} (tgt : Nat) (hd : decode cc pc = .ok (.if_icmp .lt off, 3)) (ht : (pc : Int) + off = (tgt : Int)) (ha : inI a) (hbb : inI b)
    (kt : a < b → Ws v as sh mc ms tgt ls st M) (kf : ¬ (a < b) → Ws v as sh mc ms (pc + 3) ls st M) : Ws v as sh mc ms pc ls (iv b :: iv a :: st) M := by
  obtain ⟨p, l, e, R, s, m, args, below, meth, c, Q, A, D, cA, x⟩ := v
  obtain ⟨hx, hb, hml, hown, hts, hK, hA, hfr, hlo, hNs⟩ := E
  intro H locs lsA hW hS hl
  exact lv_icmp_lt hx hb hd ht (fun q => kt ((i_lt ha hbb).mp q) H locs lsA hW hS hl) (fun q => kf (fun z => q ((i_lt ha hbb).mpr z)) H locs lsA hW hS hl)
theorem s_if_lt (E : Cx v cc nL own d) {a off : Int} (tgt : Nat) (hd : decode cc pc = .ok (.ifCond .lt off, 3)) (ht : (pc : Int) + off = (tgt : Int)) (ha : inI a)
    (kt : a < 0 → Ws v as sh mc ms tgt ls st M) (kf : ¬ (a < 0) → Ws v as sh mc ms (pc + 3) ls st M) : Ws v as sh mc ms pc ls (iv a :: st) M := by
  obtain ⟨p, l, e, R, s, m, args, below, meth, c, Q, A, D, cA, x⟩ := v
  obtain ⟨hx, hb, hml, hown, hts, hK, hA, hfr, hlo, hNs⟩ := E
  intro H locs lsA hW hS hl
  exact lv_if_lt hx hb hd ht (fun q => kt ((i_lt0 ha).mp q) H locs lsA hW hS hl) (fun q => kf (fun z => q ((i_lt0 ha).mpr z)) H locs lsA hW hS hl)
theorem s_icmp_ge (E : Cx v cc nL own d) {a b off : Int} (tgt : Nat) (hd : decode cc pc = .ok (.if_icmp .ge off, 3)) (ht : (pc : Int) + off = (tgt : Int)) (ha : inI a) (hbb : inI b)
    (kt : a ≥ b → Ws v as sh mc ms tgt ls st M) (kf : ¬ (a ≥ b) → Ws v as sh mc ms (pc + 3) ls st M) : Ws v as sh mc ms pc ls (iv b :: iv a :: st) M := by
  obtain ⟨p, l, e, R, s, m, args, below, meth, c, Q, A, D, cA, x⟩ := v
  obtain ⟨hx, hb, hml, hown, hts, hK, hA, hfr, hlo, hNs⟩ := E
  intro H locs lsA hW hS hl
  exact lv_icmp_ge hx hb hd ht (fun q => kt ((i_le hbb ha).mp q) H locs lsA hW hS hl) (fun q => kf (fun z => q ((i_le hbb ha).mpr z)) H locs lsA hW hS hl)
theorem s_if_ge (E : Cx v cc nL own d) {a off : Int} (tgt : Nat) (hd : decode cc pc = .ok (.ifCond .ge off, 3)) (ht : (pc : Int) + off = (tgt : Int)) (ha : inI a)
    (kt : a ≥ 0 → Ws v as sh mc ms tgt ls st M) (kf : ¬ (a ≥ 0) → Ws v as sh mc ms (pc + 3) ls st M) : Ws v as sh mc ms pc ls (iv a :: st) M := by
  obtain ⟨p, l, e, R, s, m, args, below, meth, c, Q, A, D, cA, x⟩ := v
  obtain ⟨hx, hb, hml, hown, hts, hK, hA, hfr, hlo, hNs⟩ := E
  intro H locs lsA hW hS hl
  exact lv_if_ge hx hb hd ht (fun q => kt ((i_ge0 ha).mp q) H locs lsA hW hS hl) (fun q => kf (fun z => q ((i_ge0 ha).mpr z)) H locs lsA hW hS hl)
theorem s_icmp_gt (E : Cx v cc nL own d) {a b off : Int} (tgt : Nat) (hd : decode cc pc = .ok (.if_icmp .gt off, 3)) (ht : (pc : Int) + off = (tgt : Int)) (ha : inI a) (hbb : inI b)
    (kt : a > b → Ws v as sh mc ms tgt ls st M) (kf : ¬ (a > b) → Ws v as sh mc ms (pc + 3) ls st M) : Ws v as sh mc ms pc ls (iv b :: iv a :: st) M := by
  obtain ⟨p, l, e, R, s, m, args, below, meth, c, Q, A, D, cA, x⟩ := v
  obtain ⟨hx, hb, hml, hown, hts, hK, hA, hfr, hlo, hNs⟩ := E
  intro H locs lsA hW hS hl
  exact lv_icmp_gt hx hb hd ht (fun q => kt ((i_lt hbb ha).mp q) H locs lsA hW hS hl) (fun q => kf (fun z => q ((i_lt hbb ha).mpr z)) H locs lsA hW hS hl)
theorem s_if_gt (E : Cx v cc nL own d) {a off : Int} (tgt : Nat) (hd : decode cc pc = .ok (.ifCond .gt off, 3)) (ht : (pc : Int) + off = (tgt : Int)) (ha : inI a)
    (kt : a > 0 → Ws v as sh mc ms tgt ls st M) (kf : ¬ (a > 0) → Ws v as sh mc ms (pc + 3) ls st M) : Ws v as sh mc ms pc ls (iv a :: st) M := by
  obtain ⟨p, l, e, R, s, m, args, below, meth, c, Q, A, D, cA, x⟩ := v
  obtain ⟨hx, hb, hml, hown, hts, hK, hA, hfr, hlo, hNs⟩ := E
  intro H locs lsA hW hS hl
  exact lv_if_gt hx hb hd ht (fun q => kt ((i_gt0 ha).mp q) H locs lsA hW hS hl) (fun q => kf (fun z => q ((i_gt0 ha).mpr z)) H locs lsA hW hS hl)
theorem s_icmp_le (E : Cx v cc nL own d) {a b off : Int} (tgt : Nat) (hd : decode cc pc = .ok (.if_icmp .le off, 3)) (ht : (pc : Int) + off = (tgt : Int)) (ha : inI a) (hbb : inI b)
    (kt : a ≤ b → Ws v as sh mc ms tgt ls st M) (kf : ¬ (a ≤ b) → Ws v as sh mc ms (pc + 3) ls st M) : Ws v as sh mc ms pc ls (iv b :: iv a :: st) M := by
  obtain ⟨p, l, e, R, s, m, args, below, meth, c, Q, A, D, cA, x⟩ := v
  obtain ⟨hx, hb, hml, hown, hts, hK, hA, hfr, hlo, hNs⟩ := E
  intro H locs lsA hW hS hl
  exact lv_icmp_le hx hb hd ht (fun q => kt ((i_le ha hbb).mp q) H locs lsA hW hS hl) (fun q => kf (fun z => q ((i_le ha hbb).mpr z)) H locs lsA hW hS hl)
theorem s_if_le (E : Cx v cc nL own d) {a off : Int} (tgt : Nat) (hd : decode cc pc = .ok (.ifCond .le off, 3)) (ht : (pc : Int) + off = (tgt : Int)) (ha : inI a)
    (kt : a ≤ 0 → Ws v as sh mc ms tgt ls st M) (kf : ¬ (a ≤ 0) → Ws v as sh mc ms (pc + 3) ls st M) : Ws v as sh mc ms pc ls (iv a :: st) M := by
  obtain ⟨p, l, e, R, s, m, args, below, meth, c, Q, A, D, cA, x⟩ := v
  obtain ⟨hx, hb, hml, hown, hts, hK, hA, hfr, hlo, hNs⟩ := E
  intro H locs lsA hW hS hl
  exact lv_if_le hx hb hd ht (fun q => kt ((i_le0 ha).mp q) H locs lsA hW hS hl) (fun q => kf (fun z => q ((i_le0 ha).mpr z)) H locs lsA hW hS hl)
theorem s_tin (E : Cx v cc nL own d) {dflt lo hi off : Int} {offs : Array Int} {len : Nat} {a : Int} (tgt : Nat) (kk : Int) (hd : decode cc pc = .ok (.tableswitch dflt lo hi offs, len)) (ha : a = kk) (hk : inI kk ∧ ¬ kk < lo ∧ ¬ hi < kk) (ho : offs[(kk - lo).toNat]? = some off) (ht : (pc : Int) + off = (tgt : Int))
    (k : Ws v as sh mc ms tgt ls st M) : Ws v as sh mc ms pc ls (iv a :: st) M := by
  obtain ⟨p, l, e, R, s, m, args, below, meth, c, Q, A, D, cA, x⟩ := v
  obtain ⟨hx, hb, hml, hown, hts, hK, hA, hfr, hlo, hNs⟩ := E
  intro H locs lsA hW hS hl
  subst ha
  exact lv_tableIn hx hb hd (by rw [i_toInt hk.1]; exact hk.2.1) (by rw [i_toInt hk.1]; exact hk.2.2) (by rw [i_toInt hk.1]; exact ho) ht (k H locs lsA hW hS hl)
theorem s_tout (E : Cx v cc nL own d) {dflt lo hi : Int} {offs : Array Int} {len : Nat} {a : Int} (tgt : Nat) (hd : decode cc pc = .ok (.tableswitch dflt lo hi offs, len)) (ha : inI a) (hk : a < lo ∨ hi < a) (ht : (pc : Int) + dflt = (tgt : Int))
    (k : Ws v as sh mc ms tgt ls st M) : Ws v as sh mc ms pc ls (iv a :: st) M := by
  obtain ⟨p, l, e, R, s, m, args, below, meth, c, Q, A, D, cA, x⟩ := v
  obtain ⟨hx, hb, hml, hown, hts, hK, hA, hfr, hlo, hNs⟩ := E
  intro H locs lsA hW hS hl
  exact lv_tableOut hx hb hd (by rw [i_toInt ha]; exact hk) ht (k H locs lsA hW hS hl)
theorem s_lsw (E : Cx v cc nL own d) {dflt off : Int} {ps : Array (Int × Int)} {len : Nat} {a : Int} (tgt : Nat) (hd : decode cc pc = .ok (.lookupswitch dflt ps, len)) (ha : inI a) (hp : (ps.toList.zip (ps.toList.drop 1)).all (fun (a, next) => a.1 < next.1) = true) (ho : Op.lookupswitch.offset ps.toList dflt a = off) (ht : (pc : Int) + off = (tgt : Int))
    (k : Ws v as sh mc ms tgt ls st M) : Ws v as sh mc ms pc ls (iv a :: st) M := by
  obtain ⟨p, l, e, R, s, m, args, below, meth, c, Q, A, D, cA, x⟩ := v
  obtain ⟨hx, hb, hml, hown, hts, hK, hA, hfr, hlo, hNs⟩ := E
  intro H locs lsA hW hS hl
  exact lv_lookup hx hb hd hp (by rw [i_toInt ha]; exact ho) ht (k H locs lsA hW hS hl)
theorem s_getI (E : Cx v cc nL own d) {ci kf N idx : Nat} (kfi : Int) {C : String} {T : u_T} {fs : List (Option (Option Int))} {o : Int} (he : (kf : Int) = kfi) (hd : decode cc pc = .ok (.getfield idx, 3)) (hc : vwCl[ci]? = some (C, T, N)) (hin : ∀ w ∈ u_ws C T N, w ∈ BIG) (hk : kf < N) (hlink : Cond.fieldLink own idx (T kf).1 (T kf).2.1 (T kf).2.2.1 ∈ BIG) (ho : 0 ≤ o) (hs : sh[o.toNat]? = some (.inl (ci, fs))) (hf : fs[kf]? = some none)
    (k : Ws v as sh mc ms (pc + 3) ls (iv (M o kfi) :: st) M) : Ws v as sh mc ms pc ls (rv o :: st) M := by
  subst he
  obtain ⟨p, l, e, R, s, m, args, below, meth, c, Q, A, D, cA, x⟩ := v
  obtain ⟨hx, hb, hml, hown, hts, hK, hA, hfr, hlo, hNs⟩ := E
  intro H locs lsA hW hS hl
  refine va_get (D := D) hx hb hts hin hown hK hW.2.1 o.toNat (wld_at hW.1 ho hs) hc kf hk (hts _ hlink) (fun _ h9 => h9) (v := .int (Int32.ofInt (M o kf))) ?_ hd (k H locs lsA hW hS hl)
  rw [List.getElem?_mapIdx, hf]
  rfl
theorem s_getR (E : Cx v cc nL own d) {ci kf N idx : Nat} {C : String} {T : u_T} {fs : List (Option (Option Int))} {o r : Int} (hd : decode cc pc = .ok (.getfield idx, 3)) (hc : vwCl[ci]? = some (C, T, N)) (hin : ∀ w ∈ u_ws C T N, w ∈ BIG) (hk : kf < N) (hlink : Cond.fieldLink own idx (T kf).1 (T kf).2.1 (T kf).2.2.1 ∈ BIG) (ho : 0 ≤ o) (hs : sh[o.toNat]? = some (.inl (ci, fs))) (hf : fs[kf]? = some (some (some r)))
    (k : Ws v as sh mc ms (pc + 3) ls (rv r :: st) M) : Ws v as sh mc ms pc ls (rv o :: st) M := by
  obtain ⟨p, l, e, R, s, m, args, below, meth, c, Q, A, D, cA, x⟩ := v
  obtain ⟨hx, hb, hml, hown, hts, hK, hA, hfr, hlo, hNs⟩ := E
  intro H locs lsA hW hS hl
  refine va_get (D := D) hx hb hts hin hown hK hW.2.1 o.toNat (wld_at hW.1 ho hs) hc kf hk (hts _ hlink) (fun _ h9 => h9) (v := .ref (adr x as r)) ?_ hd (k H locs lsA hW hS hl)
  rw [List.getElem?_mapIdx, hf]
  rfl
theorem s_putI (E : Cx v cc nL own d) {ci kf N idx : Nat} (kfi : Int) {C : String} {T : u_T} {ty0 : Nat → FieldType} {fs : List (Option (Option Int))} {o z : Int} (he : (kf : Int) = kfi) (hd : decode cc pc = .ok (.putfield idx, 3)) (hc : vwCl[ci]? = some (C, T, N)) (hin : ∀ w ∈ u_ws C T N, w ∈ BIG) (hty : ∀ k, k < N → parseFieldDescriptor (T k).2.2.1 = some (ty0 k)) (hnm : ∀ a, a < N → ∀ b, b < N → a ≠ b → (T a).2.1 ≠ (T b).2.1) (hk : kf < N) (hint : (T kf).2.2.1 = "I" ∧ (T kf).2.2.2 = false) (hlink : Cond.fieldLink own idx (T kf).1 (T kf).2.1 (T kf).2.2.1 ∈ BIG) (ho : 0 ≤ o) (hs : sh[o.toNat]? = some (.inl (ci, fs))) (hf : fs[kf]? = some none)
    (k : Ws v as sh mc ms (pc + 3) ls st (upm M o kfi z)) : Ws v as sh mc ms pc ls (iv z :: rv o :: st) M := by
  subst he
  obtain ⟨p, l, e, R, s, m, args, below, meth, c, Q, A, D, cA, x⟩ := v
  obtain ⟨hx, hb, hml, hown, hts, hK, hA, hfr, hlo, hNs⟩ := E
  intro H locs lsA hW hS hl
  have hlen : kf < fs.length := (List.getElem?_eq_some_iff.mp hf).1
  refine va_put (D := D) hx hb hts hin ty0 hty hnm hown hK hW.2.1 hW.2.2.1 hS o.toNat (wld_at hW.1 ho hs) hc kf hk (hts _ hlink) (fun _ h9 => h9) hint.2 (ty := .int) (by rw [hint.1]; decide +kernel) rfl rfl (by rw [List.length_mapIdx]; exact hlen) hd (fun H1 locs1 hP1 hD1 hS1 => ?_)
  have e : (fs.mapIdx (fun j f => fval x as M o j f)).set kf (Value.int (Int32.ofInt z)) = fs.mapIdx (fun j f => fval x as (upm M o kf z) o j f) := by
    apply List.ext_getElem?
    intro i
    by_cases hi : i = kf
    · subst hi
      rw [List.getElem?_set_self (by rw [List.length_mapIdx]; exact hlen), List.getElem?_mapIdx, hf]
      simp [fval, upm_eq]
    · rw [List.getElem?_set_ne (Ne.symm hi), List.getElem?_mapIdx, List.getElem?_mapIdx]
      cases fs[i]? with
      | none => rfl
      | some f =>
        have hne : ((i : Nat) : Int) ≠ (kf : Int) := by omega
        rcases f with _ | _ | r <;> simp [fval, upm_ne (Or.inr hne)]
  have e2 : (wld cA x as sh M).set o.toNat (adr x as o, .inr (ci, (fs.mapIdx (fun j f => fval x as M o j f)).set kf (Value.int (Int32.ofInt z)))) = wld cA x as sh (upm M o kf z) := by
    rw [e]
    exact wld_set hW.1 ho hs
  have hP2 : va_P D vwCl ((wld cA x as sh M).set o.toNat (adr x as o, .inr (ci, (fs.mapIdx (fun j f => fval x as M o j f)).set kf (Value.int (Int32.ofInt z))))) H1 := hP1
  have hD2 : va_D A ((wld cA x as sh M).set o.toNat (adr x as o, .inr (ci, (fs.mapIdx (fun j f => fval x as M o j f)).set kf (Value.int (Int32.ofInt z))))) := hD1
  rw [e2] at hP2 hD2
  exact k H1 locs1 lsA ⟨hW.1, hP2, hD2, hW.2.2.2⟩ hS1 hl
theorem s_iald (E : Cx v cc nL own d) {n : Nat} {es : List (Option Int)} {o j : Int} (hd : decode cc pc = .ok (.iaload, 1)) (ho : 0 ≤ o) (hs : sh[o.toNat]? = some (.inr (0, n, es))) (hn : n ≤ 65536) (hj : 0 ≤ j ∧ j < (n : Int))
    (k : Ws v as sh mc ms (pc + 1) ls (iv (M o j) :: st) M) : Ws v as sh mc ms pc ls (iv j :: rv o :: st) M := by
  obtain ⟨p, l, e, R, s, m, args, below, meth, c, Q, A, D, cA, x⟩ := v
  obtain ⟨hx, hb, hml, hown, hts, hK, hA, hfr, hlo, hNs⟩ := E
  intro H locs lsA hW hS hl
  have hji : inI j := ⟨by omega, by omega⟩
  have h := k H locs lsA hW hS hl
  have e : (wld cA x as sh M)[o.toNat]? = some (adr x as o, .inl (cA 0, n, .inl (fun j => Int32.ofInt (M o j)))) := wld_at hW.1 ho hs
  refine va_iald (D := D) hx hb (hW.tys hK hs) hW.2.1 o.toNat 0 e rfl (i_in hji hj) hd ?_
  rw [i_nat hji, Int.toNat_of_nonneg hj.1]
  exact h
theorem s_bald (E : Cx v cc nL own d) {n : Nat} {es : List (Option Int)} {o j : Int} (hd : decode cc pc = .ok (.baload, 1)) (ho : 0 ≤ o) (hs : sh[o.toNat]? = some (.inr (1, n, es))) (hn : n ≤ 65536) (hj : 0 ≤ j ∧ j < (n : Int))
    (k : Ws v as sh mc ms (pc + 1) ls (iv (M o j) :: st) M) : Ws v as sh mc ms pc ls (iv j :: rv o :: st) M := by
  obtain ⟨p, l, e, R, s, m, args, below, meth, c, Q, A, D, cA, x⟩ := v
  obtain ⟨hx, hb, hml, hown, hts, hK, hA, hfr, hlo, hNs⟩ := E
  intro H locs lsA hW hS hl
  have hji : inI j := ⟨by omega, by omega⟩
  have h := k H locs lsA hW hS hl
  have e : (wld cA x as sh M)[o.toNat]? = some (adr x as o, .inl (cA 1, n, .inl (fun j => Int32.ofInt (M o j)))) := wld_at hW.1 ho hs
  refine va_zald (D := D) hx hb (hW.tys hK hs) hW.2.1 o.toNat 0 e rfl (i_in hji hj) hd ?_
  rw [i_nat hji, Int.toNat_of_nonneg hj.1]
  exact h
theorem s_aald (E : Cx v cc nL own d) {kd n : Nat} {es : List (Option Int)} {o j r : Int} (hd : decode cc pc = .ok (.aaload, 1)) (ho : 0 ≤ o) (hs : sh[o.toNat]? = some (.inr (kd + 2, n, es))) (hn : n ≤ 65536) (hj : 0 ≤ j ∧ j < (n : Int)) (hr : es[j.toNat]? = some (some r))
    (k : Ws v as sh mc ms (pc + 1) ls (rv r :: st) M) : Ws v as sh mc ms pc ls (iv j :: rv o :: st) M := by
  obtain ⟨p, l, e, R, s, m, args, below, meth, c, Q, A, D, cA, x⟩ := v
  obtain ⟨hx, hb, hml, hown, hts, hK, hA, hfr, hlo, hNs⟩ := E
  intro H locs lsA hW hS hl
  have hji : inI j := ⟨by omega, by omega⟩
  have h := k H locs lsA hW hS hl
  have hlt : j.toNat < n := by omega
  have e : (wld cA x as sh M)[o.toNat]? = some (adr x as o, .inl (cA (kd + 2), n, .inr (.inr (.inr (.inr (fun j => (es.getD j none).map (adr x as))))))) := by
    rw [wld_at hW.1 ho hs]
    simp [ecell]
  have hty := hW.2.2.2 _ _ _ (List.mem_of_getElem? hs)
  refine W.aald (v := .ref (adr x as r)) (ty := tyK (kd + 2)) hx hb (hW.2.1 _ _ e) (hty.1 n (fun j => va_rf ((es.getD j none).map (adr x as)))) (by rcases kd with _ | kd <;> rfl) (fun q => by cases q) (by rw [show vp_cell (cA (kd + 2)) (n, .inr (.inr (.inr (.inr (fun j => (es.getD j none).map (adr x as)))))) = arrV (cA (kd + 2)) n (fun j => va_rf ((es.getD j none).map (adr x as))) from rfl, arrV_size]; exact i_in hji hj) (by
      show (arrV _ _ _).slots[_]? = _
      rw [i_nat hji, arrV_read _ _ hlt]
      simp [List.getD, hr, va_rf]) rfl rfl hd h
theorem s_iast (E : Cx v cc nL own d) {n : Nat} {es : List (Option Int)} {o j z : Int} (hd : decode cc pc = .ok (.iastore, 1)) (ho : 0 ≤ o) (hs : sh[o.toNat]? = some (.inr (0, n, es))) (hn : n ≤ 65536) (hj : 0 ≤ j ∧ j < (n : Int))
    (k : Ws v as sh mc ms (pc + 1) ls st (upm M o j z)) : Ws v as sh mc ms pc ls (iv z :: iv j :: rv o :: st) M := by
  obtain ⟨p, l, e, R, s, m, args, below, meth, c, Q, A, D, cA, x⟩ := v
  obtain ⟨hx, hb, hml, hown, hts, hK, hA, hfr, hlo, hNs⟩ := E
  intro H locs lsA hW hS hl
  have hji : inI j := ⟨by omega, by omega⟩
  have e : (wld cA x as sh M)[o.toNat]? = some (adr x as o, .inl (cA 0, n, .inl (fun j => Int32.ofInt (M o j)))) := wld_at hW.1 ho hs
  refine va_iast (D := D) hx hb (hW.tys hK hs) hW.2.1 hW.2.2.1 hS o.toNat 0 e rfl (i_in hji hj) hd (fun H1 locs1 hP1 hD1 hS1 => ?_)
  rw [i_nat hji, upd_upm hj.1] at hP1 hD1
  have e2 : (wld cA x as sh M).set o.toNat (adr x as o, .inl (cA 0, n, .inl (fun q : Nat => Int32.ofInt (upm M o j z o q)))) = wld cA x as sh (upm M o j z) := wld_set hW.1 ho hs
  rw [e2] at hP1 hD1
  exact k H1 locs1 lsA ⟨hW.1, hP1, hD1, hW.2.2.2⟩ hS1 hl
theorem s_bast (E : Cx v cc nL own d) {n : Nat} {es : List (Option Int)} {o j z : Int} (hd : decode cc pc = .ok (.bastore, 1)) (ho : 0 ≤ o) (hs : sh[o.toNat]? = some (.inr (1, n, es))) (hn : n ≤ 65536) (hj : 0 ≤ j ∧ j < (n : Int)) (hz : z = 0 ∨ z = 1)
    (k : Ws v as sh mc ms (pc + 1) ls st (upm M o j z)) : Ws v as sh mc ms pc ls (iv z :: iv j :: rv o :: st) M := by
  obtain ⟨p, l, e, R, s, m, args, below, meth, c, Q, A, D, cA, x⟩ := v
  obtain ⟨hx, hb, hml, hown, hts, hK, hA, hfr, hlo, hNs⟩ := E
  intro H locs lsA hW hS hl
  have hji : inI j := ⟨by omega, by omega⟩
  have e : (wld cA x as sh M)[o.toNat]? = some (adr x as o, .inl (cA 1, n, .inl (fun j => Int32.ofInt (M o j)))) := wld_at hW.1 ho hs
  refine va_zast (D := D) hx hb (hW.tys hK hs) hW.2.1 hW.2.2.1 hS o.toNat 0 e rfl (i_in hji hj) hd (fun H1 locs1 hP1 hD1 hS1 => ?_)
  have hnar : vp_nar .boolean (Int32.ofInt z) = Int32.ofInt z := by rcases hz with rfl | rfl <;> rfl
  rw [hnar, i_nat hji, upd_upm hj.1] at hP1 hD1
  have e2 : (wld cA x as sh M).set o.toNat (adr x as o, .inl (cA 1, n, .inl (fun q : Nat => Int32.ofInt (upm M o j z o q)))) = wld cA x as sh (upm M o j z) := wld_set hW.1 ho hs
  rw [e2] at hP1 hD1
  exact k H1 locs1 lsA ⟨hW.1, hP1, hD1, hW.2.2.2⟩ hS1 hl
theorem s_mmax (E : Cx v cc nL own d) {idx : Nat} {a b : Int} (hd : decode cc pc = .ok (.invokestatic idx, 3)) (hlk : Cond.methodLink own idx Lib.Math.max.name ∈ BIG) (hw : Cond.static Lib.Math.max.name ∈ BIG ∧ Cond.initialized "java/lang/Math" ∈ BIG ∧ Cond.code Lib.Math.max.name Lib.Math.max.code 2 (some .int) ∈ BIG) (h1 : 1 ≤ d) (hst : st.length ≤ 20) (ha : inI a) (hbb : inI b)
    (k : Ws v as sh 0 0 (pc + 3) ls (iv (max a b) :: st) M) : Ws v as sh 0 0 pc ls (iv b :: iv a :: st) M := by
  obtain ⟨p, l, e, R, s, m, args, below, meth, c, Q, A, D, cA, x⟩ := v
  obtain ⟨hx, hb, hml, hown, hts, hK, hA, hfr, hlo, hNs⟩ := E
  intro H locs lsA hW hS hl
  have h := k H locs lsA hW hS hl
  simp only [List.map_cons, enc] at h ⊢
  rw [← i_max ha hbb] at h
  exact va_mmax hx hb hl.1.symm hown (hts _ hlk) (hts _ hw.1) (hts _ hw.2.1) (hts _ hw.2.2) (by omega) (by rw [cat_sum]; omega) (Nat.zero_le _) (Nat.zero_le _) hd h
theorem s_mmin (E : Cx v cc nL own d) {idx : Nat} {a b : Int} (hd : decode cc pc = .ok (.invokestatic idx, 3)) (hlk : Cond.methodLink own idx Lib.Math.min.name ∈ BIG) (hw : Cond.static Lib.Math.min.name ∈ BIG ∧ Cond.initialized "java/lang/Math" ∈ BIG ∧ Cond.code Lib.Math.min.name Lib.Math.min.code 2 (some .int) ∈ BIG) (h1 : 1 ≤ d) (hst : st.length ≤ 20) (ha : inI a) (hbb : inI b)
    (k : Ws v as sh 0 0 (pc + 3) ls (iv (min a b) :: st) M) : Ws v as sh 0 0 pc ls (iv b :: iv a :: st) M := by
  obtain ⟨p, l, e, R, s, m, args, below, meth, c, Q, A, D, cA, x⟩ := v
  obtain ⟨hx, hb, hml, hown, hts, hK, hA, hfr, hlo, hNs⟩ := E
  intro H locs lsA hW hS hl
  have h := k H locs lsA hW hS hl
  simp only [List.map_cons, enc] at h ⊢
  rw [← i_min ha hbb] at h
  exact va_mmin hx hb hl.1.symm hown (hts _ hlk) (hts _ hw.1) (hts _ hw.2.1) (hts _ hw.2.2) (by omega) (by rw [cat_sum]; omega) (Nat.zero_le _) (Nat.zero_le _) hd h
theorem s_copy (E : Cx v cc nL own d) {idx n0 n1 : Nat} {e0 e1 : List (Option Int)} {o0 o1 z : Int} (hd : decode cc pc = .ok (.invokestatic idx, 3)) (hlk : Cond.methodLink own idx arraycopyName ∈ BIG) (hw : Cond.native arraycopyName ∈ BIG ∧ Cond.static arraycopyName ∈ BIG ∧ Cond.initialized "java/lang/System" ∈ BIG) (h1 : 1 ≤ d) (hst : st.length ≤ 15) (ho0 : 0 ≤ o0) (ho1 : 0 ≤ o1) (hs0 : sh[o0.toNat]? = some (.inr (0, n0, e0))) (hs1 : sh[o1.toNat]? = some (.inr (0, n1, e1))) (hz : 0 ≤ z ∧ z ≤ n0 ∧ z ≤ n1 ∧ z ≤ 65536)
    (k : Ws v as sh mc ms (pc + 3) ls st (cp0 M o0 o1 z)) : Ws v as sh mc ms pc ls (iv z :: iv 0 :: rv o1 :: iv 0 :: rv o0 :: st) M := by
  obtain ⟨p, l, e, R, s, m, args, below, meth, c, Q, A, D, cA, x⟩ := v
  obtain ⟨hx, hb, hml, hown, hts, hK, hA, hfr, hlo, hNs⟩ := E
  intro H locs lsA hW hS hl
  have hzi : inI z := ⟨by omega, by omega⟩
  have a0 : (wld cA x as sh M)[o0.toNat]? = some (adr x as o0, .inl (cA 0, n0, .inl (fun j => Int32.ofInt (M o0 j)))) := wld_at hW.1 ho0 hs0
  have a1 : (wld cA x as sh M)[o1.toNat]? = some (adr x as o1, .inl (cA 0, n1, .inl (fun j => Int32.ofInt (M o1 j)))) := wld_at hW.1 ho1 hs1
  have z0 : (Int32.ofInt 0).toNatClampNeg = 0 := by decide
  have zn : (Int32.ofInt z).toNatClampNeg = z.toNat := i_nat hzi
  have hnw : nativeFrameWords "java/lang/System" "arraycopy" 5 + 11 ≤ 25 := by decide +kernel
  have hloc : ((st.map (enc x as)).map fun v => v.category).sum + (nativeFrameWords "java/lang/System" "arraycopy" 5 + 11) ≤ R.locals := by
    rw [cat_sum]
    omega
  have z00 : ¬ Int32.ofInt 0 < 0 := by decide
  refine va_copyi (D := D) hx hb hl.1.symm hown (hts _ hlk) (hts _ hw.1) (hts _ hw.2.1) (hts _ hw.2.2) (hW.tys hK hs0) hW.2.1 hW.2.2.1 hS o0.toNat o1.toNat 0 0 a0 a1 rfl rfl rfl (sp := Int32.ofInt 0) (dp := Int32.ofInt 0) (n := Int32.ofInt z) z00 z00 (by rw [i_lt0 hzi]; omega) (by rw [z0, zn]; omega) (by rw [z0, zn]; omega) (fun i _ => rfl) (by omega) hloc hd (fun H1 locs1 hP1 hD1 hS1 => ?_)
  have ef : va_cpy (fun j : Nat => Int32.ofInt (M o0 j)) (fun j : Nat => Int32.ofInt (M o1 j)) (Int32.ofInt 0).toNatClampNeg (Int32.ofInt 0).toNatClampNeg (Int32.ofInt z).toNatClampNeg = fun j : Nat => Int32.ofInt (cp0 M o0 o1 z o1 j) := by
    rw [z0, zn]
    funext q
    unfold va_cpy
    by_cases hq : q < z.toNat
    · rw [if_pos ⟨Nat.zero_le _, by omega⟩, cp0_in ⟨by omega, by omega⟩]
      simp
    · rw [if_neg (fun w => hq (by omega)), cp0_out (fun w => hq (by omega))]
  rw [ef] at hP1 hD1
  have e2 : (wld cA x as sh M).set o1.toNat (adr x as o1, .inl (cA 0, n1, .inl (fun q : Nat => Int32.ofInt (cp0 M o0 o1 z o1 q)))) = wld cA x as sh (cp0 M o0 o1 z) := wld_set' hW.1 ho1 hs1 (fun i hi => cp0_row hi)
  rw [e2] at hP1 hD1
  exact k H1 locs1 lsA ⟨hW.1, hP1, hD1, hW.2.2.2⟩ hS1 hl
end ROWS
-- words
theorem good_BIG : ∀ w ∈ BIG, (w.onTables && w.keeps) = true ∨ ∃ ty, w = .arrayClass ty := fun _ h => good_of_word (List.mem_filter.mp h).2
def wsB (y : MethodName) (bytes : ByteArray) (maxL : Nat) (rt : Option FieldType) : List Cond := .code y bytes maxL rt :: BIG
theorem good_wsB {y : MethodName} {bytes : ByteArray} {maxL : Nat} {rt : Option FieldType} (h : Cond.code y bytes maxL rt ∈ BIG) : GoodIn BIG (wsB y bytes maxL rt) := by
  intro w hw
  rcases List.mem_cons.mp hw with rfl | hw
  · exact ⟨h, good_BIG _ h⟩
  · exact ⟨hw, good_BIG _ hw⟩
-- contracts
def rmd (d : Nat) : Room := { frames := d, cells := 0, slots := 0, locals := 40 * d }
def PcB (D : va_G) (cA : Nat → ClassId) (x : Nat) (as : List Nat) (sh : List Sh) (M : Mm) (sz : Nat) (U : State) : Prop := U.heap.size = sz ∧ WP D cA x as sh M (fun _ => True) U U.heap ∧ va_K D vwCl [] U ∧ NsOK U
def QcB (D : va_G) (cA : Nat → ClassId) (x : Nat) (as : List Nat) (sh : List Sh) (A : Nat → Prop) (M' : Mm) (t : State) : Prop := WP D cA x as sh M' A t t.heap ∧ va_K D vwCl [] t
def CtI (y : MethodName) (bytes : ByteArray) (maxL : Nat) (rt : FieldType) (d : Nat) (sh : List Sh) (av : List Vv) (M : Mm) (post : Int → Mm → Prop) : Prop :=
  ∀ (l : Launch) (D : va_G) (cA : Nat → ClassId) (x : Nat) (as : List Nat) (sz : Nat), Met l y (wsB y bytes maxL (some rt)) (rmd d) (va_Pc (av.map (enc x as)) (PcB D cA x as sh M sz))
    (va_Qi (fun r M' => ∃ z, r = Int32.ofInt z ∧ post z M') (QcB D cA x as sh (va_A (wld cA x as sh M) sz)) (va_A (wld cA x as sh M) sz)) 0 0 (va_A (wld cA x as sh M) sz)
def CtV (y : MethodName) (bytes : ByteArray) (maxL : Nat) (d : Nat) (sh : List Sh) (av : List Vv) (M : Mm) (post : Mm → Prop) : Prop :=
  ∀ (l : Launch) (D : va_G) (cA : Nat → ClassId) (x : Nat) (as : List Nat) (sz : Nat), Met l y (wsB y bytes maxL none) (rmd d) (va_Pc (av.map (enc x as)) (PcB D cA x as sh M sz))
    (va_Qv (fun M' => post M') (QcB D cA x as sh (va_A (wld cA x as sh M) sz)) (va_A (wld cA x as sh M) sz)) 0 0 (va_A (wld cA x as sh M) sz)
theorem PcB_blind {D : va_G} {cA : Nat → ClassId} {x : Nat} {as : List Nat} {sh : List Sh} {M : Mm} {sz : Nat} {av : List Value} : FrameBlind (va_Pc av (PcB D cA x as sh M sz)) := by
  intro a U g mk q
  obtain ⟨q0, q1, qW, qK, qN⟩ := q
  exact ⟨q0, q1, WP.moved (u := U) (U := U.calling g mk a) (Vm.Alike.refl U.vm) qW, va_K.moved (u := U) (U := U.calling g mk a) (Vm.Alike.refl U.vm) qK, fun o i y h w => va_Nw.same rfl (u := U) (U := U.calling g mk a) rfl (qN o i y h w)⟩
theorem WP.weaken {D : va_G} {cA : Nat → ClassId} {x : Nat} {as : List Nat} {sh : List Sh} {M : Mm} {A A' : Nat → Prop} {s : State} {H : Heap} (h : WP D cA x as sh M A s H) (hA : ∀ q, A q → A' q) : WP D cA x as sh M A' s H :=
  ⟨h.1, h.2.1, h.2.2.1.weaken (fun _ q _ h => hA q.1 h), h.2.2.2⟩
theorem WP.free {D : va_G} {cA : Nat → ClassId} {x : Nat} {as : List Nat} {sh : List Sh} {M : Mm} {A : Nat → Prop} {s : State} {H H0 : Heap} {locs : List Loc} (h : WP D cA x as sh M A s H) (hS : va_S A H0 H locs) (hA : ∀ q : Nat, H0.size ≤ q → A q) : ∀ q, va_A (wld cA x as sh M) H.size q → A q := by
  intro q hq
  rcases hq with ⟨k, e, hk⟩ | hq
  · exact h.2.2.1.2 k (q, e) hk
  · exact hA q (Nat.le_trans hS.1 hq)
theorem WP.self {D : va_G} {cA : Nat → ClassId} {x : Nat} {as : List Nat} {sh : List Sh} {M : Mm} {A : Nat → Prop} {s : State} {H : Heap} {sz : Nat} (h : WP D cA x as sh M A s H) : WP D cA x as sh M (va_A (wld cA x as sh M) sz) s H :=
  ⟨h.1, h.2.1, h.2.2.1.self, h.2.2.2⟩
theorem CtI.of {y : MethodName} {bytes : ByteArray} {maxL : Nat} {rt : FieldType} {d : Nat} {sh : List Sh} {av : List Vv} {M : Mm} {post : Int → Mm → Prop} (hy : plainName y.cls = true) (hav : av.length ≤ maxL) (hrt : rt = .int ∨ rt = .boolean)
    (body : ∀ (v : Ev) (as : List Nat), Cx v bytes maxL y.cls d → (∀ r M', post r M' → (rt = .boolean → r = 0 ∨ r = 1) → ∀ pc ls, decode bytes pc = .ok (.ireturn, 1) → Ws v as sh 0 0 pc ls [iv r] M') → Ws v as sh 0 0 0 (av.map some ++ List.replicate (maxL - av.length) none) [] M) :
    CtI y bytes maxL rt d sh av M post := by
  intro l D cA x as sz
  refine Met.ofW (cc := bytes) (maxL := maxL) (ret := some rt) hy rfl ?_
  intro p e s m args below meth c s₁ B hml hv
  obtain ⟨rfl, hsz, hWP, hK, hNs⟩ := hv
  subst hsz
  have hts := atoms_spec (ws := wsB y bytes maxL (some rt)) B.pre
  have hown : s.vm.findClass y.cls = some m.cls := findClass_of_methodNamed B.named
  have hlocks := B.notSynchronized
  have hW : WP D cA x as sh M (va_A (wld cA x as sh M) s.heap.size) s s.heap := hWP.self
  have key := body (p, l, e, (headSpec (wsB y bytes maxL (some rt)) (rmd d)).room, s, m, (av.map (enc x as)).toArray, below, meth, c, MQ below (va_Qi (fun r M' => ∃ z, r = Int32.ofInt z ∧ post z M') (QcB D cA x as sh (va_A (wld cA x as sh M) s.heap.size)) (va_A (wld cA x as sh M) s.heap.size)) (av.map (enc x as)).toArray s 0 0 (va_A (wld cA x as sh M) s.heap.size), va_A (wld cA x as sh M) s.heap.size, D, cA, x) as
    ⟨B.exec, B.bytes, hml, hown, fun w hw => hts w (List.mem_cons_of_mem _ hw), hK, fun q h => Or.inr h, Nat.le_refl _, Nat.le_refl _, hNs⟩ ?_
  · rw [lg_entry_eq]
    exact key s.heap [] _ hW va_S.rf (by rw [hml]; exact hasL.entry hav _ (by omega))
  · intro r M' hp hbool pc ls hd H locs lsA hW' hS hl
    have hn : narrow rt (.int (Int32.ofInt r)) = .int (Int32.ofInt r) := by
      rcases hrt with rfl | rfl
      · rfl
      · rcases hbool rfl with rfl | rfl <;> rfl
    exact W.zret B.exec B.bytes B.returns hn (fun t ht hWm => ⟨⟨Int32.ofInt r, M', rfl, ⟨r, rfl, hp⟩, ⟨by rw [ht]; exact WP.moved hWm.alike hW', va_K.moved hWm.alike hK⟩⟩, hS.F ht⟩) hS.2.2 hd
theorem CtV.of {y : MethodName} {bytes : ByteArray} {maxL : Nat} {d : Nat} {sh : List Sh} {av : List Vv} {M : Mm} {post : Mm → Prop} (hy : plainName y.cls = true) (hav : av.length ≤ maxL)
    (body : ∀ (v : Ev) (as : List Nat), Cx v bytes maxL y.cls d → (∀ M', post M' → ∀ pc ls, decode bytes pc = .ok (.return_, 1) → Ws v as sh 0 0 pc ls [] M') → Ws v as sh 0 0 0 (av.map some ++ List.replicate (maxL - av.length) none) [] M) :
    CtV y bytes maxL d sh av M post := by
  intro l D cA x as sz
  refine Met.ofW (cc := bytes) (maxL := maxL) (ret := none) hy rfl ?_
  intro p e s m args below meth c s₁ B hml hv
  obtain ⟨rfl, hsz, hWP, hK, hNs⟩ := hv
  subst hsz
  have hts := atoms_spec (ws := wsB y bytes maxL none) B.pre
  have hown : s.vm.findClass y.cls = some m.cls := findClass_of_methodNamed B.named
  have hlocks := B.notSynchronized
  have hW : WP D cA x as sh M (va_A (wld cA x as sh M) s.heap.size) s s.heap := hWP.self
  have key := body (p, l, e, (headSpec (wsB y bytes maxL none) (rmd d)).room, s, m, (av.map (enc x as)).toArray, below, meth, c, MQ below (va_Qv (fun M' => post M') (QcB D cA x as sh (va_A (wld cA x as sh M) s.heap.size)) (va_A (wld cA x as sh M) s.heap.size)) (av.map (enc x as)).toArray s 0 0 (va_A (wld cA x as sh M) s.heap.size), va_A (wld cA x as sh M) s.heap.size, D, cA, x) as
    ⟨B.exec, B.bytes, hml, hown, fun w hw => hts w (List.mem_cons_of_mem _ hw), hK, fun q h => Or.inr h, Nat.le_refl _, Nat.le_refl _, hNs⟩ ?_
  · rw [lg_entry_eq]
    exact key s.heap [] _ hW va_S.rf (by rw [hml]; exact hasL.entry hav _ (by omega))
  · intro M' hp pc ls hd H locs lsA hW' hS hl
    exact W.vret B.exec B.bytes B.returns (fun t ht hWm => ⟨⟨M', rfl, hp, ⟨by rw [ht]; exact WP.moved hWm.alike hW', va_K.moved hWm.alike hK⟩⟩, hS.F ht⟩) hS.2.2 hd
-- what a program knows of a method: static, or not
section CALLS
variable {v : Ev} {cc : ByteArray} {nL d pc : Nat} {own host : String} {as : List Nat} {sh : List Sh} {ls : List (Option Vv)} {rest : List Vv} {M : Mm} {y : MethodName} {bytes : ByteArray} {maxL dd idx n : Nat} {rt : FieldType} {av : List Vv}
theorem rev_enc (x : Nat) (as : List Nat) (av rest : List Vv) : (av.reverse ++ rest).map (enc x as) = (av.map (enc x as)).reverse ++ rest.map (enc x as) := by simp
theorem s_callSi (E : Cx v cc nL own d) {st : List Vv} {post : Int → Mm → Prop} (hC : CtI y bytes maxL rt dd sh av M post) (hd : decode cc pc = .ok (.invokestatic idx, 3)) (hm : MfS y bytes maxL (some rt) n) (hlk : Cond.methodLink own idx y ∈ BIG) (hn : av.length = n) (hdd : dd + 1 ≤ d) (hrest : rest.length ≤ 8)
    (hst : st = (av.reverse ++ rest))
    (k : ∀ r M', post r M' → Ws v as sh 0 0 (pc + 3) ls (iv r :: rest) M') : Ws v as sh 0 0 pc ls st M := by
  subst hst
  obtain ⟨p, l, e, R, s, m, args, below, meth, c, Q, A, D, cA, x⟩ := v
  obtain ⟨hx, hb, hml, hown, hts, hK, hA, hfr, hlo, hNs⟩ := E
  intro H locs lsA hW hS hl
  obtain ⟨hm1, hini, hcode, ⟨hy1, hy2, hy3⟩, hmx⟩ := hm
  have hG := good_wsB hcode
  have hroom : (rmd dd).frames + 1 ≤ R.frames ∧ 8 + (maxL + 11) + (rmd dd).locals ≤ R.locals := ⟨Nat.le_trans hdd hfr, by show 8 + (maxL + 11) + 40 * dd ≤ R.locals; omega⟩
  have hsz : lsA.size = nL := hl.1.trans hml
  have hrs : 2 * (F0 m pc lsA (List.map (enc x as) (av.reverse ++ rest))).monitorRoom + ((rest.map (enc x as)).map fun v => v.category).sum ≤ 8 := lv_room (by rw [cat_sum]; exact hrest)
  have hWt : WP D cA x as sh M (fun _ => True) s H := hW.weaken (fun _ _ => trivial)
  have hr : va_Run p l e R s m args below meth c H locs 0 0 0 0 (F0 m pc lsA (List.map (enc x as) (av.reverse ++ rest))) (rest.map (enc x as)) ((va_Qi (fun r M' => ∃ z, r = Int32.ofInt z ∧ post z M') (QcB D cA x as sh (va_A (wld cA x as sh M) H.size)) (va_A (wld cA x as sh M) H.size)) (av.map (enc x as)).toArray) (va_A (wld cA x as sh M) H.size) := va_runS (As := av.map (enc x as)) (rest := rest.map (enc x as)) ⟨hx, hb, hml, hown, hts⟩ (hC l D cA x as H.size) ⟨callB_of n hts hG rfl rfl rfl (hts _ hini) (hts _ hlk) ⟨hy1, hy2, hy3⟩ hroom, hts _ hm1⟩ ⟨PcB_blind, fun U hU hWm => ⟨rfl, by rw [hU], WP.moved hWm.alike (by rw [hU]; exact hWt), va_K.moved hWm.alike hK, NsOK.warm hWm hNs⟩⟩ rfl (by rw [List.length_map]; exact hn) hsz (rev_enc x as av rest) hrs hd ⟨Nat.zero_le _, Nat.zero_le _⟩
  refine va_calli hr hS (fun q _ h => hW.free hS hA q h) (hW.free hS hA) (fun r u t H1 locs1 ht hvm hp hB hsz1 hk1 hS1 => ?_)
  subst ht
  obtain ⟨z, rfl, hp⟩ := hp
  exact k z u hp t.heap locs1 lsA (WP.moved hvm.symm (hB.1.weaken (hW.free hS hA))) hS1 hl
theorem s_callSv (E : Cx v cc nL own d) {st : List Vv} {post : Mm → Prop} (hC : CtV y bytes maxL dd sh av M post) (hd : decode cc pc = .ok (.invokestatic idx, 3)) (hm : MfS y bytes maxL none n) (hlk : Cond.methodLink own idx y ∈ BIG) (hn : av.length = n) (hdd : dd + 1 ≤ d) (hrest : rest.length ≤ 8)
    (hst : st = (av.reverse ++ rest))
    (k : ∀ M', post M' → Ws v as sh 0 0 (pc + 3) ls rest M') : Ws v as sh 0 0 pc ls st M := by
  subst hst
  obtain ⟨p, l, e, R, s, m, args, below, meth, c, Q, A, D, cA, x⟩ := v
  obtain ⟨hx, hb, hml, hown, hts, hK, hA, hfr, hlo, hNs⟩ := E
  intro H locs lsA hW hS hl
  obtain ⟨hm1, hini, hcode, ⟨hy1, hy2, hy3⟩, hmx⟩ := hm
  have hG := good_wsB hcode
  have hroom : (rmd dd).frames + 1 ≤ R.frames ∧ 8 + (maxL + 11) + (rmd dd).locals ≤ R.locals := ⟨Nat.le_trans hdd hfr, by show 8 + (maxL + 11) + 40 * dd ≤ R.locals; omega⟩
  have hsz : lsA.size = nL := hl.1.trans hml
  have hrs : 2 * (F0 m pc lsA (List.map (enc x as) (av.reverse ++ rest))).monitorRoom + ((rest.map (enc x as)).map fun v => v.category).sum ≤ 8 := lv_room (by rw [cat_sum]; exact hrest)
  have hWt : WP D cA x as sh M (fun _ => True) s H := hW.weaken (fun _ _ => trivial)
  have hr : va_Run p l e R s m args below meth c H locs 0 0 0 0 (F0 m pc lsA (List.map (enc x as) (av.reverse ++ rest))) (rest.map (enc x as)) ((va_Qv (fun M' => post M') (QcB D cA x as sh (va_A (wld cA x as sh M) H.size)) (va_A (wld cA x as sh M) H.size)) (av.map (enc x as)).toArray) (va_A (wld cA x as sh M) H.size) := va_runS (As := av.map (enc x as)) (rest := rest.map (enc x as)) ⟨hx, hb, hml, hown, hts⟩ (hC l D cA x as H.size) ⟨callB_of n hts hG rfl rfl rfl (hts _ hini) (hts _ hlk) ⟨hy1, hy2, hy3⟩ hroom, hts _ hm1⟩ ⟨PcB_blind, fun U hU hWm => ⟨rfl, by rw [hU], WP.moved hWm.alike (by rw [hU]; exact hWt), va_K.moved hWm.alike hK, NsOK.warm hWm hNs⟩⟩ rfl (by rw [List.length_map]; exact hn) hsz (rev_enc x as av rest) hrs hd ⟨Nat.zero_le _, Nat.zero_le _⟩
  refine va_callv hr hS (fun q _ h => hW.free hS hA q h) (hW.free hS hA) (fun u t H1 locs1 ht hvm hp hB hsz1 hk1 hS1 => ?_)
  subst ht
  exact k u hp t.heap locs1 lsA (WP.moved hvm.symm (hB.1.weaken (hW.free hS hA))) hS1 hl
theorem s_callVi (E : Cx v cc nL own d) {st : List Vv} {post : Int → Mm → Prop} {o : Int} {ci : Nat} {fs : List (Option (Option Int))} (hC : CtI y bytes maxL rt dd sh (rv o :: av) M post) (hd : decode cc pc = .ok (.invokevirtual idx, 3)) (hm : MfV y bytes maxL (some rt) n) (hlk : Cond.methodLink own idx y ∈ BIG) (hn : av.length = n) (hdd : dd + 1 ≤ d) (hrest : rest.length ≤ 8) (ho : 0 ≤ o) (hs : sh[o.toNat]? = some (.inl (ci, fs))) (hci : (vwCl[ci]?).map (fun q => q.1) = some y.cls)
    (hst : st = (av.reverse ++ rv o :: rest))
    (k : ∀ r M', post r M' → Ws v as sh 0 0 (pc + 3) ls (iv r :: rest) M') : Ws v as sh 0 0 pc ls st M := by
  subst hst
  obtain ⟨p, l, e, R, s, m, args, below, meth, c, Q, A, D, cA, x⟩ := v
  obtain ⟨hx, hb, hml, hown, hts, hK, hA, hfr, hlo, hNs⟩ := E
  intro H locs lsA hW hS hl
  obtain ⟨hm1, hini, hcode, ⟨hy1, hy2, hy3⟩, hmx⟩ := hm
  have hG := good_wsB hcode
  have hroom : (rmd dd).frames + 1 ≤ R.frames ∧ 8 + (maxL + 11) + (rmd dd).locals ≤ R.locals := ⟨Nat.le_trans hdd hfr, by show 8 + (maxL + 11) + 40 * dd ≤ R.locals; omega⟩
  have hsz : lsA.size = nL := hl.1.trans hml
  have hrs : 2 * (F0 m pc lsA (List.map (enc x as) (av.reverse ++ rv o :: rest))).monitorRoom + ((rest.map (enc x as)).map fun v => v.category).sum ≤ 8 := lv_room (by rw [cat_sum]; exact hrest)
  have hWt : WP D cA x as sh M (fun _ => True) s H := hW.weaken (fun _ _ => trivial)
  obtain ⟨q, hq1, hq2⟩ := Option.map_eq_some_iff.mp hci
  have hrecv : ∃ cell : Cell, H[adr x as o]? = some cell ∧ cell.vm.isStatics = false ∧ s.vm.findClass y.cls = some cell.cls := by rw [← hq2]; exact va_recv hK hW.2.1 hq1 (wld_at hW.1 ho hs)
  have hr : va_Run p l e R s m args below meth c H locs 0 0 0 0 (F0 m pc lsA (List.map (enc x as) (av.reverse ++ rv o :: rest))) (rest.map (enc x as)) ((va_Qi (fun r M' => ∃ z, r = Int32.ofInt z ∧ post z M') (QcB D cA x as sh (va_A (wld cA x as sh M) H.size)) (va_A (wld cA x as sh M) H.size)) (Value.ref (adr x as o) :: av.map (enc x as)).toArray) (va_A (wld cA x as sh M) H.size) := va_runV (As := av.map (enc x as)) (rest := rest.map (enc x as)) ⟨hx, hb, hml, hown, hts⟩ (hC l D cA x as H.size) ⟨callB_of n hts hG rfl rfl rfl (hts _ hini) (hts _ hlk) ⟨hy1, hy2, hy3⟩ hroom, hts _ hm1.1, hts _ hm1.2⟩ ⟨PcB_blind, hrecv, fun U hU hWm => ⟨rfl, by rw [hU], WP.moved hWm.alike (by rw [hU]; exact hWt), va_K.moved hWm.alike hK, NsOK.warm hWm hNs⟩⟩ rfl (by rw [List.length_map]; exact hn) hsz (by rw [List.map_append, List.map_reverse]; rfl) hrs hd ⟨Nat.zero_le _, Nat.zero_le _⟩
  refine va_calli hr hS (fun q _ h => hW.free hS hA q h) (hW.free hS hA) (fun r u t H1 locs1 ht hvm hp hB hsz1 hk1 hS1 => ?_)
  subst ht
  obtain ⟨z, rfl, hp⟩ := hp
  exact k z u hp t.heap locs1 lsA (WP.moved hvm.symm (hB.1.weaken (hW.free hS hA))) hS1 hl
theorem s_callVv (E : Cx v cc nL own d) {st : List Vv} {post : Mm → Prop} {o : Int} {ci : Nat} {fs : List (Option (Option Int))} (hC : CtV y bytes maxL dd sh (rv o :: av) M post) (hd : decode cc pc = .ok (.invokevirtual idx, 3)) (hm : MfV y bytes maxL none n) (hlk : Cond.methodLink own idx y ∈ BIG) (hn : av.length = n) (hdd : dd + 1 ≤ d) (hrest : rest.length ≤ 8) (ho : 0 ≤ o) (hs : sh[o.toNat]? = some (.inl (ci, fs))) (hci : (vwCl[ci]?).map (fun q => q.1) = some y.cls)
    (hst : st = (av.reverse ++ rv o :: rest))
    (k : ∀ M', post M' → Ws v as sh 0 0 (pc + 3) ls rest M') : Ws v as sh 0 0 pc ls st M := by
  subst hst
  obtain ⟨p, l, e, R, s, m, args, below, meth, c, Q, A, D, cA, x⟩ := v
  obtain ⟨hx, hb, hml, hown, hts, hK, hA, hfr, hlo, hNs⟩ := E
  intro H locs lsA hW hS hl
  obtain ⟨hm1, hini, hcode, ⟨hy1, hy2, hy3⟩, hmx⟩ := hm
  have hG := good_wsB hcode
  have hroom : (rmd dd).frames + 1 ≤ R.frames ∧ 8 + (maxL + 11) + (rmd dd).locals ≤ R.locals := ⟨Nat.le_trans hdd hfr, by show 8 + (maxL + 11) + 40 * dd ≤ R.locals; omega⟩
  have hsz : lsA.size = nL := hl.1.trans hml
  have hrs : 2 * (F0 m pc lsA (List.map (enc x as) (av.reverse ++ rv o :: rest))).monitorRoom + ((rest.map (enc x as)).map fun v => v.category).sum ≤ 8 := lv_room (by rw [cat_sum]; exact hrest)
  have hWt : WP D cA x as sh M (fun _ => True) s H := hW.weaken (fun _ _ => trivial)
  obtain ⟨q, hq1, hq2⟩ := Option.map_eq_some_iff.mp hci
  have hrecv : ∃ cell : Cell, H[adr x as o]? = some cell ∧ cell.vm.isStatics = false ∧ s.vm.findClass y.cls = some cell.cls := by rw [← hq2]; exact va_recv hK hW.2.1 hq1 (wld_at hW.1 ho hs)
  have hr : va_Run p l e R s m args below meth c H locs 0 0 0 0 (F0 m pc lsA (List.map (enc x as) (av.reverse ++ rv o :: rest))) (rest.map (enc x as)) ((va_Qv (fun M' => post M') (QcB D cA x as sh (va_A (wld cA x as sh M) H.size)) (va_A (wld cA x as sh M) H.size)) (Value.ref (adr x as o) :: av.map (enc x as)).toArray) (va_A (wld cA x as sh M) H.size) := va_runV (As := av.map (enc x as)) (rest := rest.map (enc x as)) ⟨hx, hb, hml, hown, hts⟩ (hC l D cA x as H.size) ⟨callB_of n hts hG rfl rfl rfl (hts _ hini) (hts _ hlk) ⟨hy1, hy2, hy3⟩ hroom, hts _ hm1.1, hts _ hm1.2⟩ ⟨PcB_blind, hrecv, fun U hU hWm => ⟨rfl, by rw [hU], WP.moved hWm.alike (by rw [hU]; exact hWt), va_K.moved hWm.alike hK, NsOK.warm hWm hNs⟩⟩ rfl (by rw [List.length_map]; exact hn) hsz (by rw [List.map_append, List.map_reverse]; rfl) hrs hd ⟨Nat.zero_le _, Nat.zero_le _⟩
  refine va_callv hr hS (fun q _ h => hW.free hS hA q h) (hW.free hS hA) (fun u t H1 locs1 ht hvm hp hB hsz1 hk1 hS1 => ?_)
  subst ht
  exact k u hp t.heap locs1 lsA (WP.moved hvm.symm (hB.1.weaken (hW.free hS hA))) hS1 hl
theorem s_callSNi (E : Cx v cc nL own d) {st : List Vv} {post : Int → Mm → Prop} (hC : CtI y bytes maxL rt dd sh av M post) (hd : decode cc pc = .ok (.invokestatic idx, 3)) (hm : MfS y bytes maxL (some rt) n) (hlk : Cond.methodLinkNest own idx y host ∈ lw_tbl) (hn : av.length = n) (hdd : dd + 1 ≤ d) (hrest : rest.length ≤ 8)
    (hst : st = (av.reverse ++ rest))
    (k : ∀ r M', post r M' → Ws v as sh 0 0 (pc + 3) ls (iv r :: rest) M') : Ws v as sh 0 0 pc ls st M := by
  subst hst
  obtain ⟨p, l, e, R, s, m, args, below, meth, c, Q, A, D, cA, x⟩ := v
  obtain ⟨hx, hb, hml, hown, hts, hK, hA, hfr, hlo, hNs⟩ := E
  intro H locs lsA hW hS hl
  obtain ⟨hm1, hini, hcode, ⟨hy1, hy2, hy3⟩, hmx⟩ := hm
  have hG := good_wsB hcode
  have hroom : (rmd dd).frames + 1 ≤ R.frames ∧ 8 + (maxL + 11) + (rmd dd).locals ≤ R.locals := ⟨Nat.le_trans hdd hfr, by show 8 + (maxL + 11) + 40 * dd ≤ R.locals; omega⟩
  have hsz : lsA.size = nL := hl.1.trans hml
  have hrs : 2 * (F0 m pc lsA (List.map (enc x as) (av.reverse ++ rest))).monitorRoom + ((rest.map (enc x as)).map fun v => v.category).sum ≤ 8 := lv_room (by rw [cat_sum]; exact hrest)
  have hWt : WP D cA x as sh M (fun _ => True) s H := hW.weaken (fun _ _ => trivial)
  have hr : va_Run p l e R s m args below meth c H locs 0 0 0 0 (F0 m pc lsA (List.map (enc x as) (av.reverse ++ rest))) (rest.map (enc x as)) ((va_Qi (fun r M' => ∃ z, r = Int32.ofInt z ∧ post z M') (QcB D cA x as sh (va_A (wld cA x as sh M) H.size)) (va_A (wld cA x as sh M) H.size)) (av.map (enc x as)).toArray) (va_A (wld cA x as sh M) H.size) := va_runSN (As := av.map (enc x as)) (rest := rest.map (enc x as)) ⟨hx, hb, hml, hown, hts⟩ (hC l D cA x as H.size) ⟨va_cnB n hts hG rfl rfl rfl (hNs _ _ _ _ hlk) (hts _ hini) ⟨hy1, hy2, hy3⟩ hroom, hts _ hm1, trivial⟩ ⟨PcB_blind, fun U hU hWm => ⟨rfl, by rw [hU], WP.moved hWm.alike (by rw [hU]; exact hWt), va_K.moved hWm.alike hK, NsOK.warm hWm hNs⟩⟩ rfl (by rw [List.length_map]; exact hn) hsz (rev_enc x as av rest) hrs hd ⟨Nat.zero_le _, Nat.zero_le _⟩
  refine va_calli hr hS (fun q _ h => hW.free hS hA q h) (hW.free hS hA) (fun r u t H1 locs1 ht hvm hp hB hsz1 hk1 hS1 => ?_)
  subst ht
  obtain ⟨z, rfl, hp⟩ := hp
  exact k z u hp t.heap locs1 lsA (WP.moved hvm.symm (hB.1.weaken (hW.free hS hA))) hS1 hl
theorem s_callSNv (E : Cx v cc nL own d) {st : List Vv} {post : Mm → Prop} (hC : CtV y bytes maxL dd sh av M post) (hd : decode cc pc = .ok (.invokestatic idx, 3)) (hm : MfS y bytes maxL none n) (hlk : Cond.methodLinkNest own idx y host ∈ lw_tbl) (hn : av.length = n) (hdd : dd + 1 ≤ d) (hrest : rest.length ≤ 8)
    (hst : st = (av.reverse ++ rest))
    (k : ∀ M', post M' → Ws v as sh 0 0 (pc + 3) ls rest M') : Ws v as sh 0 0 pc ls st M := by
  subst hst
  obtain ⟨p, l, e, R, s, m, args, below, meth, c, Q, A, D, cA, x⟩ := v
  obtain ⟨hx, hb, hml, hown, hts, hK, hA, hfr, hlo, hNs⟩ := E
  intro H locs lsA hW hS hl
  obtain ⟨hm1, hini, hcode, ⟨hy1, hy2, hy3⟩, hmx⟩ := hm
  have hG := good_wsB hcode
  have hroom : (rmd dd).frames + 1 ≤ R.frames ∧ 8 + (maxL + 11) + (rmd dd).locals ≤ R.locals := ⟨Nat.le_trans hdd hfr, by show 8 + (maxL + 11) + 40 * dd ≤ R.locals; omega⟩
  have hsz : lsA.size = nL := hl.1.trans hml
  have hrs : 2 * (F0 m pc lsA (List.map (enc x as) (av.reverse ++ rest))).monitorRoom + ((rest.map (enc x as)).map fun v => v.category).sum ≤ 8 := lv_room (by rw [cat_sum]; exact hrest)
  have hWt : WP D cA x as sh M (fun _ => True) s H := hW.weaken (fun _ _ => trivial)
  have hr : va_Run p l e R s m args below meth c H locs 0 0 0 0 (F0 m pc lsA (List.map (enc x as) (av.reverse ++ rest))) (rest.map (enc x as)) ((va_Qv (fun M' => post M') (QcB D cA x as sh (va_A (wld cA x as sh M) H.size)) (va_A (wld cA x as sh M) H.size)) (av.map (enc x as)).toArray) (va_A (wld cA x as sh M) H.size) := va_runSN (As := av.map (enc x as)) (rest := rest.map (enc x as)) ⟨hx, hb, hml, hown, hts⟩ (hC l D cA x as H.size) ⟨va_cnB n hts hG rfl rfl rfl (hNs _ _ _ _ hlk) (hts _ hini) ⟨hy1, hy2, hy3⟩ hroom, hts _ hm1, trivial⟩ ⟨PcB_blind, fun U hU hWm => ⟨rfl, by rw [hU], WP.moved hWm.alike (by rw [hU]; exact hWt), va_K.moved hWm.alike hK, NsOK.warm hWm hNs⟩⟩ rfl (by rw [List.length_map]; exact hn) hsz (rev_enc x as av rest) hrs hd ⟨Nat.zero_le _, Nat.zero_le _⟩
  refine va_callv hr hS (fun q _ h => hW.free hS hA q h) (hW.free hS hA) (fun u t H1 locs1 ht hvm hp hB hsz1 hk1 hS1 => ?_)
  subst ht
  exact k u hp t.heap locs1 lsA (WP.moved hvm.symm (hB.1.weaken (hW.free hS hA))) hS1 hl
theorem s_callVNi (E : Cx v cc nL own d) {st : List Vv} {post : Int → Mm → Prop} {o : Int} {ci : Nat} {fs : List (Option (Option Int))} (hC : CtI y bytes maxL rt dd sh (rv o :: av) M post) (hd : decode cc pc = .ok (.invokevirtual idx, 3)) (hm : MfV y bytes maxL (some rt) n) (hlk : Cond.methodLinkNest own idx y host ∈ lw_tbl) (hn : av.length = n) (hdd : dd + 1 ≤ d) (hrest : rest.length ≤ 8) (ho : 0 ≤ o) (hs : sh[o.toNat]? = some (.inl (ci, fs))) (hci : (vwCl[ci]?).map (fun q => q.1) = some y.cls)
    (hst : st = (av.reverse ++ rv o :: rest))
    (k : ∀ r M', post r M' → Ws v as sh 0 0 (pc + 3) ls (iv r :: rest) M') : Ws v as sh 0 0 pc ls st M := by
  subst hst
  obtain ⟨p, l, e, R, s, m, args, below, meth, c, Q, A, D, cA, x⟩ := v
  obtain ⟨hx, hb, hml, hown, hts, hK, hA, hfr, hlo, hNs⟩ := E
  intro H locs lsA hW hS hl
  obtain ⟨hm1, hini, hcode, ⟨hy1, hy2, hy3⟩, hmx⟩ := hm
  have hG := good_wsB hcode
  have hroom : (rmd dd).frames + 1 ≤ R.frames ∧ 8 + (maxL + 11) + (rmd dd).locals ≤ R.locals := ⟨Nat.le_trans hdd hfr, by show 8 + (maxL + 11) + 40 * dd ≤ R.locals; omega⟩
  have hsz : lsA.size = nL := hl.1.trans hml
  have hrs : 2 * (F0 m pc lsA (List.map (enc x as) (av.reverse ++ rv o :: rest))).monitorRoom + ((rest.map (enc x as)).map fun v => v.category).sum ≤ 8 := lv_room (by rw [cat_sum]; exact hrest)
  have hWt : WP D cA x as sh M (fun _ => True) s H := hW.weaken (fun _ _ => trivial)
  obtain ⟨q, hq1, hq2⟩ := Option.map_eq_some_iff.mp hci
  have hrecv : ∃ cell : Cell, H[adr x as o]? = some cell ∧ cell.vm.isStatics = false ∧ s.vm.findClass y.cls = some cell.cls := by rw [← hq2]; exact va_recv hK hW.2.1 hq1 (wld_at hW.1 ho hs)
  have hr : va_Run p l e R s m args below meth c H locs 0 0 0 0 (F0 m pc lsA (List.map (enc x as) (av.reverse ++ rv o :: rest))) (rest.map (enc x as)) ((va_Qi (fun r M' => ∃ z, r = Int32.ofInt z ∧ post z M') (QcB D cA x as sh (va_A (wld cA x as sh M) H.size)) (va_A (wld cA x as sh M) H.size)) (Value.ref (adr x as o) :: av.map (enc x as)).toArray) (va_A (wld cA x as sh M) H.size) := va_runVN (As := av.map (enc x as)) (rest := rest.map (enc x as)) ⟨hx, hb, hml, hown, hts⟩ (hC l D cA x as H.size) ⟨va_cnB n hts hG rfl rfl rfl (hNs _ _ _ _ hlk) (hts _ hini) ⟨hy1, hy2, hy3⟩ hroom, hts _ hm1.1, hts _ hm1.2⟩ ⟨PcB_blind, hrecv, fun U hU hWm => ⟨rfl, by rw [hU], WP.moved hWm.alike (by rw [hU]; exact hWt), va_K.moved hWm.alike hK, NsOK.warm hWm hNs⟩⟩ rfl (by rw [List.length_map]; exact hn) hsz (by rw [List.map_append, List.map_reverse]; rfl) hrs hd ⟨Nat.zero_le _, Nat.zero_le _⟩
  refine va_calli hr hS (fun q _ h => hW.free hS hA q h) (hW.free hS hA) (fun r u t H1 locs1 ht hvm hp hB hsz1 hk1 hS1 => ?_)
  subst ht
  obtain ⟨z, rfl, hp⟩ := hp
  exact k z u hp t.heap locs1 lsA (WP.moved hvm.symm (hB.1.weaken (hW.free hS hA))) hS1 hl
theorem s_callVNv (E : Cx v cc nL own d) {st : List Vv} {post : Mm → Prop} {o : Int} {ci : Nat} {fs : List (Option (Option Int))} (hC : CtV y bytes maxL dd sh (rv o :: av) M post) (hd : decode cc pc = .ok (.invokevirtual idx, 3)) (hm : MfV y bytes maxL none n) (hlk : Cond.methodLinkNest own idx y host ∈ lw_tbl) (hn : av.length = n) (hdd : dd + 1 ≤ d) (hrest : rest.length ≤ 8) (ho : 0 ≤ o) (hs : sh[o.toNat]? = some (.inl (ci, fs))) (hci : (vwCl[ci]?).map (fun q => q.1) = some y.cls)
    (hst : st = (av.reverse ++ rv o :: rest))
    (k : ∀ M', post M' → Ws v as sh 0 0 (pc + 3) ls rest M') : Ws v as sh 0 0 pc ls st M := by
  subst hst
  obtain ⟨p, l, e, R, s, m, args, below, meth, c, Q, A, D, cA, x⟩ := v
  obtain ⟨hx, hb, hml, hown, hts, hK, hA, hfr, hlo, hNs⟩ := E
  intro H locs lsA hW hS hl
  obtain ⟨hm1, hini, hcode, ⟨hy1, hy2, hy3⟩, hmx⟩ := hm
  have hG := good_wsB hcode
  have hroom : (rmd dd).frames + 1 ≤ R.frames ∧ 8 + (maxL + 11) + (rmd dd).locals ≤ R.locals := ⟨Nat.le_trans hdd hfr, by show 8 + (maxL + 11) + 40 * dd ≤ R.locals; omega⟩
  have hsz : lsA.size = nL := hl.1.trans hml
  have hrs : 2 * (F0 m pc lsA (List.map (enc x as) (av.reverse ++ rv o :: rest))).monitorRoom + ((rest.map (enc x as)).map fun v => v.category).sum ≤ 8 := lv_room (by rw [cat_sum]; exact hrest)
  have hWt : WP D cA x as sh M (fun _ => True) s H := hW.weaken (fun _ _ => trivial)
  obtain ⟨q, hq1, hq2⟩ := Option.map_eq_some_iff.mp hci
  have hrecv : ∃ cell : Cell, H[adr x as o]? = some cell ∧ cell.vm.isStatics = false ∧ s.vm.findClass y.cls = some cell.cls := by rw [← hq2]; exact va_recv hK hW.2.1 hq1 (wld_at hW.1 ho hs)
  have hr : va_Run p l e R s m args below meth c H locs 0 0 0 0 (F0 m pc lsA (List.map (enc x as) (av.reverse ++ rv o :: rest))) (rest.map (enc x as)) ((va_Qv (fun M' => post M') (QcB D cA x as sh (va_A (wld cA x as sh M) H.size)) (va_A (wld cA x as sh M) H.size)) (Value.ref (adr x as o) :: av.map (enc x as)).toArray) (va_A (wld cA x as sh M) H.size) := va_runVN (As := av.map (enc x as)) (rest := rest.map (enc x as)) ⟨hx, hb, hml, hown, hts⟩ (hC l D cA x as H.size) ⟨va_cnB n hts hG rfl rfl rfl (hNs _ _ _ _ hlk) (hts _ hini) ⟨hy1, hy2, hy3⟩ hroom, hts _ hm1.1, hts _ hm1.2⟩ ⟨PcB_blind, hrecv, fun U hU hWm => ⟨rfl, by rw [hU], WP.moved hWm.alike (by rw [hU]; exact hWt), va_K.moved hWm.alike hK, NsOK.warm hWm hNs⟩⟩ rfl (by rw [List.length_map]; exact hn) hsz (by rw [List.map_append, List.map_reverse]; rfl) hrs hd ⟨Nat.zero_le _, Nat.zero_le _⟩
  refine va_callv hr hS (fun q _ h => hW.free hS hA q h) (hW.free hS hA) (fun u t H1 locs1 ht hvm hp hB hsz1 hk1 hS1 => ?_)
  subst ht
  exact k u hp t.heap locs1 lsA (WP.moved hvm.symm (hB.1.weaken (hW.free hS hA))) hS1 hl
end CALLS
