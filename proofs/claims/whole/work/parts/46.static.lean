/-! ===== the static table of the class, and set ===== -/
def SFU (x : Nat) (A : Nat → Prop) (U : State) (H : Heap) : Prop := va_Z "SilentCouncil" "MOST_OF_SEAT" "[I" (.ref x) A U H ∧ va_T .int x 4 (fun j => .int (Int32.ofInt (mostF (j : Int)))) A U H
def SFv : Ev → Prop
  | (_, _, _, _, s, _, _, _, _, _, _, A, _, _, x) => SFU x A s s.heap
def CtIs (y : MethodName) (bytes : ByteArray) (maxL : Nat) (rt : FieldType) (d : Nat) (sh : List Sh) (av : List Vv) (M : Mm) (post : Int → Mm → Prop) : Prop :=
  ∀ (l : Launch) (D : va_G) (cA : Nat → ClassId) (x : Nat) (as : List Nat) (sz : Nat), Met l y (wsB y bytes maxL (some rt)) (rmd d) (va_Pc (av.map (enc x as)) (fun U => PcB D cA x as sh M sz U ∧ SFU x (va_A (wld cA x as sh M) sz) U U.heap))
    (va_Qi (fun r M' => ∃ z, r = Int32.ofInt z ∧ post z M') (QcB D cA x as sh (va_A (wld cA x as sh M) sz)) (va_A (wld cA x as sh M) sz)) 0 0 (va_A (wld cA x as sh M) sz)
theorem PcS_blind {D : va_G} {cA : Nat → ClassId} {x : Nat} {as : List Nat} {sh : List Sh} {M : Mm} {sz : Nat} {av : List Value} : FrameBlind (va_Pc av (fun U => PcB D cA x as sh M sz U ∧ SFU x (va_A (wld cA x as sh M) sz) U U.heap)) := by
  intro a U g mk q
  obtain ⟨q0, ⟨q1, qW, qK, qN⟩, qZ, qT⟩ := q
  exact ⟨q0, ⟨q1, WP.moved (u := U) (U := U.calling g mk a) (Vm.Alike.refl U.vm) qW, va_K.moved (u := U) (U := U.calling g mk a) (Vm.Alike.refl U.vm) qK, fun o i y h w => va_Nw.same rfl (u := U) (U := U.calling g mk a) rfl (qN o i y h w)⟩, va_Z.moved (u := U) (U := U.calling g mk a) (Vm.Alike.refl U.vm) qZ, va_T.moved (u := U) (U := U.calling g mk a) (Vm.Alike.refl U.vm) qT⟩

theorem CtIs.of {y : MethodName} {bytes : ByteArray} {maxL : Nat} {rt : FieldType} {d : Nat} {sh : List Sh} {av : List Vv} {M : Mm} {post : Int → Mm → Prop} (hy : plainName y.cls = true) (hav : av.length ≤ maxL) (hrt : rt = .int ∨ rt = .boolean)
    (body : ∀ (v : Ev) (as : List Nat), Cx v bytes maxL y.cls d → SFv v → (∀ r M', post r M' → (rt = .boolean → r = 0 ∨ r = 1) → ∀ pc ls, decode bytes pc = .ok (.ireturn, 1) → Ws v as sh 0 0 pc ls [iv r] M') → Ws v as sh 0 0 0 (av.map some ++ List.replicate (maxL - av.length) none) [] M) :
    CtIs y bytes maxL rt d sh av M post := by
  intro l D cA x as sz
  refine Met.ofW (cc := bytes) (maxL := maxL) (ret := some rt) hy rfl ?_
  intro p e s m args below meth c s₁ B hml hv
  obtain ⟨rfl, ⟨hsz, hWP, hK, hNs⟩, hSF⟩ := hv
  subst hsz
  have hts := atoms_spec (ws := wsB y bytes maxL (some rt)) B.pre
  have hown : s.vm.findClass y.cls = some m.cls := findClass_of_methodNamed B.named
  have hlocks := B.notSynchronized
  have hW : WP D cA x as sh M (va_A (wld cA x as sh M) s.heap.size) s s.heap := hWP.self
  have key := body (p, l, e, (headSpec (wsB y bytes maxL (some rt)) (rmd d)).room, s, m, (av.map (enc x as)).toArray, below, meth, c, MQ below (va_Qi (fun r M' => ∃ z, r = Int32.ofInt z ∧ post z M') (QcB D cA x as sh (va_A (wld cA x as sh M) s.heap.size)) (va_A (wld cA x as sh M) s.heap.size)) (av.map (enc x as)).toArray s 0 0 (va_A (wld cA x as sh M) s.heap.size), va_A (wld cA x as sh M) s.heap.size, D, cA, x) as
    ⟨B.exec, B.bytes, hml, hown, fun w hw => hts w (List.mem_cons_of_mem _ hw), hK, fun q h => Or.inr h, Nat.le_refl _, Nat.le_refl _, hNs⟩ hSF ?_
  · rw [lg_entry_eq]
    exact key s.heap [] _ hW va_S.rf (by rw [hml]; exact hasL.entry hav _ (by omega))
  · intro r M' hp hbool pc ls hd H locs lsA hW' hS hl
    have hn : narrow rt (.int (Int32.ofInt r)) = .int (Int32.ofInt r) := by
      rcases hrt with rfl | rfl
      · rfl
      · rcases hbool rfl with rfl | rfl <;> rfl
    exact W.zret B.exec B.bytes B.returns hn (fun t ht hWm => ⟨⟨Int32.ofInt r, M', rfl, ⟨r, rfl, hp⟩, ⟨by rw [ht]; exact WP.moved hWm.alike hW', va_K.moved hWm.alike hK⟩⟩, hS.F ht⟩) hS.2.2 hd

section CALLSS
variable {v : Ev} {cc : ByteArray} {nL d pc : Nat} {own host : String} {as : List Nat} {sh : List Sh} {ls : List (Option Vv)} {rest : List Vv} {M : Mm} {y : MethodName} {bytes : ByteArray} {maxL dd idx n : Nat} {rt : FieldType} {av : List Vv}

theorem s_callVis (E : Cx v cc nL own d) {st : List Vv} {post : Int → Mm → Prop} {o : Int} {ci : Nat} {fs : List (Option (Option Int))} (hSF : SFv v) (hC : CtIs y bytes maxL rt dd sh (rv o :: av) M post) (hd : decode cc pc = .ok (.invokevirtual idx, 3)) (hm : MfV y bytes maxL (some rt) n) (hlk : Cond.methodLink own idx y ∈ BIG) (hn : av.length = n) (hdd : dd + 1 ≤ d) (hrest : rest.length ≤ 8) (ho : 0 ≤ o) (hs : sh[o.toNat]? = some (.inl (ci, fs))) (hci : (vwCl[ci]?).map (fun q => q.1) = some y.cls)
    (hst : st = (av.reverse ++ rv o :: rest))
    (k : ∀ r M', post r M' → Ws v as sh 0 0 (pc + 3) ls (iv r :: rest) M') : Ws v as sh 0 0 pc ls st M := by
  subst hst
  obtain ⟨p, l, e, R, s, m, args, below, meth, c, Q, A, D, cA, x⟩ := v
  obtain ⟨hx, hb, hml, hown, hts, hK, hA, hfr, hlo, hNs⟩ := E
  intro H locs lsA hW hS hl
  obtain ⟨hm1, hini, hcode, ⟨hy1, hy2, hy3⟩, hmx⟩ := hm
  have hG := good_wsB hcode
  have hroom : (rmd dd).frames + 1 ≤ R.frames ∧ 8 + (maxL + 11) + (rmd dd).locals ≤ R.locals := ⟨Nat.le_trans hdd hfr, by show 8 + (maxL + 11) + 40 * dd ≤ R.locals; omega⟩
  have hsz : lsA.size = nL := hl.1.trans hml
  have hrs : 2 * (F0 m pc lsA (List.map (enc x as) (av.reverse ++ rv o :: rest))).monitorRoom + ((rest.map (enc x as)).map fun v => v.category).sum ≤ 8 := lv_room (by rw [cat_sum]; exact hrest)
  have hWt : WP D cA x as sh M (fun _ => True) s H := hW.weaken (fun _ _ => trivial)
  obtain ⟨q, hq1, hq2⟩ := Option.map_eq_some_iff.mp hci
  have hrecv : ∃ cell : Cell, H[adr x as o]? = some cell ∧ cell.vm.isStatics = false ∧ s.vm.findClass y.cls = some cell.cls := by rw [← hq2]; exact va_recv hK hW.2.1 hq1 (wld_at hW.1 ho hs)
  have hr : va_Run p l e R s m args below meth c H locs 0 0 0 0 (F0 m pc lsA (List.map (enc x as) (av.reverse ++ rv o :: rest))) (rest.map (enc x as)) ((va_Qi (fun r M' => ∃ z, r = Int32.ofInt z ∧ post z M') (QcB D cA x as sh (va_A (wld cA x as sh M) H.size)) (va_A (wld cA x as sh M) H.size)) (Value.ref (adr x as o) :: av.map (enc x as)).toArray) (va_A (wld cA x as sh M) H.size) := va_runV (As := av.map (enc x as)) (rest := rest.map (enc x as)) ⟨hx, hb, hml, hown, hts⟩ (hC l D cA x as H.size) ⟨callB_of n hts hG rfl rfl rfl (hts _ hini) (hts _ hlk) ⟨hy1, hy2, hy3⟩ hroom, hts _ hm1.1, hts _ hm1.2⟩ ⟨PcS_blind, hrecv, fun U hU hWm => ⟨rfl, ⟨by rw [hU], WP.moved hWm.alike (by rw [hU]; exact hWt), va_K.moved hWm.alike hK, NsOK.warm hWm hNs⟩, by rw [hU]; exact va_Z.moved hWm.alike ((va_Z.kept hSF.1 hS.2.1).narrow (hW.free hS hA)), by rw [hU]; exact va_T.moved hWm.alike ((va_T.kept hSF.2 hS.2.1).narrow (hW.free hS hA))⟩⟩ rfl (by rw [List.length_map]; exact hn) hsz (by rw [List.map_append, List.map_reverse]; rfl) hrs hd ⟨Nat.zero_le _, Nat.zero_le _⟩
  refine va_calli hr hS (fun q _ h => hW.free hS hA q h) (hW.free hS hA) (fun r u t H1 locs1 ht hvm hp hB hsz1 hk1 hS1 => ?_)
  subst ht
  obtain ⟨z, rfl, hp⟩ := hp
  exact k z u hp t.heap locs1 lsA (WP.moved hvm.symm (hB.1.weaken (hW.free hS hA))) hS1 hl

end CALLSS
section STAT
variable {v : Ev} {cc : ByteArray} {nL d pc : Nat} {own : String} {as : List Nat} {sh : List Sh} {ls : List (Option Vv)} {st : List Vv} {M : Mm} {mc ms : Nat}
theorem s_most (E : Cx v cc nL own d) (hSF : SFv v) {idx : Nat} (hd : decode cc pc = .ok (.getstatic idx, 3)) (hlink : Cond.fieldLink own idx "SilentCouncil" "MOST_OF_SEAT" "[I" ∈ BIG)
    (k : Ws v as sh mc ms (pc + 3) ls (rv (-1) :: st) M) : Ws v as sh mc ms pc ls st M := by
  obtain ⟨p, l, e, R, s, m, args, below, meth, c, Q, A, D, cA, x⟩ := v
  obtain ⟨hx, hb, hml, hown, hts, hK, hA, hfr, hlo, hNs⟩ := E
  intro H locs lsA hW hS hl
  exact va_gets hx hb hSF.1 hS hown (hts _ hlink) (fun _ h9 => h9) hd (k H locs lsA hW hS hl)
theorem s_mosti (E : Cx v cc nL own d) (hSF : SFv v) {j : Int} (hd : decode cc pc = .ok (.iaload, 1)) (hj : 0 ≤ j ∧ j < 4)
    (k : Ws v as sh mc ms (pc + 1) ls (iv (mostF j) :: st) M) : Ws v as sh mc ms pc ls (iv j :: rv (-1) :: st) M := by
  obtain ⟨p, l, e, R, s, m, args, below, meth, c, Q, A, D, cA, x⟩ := v
  obtain ⟨hx, hb, hml, hown, hts, hK, hA, hfr, hlo, hNs⟩ := E
  intro H locs lsA hW hS hl
  have hji : inI j := ⟨by omega, by omega⟩
  have h := k H locs lsA hW hS hl
  refine va_ti hx hb hSF.2 hS (i_in (n := 4) hji (by omega)) (v := .int (Int32.ofInt (mostF j))) ?_ hd h
  show Value.int (Int32.ofInt (mostF (((Int32.ofInt j).toNatClampNeg : Nat) : Int))) = _
  rw [i_nat hji, Int.toNat_of_nonneg hj.1]
end STAT
theorem fl_X7_63 : Cond.fieldLink RX7 63 "SilentCouncil" "MOST_OF_SEAT" "[I" ∈ BIG := big_at 265 (by decide +kernel) (by decide +kernel)

set_option maxRecDepth 100000 in
set_option maxHeartbeats 4000000 in
theorem c_X7_set (M : Mm) (k w z : Int) (hk : inI k) (hw : inI w) (hz : inI z) : CtIs yX7_set cX7_set 5 .int 2 SH [rv 0, iv k, iv w, iv z] M (fun r M' => r = (if 0 ≤ k ∧ k < 6 then (if (0 ≤ w ∧ w ≤ 3) ∧ 0 ≤ z ∧ z ≤ mostF w then M (3 + w) k else -2) else -1) ∧ M' = (if (0 ≤ k ∧ k < 6) ∧ (0 ≤ w ∧ w ≤ 3) ∧ 0 ≤ z ∧ z ≤ mostF w then upm M (3 + w) k z else M)) := by
  refine CtIs.of rfl (Nat.le_of_ble_eq_true rfl) (Or.inl rfl) (fun v as E hSF hret => ?_)
  show Ws v as SH 0 0 0 [some (rv 0), some (iv k), some (iv w), some (iv z), none] [] M
  refine s_iload_n E dX7_set_0 rfl ?_
  refine s_callSi E (c_X7_isOne _ _ (by omega)) dX7_set_1 mf_X7_isOne ml_X7_59 rfl (Nat.le_of_ble_eq_true rfl) (Nat.le_of_ble_eq_true rfl) rfl (fun r1 M1 h1 => ?_)
  obtain ⟨e1, f1⟩ := h1; subst r1; subst M1
  refine s_ifneB E 9 dX7_set_4 (by decide) (fun h4 => ?_) (fun h4 => ?_)
  · refine s_iload_n E dX7_set_9 rfl ?_
    refine s_if_lt E 31 dX7_set_10 (by decide) (by omega) (fun h10 => ?_) (fun h10 => ?_)
    · refine s_bipush E dX7_set_31 rfl ?_
      refine hret _ _ ?_ (fun q => by cases q) _ _ dX7_set_33
      exact ⟨by rw [if_pos (by omega), if_neg (by omega)], by rw [if_neg (by omega)]⟩
    · refine s_iload_n E dX7_set_13 rfl ?_
      refine s_iconst E dX7_set_14 ?_
      refine s_icmp_ge E 31 dX7_set_15 (by decide) (by omega) (by omega) (fun h15 => ?_) (fun h15 => ?_)
      · refine s_bipush E dX7_set_31 rfl ?_
        refine hret _ _ ?_ (fun q => by cases q) _ _ dX7_set_33
        exact ⟨by rw [if_pos (by omega), if_neg (by omega)], by rw [if_neg (by omega)]⟩
      · refine s_iload_n E dX7_set_18 rfl ?_
        refine s_if_lt E 31 dX7_set_19 (by decide) (by omega) (fun h19 => ?_) (fun h19 => ?_)
        · refine s_bipush E dX7_set_31 rfl ?_
          refine hret _ _ ?_ (fun q => by cases q) _ _ dX7_set_33
          exact ⟨by rw [if_pos (by omega), if_neg (by omega)], by rw [if_neg (by omega)]⟩
        · refine s_iload_n E dX7_set_22 rfl ?_
          refine s_most E hSF dX7_set_23 fl_X7_63 ?_
          refine s_iload_n E dX7_set_26 rfl ?_
          refine s_mosti E hSF dX7_set_27 (by omega) ?_
          have hmo : 0 ≤ mostF w ∧ mostF w ≤ 999 := by unfold mostF; (repeat' split) <;> omega
          refine s_icmp_le E 34 dX7_set_28 (by decide) (by omega) (by omega) (fun h28 => ?_) (fun h28 => ?_)
          · refine s_aload_n E dX7_set_34 rfl ?_
            refine s_getR (kf := 0) E dX7_set_35 rfl inb_X7 (Nat.le_of_ble_eq_true rfl) fl_X7_10 (by decide) sh0 rfl ?_
            refine s_getR (kf := 0) E dX7_set_38 rfl inb_X2 (Nat.le_of_ble_eq_true rfl) fl_X7_67 (by decide) sh1 rfl ?_
            refine s_iload_n E dX7_set_41 rfl ?_
            refine s_aaldR (r0 := 3) (n := 4) E dX7_set_42 (by decide) sh2 (Nat.le_of_ble_eq_true rfl) (by omega) ?_
            refine s_iload_n E dX7_set_43 rfl ?_
            refine s_iald E dX7_set_44 (by omega) (shr2 (by omega)) (Nat.le_of_ble_eq_true rfl) (by omega) ?_
            refine s_istore (ls' := [_, _, _, _, _]) E dX7_set_45 (Nat.le_of_ble_eq_true rfl) rfl ?_
            refine s_aload_n E dX7_set_47 rfl ?_
            refine s_getR (kf := 0) E dX7_set_48 rfl inb_X7 (Nat.le_of_ble_eq_true rfl) fl_X7_10 (by decide) sh0 rfl ?_
            refine s_getR (kf := 0) E dX7_set_51 rfl inb_X2 (Nat.le_of_ble_eq_true rfl) fl_X7_67 (by decide) sh1 rfl ?_
            refine s_iload_n E dX7_set_54 rfl ?_
            refine s_aaldR (r0 := 3) (n := 4) E dX7_set_55 (by decide) sh2 (Nat.le_of_ble_eq_true rfl) (by omega) ?_
            refine s_iload_n E dX7_set_56 rfl ?_
            refine s_iload_n E dX7_set_57 rfl ?_
            refine s_iast E dX7_set_58 (by omega) (shr2 (by omega)) (Nat.le_of_ble_eq_true rfl) (by omega) ?_
            refine s_iload E dX7_set_59 rfl ?_
            refine hret _ _ ?_ (fun q => by cases q) _ _ dX7_set_61
            exact ⟨by rw [if_pos (by omega), if_pos (by omega)], by rw [if_pos (by omega)]⟩
          · refine s_bipush E dX7_set_31 rfl ?_
            refine hret _ _ ?_ (fun q => by cases q) _ _ dX7_set_33
            exact ⟨by rw [if_pos (by omega), if_neg (by omega)], by rw [if_neg (by omega)]⟩
  · refine s_iconst E dX7_set_7 ?_
    refine hret _ _ ?_ (fun q => by cases q) _ _ dX7_set_8
    exact ⟨by rw [if_neg (by omega)], by rw [if_neg (by omega)]⟩