/-! ===== calls from a frame that has made objects ===== -/
def RMk (mc ms : Nat) : Ev → Prop
  | (_, _, _, R, _, _, _, _, _, _, _, _, _, _, _) => mc ≤ R.cells ∧ ms ≤ R.slots
section CALLSM
variable {v : Ev} {cc : ByteArray} {nL d pc : Nat} {own host : String} {as : List Nat} {sh : List Sh} {ls : List (Option Vv)} {rest : List Vv} {M : Mm} {y : MethodName} {bytes : ByteArray} {maxL dd idx n : Nat} {rt : FieldType} {mc ms : Nat} {av : List Vv}

theorem s_callVim (E : Cx v cc nL own d) (hRM : RMk mc ms v) {st : List Vv} {post : Int → Mm → Prop} {o : Int} {ci : Nat} {fs : List (Option (Option Int))} (hC : CtI y bytes maxL rt dd sh (rv o :: av) M post) (hd : decode cc pc = .ok (.invokevirtual idx, 3)) (hm : MfV y bytes maxL (some rt) n) (hlk : Cond.methodLink own idx y ∈ BIG) (hn : av.length = n) (hdd : dd + 1 ≤ d) (hrest : rest.length ≤ 8) (ho : 0 ≤ o) (hs : sh[o.toNat]? = some (.inl (ci, fs))) (hci : (vwCl[ci]?).map (fun q => q.1) = some y.cls)
    (hst : st = (av.reverse ++ rv o :: rest))
    (k : ∀ r M', post r M' → Ws v as sh mc ms (pc + 3) ls (iv r :: rest) M') : Ws v as sh mc ms pc ls st M := by
  subst hst
  obtain ⟨p, l, e, R, s, m, args, below, meth, c, Q, A, D, cA, x⟩ := v
  obtain ⟨hx, hb, hml, hown, hts, hK, hA, hfr, hlo, hNs⟩ := E
  intro H locs lsA hW hS hl
  obtain ⟨hm1, hini, hcode, ⟨hy1, hy2, hy3⟩, hmx⟩ := hm
  have hG := good_wsB hcode
  have hroom : (rmd dd).frames + 1 ≤ R.frames ∧ 8 + (maxL + 11) + (rmd dd).locals ≤ R.locals := ⟨Nat.le_trans hdd hfr, by show 8 + (maxL + 11) + 40 * dd ≤ R.locals; omega⟩
  have hsz : lsA.size = nL := hl.1.trans hml
  have hrs : 2 * (F0 m pc lsA (List.map (enc x as) (av.reverse ++ rv o :: rest))).monitorRoom + ((rest.map (enc x as)).map fun v => v.category).sum ≤ 8 := lv_room (by rw [cat_sum]; exact hrest)
  have hWt : WP D cA x as sh M (fun _ => True) s H := hW.weaken (fun _ _ => trivial)
  obtain ⟨q, hq1, hq2⟩ := Option.map_eq_some_iff.mp hci
  have hrecv : ∃ cell : Cell, H[adr x as o]? = some cell ∧ cell.vm.isStatics = false ∧ s.vm.findClass y.cls = some cell.cls := by rw [← hq2]; exact va_recv hK hW.2.1 hq1 (wld_at hW.1 ho hs)
  have hr : va_Run p l e R s m args below meth c H locs mc ms 0 0 (F0 m pc lsA (List.map (enc x as) (av.reverse ++ rv o :: rest))) (rest.map (enc x as)) ((va_Qi (fun r M' => ∃ z, r = Int32.ofInt z ∧ post z M') (QcB D cA x as sh (va_A (wld cA x as sh M) H.size)) (va_A (wld cA x as sh M) H.size)) (Value.ref (adr x as o) :: av.map (enc x as)).toArray) (va_A (wld cA x as sh M) H.size) := va_runV (As := av.map (enc x as)) (rest := rest.map (enc x as)) ⟨hx, hb, hml, hown, hts⟩ (hC l D cA x as H.size) ⟨callB_of n hts hG rfl rfl rfl (hts _ hini) (hts _ hlk) ⟨hy1, hy2, hy3⟩ hroom, hts _ hm1.1, hts _ hm1.2⟩ ⟨PcB_blind, hrecv, fun U hU hWm => ⟨rfl, by rw [hU], WP.moved hWm.alike (by rw [hU]; exact hWt), va_K.moved hWm.alike hK, NsOK.warm hWm hNs⟩⟩ rfl (by rw [List.length_map]; exact hn) hsz (by rw [List.map_append, List.map_reverse]; rfl) hrs hd hRM
  refine va_calli hr hS (fun q _ h => hW.free hS hA q h) (hW.free hS hA) (fun r u t H1 locs1 ht hvm hp hB hsz1 hk1 hS1 => ?_)
  subst ht
  obtain ⟨z, rfl, hp⟩ := hp
  exact k z u hp t.heap locs1 lsA (WP.moved hvm.symm (hB.1.weaken (hW.free hS hA))) hS1 hl

theorem s_callVisym (E : Cx v cc nL own d) (hRM : RMk mc ms v) {st : List Vv} {post : Int → Mm → Prop} {o : Int} {ci : Nat} {fs : List (Option (Option Int))} {yy : Nat} (hSF : SFy yy v) (hpos : pos (rv o :: av)) (hC : CtIs y bytes maxL rt dd SH (rv o :: av) M post) (hd : decode cc pc = .ok (.invokevirtual idx, 3)) (hm : MfV y bytes maxL (some rt) n) (hlk : Cond.methodLink own idx y ∈ BIG) (hn : av.length = n) (hdd : dd + 1 ≤ d) (hrest : rest.length ≤ 8) (ho : 0 ≤ o) (hs : SH[o.toNat]? = some (.inl (ci, fs))) (hci : (vwCl[ci]?).map (fun q => q.1) = some y.cls)
    (hst : st = (av.reverse ++ rv o :: rest))
    (k : ∀ r M', post r M' → Ws v as SH mc ms (pc + 3) ls (iv r :: rest) M') : Ws v as SH mc ms pc ls st M := by
  subst hst
  obtain ⟨p, l, e, R, s, m, args, below, meth, c, Q, A, D, cA, x⟩ := v
  obtain ⟨hx, hb, hml, hown, hts, hK, hA, hfr, hlo, hNs⟩ := E
  intro H locs lsA hW hS hl
  obtain ⟨hm1, hini, hcode, ⟨hy1, hy2, hy3⟩, hmx⟩ := hm
  have hG := good_wsB hcode
  have hroom : (rmd dd).frames + 1 ≤ R.frames ∧ 8 + (maxL + 11) + (rmd dd).locals ≤ R.locals := ⟨Nat.le_trans hdd hfr, by show 8 + (maxL + 11) + 40 * dd ≤ R.locals; omega⟩
  have hsz : lsA.size = nL := hl.1.trans hml
  have hrs : 2 * (F0 m pc lsA (List.map (enc x as) (av.reverse ++ rv o :: rest))).monitorRoom + ((rest.map (enc x as)).map fun v => v.category).sum ≤ 8 := lv_room (by rw [cat_sum]; exact hrest)
  have hWt : WP D cA x as SH M (fun _ => True) s H := hW.weaken (fun _ _ => trivial)
  obtain ⟨q, hq1, hq2⟩ := Option.map_eq_some_iff.mp hci
  have hrecv : ∃ cell : Cell, H[adr x as o]? = some cell ∧ cell.vm.isStatics = false ∧ s.vm.findClass y.cls = some cell.cls := by rw [← hq2]; exact va_recv hK hW.2.1 hq1 (wld_at hW.1 ho hs)
  have hCy := hC l D cA yy as H.size
  rw [← wld_x (x := x) SH_ok, ← enc_x (x := x) hpos] at hCy
  have hr : va_Run p l e R s m args below meth c H locs mc ms 0 0 (F0 m pc lsA (List.map (enc x as) (av.reverse ++ rv o :: rest))) (rest.map (enc x as)) ((va_Qi (fun r M' => ∃ z, r = Int32.ofInt z ∧ post z M') (QcB D cA yy as SH (va_A (wld cA x as SH M) H.size)) (va_A (wld cA x as SH M) H.size)) (Value.ref (adr x as o) :: av.map (enc x as)).toArray) (va_A (wld cA x as SH M) H.size) := va_runV (As := av.map (enc x as)) (rest := rest.map (enc x as)) ⟨hx, hb, hml, hown, hts⟩ hCy ⟨callB_of n hts hG rfl rfl rfl (hts _ hini) (hts _ hlk) ⟨hy1, hy2, hy3⟩ hroom, hts _ hm1.1, hts _ hm1.2⟩ ⟨PcSy_blind, hrecv, fun U hU hWm => ⟨rfl, ⟨by rw [hU], WP.moved hWm.alike (by rw [hU]; exact WP_x hWt), va_K.moved hWm.alike hK, NsOK.warm hWm hNs⟩, by rw [hU]; exact va_Z.moved hWm.alike ((va_Z.kept hSF.1 hS.2.1).narrow (hW.free hS hA)), by rw [hU]; exact va_T.moved hWm.alike ((va_T.kept hSF.2 hS.2.1).narrow (hW.free hS hA))⟩⟩ rfl (by rw [List.length_map]; exact hn) hsz (by rw [List.map_append, List.map_reverse]; rfl) hrs hd hRM
  refine va_calli hr hS (fun q _ h => hW.free hS hA q h) (hW.free hS hA) (fun r u t H1 locs1 ht hvm hp hB hsz1 hk1 hS1 => ?_)
  subst ht
  obtain ⟨z, rfl, hp⟩ := hp
  exact k z u hp t.heap locs1 lsA (WP.moved hvm.symm ((WP_x (y := x) hB.1).weaken (hW.free hS hA))) hS1 hl


end CALLSM