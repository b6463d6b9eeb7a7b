/-! ===== THE LAYER: memory as a function, one world for every method, contracts over it ===== -/
abbrev Vv : Type := Int ⊕ Int
abbrev Mm : Type := Int → Int → Int
abbrev Sh : Type := (Nat × List (Option (Option Int))) ⊕ (Nat × Nat × List (Option Int))
abbrev iv (z : Int) : Vv := Sum.inl z
abbrev rv (k : Int) : Vv := Sum.inr k
abbrev inI (z : Int) : Prop := -2147483648 ≤ z ∧ z ≤ 2147483647
def upm (M : Mm) (a b v : Int) : Mm := fun k j => if k = a ∧ j = b then v else M k j
theorem upm_eq (M : Mm) (a b v : Int) : upm M a b v a b = v := if_pos ⟨rfl, rfl⟩
theorem upm_ne {M : Mm} {a b v k j : Int} (h : k ≠ a ∨ j ≠ b) : upm M a b v k j = M k j := if_neg (fun q => h.elim (fun z => z q.1) (fun z => z q.2))
theorem upm_row {M : Mm} {a b v k : Int} (h : k ≠ a) : upm M a b v k = M k := funext fun _ => upm_ne (Or.inl h)
def adr (x : Nat) (as : List Nat) (k : Int) : Nat := if k < 0 then x else as.getD k.toNat 0
def enc (x : Nat) (as : List Nat) : Vv → Value
  | .inl z => .int (Int32.ofInt z)
  | .inr k => .ref (adr x as k)
def fval (x : Nat) (as : List Nat) (M : Mm) (k : Int) (j : Nat) : Option (Option Int) → Value
  | none => .int (Int32.ofInt (M k j))
  | some none => .null
  | some (some r) => .ref (adr x as r)
def ecell (cA : Nat → ClassId) (x : Nat) (as : List Nat) (M : Mm) (k : Int) : Sh → va_E
  | .inl (ci, fs) => .inr (ci, fs.mapIdx (fun j f => fval x as M k j f))
  | .inr (kd, n, es) => .inl (cA kd, n, if kd ≤ 1 then .inl (fun j => Int32.ofInt (M k j)) else .inr (.inr (.inr (.inr (fun j => (es.getD j none).map (adr x as))))))
def wld (cA : Nat → ClassId) (x : Nat) (as : List Nat) (sh : List Sh) (M : Mm) : va_W := (as.zip sh).mapIdx (fun k p => (p.1, ecell cA x as M (k : Int) p.2))
def tyK (kd : Nat) : FieldType := match kd with
  | 0 => .int
  | 1 => .boolean
  | 2 => .array .int
  | _ => .object "SilentCouncil$Kept"
def kndOK (cA : Nat → ClassId) (sh : List Sh) (s : State) : Prop := ∀ kd n es, (Sum.inr (kd, n, es) : Sh) ∈ sh → ArrOfT s (cA kd) (tyK kd) ∧ va_RA s (cA kd) (tyK kd)
def WP (D : va_G) (cA : Nat → ClassId) (x : Nat) (as : List Nat) (sh : List Sh) (M : Mm) (A : Nat → Prop) (s : State) (H : Heap) : Prop :=
  as.length = sh.length ∧ va_P D vwCl (wld cA x as sh M) H ∧ va_D A (wld cA x as sh M) ∧ kndOK cA sh s
def hasL (x : Nat) (as : List Nat) (lsA : Array Slot) (nL : Nat) (ls : List (Option Vv)) : Prop :=
  lsA.size = nL ∧ lv_wf lsA ∧ ls.length ≤ nL ∧ ∀ (i : Nat) (v : Vv), ls[i]? = some (some v) → lsA[i]? = some (Slot.val (enc x as v))
def BIG : List Cond := lw_tbl.filter goodWord
def NsOK (U : State) : Prop := ∀ (o : String) (i : Nat) (y : MethodName) (h : String), Cond.methodLinkNest o i y h ∈ lw_tbl → va_Nw (.methodLinkNest o i y h) U
theorem NsOK.warm {s U : State} (hW : s.WarmedH U.vm) (h : NsOK s) : NsOK U := fun o i y hh q => va_Nw.warmM hW (h o i y hh q)
abbrev Ev : Type := Program × Launch × Env × Room × State × MethodId × Array Value × List Frame × Method × Code × (State → Prop) × (Nat → Prop) × va_G × (Nat → ClassId) × Nat
def Ws (v : Ev) (as : List Nat) (sh : List Sh) (mc ms : Nat) (pc : Nat) (ls : List (Option Vv)) (st : List Vv) (M : Mm) : Prop :=
  match v with
  | (p, l, e, R, s, m, args, below, meth, c, Q, A, D, cA, x) =>
    ∀ (H : Heap) (locs : List Loc) (lsA : Array Slot), WP D cA x as sh M A s H → va_S A s.heap H locs → hasL x as lsA c.maxLocals ls →
      W p l e R s m args below meth c H locs mc ms Q (F0 m pc lsA (st.map (enc x as)))
def Cx (v : Ev) (cc : ByteArray) (nL : Nat) (own : String) (d : Nat) : Prop :=
  match v with
  | (p, _, _, R, s, m, args, _, _, c, _, A, D, _, _) =>
    p.tables.exec = Jvm.exec ∧ c.code = cc ∧ c.maxLocals = nL ∧ s.vm.findClass own = some m.cls ∧ (∀ w ∈ BIG, w.before args s = true) ∧ va_K D vwCl [] s ∧ (∀ q : Nat, s.heap.size ≤ q → A q) ∧ d ≤ R.frames ∧ 40 * d ≤ R.locals ∧ NsOK s
-- ints
theorem i_toInt {z : Int} (h : inI z) : (Int32.ofInt z).toInt = z := Int32.toInt_ofInt_of_le (by have := h.1; omega) (by have := h.2; omega)
theorem i_lt {x y : Int} (hx : inI x) (hy : inI y) : Int32.ofInt x < Int32.ofInt y ↔ x < y := by rw [Int32.lt_iff_toInt_lt, i_toInt hx, i_toInt hy]
theorem i_le {x y : Int} (hx : inI x) (hy : inI y) : Int32.ofInt x ≤ Int32.ofInt y ↔ x ≤ y := by rw [Int32.le_iff_toInt_le, i_toInt hx, i_toInt hy]
theorem i_eq {x y : Int} (hx : inI x) (hy : inI y) : Int32.ofInt x = Int32.ofInt y ↔ x = y := by rw [← Int32.toInt_inj, i_toInt hx, i_toInt hy]
theorem i_nat {z : Int} (h : inI z) : (Int32.ofInt z).toNatClampNeg = z.toNat := Int32.toNatClampNeg_ofInt_of_le (by have := h.1; omega) (by have := h.2; omega)
theorem i_0 : Int32.ofInt 0 = 0 := by decide
theorem inI0 : inI 0 := by decide
theorem i_lt0 {x : Int} (hx : inI x) : Int32.ofInt x < 0 ↔ x < 0 := by rw [← i_0, i_lt hx inI0]
theorem i_eq0 {x : Int} (hx : inI x) : Int32.ofInt x = 0 ↔ x = 0 := by rw [← i_0, i_eq hx inI0]
theorem i_le0 {x : Int} (hx : inI x) : Int32.ofInt x ≤ 0 ↔ x ≤ 0 := by rw [← i_0, i_le hx inI0]
theorem i_ge0 {x : Int} (hx : inI x) : 0 ≤ Int32.ofInt x ↔ 0 ≤ x := by rw [← i_0, i_le inI0 hx]
theorem i_gt0 {x : Int} (hx : inI x) : 0 < Int32.ofInt x ↔ 0 < x := by rw [← i_0, i_lt inI0 hx]
theorem i_in {x : Int} {n : Nat} (hx : inI x) (h : 0 ≤ x ∧ x < n) : vp_in (Int32.ofInt x) n := by
  unfold vp_in
  rw [i_lt0 hx, i_nat hx]
  omega
def iAnd (x y : Int) : Int := (Int32.ofInt x &&& Int32.ofInt y).toInt
def iOr (x y : Int) : Int := (Int32.ofInt x ||| Int32.ofInt y).toInt
def iXor (x y : Int) : Int := (Int32.ofInt x ^^^ Int32.ofInt y).toInt
def iShl (x y : Int) : Int := (Int32.ofInt x <<< (Int32.ofInt y &&& 31)).toInt
def iShr (x y : Int) : Int := (Int32.ofInt x >>> (Int32.ofInt y &&& 31)).toInt
theorem inI_toInt (x : Int32) : inI x.toInt := ⟨Int32.le_toInt x, by have := Int32.toInt_lt x; omega⟩
theorem inI_and (x y : Int) : inI (iAnd x y) := inI_toInt _
theorem inI_or (x y : Int) : inI (iOr x y) := inI_toInt _
theorem inI_xor (x y : Int) : inI (iXor x y) := inI_toInt _
theorem inI_shl (x y : Int) : inI (iShl x y) := inI_toInt _
theorem inI_shr (x y : Int) : inI (iShr x y) := inI_toInt _
-- the world's cells
theorem wld_get {cA : Nat → ClassId} {x : Nat} {as : List Nat} {sh : List Sh} {M : Mm} (hl : as.length = sh.length) {k : Nat} {S : Sh} (h : sh[k]? = some S) : (wld cA x as sh M)[k]? = some (as.getD k 0, ecell cA x as M (k : Int) S) := by
  have hk : k < sh.length := (List.getElem?_eq_some_iff.mp h).1
  have hk2 : k < as.length := by omega
  unfold wld
  have hz : (as.zip sh)[k]? = some (as[k], S) := List.getElem?_zip_eq_some.mpr ⟨List.getElem?_eq_getElem hk2, h⟩
  rw [List.getElem?_mapIdx, hz]
  simp [List.getD, hk2]
theorem adr_nat {x : Nat} {as : List Nat} {k : Int} (h : 0 ≤ k) : adr x as k = as.getD k.toNat 0 := if_neg (by omega)
theorem wld_at {cA : Nat → ClassId} {x : Nat} {as : List Nat} {sh : List Sh} {M : Mm} (hl : as.length = sh.length) {k : Int} (hk : 0 ≤ k) {S : Sh} (h : sh[k.toNat]? = some S) : (wld cA x as sh M)[k.toNat]? = some (adr x as k, ecell cA x as M k S) := by
  rw [adr_nat hk, wld_get hl h, Int.toNat_of_nonneg hk]
theorem ecell_ne {cA : Nat → ClassId} {x : Nat} {as : List Nat} {M M' : Mm} {k : Int} {S : Sh} (hr : M' k = M k) : ecell cA x as M' k S = ecell cA x as M k S := by
  rcases S with ⟨ci, fs⟩ | ⟨kd, n, es⟩
  · simp only [ecell]
    have : (fun j f => fval x as M' k j f) = (fun j f => fval x as M k j f) := by
      funext j f
      rcases f with _ | _ | r <;> simp [fval, hr]
    rw [this]
  · simp only [ecell, hr]
theorem wld_set' {cA : Nat → ClassId} {x : Nat} {as : List Nat} {sh : List Sh} {M M' : Mm} (hl : as.length = sh.length) {k : Int} (hk : 0 ≤ k) {S : Sh} (h : sh[k.toNat]? = some S) (hne : ∀ i : Int, i ≠ k → M' i = M i) :
    (wld cA x as sh M).set k.toNat (adr x as k, ecell cA x as M' k S) = wld cA x as sh M' := by
  apply List.ext_getElem?
  intro i
  by_cases hi : i = k.toNat
  · subst hi
    rw [List.getElem?_set_self (List.getElem?_eq_some_iff.mp (wld_at (M := M) (cA := cA) (x := x) hl hk h)).1, wld_at hl hk h]
  · rw [List.getElem?_set_ne (Ne.symm hi)]
    unfold wld
    rw [List.getElem?_mapIdx, List.getElem?_mapIdx]
    cases (as.zip sh)[i]? with
    | none => rfl
    | some q =>
      have : ((i : Nat) : Int) ≠ k := by omega
      simp [ecell_ne (hne _ this)]
theorem wld_set {cA : Nat → ClassId} {x : Nat} {as : List Nat} {sh : List Sh} {M : Mm} (hl : as.length = sh.length) {k b v : Int} (hk : 0 ≤ k) {S : Sh} (h : sh[k.toNat]? = some S) :
    (wld cA x as sh M).set k.toNat (adr x as k, ecell cA x as (upm M k b v) k S) = wld cA x as sh (upm M k b v) := wld_set' hl hk h (fun _ hi => upm_row hi)
theorem upd_upm {M : Mm} {o j z : Int} (hj : 0 ≤ j) : upd (fun q : Nat => Int32.ofInt (M o q)) j.toNat (Int32.ofInt z) = fun q : Nat => Int32.ofInt (upm M o j z o q) := by
  funext q
  by_cases hq : q = j.toNat
  · subst hq
    rw [Int.toNat_of_nonneg hj, upm_eq]
    simp [upd]
  · have : ((q : Nat) : Int) ≠ j := by omega
    rw [upm_ne (Or.inr this)]
    simp [upd, hq]
def cp0 (M : Mm) (src dst n : Int) : Mm := fun k j => if k = dst ∧ 0 ≤ j ∧ j < n then M src j else M k j
theorem cp0_row {M : Mm} {src dst n k : Int} (h : k ≠ dst) : cp0 M src dst n k = M k := funext fun _ => if_neg (fun q => h q.1)
theorem cp0_in {M : Mm} {src dst n j : Int} (h : 0 ≤ j ∧ j < n) : cp0 M src dst n dst j = M src j := if_pos ⟨rfl, h⟩
theorem cp0_out {M : Mm} {src dst n k j : Int} (h : ¬ (0 ≤ j ∧ j < n)) : cp0 M src dst n k j = M k j := if_neg (fun q => h q.2)
theorem i_div {a b : Int} (ha : 0 ≤ a ∧ a ≤ 2147483647) (hb : 0 < b ∧ b ≤ 2147483647) : Int32.ofInt (a / b) = Int32.ofInt a / Int32.ofInt b := by
  rw [← Int32.toInt_inj]
  have hia : inI a := ⟨by omega, ha.2⟩
  have hib : inI b := ⟨by omega, hb.2⟩
  have hq : 0 ≤ a / b := Int.ediv_nonneg ha.1 (by omega)
  have hq2 : a / b ≤ a := Int.ediv_le_self b ha.1
  rw [Int32.toInt_div_of_ne_right _ _ (by
    intro h
    have := congrArg Int32.toInt h
    rw [i_toInt hib] at this
    have h2 : (-1 : Int32).toInt = -1 := by decide
    omega), i_toInt hia, i_toInt hib, i_toInt ⟨by omega, by omega⟩, Int.tdiv_eq_ediv_of_nonneg ha.1]
theorem i_max {a b : Int} (ha : inI a) (hb : inI b) : (if Int32.ofInt a < Int32.ofInt b then Int32.ofInt b else Int32.ofInt a) = Int32.ofInt (max a b) := by
  by_cases h : a < b
  · rw [if_pos ((i_lt ha hb).mpr h), Int.max_eq_right (by omega)]
  · rw [if_neg (fun q => h ((i_lt ha hb).mp q)), Int.max_eq_left (by omega)]
theorem i_min {a b : Int} (ha : inI a) (hb : inI b) : (if Int32.ofInt b < Int32.ofInt a then Int32.ofInt b else Int32.ofInt a) = Int32.ofInt (min a b) := by
  by_cases h : b < a
  · rw [if_pos ((i_lt hb ha).mpr h), Int.min_eq_right (by omega)]
  · rw [if_neg (fun q => h ((i_lt hb ha).mp q)), Int.min_eq_left (by omega)]
theorem enc_cat (x : Nat) (as : List Nat) (v : Vv) : (enc x as v).category = 1 := by cases v <;> rfl
theorem cat_sum (x : Nat) (as : List Nat) (st : List Vv) : ((st.map (enc x as)).map fun v => v.category).sum = st.length := by
  induction st with
  | nil => rfl
  | cons v t ih =>
    rw [List.map_cons, List.map_cons, List.sum_cons, ih, enc_cat, List.length_cons, Nat.add_comm]
theorem WP.moved {D : va_G} {cA : Nat → ClassId} {x : Nat} {as : List Nat} {sh : List Sh} {M : Mm} {A : Nat → Prop} {u U : State} {H : Heap} (hvm : u.vm.Alike U.vm) (h : WP D cA x as sh M A u H) : WP D cA x as sh M A U H :=
  ⟨h.1, h.2.1, h.2.2.1, fun kd n es q => ⟨arrOfT_moved hvm (h.2.2.2 kd n es q).1, (h.2.2.2 kd n es q).2.moved hvm⟩⟩
theorem WP.tys {D : va_G} {cA : Nat → ClassId} {x : Nat} {as : List Nat} {sh : List Sh} {M : Mm} {A : Nat → Prop} {s : State} {H : Heap} (h : WP D cA x as sh M A s H) (hK : va_K D vwCl [] s) {kd n k : Nat} {es : List (Option Int)} (hs : sh[k]? = some (.inr (kd, n, es))) : va_K D vwCl [(cA kd, tyK kd)] s :=
  ⟨hK.1, fun j q hj => by
    have h0 : j < 1 := (List.getElem?_eq_some_iff.mp hj).1
    rw [show j = 0 by omega] at hj
    cases hj
    exact h.2.2.2 kd n es (List.mem_of_getElem? hs)⟩
-- the locals
def encL (x : Nat) (as : List Nat) (ls : List (Option Vv)) : List (Nat × Value) := ls.zipIdx.filterMap (fun q => q.1.map (fun v => (q.2, enc x as v)))
theorem mem_encL {x : Nat} {as : List Nat} {ls : List (Option Vv)} {i : Nat} {v : Vv} (h : ls[i]? = some (some v)) : (i, enc x as v) ∈ encL x as ls := by
  refine List.mem_filterMap.mpr ⟨(some v, i), ?_, rfl⟩
  exact List.mem_zipIdx_iff_getElem?.mpr h
theorem encL_mem {x : Nat} {as : List Nat} {ls : List (Option Vv)} {i : Nat} {w : Value} (h : (i, w) ∈ encL x as ls) : ∃ v, ls[i]? = some (some v) ∧ w = enc x as v := by
  obtain ⟨⟨o, j⟩, h1, h2⟩ := List.mem_filterMap.mp h
  have h3 := List.mem_zipIdx_iff_getElem?.mp h1
  cases o with
  | none => cases h2
  | some v =>
    cases h2
    exact ⟨v, h3, rfl⟩
theorem hasL.lv {x : Nat} {as : List Nat} {lsA : Array Slot} {nL : Nat} {ls : List (Option Vv)} (h : hasL x as lsA nL ls) : lv_has lsA nL (encL x as ls) :=
  ⟨h.1, h.2.1, fun q hq => by
    obtain ⟨i, w⟩ := q
    obtain ⟨v, h1, rfl⟩ := encL_mem hq
    exact h.2.2.2 i v h1⟩
theorem hasL.set {x : Nat} {as : List Nat} {lsA lsB : Array Slot} {nL : Nat} {ls : List (Option Vv)} {i : Nat} {v : Vv} (hA : hasL x as lsA nL ls) (hi : i < ls.length)
    (h : lv_has lsB nL ((i, enc x as v) :: (encL x as ls).filter (fun q => !(q.1 == i) && !(q.1 + 1 == i && q.2.category == 2)))) : hasL x as lsB nL (ls.set i (some v)) := by
  refine ⟨h.1, h.2.1, by rw [List.length_set]; exact hA.2.2.1, fun j w hj => ?_⟩
  by_cases hji : j = i
  · subst hji
    rw [List.getElem?_set_self hi] at hj
    cases hj
    exact h.2.2 (j, enc x as v) List.mem_cons_self
  · rw [List.getElem?_set_ne (Ne.symm hji)] at hj
    refine h.2.2 (j, enc x as w) (List.mem_cons_of_mem _ (List.mem_filter.mpr ⟨mem_encL hj, ?_⟩))
    simp [hji, enc_cat]
theorem hasL.sub {x : Nat} {as : List Nat} {lsA : Array Slot} {nL : Nat} {ls ls' : List (Option Vv)} (h : hasL x as lsA nL ls) (hn : ls'.length ≤ ls.length) (hs : ∀ (i : Nat) (v : Vv), ls'[i]? = some (some v) → ls[i]? = some (some v)) : hasL x as lsA nL ls' := ⟨h.1, h.2.1, Nat.le_trans hn h.2.2.1, fun i v q => h.2.2.2 i v (hs i v q)⟩
theorem hasL.entry {x : Nat} {as : List Nat} {av : List Vv} {nL : Nat} (h : av.length ≤ nL) (k : Nat) (hk : av.length + k ≤ nL) : hasL x as (lg_sl (av.map (enc x as)) ++ List.replicate (nL - (lg_sl (av.map (enc x as))).length) Slot.unset).toArray nL (av.map some ++ List.replicate k none) := by
  have hsl : ∀ av : List Vv, lg_sl (av.map (enc x as)) = av.map (fun v => Slot.val (enc x as v)) := by
    intro av
    induction av with
    | nil => rfl
    | cons v t ih =>
      have : lg_sl ((v :: t).map (enc x as)) = [Slot.val (enc x as v)] ++ lg_sl (t.map (enc x as)) := by
        simp [lg_sl, enc_cat]
      rw [this, ih]
      rfl
  have hg := lv_entry (av.map (enc x as)) (n := nL) (by rw [hsl]; simpa using h)
  refine ⟨hg.1, hg.2.1, by simpa using hk, fun i v hi => ?_⟩
  have hil : i < av.length := by
    rcases Nat.lt_or_ge i av.length with q | q
    · exact q
    · rw [List.getElem?_append_right (by simpa using q)] at hi
      have := List.mem_of_getElem? hi
      simp at this
  rw [List.getElem?_append_left (by simpa using hil), List.getElem?_map] at hi
  have hv : av[i]? = some v := by
    cases ha : av[i]? with
    | none => rw [ha] at hi; cases hi
    | some w => rw [ha] at hi; simpa using hi
  rw [hsl, List.getElem?_toArray, List.getElem?_append_left (by simpa using hil), List.getElem?_map, hv]
  rfl
theorem big_at (i : Nat) {w : Cond} (h : lw_tbl[i]? = some w) (g : goodWord w = true) : w ∈ BIG := List.mem_filter.mpr ⟨List.mem_of_getElem? h, g⟩
def MfS (y : MethodName) (bytes : ByteArray) (maxL : Nat) (rt : Option FieldType) (n : Nat) : Prop := Cond.static y ∈ BIG ∧ Cond.initialized y.cls ∈ BIG ∧ Cond.code y bytes maxL rt ∈ BIG ∧ (y.cls ≠ "java/lang/invoke/MethodHandle" ∧ y.cls ≠ "java/lang/invoke/VarHandle" ∧ (parseMethodDescriptor y.desc).map (fun d => d.parameters.length) = some n) ∧ maxL ≤ 21
def MfV (y : MethodName) (bytes : ByteArray) (maxL : Nat) (rt : Option FieldType) (n : Nat) : Prop := (Cond.instanceMethod y ∈ BIG ∧ Cond.selects y.cls y y ∈ BIG) ∧ Cond.initialized y.cls ∈ BIG ∧ Cond.code y bytes maxL rt ∈ BIG ∧ (y.cls ≠ "java/lang/invoke/MethodHandle" ∧ y.cls ≠ "java/lang/invoke/VarHandle" ∧ (parseMethodDescriptor y.desc).map (fun d => d.parameters.length) = some n) ∧ maxL ≤ 21
