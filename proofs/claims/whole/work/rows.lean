section
-- ===== PART A: goes FIRST, ahead of the names: the tables' words, and 'selects' of the private methods out of them =====
/-- a private method of a class that the tables say can be made, by its rows of tables_1 -/
def lw_okq (q : MethodName × Nat) : Prop := (q.1.cls ≠ "java/lang/invoke/MethodHandle" ∧ q.1.cls ≠ "java/lang/invoke/VarHandle") ∧ Cond.instantiable q.1.cls q.2 ∈ tables_1 ∧ Cond.privateMethod q.1 ∈ tables_1 ∧ Cond.instanceMethod q.1 ∈ tables_1
theorem lw_p0 : lw_okq (⟨"SilentCouncil$Sitting", "begin", "(LSilentCouncil$Kept;)V"⟩, 5) := ⟨⟨by decide +kernel, by decide +kernel⟩, List.mem_of_getElem? (i := 99) (by decide +kernel), List.mem_of_getElem? (i := 286) (by decide +kernel), List.mem_of_getElem? (i := 287) (by decide +kernel)⟩
theorem lw_p1 : lw_okq (⟨"SilentCouncil$Sitting", "last", "(II)V"⟩, 5) := ⟨⟨by decide +kernel, by decide +kernel⟩, List.mem_of_getElem? (i := 99) (by decide +kernel), List.mem_of_getElem? (i := 297) (by decide +kernel), List.mem_of_getElem? (i := 298) (by decide +kernel)⟩
theorem lw_p2 : lw_okq (⟨"SilentCouncil$Sitting", "speak", "(I)V"⟩, 5) := ⟨⟨by decide +kernel, by decide +kernel⟩, List.mem_of_getElem? (i := 99) (by decide +kernel), List.mem_of_getElem? (i := 301) (by decide +kernel), List.mem_of_getElem? (i := 302) (by decide +kernel)⟩
theorem lw_p3 : lw_okq (⟨"SilentCouncil$Sitting", "pay", "(I)Z"⟩, 5) := ⟨⟨by decide +kernel, by decide +kernel⟩, List.mem_of_getElem? (i := 99) (by decide +kernel), List.mem_of_getElem? (i := 306) (by decide +kernel), List.mem_of_getElem? (i := 307) (by decide +kernel)⟩
theorem lw_p4 : lw_okq (⟨"SilentCouncil$Sitting", "listens", "(I)Z"⟩, 5) := ⟨⟨by decide +kernel, by decide +kernel⟩, List.mem_of_getElem? (i := 99) (by decide +kernel), List.mem_of_getElem? (i := 310) (by decide +kernel), List.mem_of_getElem? (i := 311) (by decide +kernel)⟩
theorem lw_p5 : lw_okq (⟨"SilentCouncil$Sitting", "ask", "(III)V"⟩, 5) := ⟨⟨by decide +kernel, by decide +kernel⟩, List.mem_of_getElem? (i := 99) (by decide +kernel), List.mem_of_getElem? (i := 321) (by decide +kernel), List.mem_of_getElem? (i := 322) (by decide +kernel)⟩
theorem lw_p6 : lw_okq (⟨"SilentCouncil$Sitting", "stir", "(III)V"⟩, 5) := ⟨⟨by decide +kernel, by decide +kernel⟩, List.mem_of_getElem? (i := 99) (by decide +kernel), List.mem_of_getElem? (i := 325) (by decide +kernel), List.mem_of_getElem? (i := 326) (by decide +kernel)⟩
theorem lw_p7 : lw_okq (⟨"SilentCouncil$Agenda", "needBehind", "(LSilentCouncil$Matters;II)V"⟩, 10) := ⟨⟨by decide +kernel, by decide +kernel⟩, List.mem_of_getElem? (i := 125) (by decide +kernel), List.mem_of_getElem? (i := 367) (by decide +kernel), List.mem_of_getElem? (i := 368) (by decide +kernel)⟩
theorem lw_p8 : lw_okq (⟨"SilentCouncil$Agenda", "lengthen", "(LSilentCouncil$Matters;I)V"⟩, 10) := ⟨⟨by decide +kernel, by decide +kernel⟩, List.mem_of_getElem? (i := 125) (by decide +kernel), List.mem_of_getElem? (i := 380) (by decide +kernel), List.mem_of_getElem? (i := 381) (by decide +kernel)⟩
theorem lw_p9 : lw_okq (⟨"SilentCouncil$Agenda", "lack", "(LSilentCouncil$Matters;II)I"⟩, 10) := ⟨⟨by decide +kernel, by decide +kernel⟩, List.mem_of_getElem? (i := 125) (by decide +kernel), List.mem_of_getElem? (i := 391) (by decide +kernel), List.mem_of_getElem? (i := 392) (by decide +kernel)⟩
theorem lw_p10 : lw_okq (⟨"SilentCouncil$Agenda", "findNext", "(LSilentCouncil$Matters;II)I"⟩, 10) := ⟨⟨by decide +kernel, by decide +kernel⟩, List.mem_of_getElem? (i := 125) (by decide +kernel), List.mem_of_getElem? (i := 405) (by decide +kernel), List.mem_of_getElem? (i := 406) (by decide +kernel)⟩
theorem lw_p11 : lw_okq (⟨"SilentCouncil$Ledger", "mostGroups", "(I)I"⟩, 2) := ⟨⟨by decide +kernel, by decide +kernel⟩, List.mem_of_getElem? (i := 167) (by decide +kernel), List.mem_of_getElem? (i := 450) (by decide +kernel), List.mem_of_getElem? (i := 451) (by decide +kernel)⟩
theorem lw_p12 : lw_okq (⟨"SilentCouncil$Book", "canSpeak", "(II)Z"⟩, 5) := ⟨⟨by decide +kernel, by decide +kernel⟩, List.mem_of_getElem? (i := 180) (by decide +kernel), List.mem_of_getElem? (i := 474) (by decide +kernel), List.mem_of_getElem? (i := 475) (by decide +kernel)⟩
theorem lw_p13 : lw_okq (⟨"SilentCouncil$Book", "count", "(II)V"⟩, 5) := ⟨⟨by decide +kernel, by decide +kernel⟩, List.mem_of_getElem? (i := 180) (by decide +kernel), List.mem_of_getElem? (i := 479) (by decide +kernel), List.mem_of_getElem? (i := 480) (by decide +kernel)⟩
theorem lw_p14 : lw_okq (⟨"SilentCouncil", "floorOf", "(I)I"⟩, 8) := ⟨⟨by decide +kernel, by decide +kernel⟩, List.mem_of_getElem? (i := 14) (by decide +kernel), List.mem_of_getElem? (i := 500) (by decide +kernel), List.mem_of_getElem? (i := 501) (by decide +kernel)⟩
theorem lw_p15 : lw_okq (⟨"SilentCouncilModel", "sittingFault", "()I"⟩, 22) := ⟨⟨by decide +kernel, by decide +kernel⟩, List.mem_of_getElem? (i := 537) (by decide +kernel), List.mem_of_getElem? (i := 639) (by decide +kernel), List.mem_of_getElem? (i := 640) (by decide +kernel)⟩
def lw_privs_1 : List (MethodName × Nat) := [(⟨"SilentCouncil$Sitting", "begin", "(LSilentCouncil$Kept;)V"⟩, 5), (⟨"SilentCouncil$Sitting", "last", "(II)V"⟩, 5), (⟨"SilentCouncil$Sitting", "speak", "(I)V"⟩, 5), (⟨"SilentCouncil$Sitting", "pay", "(I)Z"⟩, 5), (⟨"SilentCouncil$Sitting", "listens", "(I)Z"⟩, 5), (⟨"SilentCouncil$Sitting", "ask", "(III)V"⟩, 5), (⟨"SilentCouncil$Sitting", "stir", "(III)V"⟩, 5), (⟨"SilentCouncil$Agenda", "needBehind", "(LSilentCouncil$Matters;II)V"⟩, 10), (⟨"SilentCouncil$Agenda", "lengthen", "(LSilentCouncil$Matters;I)V"⟩, 10), (⟨"SilentCouncil$Agenda", "lack", "(LSilentCouncil$Matters;II)I"⟩, 10), (⟨"SilentCouncil$Agenda", "findNext", "(LSilentCouncil$Matters;II)I"⟩, 10), (⟨"SilentCouncil$Ledger", "mostGroups", "(I)I"⟩, 2), (⟨"SilentCouncil$Book", "canSpeak", "(II)Z"⟩, 5), (⟨"SilentCouncil$Book", "count", "(II)V"⟩, 5), (⟨"SilentCouncil", "floorOf", "(I)I"⟩, 8), (⟨"SilentCouncilModel", "sittingFault", "()I"⟩, 22)]
theorem lw_r1 : ∀ q ∈ lw_privs_1, lw_okq q := List.forall_mem_cons.mpr ⟨lw_p0, List.forall_mem_cons.mpr ⟨lw_p1, List.forall_mem_cons.mpr ⟨lw_p2, List.forall_mem_cons.mpr ⟨lw_p3, List.forall_mem_cons.mpr ⟨lw_p4, List.forall_mem_cons.mpr ⟨lw_p5, List.forall_mem_cons.mpr ⟨lw_p6, List.forall_mem_cons.mpr ⟨lw_p7, List.forall_mem_cons.mpr ⟨lw_p8, List.forall_mem_cons.mpr ⟨lw_p9, List.forall_mem_cons.mpr ⟨lw_p10, List.forall_mem_cons.mpr ⟨lw_p11, List.forall_mem_cons.mpr ⟨lw_p12, List.forall_mem_cons.mpr ⟨lw_p13, List.forall_mem_cons.mpr ⟨lw_p14, List.forall_mem_cons.mpr ⟨lw_p15, fun _ h => absurd h List.not_mem_nil⟩⟩⟩⟩⟩⟩⟩⟩⟩⟩⟩⟩⟩⟩⟩⟩
theorem lw_p16 : lw_okq (⟨"SilentCouncilModel", "bookFault", "()I"⟩, 22) := ⟨⟨by decide +kernel, by decide +kernel⟩, List.mem_of_getElem? (i := 537) (by decide +kernel), List.mem_of_getElem? (i := 649) (by decide +kernel), List.mem_of_getElem? (i := 650) (by decide +kernel)⟩
theorem lw_p17 : lw_okq (⟨"SilentCouncilModel", "sitThrough", "()V"⟩, 22) := ⟨⟨by decide +kernel, by decide +kernel⟩, List.mem_of_getElem? (i := 537) (by decide +kernel), List.mem_of_getElem? (i := 657) (by decide +kernel), List.mem_of_getElem? (i := 658) (by decide +kernel)⟩
theorem lw_p18 : lw_okq (⟨"SilentCouncilModel", "listens", "(I)Z"⟩, 22) := ⟨⟨by decide +kernel, by decide +kernel⟩, List.mem_of_getElem? (i := 537) (by decide +kernel), List.mem_of_getElem? (i := 661) (by decide +kernel), List.mem_of_getElem? (i := 662) (by decide +kernel)⟩
theorem lw_p19 : lw_okq (⟨"SilentCouncilModel", "act", "(II)V"⟩, 22) := ⟨⟨by decide +kernel, by decide +kernel⟩, List.mem_of_getElem? (i := 537) (by decide +kernel), List.mem_of_getElem? (i := 665) (by decide +kernel), List.mem_of_getElem? (i := 666) (by decide +kernel)⟩
theorem lw_p20 : lw_okq (⟨"SilentCouncilModel", "save", "(I)V"⟩, 22) := ⟨⟨by decide +kernel, by decide +kernel⟩, List.mem_of_getElem? (i := 537) (by decide +kernel), List.mem_of_getElem? (i := 669) (by decide +kernel), List.mem_of_getElem? (i := 670) (by decide +kernel)⟩
theorem lw_p21 : lw_okq (⟨"SilentCouncilModel", "speak", "(I)V"⟩, 22) := ⟨⟨by decide +kernel, by decide +kernel⟩, List.mem_of_getElem? (i := 537) (by decide +kernel), List.mem_of_getElem? (i := 673) (by decide +kernel), List.mem_of_getElem? (i := 674) (by decide +kernel)⟩
theorem lw_p22 : lw_okq (⟨"SilentCouncilModel", "asSaved", "()V"⟩, 22) := ⟨⟨by decide +kernel, by decide +kernel⟩, List.mem_of_getElem? (i := 537) (by decide +kernel), List.mem_of_getElem? (i := 697) (by decide +kernel), List.mem_of_getElem? (i := 698) (by decide +kernel)⟩
theorem lw_p23 : lw_okq (⟨"SilentCouncilModel", "leastFrom", "(II)I"⟩, 22) := ⟨⟨by decide +kernel, by decide +kernel⟩, List.mem_of_getElem? (i := 537) (by decide +kernel), List.mem_of_getElem? (i := 701) (by decide +kernel), List.mem_of_getElem? (i := 702) (by decide +kernel)⟩
theorem lw_p24 : lw_okq (⟨"SilentCouncilModel", "mayBegin", "(II)Z"⟩, 22) := ⟨⟨by decide +kernel, by decide +kernel⟩, List.mem_of_getElem? (i := 537) (by decide +kernel), List.mem_of_getElem? (i := 706) (by decide +kernel), List.mem_of_getElem? (i := 707) (by decide +kernel)⟩
theorem lw_p25 : lw_okq (⟨"SilentCouncilModel", "endOf", "(III)I"⟩, 22) := ⟨⟨by decide +kernel, by decide +kernel⟩, List.mem_of_getElem? (i := 537) (by decide +kernel), List.mem_of_getElem? (i := 710) (by decide +kernel), List.mem_of_getElem? (i := 711) (by decide +kernel)⟩
theorem lw_p26 : lw_okq (⟨"SilentCouncilModel", "spokenBy", "(II)I"⟩, 22) := ⟨⟨by decide +kernel, by decide +kernel⟩, List.mem_of_getElem? (i := 537) (by decide +kernel), List.mem_of_getElem? (i := 714) (by decide +kernel), List.mem_of_getElem? (i := 715) (by decide +kernel)⟩
theorem lw_p27 : lw_okq (⟨"SilentCouncilModel", "netOf", "(I)I"⟩, 22) := ⟨⟨by decide +kernel, by decide +kernel⟩, List.mem_of_getElem? (i := 537) (by decide +kernel), List.mem_of_getElem? (i := 730) (by decide +kernel), List.mem_of_getElem? (i := 731) (by decide +kernel)⟩
theorem lw_p28 : lw_okq (⟨"SilentCouncilModel", "layLine", "(I)I"⟩, 22) := ⟨⟨by decide +kernel, by decide +kernel⟩, List.mem_of_getElem? (i := 537) (by decide +kernel), List.mem_of_getElem? (i := 742) (by decide +kernel), List.mem_of_getElem? (i := 743) (by decide +kernel)⟩
theorem lw_p29 : lw_okq (⟨"SilentCouncilModel", "holds", "()I"⟩, 22) := ⟨⟨by decide +kernel, by decide +kernel⟩, List.mem_of_getElem? (i := 537) (by decide +kernel), List.mem_of_getElem? (i := 746) (by decide +kernel), List.mem_of_getElem? (i := 747) (by decide +kernel)⟩
theorem lw_p30 : lw_okq (⟨"SilentCouncilModel", "floorOf", "(I)I"⟩, 22) := ⟨⟨by decide +kernel, by decide +kernel⟩, List.mem_of_getElem? (i := 537) (by decide +kernel), List.mem_of_getElem? (i := 758) (by decide +kernel), List.mem_of_getElem? (i := 759) (by decide +kernel)⟩
def lw_privs_2 : List (MethodName × Nat) := [(⟨"SilentCouncilModel", "bookFault", "()I"⟩, 22), (⟨"SilentCouncilModel", "sitThrough", "()V"⟩, 22), (⟨"SilentCouncilModel", "listens", "(I)Z"⟩, 22), (⟨"SilentCouncilModel", "act", "(II)V"⟩, 22), (⟨"SilentCouncilModel", "save", "(I)V"⟩, 22), (⟨"SilentCouncilModel", "speak", "(I)V"⟩, 22), (⟨"SilentCouncilModel", "asSaved", "()V"⟩, 22), (⟨"SilentCouncilModel", "leastFrom", "(II)I"⟩, 22), (⟨"SilentCouncilModel", "mayBegin", "(II)Z"⟩, 22), (⟨"SilentCouncilModel", "endOf", "(III)I"⟩, 22), (⟨"SilentCouncilModel", "spokenBy", "(II)I"⟩, 22), (⟨"SilentCouncilModel", "netOf", "(I)I"⟩, 22), (⟨"SilentCouncilModel", "layLine", "(I)I"⟩, 22), (⟨"SilentCouncilModel", "holds", "()I"⟩, 22), (⟨"SilentCouncilModel", "floorOf", "(I)I"⟩, 22)]
theorem lw_r2 : ∀ q ∈ lw_privs_2, lw_okq q := List.forall_mem_cons.mpr ⟨lw_p16, List.forall_mem_cons.mpr ⟨lw_p17, List.forall_mem_cons.mpr ⟨lw_p18, List.forall_mem_cons.mpr ⟨lw_p19, List.forall_mem_cons.mpr ⟨lw_p20, List.forall_mem_cons.mpr ⟨lw_p21, List.forall_mem_cons.mpr ⟨lw_p22, List.forall_mem_cons.mpr ⟨lw_p23, List.forall_mem_cons.mpr ⟨lw_p24, List.forall_mem_cons.mpr ⟨lw_p25, List.forall_mem_cons.mpr ⟨lw_p26, List.forall_mem_cons.mpr ⟨lw_p27, List.forall_mem_cons.mpr ⟨lw_p28, List.forall_mem_cons.mpr ⟨lw_p29, List.forall_mem_cons.mpr ⟨lw_p30, fun _ h => absurd h List.not_mem_nil⟩⟩⟩⟩⟩⟩⟩⟩⟩⟩⟩⟩⟩⟩⟩
def lw_privs : List (MethodName × Nat) := lw_privs_1 ++ (lw_privs_2)
def lw_tbl : List Cond := k2_sels lw_privs ++ tables_1
theorem lw_privs_ok : ∀ q ∈ lw_privs, lw_okq q := by
  show ∀ q ∈ lw_privs_1 ++ (lw_privs_2), lw_okq q
  exact List.forall_mem_append.mpr ⟨lw_r1, lw_r2⟩
def va_AOA (t : FieldType) (U : State) : Prop := (Cond.arrayOver (.array t)).before #[] U = true
theorem va_AOA.use {t : FieldType} {A : Array Value} {U : State} (h : va_AOA t U) : (Cond.arrayOver (.array t)).before A U = true := h
/-! ===== BEGIN words of one list among another's, by their places ===== -/
theorem goodIn_r {big : List Cond} (ws : List Cond) (ps : List Nat) (hp : ws = ps.filterMap (fun i => big[i]?)) (h : ws.all goodWord = true) : GoodIn big ws := by
  intro w hw
  have h1 := List.all_eq_true.mp h w hw
  rw [hp] at hw
  obtain ⟨i, -, hi⟩ := List.mem_filterMap.mp hw
  have hm : w ∈ big := by first | exact List.mem_of_getElem? hi | exact List.getElem?_mem hi
  exact ⟨hm, good_of_word h1⟩
theorem goodIn_app {big a b : List Cond} (ha : GoodIn big a) (hb : GoodIn big b) : GoodIn big (a ++ b) := fun w h => (List.mem_append.mp h).elim (ha w) (hb w)
theorem goodIn_ca {big a b : List Cond} {c : Cond} (ha : GoodIn big (c :: a)) (hb : GoodIn big b) : GoodIn big (c :: (a ++ b)) := fun w h => (List.mem_cons.mp h).elim (fun e => ha w (List.mem_cons.mpr (Or.inl e))) (fun h => (List.mem_append.mp h).elim (fun h => ha w (List.mem_cons.mpr (Or.inr h))) (hb w))
theorem goodIn_sub {big ws : List Cond} (hm : ∀ w ∈ ws, w ∈ big) (h : ws.all goodWord = true) : GoodIn big ws := fun w hw => ⟨hm w hw, good_of_word (List.all_eq_true.mp h w hw)⟩
/-! ===== END ===== -/

/-! ===== BEGIN new T[n][m]: the outer array a place, the inner ones among the pooled ===== -/
/-- f, but v at every address of l -/
def vr_up {α : Type} (f : Nat → α) (l : List Nat) (v : α) : Nat → α := fun a => if a ∈ l then v else f a
theorem vr_up_in {α : Type} {f : Nat → α} {l : List Nat} {v : α} {a : Nat} (h : a ∈ l) : vr_up f l v a = v := if_pos h
theorem vr_up_ne {α : Type} {f : Nat → α} {l : List Nat} {v : α} {a : Nat} (h : a ∉ l) : vr_up f l v a = f a := if_neg h
theorem vr_rows {L l : List Nat} {f : Nat → va_E} {e : va_E} (h : ∀ a, a ∈ l → a ∉ L) : va_pl L f ++ l.map (fun a => (a, e)) = va_pl (L ++ l) (vr_up f l e) := by
  unfold va_pl
  rw [List.map_append]
  congr 1
  · apply List.map_congr_left
    intro a ha
    rw [vr_up_ne (fun q => h a q ha)]
  · apply List.map_congr_left
    intro a ha
    rw [vr_up_in ha]
theorem vr_lay {X rows : va_W} {x : Nat × va_E} {pl : va_W} {D : va_G} {cl : List vw_C} {H : Heap} (hP : va_P D cl (((X ++ pl) ++ [x]) ++ rows) H) : va_P D cl ((X ++ [x]) ++ (pl ++ rows)) H := by
  rw [List.append_assoc (X ++ pl)] at hP
  have h := va_P.swap hP
  rw [← List.append_assoc X] at h
  have h2 := va_P.swap h
  rw [List.append_assoc (X ++ [x])] at h2
  exact h2
theorem vr_layD {X rows : va_W} {x : Nat × va_E} {pl : va_W} {A : Nat → Prop} (hD : va_D A (((X ++ pl) ++ [x]) ++ rows)) : va_D A ((X ++ [x]) ++ (pl ++ rows)) := by
  rw [List.append_assoc (X ++ pl)] at hD
  have h := va_D.swap hD
  rw [← List.append_assoc X] at h
  have h2 := va_D.swap h
  rw [List.append_assoc (X ++ [x])] at h2
  exact h2
theorem vr_outer (c : ClassId) (N h0 : Nat) : ∀ i : Nat, Jvm.Free.Multi.outerC c N h0 i = arrV c N (fun j => va_rf (if j < i then some (h0 + 1 + j) else none))
  | 0 => by
    show ({ cls := c, slots := Array.replicate N .null, vm := .none } : Cell) = _
    rw [arrV_new]
    refine congrArg (arrV c N) (funext fun j => ?_)
    simp [va_rf]
  | i + 1 => by
    show (Jvm.Free.Multi.outerC c N h0 i).setSlot i (.ref (h0 + 1 + i)) = _
    rw [vr_outer c N h0 i, arrV_store]
    refine congrArg (arrV c N) (funext fun j => ?_)
    by_cases e : j = i
    · subst e
      simp [updV, va_rf]
    · by_cases h : j < i
      · simp [updV, e, h, Nat.lt_succ_of_lt h]
      · simp [updV, e, h, show ¬ j < i + 1 by omega]
section VGM
variable {p : Program} {l : Launch} {e : Env} {R : Room} {s : State} {m : MethodId} {args : Array Value} {below : List Frame} {meth : Method} {c : Code} {H : Heap} {locs : List Loc} {cells slots : Nat} {Q : State → Prop}
variable {cc : ByteArray} {pc : Nat} {ls : Array Slot} {rest : List Value} {D : va_G} {cl : List vw_C} {A : Nat → Prop} {a : Nat} {tys : List (ClassId × FieldType)} {ws : va_W} {H0 : Heap}
theorem va_mna {X : va_W} {L : List Nat} {f : Nat → va_E} {cc : ByteArray} (hexec : p.tables.exec = Jvm.exec) (hb : c.code = cc) {own : String} {index : Nat} {ty : FieldType} {cy : ClassId} (hown : s.vm.findClass own = some m.cls) (hclink : (Cond.classLink own index ("[" ++ (FieldType.array ty).toString)).before args s = true) (hover : va_AOA ty s) (harr : (Cond.arrayClass ty).before args s = true) (hcy : s.vm.findClass (FieldType.array ty).toString = some cy)
    (hK : va_K D cl tys s) (hP : va_P D cl (X ++ va_pl L f) H) (hD : va_D A (X ++ va_pl L f)) (hS : va_S A H0 H locs) (hA : ∀ q, H0.size ≤ q → A q) {n k : Int32} {N' K' : Nat} {z : vp_A} (hn : ¬ n < 0) (hk : ¬ k < 0) (hN : n.toNatClampNeg = N') (hM : k.toNatClampNeg = K')
    (hb1 : N' * 4 ≤ 536870912) (hb2 : K' * componentBytes ty ≤ 536870912) (hb3 : K' ≤ 536870912) (hdf : fits ty (defaultValue ty) = true) (hdd : (defaultValue ty).isDefault = true) (hcells : cells + (1 + N') ≤ R.cells) (hslots : slots + (N' + N' * K') ≤ R.slots) (hz : ∀ c : ClassId, Jvm.Free.Multi.innerC c K' (defaultValue ty) = vp_cell c z) (hdg : decode cc pc = .ok (.multianewarray index 2, 4))
    (kk : ∀ (q : Nat) (r : Nat → Nat) (cA : ClassId) (H1 : Heap), (∀ i j : Nat, i < N' → j < N' → r i = r j → i = j) → (∀ i : Nat, i < N' → r i ∉ L) → va_K D cl (tys ++ [(cA, .array ty)]) s →
      va_P D cl ((X ++ [(q, .inl (cA, N', .inr (.inr (.inr (.inr (fun i => if i < N' then some (r i) else none))))))]) ++ va_pl (L ++ (List.range N').map r) (vr_up f ((List.range N').map r) (.inl (cy, z)))) H1 → va_D A ((X ++ [(q, .inl (cA, N', .inr (.inr (.inr (.inr (fun i => if i < N' then some (r i) else none))))))]) ++ va_pl (L ++ (List.range N').map r) (vr_up f ((List.range N').map r) (.inl (cy, z)))) → va_S A H0 H1 locs →
      W p l e R s m args below meth c H1 locs (cells + 1 + N') (slots + N' + N' * K') Q (F0 m (pc + 4) ls (.ref q :: rest))) : W p l e R s m args below meth c H locs cells slots Q (F0 m pc ls (.int k :: .int n :: rest)) := by
  subst hN
  subst hM
  intro T hT Xs
  obtain ⟨vm₁, cA, comp, -, fA, fC, hO, -, X', step⟩ := Xs.multianewarray2F hexec hown hclink (va_AOA.use hover) harr (g := F0 m pc ls (.int k :: .int n :: rest)) rfl (by rw [hb]; exact hdg) rfl hn hk hb1 hb2 hb3 hdf hdd hcells hslots
  have ec : some cy = some comp := hcy.symm.trans fC
  cases ec
  generalize hF : Jvm.Free.Multi.fill (T.setVm vm₁) cA cy n.toNatClampNeg k.toNatClampNeg (defaultValue ty) n.toNatClampNeg = F at X' step
  have hTh : (T.setVm vm₁).heap = H := hT
  obtain ⟨f1, f2, -, -⟩ := Jvm.Free.Multi.fill_facts (T.setVm vm₁) cA cy n.toNatClampNeg k.toNatClampNeg (defaultValue ty) n.toNatClampNeg
  rw [hF, hTh] at f1 f2
  have hold : ∀ x : Nat, x < H.size → F.heap[x]? = H[x]? := fun x hx => by
    have := Jvm.Free.Multi.fill_old (T.setVm vm₁) cA cy n.toNatClampNeg k.toNatClampNeg (defaultValue ty) (a := x) (by rw [hTh]; exact hx) n.toNatClampNeg
    rw [hF, hTh] at this
    exact this
  have hrow : ∀ j : Nat, j < n.toNatClampNeg → F.heap[H.size + 1 + j]? = some (vp_cell cy z) := fun j hj => by
    have := Jvm.Free.Multi.fill_inner (T.setVm vm₁) cA cy n.toNatClampNeg k.toNatClampNeg (defaultValue ty) n.toNatClampNeg j hj
    rw [hF, hTh, hz] at this
    exact this
  have hout : Jvm.Free.Multi.outerC cA n.toNatClampNeg H.size n.toNatClampNeg = vp_cell cA (n.toNatClampNeg, .inr (.inr (.inr (.inr (fun i => if i < n.toNatClampNeg then some (H.size + 1 + i) else none))))) := by
    rw [vp_cell_q]
    exact vr_outer cA n.toNatClampNeg H.size n.toNatClampNeg
  rw [hout] at f2
  have hlt : ∀ a, a ∈ L → a < H.size := fun a ha => by
    obtain ⟨k9, hk9⟩ := va_pl_get (X := X) (f := f) ha
    exact (hP k9 _ hk9).lt
  have hnl : ∀ i : Nat, i < n.toNatClampNeg → H.size + 1 + i ∉ L := fun i _ h => by
    have := hlt _ h
    omega
  have hnm : ∀ a, a ∈ (List.range n.toNatClampNeg).map (fun i => H.size + 1 + i) → a ∉ L := fun a ha h => by
    obtain ⟨i, -, rfl⟩ := List.mem_map.mp ha
    have := hlt _ h
    omega
  have hP0 : va_P D cl (X ++ va_pl L f) F.heap := hP.kept (fun k9 x hx => hold x.1 ((hP k9 x hx).lt))
  have hP1 : va_P D cl ((X ++ va_pl L f) ++ [(H.size, .inl (cA, n.toNatClampNeg, .inr (.inr (.inr (.inr (fun i => if i < n.toNatClampNeg then some (H.size + 1 + i) else none))))))]) F.heap := hP0.app (fun k9 x hx => by
    have h0 : k9 < 1 := (List.getElem?_eq_some_iff.mp hx).1
    rw [show k9 = 0 by omega] at hx
    cases hx
    exact f2)
  have hP2 : va_P D cl (((X ++ va_pl L f) ++ [(H.size, .inl (cA, n.toNatClampNeg, .inr (.inr (.inr (.inr (fun i => if i < n.toNatClampNeg then some (H.size + 1 + i) else none))))))]) ++ ((List.range n.toNatClampNeg).map (fun i => H.size + 1 + i)).map (fun a => (a, .inl (cy, z)))) F.heap := hP1.app (fun k9 x hx => by
    obtain ⟨a, ha, rfl⟩ := List.mem_map.mp (List.mem_of_getElem? hx)
    obtain ⟨i, hi, rfl⟩ := List.mem_map.mp ha
    exact hrow i (List.mem_range.mp hi))
  have hD2 : va_D A (((X ++ va_pl L f) ++ [(H.size, .inl (cA, n.toNatClampNeg, .inr (.inr (.inr (.inr (fun i => if i < n.toNatClampNeg then some (H.size + 1 + i) else none))))))]) ++ ((List.range n.toNatClampNeg).map (fun i => H.size + 1 + i)).map (fun a => (a, .inl (cy, z)))) := by
    have hD1 := hD.push (e := .inl (cA, n.toNatClampNeg, .inr (.inr (.inr (.inr (fun i => if i < n.toNatClampNeg then some (H.size + 1 + i) else none)))))) hP rfl (hA _ hS.1)
    generalize hW1 : (X ++ va_pl L f) ++ [(H.size, .inl (cA, n.toNatClampNeg, .inr (.inr (.inr (.inr (fun i => if i < n.toNatClampNeg then some (H.size + 1 + i) else none))))))] = W1 at hD1 hP1 ⊢
    have hle : ∀ (k9 : Nat) (x : Nat × va_E), W1[k9]? = some x → x.1 ≤ H.size := fun k9 x hx => by
      rw [← hW1] at hx
      by_cases hl : k9 < (X ++ va_pl L f).length
      · rw [List.getElem?_append_left hl] at hx
        exact Nat.le_of_lt ((hP k9 x hx).lt)
      · rw [List.getElem?_append_right (by omega)] at hx
        have h0 : k9 - (X ++ va_pl L f).length < 1 := (List.getElem?_eq_some_iff.mp hx).1
        rw [show k9 - (X ++ va_pl L f).length = 0 by omega] at hx
        cases hx
        exact Nat.le_refl _
    have hr : ∀ (k9 : Nat) (x : Nat × va_E), (((List.range n.toNatClampNeg).map (fun i => H.size + 1 + i)).map (fun a => ((a, .inl (cy, z)) : Nat × va_E)))[k9]? = some x → x.1 = H.size + 1 + k9 := fun k9 x hx => by
      rw [List.getElem?_map, List.getElem?_map] at hx
      by_cases h9 : k9 < n.toNatClampNeg
      · rw [List.getElem?_range h9] at hx
        cases hx
        rfl
      · have hn0 : (List.range n.toNatClampNeg)[k9]? = none := List.getElem?_eq_none (by rw [List.length_range]; omega)
        rw [hn0] at hx
        cases hx
    refine ⟨fun i j x y hi hj hxy => ?_, fun k9 x hx => ?_⟩
    · by_cases h1 : i < W1.length <;> by_cases h2 : j < W1.length
      · rw [List.getElem?_append_left h1] at hi
        rw [List.getElem?_append_left h2] at hj
        exact hD1.1 i j x y hi hj hxy
      · rw [List.getElem?_append_left h1] at hi
        rw [List.getElem?_append_right (by omega)] at hj
        have := hle _ _ hi
        have := hr _ _ hj
        omega
      · rw [List.getElem?_append_right (by omega)] at hi
        rw [List.getElem?_append_left h2] at hj
        have := hle _ _ hj
        have := hr _ _ hi
        omega
      · rw [List.getElem?_append_right (by omega)] at hi hj
        have := hr _ _ hi
        have := hr _ _ hj
        omega
    · by_cases h1 : k9 < W1.length
      · rw [List.getElem?_append_left h1] at hx
        exact hD1.2 k9 x hx
      · rw [List.getElem?_append_right (by omega)] at hx
        have := hr _ _ hx
        exact hA _ (by have := hS.1; omega)
  have hAr : ArrOfT s cA (.array ty) := fun N9 z9 => by
    obtain ⟨-, k9, hk9, cm9, hkk9⟩ := (hO 0 0 0).1
    exact ⟨(fun q hq => by cases hq), k9, hk9, cm9, hkk9⟩
  have hK2 : va_K D cl (tys ++ [(cA, .array ty)]) s := ⟨hK.1, fun k9 x hx => by
    by_cases hl : k9 < tys.length
    · rw [List.getElem?_append_left hl] at hx
      exact hK.2 k9 x hx
    · rw [List.getElem?_append_right (by omega)] at hx
      have h0 : k9 - tys.length < 1 := (List.getElem?_eq_some_iff.mp hx).1
      rw [show k9 - tys.length = 0 by omega] at hx
      cases hx
      exact ⟨hAr, fA⟩⟩
  obtain ⟨t, a1, b1⟩ := kk H.size (fun i => H.size + 1 + i) cA F.heap (fun i j _ _ h => by have h9 : H.size + 1 + i = H.size + 1 + j := h; omega) hnl hK2 (by rw [← vr_rows hnm]; exact vr_lay hP2) (by rw [← vr_rows hnm]; exact vr_layD hD2) ⟨by rw [f1]; have := hS.1; omega, fun x h1 h2 => (hold x (Nat.lt_of_lt_of_le h1 hS.1)).trans (hS.2.1 x h1 h2), hS.2.2⟩ F rfl X'
  refine ⟨t, step t ?_, b1⟩
  have e : T.heap.size = H.size := by rw [hT]
  rw [e]
  exact a1
end VGM
/-! ===== END ===== -/

/-! ===== BEGIN printed: names, fields, word lists, decode rows ===== -/
def RX0 : String := "SilentCouncil$Agenda"
def TX0 : u_T := fun k => match k with
  | 0 => ("SilentCouncil$Agenda", "order", "[I", true)
  | 1 => ("SilentCouncil$Agenda", "bestShare", "[I", true)
  | 2 => ("SilentCouncil$Agenda", "bestPause", "I", false)
  | 3 => ("SilentCouncil$Agenda", "holders", "I", false)
  | 4 => ("SilentCouncil$Agenda", "holder", "[I", true)
  | 5 => ("SilentCouncil$Agenda", "share", "[I", true)
  | 6 => ("SilentCouncil$Agenda", "needs", "[I", true)
  | 7 => ("SilentCouncil$Agenda", "pauses", "[I", true)
  | 8 => ("SilentCouncil$Agenda", "canEnd", "[Z", true)
  | _ => ("SilentCouncil$Agenda", "full", "I", false)
def tyX0 : Nat → FieldType := fun k => match k with
  | 0 => .array .int
  | 1 => .array .int
  | 2 => .int
  | 3 => .int
  | 4 => .array .int
  | 5 => .array .int
  | 6 => .array .int
  | 7 => .array .int
  | 8 => .array .boolean
  | _ => .int
abbrev wsX00 : List Cond := u_ws RX0 TX0 10
theorem nmX0 : ∀ a, a < 10 → ∀ b, b < 10 → a ≠ b → (TX0 a).2.1 ≠ (TX0 b).2.1 := by decide +kernel
theorem tyX0_ok : ∀ k, k < 10 → parseFieldDescriptor (TX0 k).2.2.1 = some (tyX0 k) := by decide +kernel
abbrev cX0_init : ByteArray := prog_2_method_1_code
def yX0_init : MethodName := ⟨RX0, "<init>", "()V"⟩
abbrev cX0_prepare : ByteArray := prog_2_method_2_code
def yX0_prepare : MethodName := ⟨RX0, "prepare", "(LSilentCouncil$Matters;)V"⟩
abbrev cX0_needBehind : ByteArray := prog_2_method_3_code
def yX0_needBehind : MethodName := ⟨RX0, "needBehind", "(LSilentCouncil$Matters;II)V"⟩
abbrev cX0_takeShares : ByteArray := prog_2_method_4_code
def yX0_takeShares : MethodName := ⟨RX0, "takeShares", "([I)V"⟩
abbrev cX0_findHolders : ByteArray := prog_2_method_5_code
def yX0_findHolders : MethodName := ⟨RX0, "findHolders", "(LSilentCouncil$Matters;)V"⟩
abbrev cX0_leastPause : ByteArray := prog_2_method_6_code
def yX0_leastPause : MethodName := ⟨RX0, "leastPause", "(LSilentCouncil$Matters;I)I"⟩
abbrev cX0_lengthen : ByteArray := prog_2_method_7_code
def yX0_lengthen : MethodName := ⟨RX0, "lengthen", "(LSilentCouncil$Matters;I)V"⟩
abbrev cX0_findOrder : ByteArray := prog_2_method_8_code
def yX0_findOrder : MethodName := ⟨RX0, "findOrder", "(LSilentCouncil$Matters;I)V"⟩
abbrev cX0_findBestDeal : ByteArray := prog_2_method_9_code
def yX0_findBestDeal : MethodName := ⟨RX0, "findBestDeal", "(LSilentCouncil$Matters;I)V"⟩
abbrev cX0_deal : ByteArray := prog_2_method_10_code
def yX0_deal : MethodName := ⟨RX0, "deal", "(LSilentCouncil$Agenda;LSilentCouncil$Matters;II)V"⟩
abbrev cX0_findNext : ByteArray := prog_2_method_11_code
def yX0_findNext : MethodName := ⟨RX0, "findNext", "(LSilentCouncil$Matters;II)I"⟩
abbrev cX0_lack : ByteArray := prog_2_method_12_code
def yX0_lack : MethodName := ⟨RX0, "lack", "(LSilentCouncil$Matters;II)I"⟩
def RX1 : String := "SilentCouncil$Book"
def TX1 : u_T := fun k => match k with
  | 0 => ("SilentCouncil$Book", "filling", "[I", true)
  | 1 => ("SilentCouncil$Book", "length", "I", false)
  | 2 => ("SilentCouncil$Book", "lines", "[I", true)
  | 3 => ("SilentCouncil$Book", "saved", "[I", true)
  | _ => ("SilentCouncil$Book", "spoke", "[I", true)
def tyX1 : Nat → FieldType := fun k => match k with
  | 0 => .array .int
  | 1 => .int
  | 2 => .array .int
  | 3 => .array .int
  | _ => .array .int
abbrev wsX10 : List Cond := u_ws RX1 TX1 5
theorem nmX1 : ∀ a, a < 5 → ∀ b, b < 5 → a ≠ b → (TX1 a).2.1 ≠ (TX1 b).2.1 := by decide +kernel
theorem tyX1_ok : ∀ k, k < 5 → parseFieldDescriptor (TX1 k).2.2.1 = some (tyX1 k) := by decide +kernel
abbrev cX1_init : ByteArray := prog_3_method_1_code
def yX1_init : MethodName := ⟨RX1, "<init>", "()V"⟩
abbrev cX1_open : ByteArray := prog_3_method_2_code
def yX1_open : MethodName := ⟨RX1, "open", "(LSilentCouncil$Pad;[I)V"⟩
abbrev cX1_sign : ByteArray := prog_3_method_3_code
def yX1_sign : MethodName := ⟨RX1, "sign", "(I)I"⟩
abbrev cX1_ways : ByteArray := prog_3_method_4_code
def yX1_ways : MethodName := ⟨RX1, "ways", "(LSilentCouncil$Book;II)I"⟩
abbrev cX1_firstFalse : ByteArray := prog_3_method_5_code
def yX1_firstFalse : MethodName := ⟨RX1, "firstFalse", "()I"⟩
abbrev cX1_line : ByteArray := prog_3_method_6_code
def yX1_line : MethodName := ⟨RX1, "line", "(I)I"⟩
abbrev cX1_canSpeak : ByteArray := prog_3_method_7_code
def yX1_canSpeak : MethodName := ⟨RX1, "canSpeak", "(II)Z"⟩
abbrev cX1_count : ByteArray := prog_3_method_8_code
def yX1_count : MethodName := ⟨RX1, "count", "(II)V"⟩
def RX2 : String := "SilentCouncil$Kept"
def TX2 : u_T := fun k => match k with
  | 0 => ("SilentCouncil$Kept", "seats", "[[I", true)
  | 1 => ("SilentCouncil$Kept", "lent", "[[I", true)
  | 2 => ("SilentCouncil$Kept", "matters", "LSilentCouncil$Matters;", true)
  | 3 => ("SilentCouncil$Kept", "cough", "I", false)
  | _ => ("SilentCouncil$Kept", "asked", "I", false)
def tyX2 : Nat → FieldType := fun k => match k with
  | 0 => .array (.array .int)
  | 1 => .array (.array .int)
  | 2 => .object "SilentCouncil$Matters"
  | 3 => .int
  | _ => .int
abbrev wsX20 : List Cond := u_ws RX2 TX2 5
theorem nmX2 : ∀ a, a < 5 → ∀ b, b < 5 → a ≠ b → (TX2 a).2.1 ≠ (TX2 b).2.1 := by decide +kernel
theorem tyX2_ok : ∀ k, k < 5 → parseFieldDescriptor (TX2 k).2.2.1 = some (tyX2 k) := by decide +kernel
abbrev cX2_init : ByteArray := prog_4_method_1_code
def yX2_init : MethodName := ⟨RX2, "<init>", "()V"⟩
abbrev cX2_take : ByteArray := prog_4_method_2_code
def yX2_take : MethodName := ⟨RX2, "take", "(LSilentCouncil$Kept;)V"⟩
def RX3 : String := "SilentCouncil$Ledger"
def TX3 : u_T := fun k => match k with
  | 0 => ("SilentCouncil$Ledger", "sums", "[I", true)
  | _ => ("SilentCouncil$Ledger", "groups", "[I", true)
def tyX3 : Nat → FieldType := fun k => match k with
  | 0 => .array .int
  | _ => .array .int
abbrev wsX30 : List Cond := u_ws RX3 TX3 2
theorem nmX3 : ∀ a, a < 2 → ∀ b, b < 2 → a ≠ b → (TX3 a).2.1 ≠ (TX3 b).2.1 := by decide +kernel
theorem tyX3_ok : ∀ k, k < 2 → parseFieldDescriptor (TX3 k).2.2.1 = some (tyX3 k) := by decide +kernel
abbrev cX3_init : ByteArray := prog_5_method_1_code
def yX3_init : MethodName := ⟨RX3, "<init>", "()V"⟩
abbrev cX3_fewestGifts : ByteArray := prog_5_method_2_code
def yX3_fewestGifts : MethodName := ⟨RX3, "fewestGifts", "([[I)I"⟩
abbrev cX3_mostGroups : ByteArray := prog_5_method_3_code
def yX3_mostGroups : MethodName := ⟨RX3, "mostGroups", "(I)I"⟩
def RX4 : String := "SilentCouncil$Matters"
def TX4 : u_T := fun k => match k with
  | 0 => ("SilentCouncil$Matters", "by", "[I", true)
  | 1 => ("SilentCouncil$Matters", "minutes", "[I", true)
  | 2 => ("SilentCouncil$Matters", "behind", "[I", true)
  | _ => ("SilentCouncil$Matters", "count", "I", false)
def tyX4 : Nat → FieldType := fun k => match k with
  | 0 => .array .int
  | 1 => .array .int
  | 2 => .array .int
  | _ => .int
abbrev wsX40 : List Cond := u_ws RX4 TX4 4
theorem nmX4 : ∀ a, a < 4 → ∀ b, b < 4 → a ≠ b → (TX4 a).2.1 ≠ (TX4 b).2.1 := by decide +kernel
theorem tyX4_ok : ∀ k, k < 4 → parseFieldDescriptor (TX4 k).2.2.1 = some (tyX4 k) := by decide +kernel
abbrev cX4_init : ByteArray := prog_6_method_1_code
def yX4_init : MethodName := ⟨RX4, "<init>", "()V"⟩
abbrev cX4_add : ByteArray := prog_6_method_2_code
def yX4_add : MethodName := ⟨RX4, "add", "(III)Z"⟩
abbrev cX4_has : ByteArray := prog_6_method_3_code
def yX4_has : MethodName := ⟨RX4, "has", "(I)Z"⟩
abbrev cX4_allMinutes : ByteArray := prog_6_method_4_code
def yX4_allMinutes : MethodName := ⟨RX4, "allMinutes", "()I"⟩
abbrev cX4_isNext : ByteArray := prog_6_method_5_code
def yX4_isNext : MethodName := ⟨RX4, "isNext", "(II)Z"⟩
abbrev cX4_take : ByteArray := prog_6_method_6_code
def yX4_take : MethodName := ⟨RX4, "take", "(LSilentCouncil$Matters;)V"⟩
def RX5 : String := "SilentCouncil$Pad"
def TX5 : u_T := fun k => match k with
  | 0 => ("SilentCouncil$Pad", "signs", "[I", true)
  | _ => ("SilentCouncil$Pad", "count", "I", false)
def tyX5 : Nat → FieldType := fun k => match k with
  | 0 => .array .int
  | _ => .int
abbrev wsX50 : List Cond := u_ws RX5 TX5 2
theorem nmX5 : ∀ a, a < 2 → ∀ b, b < 2 → a ≠ b → (TX5 a).2.1 ≠ (TX5 b).2.1 := by decide +kernel
theorem tyX5_ok : ∀ k, k < 2 → parseFieldDescriptor (TX5 k).2.2.1 = some (tyX5 k) := by decide +kernel
abbrev cX5_init : ByteArray := prog_7_method_1_code
def yX5_init : MethodName := ⟨RX5, "<init>", "()V"⟩
abbrev cX5_add : ByteArray := prog_7_method_2_code
def yX5_add : MethodName := ⟨RX5, "add", "(I)Z"⟩
abbrev cX5_sign : ByteArray := prog_7_method_3_code
def yX5_sign : MethodName := ⟨RX5, "sign", "(I)I"⟩
abbrev cX5_sittingFault : ByteArray := prog_7_method_4_code
def yX5_sittingFault : MethodName := ⟨RX5, "sittingFault", "()I"⟩
abbrev cX5_bookFault : ByteArray := prog_7_method_5_code
def yX5_bookFault : MethodName := ⟨RX5, "bookFault", "()I"⟩
abbrev cX5_wantedBehind : ByteArray := prog_7_method_6_code
def yX5_wantedBehind : MethodName := ⟨RX5, "wantedBehind", "(III)I"⟩
abbrev cX5_wantedBehindHead : ByteArray := prog_7_method_7_code
def yX5_wantedBehindHead : MethodName := ⟨RX5, "wantedBehindHead", "(I)I"⟩
def RX6 : String := "SilentCouncil$Sitting"
def TX6 : u_T := fun k => match k with
  | 0 => ("SilentCouncil$Sitting", "seats", "[[I", true)
  | 1 => ("SilentCouncil$Sitting", "spoke", "[I", true)
  | 2 => ("SilentCouncil$Sitting", "minutes", "I", false)
  | 3 => ("SilentCouncil$Sitting", "without", "I", false)
  | _ => ("SilentCouncil$Sitting", "firstWithout", "I", false)
def tyX6 : Nat → FieldType := fun k => match k with
  | 0 => .array (.array .int)
  | 1 => .array .int
  | 2 => .int
  | 3 => .int
  | _ => .int
abbrev wsX60 : List Cond := u_ws RX6 TX6 5
theorem nmX6 : ∀ a, a < 5 → ∀ b, b < 5 → a ≠ b → (TX6 a).2.1 ≠ (TX6 b).2.1 := by decide +kernel
theorem tyX6_ok : ∀ k, k < 5 → parseFieldDescriptor (TX6 k).2.2.1 = some (tyX6 k) := by decide +kernel
abbrev cX6_init : ByteArray := prog_8_method_1_code
def yX6_init : MethodName := ⟨RX6, "<init>", "()V"⟩
abbrev cX6_run : ByteArray := prog_8_method_2_code
def yX6_run : MethodName := ⟨RX6, "run", "(LSilentCouncil$Kept;LSilentCouncil$Pad;)V"⟩
abbrev cX6_ofAll : ByteArray := prog_8_method_3_code
def yX6_ofAll : MethodName := ⟨RX6, "ofAll", "(I)I"⟩
abbrev cX6_ofOne : ByteArray := prog_8_method_4_code
def yX6_ofOne : MethodName := ⟨RX6, "ofOne", "(II)I"⟩
abbrev cX6_begin : ByteArray := prog_8_method_5_code
def yX6_begin : MethodName := ⟨RX6, "begin", "(LSilentCouncil$Kept;)V"⟩
abbrev cX6_ask : ByteArray := prog_8_method_6_code
def yX6_ask : MethodName := ⟨RX6, "ask", "(III)V"⟩
abbrev cX6_stir : ByteArray := prog_8_method_7_code
def yX6_stir : MethodName := ⟨RX6, "stir", "(III)V"⟩
abbrev cX6_last : ByteArray := prog_8_method_8_code
def yX6_last : MethodName := ⟨RX6, "last", "(II)V"⟩
abbrev cX6_speak : ByteArray := prog_8_method_9_code
def yX6_speak : MethodName := ⟨RX6, "speak", "(I)V"⟩
abbrev cX6_pay : ByteArray := prog_8_method_10_code
def yX6_pay : MethodName := ⟨RX6, "pay", "(I)Z"⟩
abbrev cX6_listens : ByteArray := prog_8_method_11_code
def yX6_listens : MethodName := ⟨RX6, "listens", "(I)Z"⟩
def RX7 : String := "SilentCouncil"
def TX7 : u_T := fun k => match k with
  | 0 => ("SilentCouncil", "now", "LSilentCouncil$Kept;", true)
  | 1 => ("SilentCouncil", "images", "[LSilentCouncil$Kept;", true)
  | 2 => ("SilentCouncil", "imaged", "[Z", true)
  | 3 => ("SilentCouncil", "pad", "LSilentCouncil$Pad;", true)
  | 4 => ("SilentCouncil", "sitting", "LSilentCouncil$Sitting;", true)
  | 5 => ("SilentCouncil", "agenda", "LSilentCouncil$Agenda;", true)
  | 6 => ("SilentCouncil", "ledger", "LSilentCouncil$Ledger;", true)
  | _ => ("SilentCouncil", "book", "LSilentCouncil$Book;", true)
def tyX7 : Nat → FieldType := fun k => match k with
  | 0 => .object "SilentCouncil$Kept"
  | 1 => .array (.object "SilentCouncil$Kept")
  | 2 => .array .boolean
  | 3 => .object "SilentCouncil$Pad"
  | 4 => .object "SilentCouncil$Sitting"
  | 5 => .object "SilentCouncil$Agenda"
  | 6 => .object "SilentCouncil$Ledger"
  | _ => .object "SilentCouncil$Book"
abbrev wsX70 : List Cond := u_ws RX7 TX7 8
theorem nmX7 : ∀ a, a < 8 → ∀ b, b < 8 → a ≠ b → (TX7 a).2.1 ≠ (TX7 b).2.1 := by decide +kernel
theorem tyX7_ok : ∀ k, k < 8 → parseFieldDescriptor (TX7 k).2.2.1 = some (tyX7 k) := by decide +kernel
abbrev cX7_init : ByteArray := prog_1_method_1_code
def yX7_init : MethodName := ⟨RX7, "<init>", "()V"⟩
abbrev cX7_set : ByteArray := prog_1_method_2_code
def yX7_set : MethodName := ⟨RX7, "set", "(III)I"⟩
abbrev cX7_law : ByteArray := prog_1_method_3_code
def yX7_law : MethodName := ⟨RX7, "law", "(II)I"⟩
abbrev cX7_say : ByteArray := prog_1_method_4_code
def yX7_say : MethodName := ⟨RX7, "say", "(I)I"⟩
abbrev cX7_wipe : ByteArray := prog_1_method_5_code
def yX7_wipe : MethodName := ⟨RX7, "wipe", "()I"⟩
abbrev cX7_fault : ByteArray := prog_1_method_6_code
def yX7_fault : MethodName := ⟨RX7, "fault", "(I)I"⟩
abbrev cX7_sits : ByteArray := prog_1_method_7_code
def yX7_sits : MethodName := ⟨RX7, "sits", "(I)I"⟩
abbrev cX7_sit : ByteArray := prog_1_method_8_code
def yX7_sit : MethodName := ⟨RX7, "sit", "()I"⟩
abbrev cX7_matter : ByteArray := prog_1_method_9_code
def yX7_matter : MethodName := ⟨RX7, "matter", "(III)I"⟩
abbrev cX7_about : ByteArray := prog_1_method_10_code
def yX7_about : MethodName := ⟨RX7, "about", "(II)I"⟩
abbrev cX7_clear : ByteArray := prog_1_method_11_code
def yX7_clear : MethodName := ⟨RX7, "clear", "()I"⟩
abbrev cX7_least : ByteArray := prog_1_method_12_code
def yX7_least : MethodName := ⟨RX7, "least", "(I)I"⟩
abbrev cX7_dealt : ByteArray := prog_1_method_13_code
def yX7_dealt : MethodName := ⟨RX7, "dealt", "(II)I"⟩
abbrev cX7_lend : ByteArray := prog_1_method_14_code
def yX7_lend : MethodName := ⟨RX7, "lend", "(III)I"⟩
abbrev cX7_net : ByteArray := prog_1_method_15_code
def yX7_net : MethodName := ⟨RX7, "net", "(I)I"⟩
abbrev cX7_gifts : ByteArray := prog_1_method_16_code
def yX7_gifts : MethodName := ⟨RX7, "gifts", "()I"⟩
abbrev cX7_filled : ByteArray := prog_1_method_17_code
def yX7_filled : MethodName := ⟨RX7, "filled", "(II)I"⟩
abbrev cX7_lie : ByteArray := prog_1_method_18_code
def yX7_lie : MethodName := ⟨RX7, "lie", "()I"⟩
abbrev cX7_floor : ByteArray := prog_1_method_19_code
def yX7_floor : MethodName := ⟨RX7, "floor", "(I)I"⟩
abbrev cX7_friends : ByteArray := prog_1_method_20_code
def yX7_friends : MethodName := ⟨RX7, "friends", "(II)I"⟩
abbrev cX7_image : ByteArray := prog_1_method_21_code
def yX7_image : MethodName := ⟨RX7, "image", "(I)I"⟩
abbrev cX7_restore : ByteArray := prog_1_method_22_code
def yX7_restore : MethodName := ⟨RX7, "restore", "(I)I"⟩
abbrev cX7_told : ByteArray := prog_1_method_23_code
def yX7_told : MethodName := ⟨RX7, "told", "(I)I"⟩
abbrev cX7_floorOf : ByteArray := prog_1_method_24_code
def yX7_floorOf : MethodName := ⟨RX7, "floorOf", "(I)I"⟩
abbrev cX7_isOne : ByteArray := prog_1_method_25_code
def yX7_isOne : MethodName := ⟨RX7, "isOne", "(I)Z"⟩
abbrev cX7_isOneSign : ByteArray := prog_1_method_26_code
def yX7_isOneSign : MethodName := ⟨RX7, "isOneSign", "(I)Z"⟩
abbrev cX7_holds : ByteArray := prog_1_method_27_code
def yX7_holds : MethodName := ⟨RX7, "holds", "(II)Z"⟩
abbrev cX7_netOf : ByteArray := prog_1_method_28_code
def yX7_netOf : MethodName := ⟨RX7, "netOf", "([[II)I"⟩
abbrev cX7_copyRows : ByteArray := prog_1_method_29_code
def yX7_copyRows : MethodName := ⟨RX7, "copyRows", "([[I[[II)V"⟩
def RX8 : String := "SilentCouncilModel"
def TX8 : u_T := fun k => match k with
  | 0 => ("SilentCouncilModel", "ones", "[I", true)
  | 1 => ("SilentCouncilModel", "cough", "I", false)
  | 2 => ("SilentCouncilModel", "askedFor", "I", false)
  | 3 => ("SilentCouncilModel", "signs", "I", false)
  | 4 => ("SilentCouncilModel", "pad", "[I", true)
  | 5 => ("SilentCouncilModel", "matters", "I", false)
  | 6 => ("SilentCouncilModel", "matter", "[I", true)
  | 7 => ("SilentCouncilModel", "lent", "[I", true)
  | 8 => ("SilentCouncilModel", "now", "[I", true)
  | 9 => ("SilentCouncilModel", "spoke", "[I", true)
  | 10 => ("SilentCouncilModel", "minutes", "I", false)
  | 11 => ("SilentCouncilModel", "without", "I", false)
  | 12 => ("SilentCouncilModel", "firstWithout", "I", false)
  | 13 => ("SilentCouncilModel", "saved", "[I", true)
  | 14 => ("SilentCouncilModel", "least", "[I", true)
  | 15 => ("SilentCouncilModel", "having", "[I", true)
  | 16 => ("SilentCouncilModel", "best", "[I", true)
  | 17 => ("SilentCouncilModel", "parts", "[I", true)
  | 18 => ("SilentCouncilModel", "line", "[I", true)
  | 19 => ("SilentCouncilModel", "had", "[I", true)
  | 20 => ("SilentCouncilModel", "image", "[I", true)
  | _ => ("SilentCouncilModel", "isKept", "[Z", true)
def tyX8 : Nat → FieldType := fun k => match k with
  | 0 => .array .int
  | 1 => .int
  | 2 => .int
  | 3 => .int
  | 4 => .array .int
  | 5 => .int
  | 6 => .array .int
  | 7 => .array .int
  | 8 => .array .int
  | 9 => .array .int
  | 10 => .int
  | 11 => .int
  | 12 => .int
  | 13 => .array .int
  | 14 => .array .int
  | 15 => .array .int
  | 16 => .array .int
  | 17 => .array .int
  | 18 => .array .int
  | 19 => .array .int
  | 20 => .array .int
  | _ => .array .boolean
abbrev wsX80 : List Cond := u_ws RX8 TX8 22
theorem nmX8 : ∀ a, a < 22 → ∀ b, b < 22 → a ≠ b → (TX8 a).2.1 ≠ (TX8 b).2.1 := by decide +kernel
theorem tyX8_ok : ∀ k, k < 22 → parseFieldDescriptor (TX8 k).2.2.1 = some (tyX8 k) := by decide +kernel
abbrev cX8_init : ByteArray := prog_10_method_1_code
def yX8_init : MethodName := ⟨RX8, "<init>", "()V"⟩
abbrev cX8_in : ByteArray := prog_10_method_2_code
def yX8_in : MethodName := ⟨RX8, "in", "(III)Z"⟩
abbrev cX8_isOne : ByteArray := prog_10_method_3_code
def yX8_isOne : MethodName := ⟨RX8, "isOne", "(I)Z"⟩
abbrev cX8_mostOf : ByteArray := prog_10_method_4_code
def yX8_mostOf : MethodName := ⟨RX8, "mostOf", "(I)I"⟩
abbrev cX8_set : ByteArray := prog_10_method_5_code
def yX8_set : MethodName := ⟨RX8, "set", "(III)I"⟩
abbrev cX8_law : ByteArray := prog_10_method_6_code
def yX8_law : MethodName := ⟨RX8, "law", "(II)I"⟩
abbrev cX8_say : ByteArray := prog_10_method_7_code
def yX8_say : MethodName := ⟨RX8, "say", "(I)I"⟩
abbrev cX8_wipe : ByteArray := prog_10_method_8_code
def yX8_wipe : MethodName := ⟨RX8, "wipe", "()I"⟩
abbrev cX8_isName : ByteArray := prog_10_method_9_code
def yX8_isName : MethodName := ⟨RX8, "isName", "(I)Z"⟩
abbrev cX8_isAct : ByteArray := prog_10_method_10_code
def yX8_isAct : MethodName := ⟨RX8, "isAct", "(I)Z"⟩
abbrev cX8_sittingFault : ByteArray := prog_10_method_11_code
def yX8_sittingFault : MethodName := ⟨RX8, "sittingFault", "()I"⟩
abbrev cX8_bookFault : ByteArray := prog_10_method_12_code
def yX8_bookFault : MethodName := ⟨RX8, "bookFault", "()I"⟩
abbrev cX8_fault : ByteArray := prog_10_method_13_code
def yX8_fault : MethodName := ⟨RX8, "fault", "(I)I"⟩
abbrev cX8_listens : ByteArray := prog_10_method_14_code
def yX8_listens : MethodName := ⟨RX8, "listens", "(I)Z"⟩
abbrev cX8_save : ByteArray := prog_10_method_15_code
def yX8_save : MethodName := ⟨RX8, "save", "(I)V"⟩
abbrev cX8_speak : ByteArray := prog_10_method_16_code
def yX8_speak : MethodName := ⟨RX8, "speak", "(I)V"⟩
abbrev cX8_act : ByteArray := prog_10_method_17_code
def yX8_act : MethodName := ⟨RX8, "act", "(II)V"⟩
abbrev cX8_sitThrough : ByteArray := prog_10_method_18_code
def yX8_sitThrough : MethodName := ⟨RX8, "sitThrough", "()V"⟩
abbrev cX8_sits : ByteArray := prog_10_method_19_code
def yX8_sits : MethodName := ⟨RX8, "sits", "(I)I"⟩
abbrev cX8_sit : ByteArray := prog_10_method_20_code
def yX8_sit : MethodName := ⟨RX8, "sit", "()I"⟩
abbrev cX8_matter : ByteArray := prog_10_method_21_code
def yX8_matter : MethodName := ⟨RX8, "matter", "(III)I"⟩
abbrev cX8_about : ByteArray := prog_10_method_22_code
def yX8_about : MethodName := ⟨RX8, "about", "(II)I"⟩
abbrev cX8_clear : ByteArray := prog_10_method_23_code
def yX8_clear : MethodName := ⟨RX8, "clear", "()I"⟩
abbrev cX8_mayBegin : ByteArray := prog_10_method_24_code
def yX8_mayBegin : MethodName := ⟨RX8, "mayBegin", "(II)Z"⟩
abbrev cX8_spokenBy : ByteArray := prog_10_method_25_code
def yX8_spokenBy : MethodName := ⟨RX8, "spokenBy", "(II)I"⟩
abbrev cX8_endOf : ByteArray := prog_10_method_26_code
def yX8_endOf : MethodName := ⟨RX8, "endOf", "(III)I"⟩
abbrev cX8_leastFrom : ByteArray := prog_10_method_27_code
def yX8_leastFrom : MethodName := ⟨RX8, "leastFrom", "(II)I"⟩
abbrev cX8_asSaved : ByteArray := prog_10_method_28_code
def yX8_asSaved : MethodName := ⟨RX8, "asSaved", "()V"⟩
abbrev cX8_least : ByteArray := prog_10_method_29_code
def yX8_least : MethodName := ⟨RX8, "least", "(I)I"⟩
abbrev cX8_dealt : ByteArray := prog_10_method_30_code
def yX8_dealt : MethodName := ⟨RX8, "dealt", "(II)I"⟩
abbrev cX8_lend : ByteArray := prog_10_method_31_code
def yX8_lend : MethodName := ⟨RX8, "lend", "(III)I"⟩
abbrev cX8_netOf : ByteArray := prog_10_method_32_code
def yX8_netOf : MethodName := ⟨RX8, "netOf", "(I)I"⟩
abbrev cX8_net : ByteArray := prog_10_method_33_code
def yX8_net : MethodName := ⟨RX8, "net", "(I)I"⟩
abbrev cX8_gifts : ByteArray := prog_10_method_34_code
def yX8_gifts : MethodName := ⟨RX8, "gifts", "()I"⟩
abbrev cX8_layLine : ByteArray := prog_10_method_35_code
def yX8_layLine : MethodName := ⟨RX8, "layLine", "(I)I"⟩
abbrev cX8_holds : ByteArray := prog_10_method_36_code
def yX8_holds : MethodName := ⟨RX8, "holds", "()I"⟩
abbrev cX8_filled : ByteArray := prog_10_method_37_code
def yX8_filled : MethodName := ⟨RX8, "filled", "(II)I"⟩
abbrev cX8_lie : ByteArray := prog_10_method_38_code
def yX8_lie : MethodName := ⟨RX8, "lie", "()I"⟩
abbrev cX8_floorOf : ByteArray := prog_10_method_39_code
def yX8_floorOf : MethodName := ⟨RX8, "floorOf", "(I)I"⟩
abbrev cX8_floor : ByteArray := prog_10_method_40_code
def yX8_floor : MethodName := ⟨RX8, "floor", "(I)I"⟩
abbrev cX8_bits : ByteArray := prog_10_method_41_code
def yX8_bits : MethodName := ⟨RX8, "bits", "(I)I"⟩
abbrev cX8_friends : ByteArray := prog_10_method_42_code
def yX8_friends : MethodName := ⟨RX8, "friends", "(II)I"⟩
abbrev cX8_image : ByteArray := prog_10_method_43_code
def yX8_image : MethodName := ⟨RX8, "image", "(I)I"⟩
abbrev cX8_restore : ByteArray := prog_10_method_44_code
def yX8_restore : MethodName := ⟨RX8, "restore", "(I)I"⟩
abbrev cX8_told : ByteArray := prog_10_method_45_code
def yX8_told : MethodName := ⟨RX8, "told", "(I)I"⟩
def RJ6 : String := "java/lang/Integer"
def TJ6 : u_T := fun k => match k with
  | _ => ("", "", "", false)
def tyJ6 : Nat → FieldType := fun k => match k with
  | _ => .int
abbrev wsJ60 : List Cond := u_ws RJ6 TJ6 0
theorem nmJ6 : ∀ a, a < 0 → ∀ b, b < 0 → a ≠ b → (TJ6 a).2.1 ≠ (TJ6 b).2.1 := by decide +kernel
theorem tyJ6_ok : ∀ k, k < 0 → parseFieldDescriptor (TJ6 k).2.2.1 = some (tyJ6 k) := by decide +kernel
abbrev cJ6_bitCount_0f7a4 : ByteArray := prog_11_method_49_code
def yJ6_bitCount_0f7a4 : MethodName := ⟨RJ6, "bitCount", "(I)I"⟩
def RJ9 : String := "java/lang/Math"
def TJ9 : u_T := fun k => match k with
  | _ => ("", "", "", false)
def tyJ9 : Nat → FieldType := fun k => match k with
  | _ => .int
abbrev wsJ90 : List Cond := u_ws RJ9 TJ9 0
theorem nmJ9 : ∀ a, a < 0 → ∀ b, b < 0 → a ≠ b → (TJ9 a).2.1 ≠ (TJ9 b).2.1 := by decide +kernel
theorem tyJ9_ok : ∀ k, k < 0 → parseFieldDescriptor (TJ9 k).2.2.1 = some (tyJ9 k) := by decide +kernel
abbrev cJ9_max_7cf53 : ByteArray := prog_12_method_65_code
def yJ9_max_7cf53 : MethodName := ⟨RJ9, "max", "(II)I"⟩
abbrev cJ9_min_7cf53 : ByteArray := prog_12_method_69_code
def yJ9_min_7cf53 : MethodName := ⟨RJ9, "min", "(II)I"⟩
def RJ10 : String := "java/lang/System"
def TJ10 : u_T := fun k => match k with
  | _ => ("", "", "", false)
def tyJ10 : Nat → FieldType := fun k => match k with
  | _ => .int
abbrev wsJ100 : List Cond := u_ws RJ10 TJ10 0
theorem nmJ10 : ∀ a, a < 0 → ∀ b, b < 0 → a ≠ b → (TJ10 a).2.1 ≠ (TJ10 b).2.1 := by decide +kernel
theorem tyJ10_ok : ∀ k, k < 0 → parseFieldDescriptor (TJ10 k).2.2.1 = some (tyJ10 k) := by decide +kernel
def RL : String := "SilentCouncilLaw"
abbrev cL_law : ByteArray := code
def yL_law : MethodName := ⟨RL, "law", "([I)Z"⟩
theorem inJ6 : ∀ w ∈ wsJ60, w ∈ lw_tbl := by decide +kernel
theorem inJ9 : ∀ w ∈ wsJ90, w ∈ lw_tbl := by decide +kernel
theorem inJ10 : ∀ w ∈ wsJ100, w ∈ lw_tbl := by decide +kernel
abbrev vwCl : List vw_C := [(RX0, TX0, 10), (RX1, TX1, 5), (RX2, TX2, 5), (RX3, TX3, 2), (RX4, TX4, 4), (RX5, TX5, 2), (RX6, TX6, 5), (RX7, TX7, 8), (RX8, TX8, 22)]
end
section
theorem dX0_init_0 : decode cX0_init 0 = .ok (.aload_n 0, 1) := by decide +kernel
theorem dX0_init_1 : decode cX0_init 1 = .ok (.invokespecial 3, 3) := by decide +kernel
theorem dX0_init_4 : decode cX0_init 4 = .ok (.aload_n 0, 1) := by decide +kernel
theorem dX0_init_5 : decode cX0_init 5 = .ok (.bipush 8, 2) := by decide +kernel
theorem dX0_init_7 : decode cX0_init 7 = .ok (.newarray .int, 2) := by decide +kernel
theorem dX0_init_9 : decode cX0_init 9 = .ok (.putfield 9, 3) := by decide +kernel
theorem dX0_init_12 : decode cX0_init 12 = .ok (.aload_n 0, 1) := by decide +kernel
theorem dX0_init_13 : decode cX0_init 13 = .ok (.bipush 6, 2) := by decide +kernel
theorem dX0_init_15 : decode cX0_init 15 = .ok (.newarray .int, 2) := by decide +kernel
theorem dX0_init_17 : decode cX0_init 17 = .ok (.putfield 15, 3) := by decide +kernel
theorem dX0_init_20 : decode cX0_init 20 = .ok (.aload_n 0, 1) := by decide +kernel
theorem dX0_init_21 : decode cX0_init 21 = .ok (.ldc 18, 2) := by decide +kernel
theorem dX0_init_23 : decode cX0_init 23 = .ok (.putfield 19, 3) := by decide +kernel
theorem dX0_init_26 : decode cX0_init 26 = .ok (.aload_n 0, 1) := by decide +kernel
theorem dX0_init_27 : decode cX0_init 27 = .ok (.iconst 0, 1) := by decide +kernel
theorem dX0_init_28 : decode cX0_init 28 = .ok (.putfield 23, 3) := by decide +kernel
theorem dX0_init_31 : decode cX0_init 31 = .ok (.aload_n 0, 1) := by decide +kernel
theorem dX0_init_32 : decode cX0_init 32 = .ok (.bipush 6, 2) := by decide +kernel
theorem dX0_init_34 : decode cX0_init 34 = .ok (.newarray .int, 2) := by decide +kernel
theorem dX0_init_36 : decode cX0_init 36 = .ok (.putfield 26, 3) := by decide +kernel
theorem dX0_init_39 : decode cX0_init 39 = .ok (.aload_n 0, 1) := by decide +kernel
theorem dX0_init_40 : decode cX0_init 40 = .ok (.bipush 6, 2) := by decide +kernel
theorem dX0_init_42 : decode cX0_init 42 = .ok (.newarray .int, 2) := by decide +kernel
theorem dX0_init_44 : decode cX0_init 44 = .ok (.putfield 29, 3) := by decide +kernel
theorem dX0_init_47 : decode cX0_init 47 = .ok (.aload_n 0, 1) := by decide +kernel
theorem dX0_init_48 : decode cX0_init 48 = .ok (.sipush 2048, 3) := by decide +kernel
theorem dX0_init_51 : decode cX0_init 51 = .ok (.newarray .int, 2) := by decide +kernel
theorem dX0_init_53 : decode cX0_init 53 = .ok (.putfield 32, 3) := by decide +kernel
theorem dX0_init_56 : decode cX0_init 56 = .ok (.aload_n 0, 1) := by decide +kernel
theorem dX0_init_57 : decode cX0_init 57 = .ok (.sipush 256, 3) := by decide +kernel
theorem dX0_init_60 : decode cX0_init 60 = .ok (.newarray .int, 2) := by decide +kernel
theorem dX0_init_62 : decode cX0_init 62 = .ok (.putfield 35, 3) := by decide +kernel
theorem dX0_init_65 : decode cX0_init 65 = .ok (.aload_n 0, 1) := by decide +kernel
theorem dX0_init_66 : decode cX0_init 66 = .ok (.sipush 256, 3) := by decide +kernel
theorem dX0_init_69 : decode cX0_init 69 = .ok (.newarray .boolean, 2) := by decide +kernel
theorem dX0_init_71 : decode cX0_init 71 = .ok (.putfield 38, 3) := by decide +kernel
theorem dX0_init_74 : decode cX0_init 74 = .ok (.aload_n 0, 1) := by decide +kernel
theorem dX0_init_75 : decode cX0_init 75 = .ok (.iconst 0, 1) := by decide +kernel
theorem dX0_init_76 : decode cX0_init 76 = .ok (.putfield 42, 3) := by decide +kernel
theorem dX0_init_79 : decode cX0_init 79 = .ok (.return_, 1) := by decide +kernel
theorem dX0_prepare_0 : decode cX0_prepare 0 = .ok (.aload_n 0, 1) := by decide +kernel
theorem dX0_prepare_1 : decode cX0_prepare 1 = .ok (.iconst 1, 1) := by decide +kernel
theorem dX0_prepare_2 : decode cX0_prepare 2 = .ok (.aload_n 1, 1) := by decide +kernel
theorem dX0_prepare_3 : decode cX0_prepare 3 = .ok (.getfield 45, 3) := by decide +kernel
theorem dX0_prepare_6 : decode cX0_prepare 6 = .ok (.ishl, 1) := by decide +kernel
theorem dX0_prepare_7 : decode cX0_prepare 7 = .ok (.iconst 1, 1) := by decide +kernel
theorem dX0_prepare_8 : decode cX0_prepare 8 = .ok (.isub, 1) := by decide +kernel
theorem dX0_prepare_9 : decode cX0_prepare 9 = .ok (.putfield 42, 3) := by decide +kernel
theorem dX0_prepare_12 : decode cX0_prepare 12 = .ok (.aload_n 1, 1) := by decide +kernel
theorem dX0_prepare_13 : decode cX0_prepare 13 = .ok (.getfield 50, 3) := by decide +kernel
theorem dX0_prepare_16 : decode cX0_prepare 16 = .ok (.iconst 0, 1) := by decide +kernel
theorem dX0_prepare_17 : decode cX0_prepare 17 = .ok (.aload_n 0, 1) := by decide +kernel
theorem dX0_prepare_18 : decode cX0_prepare 18 = .ok (.getfield 32, 3) := by decide +kernel
theorem dX0_prepare_21 : decode cX0_prepare 21 = .ok (.iconst 0, 1) := by decide +kernel
theorem dX0_prepare_22 : decode cX0_prepare 22 = .ok (.bipush 8, 2) := by decide +kernel
theorem dX0_prepare_24 : decode cX0_prepare 24 = .ok (.invokestatic 53, 3) := by decide +kernel
theorem dX0_prepare_27 : decode cX0_prepare 27 = .ok (.iconst 0, 1) := by decide +kernel
theorem dX0_prepare_28 : decode cX0_prepare 28 = .ok (.istore_n 2, 1) := by decide +kernel
theorem dX0_prepare_29 : decode cX0_prepare 29 = .ok (.iload_n 2, 1) := by decide +kernel
theorem dX0_prepare_30 : decode cX0_prepare 30 = .ok (.aload_n 1, 1) := by decide +kernel
theorem dX0_prepare_31 : decode cX0_prepare 31 = .ok (.getfield 45, 3) := by decide +kernel
theorem dX0_prepare_34 : decode cX0_prepare 34 = .ok (.if_icmp .ge 31, 3) := by decide +kernel
theorem dX0_prepare_37 : decode cX0_prepare 37 = .ok (.iconst 0, 1) := by decide +kernel
theorem dX0_prepare_38 : decode cX0_prepare 38 = .ok (.istore_n 3, 1) := by decide +kernel
theorem dX0_prepare_39 : decode cX0_prepare 39 = .ok (.iload_n 3, 1) := by decide +kernel
theorem dX0_prepare_40 : decode cX0_prepare 40 = .ok (.iconst 1, 1) := by decide +kernel
theorem dX0_prepare_41 : decode cX0_prepare 41 = .ok (.iload_n 2, 1) := by decide +kernel
theorem dX0_prepare_42 : decode cX0_prepare 42 = .ok (.ishl, 1) := by decide +kernel
theorem dX0_prepare_43 : decode cX0_prepare 43 = .ok (.if_icmp .ge 16, 3) := by decide +kernel
theorem dX0_prepare_46 : decode cX0_prepare 46 = .ok (.aload_n 0, 1) := by decide +kernel
theorem dX0_prepare_47 : decode cX0_prepare 47 = .ok (.aload_n 1, 1) := by decide +kernel
theorem dX0_prepare_48 : decode cX0_prepare 48 = .ok (.iload_n 3, 1) := by decide +kernel
theorem dX0_prepare_49 : decode cX0_prepare 49 = .ok (.iload_n 2, 1) := by decide +kernel
theorem dX0_prepare_50 : decode cX0_prepare 50 = .ok (.invokevirtual 59, 3) := by decide +kernel
theorem dX0_prepare_53 : decode cX0_prepare 53 = .ok (.iinc 3 1, 3) := by decide +kernel
theorem dX0_prepare_56 : decode cX0_prepare 56 = .ok (.goto (-17), 3) := by decide +kernel
theorem dX0_prepare_59 : decode cX0_prepare 59 = .ok (.iinc 2 1, 3) := by decide +kernel
theorem dX0_prepare_62 : decode cX0_prepare 62 = .ok (.goto (-33), 3) := by decide +kernel
theorem dX0_prepare_65 : decode cX0_prepare 65 = .ok (.return_, 1) := by decide +kernel
theorem dX0_needBehind_0 : decode cX0_needBehind 0 = .ok (.iload_n 2, 1) := by decide +kernel
theorem dX0_needBehind_1 : decode cX0_needBehind 1 = .ok (.iconst 1, 1) := by decide +kernel
theorem dX0_needBehind_2 : decode cX0_needBehind 2 = .ok (.iload_n 3, 1) := by decide +kernel
theorem dX0_needBehind_3 : decode cX0_needBehind 3 = .ok (.ishl, 1) := by decide +kernel
theorem dX0_needBehind_4 : decode cX0_needBehind 4 = .ok (.ior, 1) := by decide +kernel
theorem dX0_needBehind_5 : decode cX0_needBehind 5 = .ok (.istore 4, 2) := by decide +kernel
theorem dX0_needBehind_7 : decode cX0_needBehind 7 = .ok (.aload_n 1, 1) := by decide +kernel
theorem dX0_needBehind_8 : decode cX0_needBehind 8 = .ok (.getfield 50, 3) := by decide +kernel
theorem dX0_needBehind_11 : decode cX0_needBehind 11 = .ok (.iload_n 3, 1) := by decide +kernel
theorem dX0_needBehind_12 : decode cX0_needBehind 12 = .ok (.iaload, 1) := by decide +kernel
theorem dX0_needBehind_13 : decode cX0_needBehind 13 = .ok (.istore 5, 2) := by decide +kernel
theorem dX0_needBehind_15 : decode cX0_needBehind 15 = .ok (.iconst 0, 1) := by decide +kernel
theorem dX0_needBehind_16 : decode cX0_needBehind 16 = .ok (.istore 6, 2) := by decide +kernel
theorem dX0_needBehind_18 : decode cX0_needBehind 18 = .ok (.iload 6, 2) := by decide +kernel
theorem dX0_needBehind_20 : decode cX0_needBehind 20 = .ok (.aload_n 1, 1) := by decide +kernel
theorem dX0_needBehind_21 : decode cX0_needBehind 21 = .ok (.getfield 45, 3) := by decide +kernel
theorem dX0_needBehind_24 : decode cX0_needBehind 24 = .ok (.if_icmp .ge 63, 3) := by decide +kernel
theorem dX0_needBehind_27 : decode cX0_needBehind 27 = .ok (.aload_n 1, 1) := by decide +kernel
theorem dX0_needBehind_28 : decode cX0_needBehind 28 = .ok (.getfield 63, 3) := by decide +kernel
theorem dX0_needBehind_31 : decode cX0_needBehind 31 = .ok (.iload_n 3, 1) := by decide +kernel
theorem dX0_needBehind_32 : decode cX0_needBehind 32 = .ok (.iaload, 1) := by decide +kernel
theorem dX0_needBehind_33 : decode cX0_needBehind 33 = .ok (.aload_n 1, 1) := by decide +kernel
theorem dX0_needBehind_34 : decode cX0_needBehind 34 = .ok (.getfield 63, 3) := by decide +kernel
theorem dX0_needBehind_37 : decode cX0_needBehind 37 = .ok (.iload 6, 2) := by decide +kernel
theorem dX0_needBehind_39 : decode cX0_needBehind 39 = .ok (.iaload, 1) := by decide +kernel
theorem dX0_needBehind_40 : decode cX0_needBehind 40 = .ok (.if_icmp .ne 8, 3) := by decide +kernel
theorem dX0_needBehind_43 : decode cX0_needBehind 43 = .ok (.iload 5, 2) := by decide +kernel
theorem dX0_needBehind_45 : decode cX0_needBehind 45 = .ok (.goto 6, 3) := by decide +kernel
theorem dX0_needBehind_48 : decode cX0_needBehind 48 = .ok (.iload 5, 2) := by decide +kernel
theorem dX0_needBehind_50 : decode cX0_needBehind 50 = .ok (.ineg, 1) := by decide +kernel
theorem dX0_needBehind_51 : decode cX0_needBehind 51 = .ok (.istore 7, 2) := by decide +kernel
theorem dX0_needBehind_53 : decode cX0_needBehind 53 = .ok (.aload_n 0, 1) := by decide +kernel
theorem dX0_needBehind_54 : decode cX0_needBehind 54 = .ok (.getfield 32, 3) := by decide +kernel
theorem dX0_needBehind_57 : decode cX0_needBehind 57 = .ok (.iload 4, 2) := by decide +kernel
theorem dX0_needBehind_59 : decode cX0_needBehind 59 = .ok (.bipush 8, 2) := by decide +kernel
theorem dX0_needBehind_61 : decode cX0_needBehind 61 = .ok (.imul, 1) := by decide +kernel
theorem dX0_needBehind_62 : decode cX0_needBehind 62 = .ok (.iload 6, 2) := by decide +kernel
theorem dX0_needBehind_64 : decode cX0_needBehind 64 = .ok (.iadd, 1) := by decide +kernel
theorem dX0_needBehind_65 : decode cX0_needBehind 65 = .ok (.aload_n 0, 1) := by decide +kernel
theorem dX0_needBehind_66 : decode cX0_needBehind 66 = .ok (.getfield 32, 3) := by decide +kernel
theorem dX0_needBehind_69 : decode cX0_needBehind 69 = .ok (.iload_n 2, 1) := by decide +kernel
theorem dX0_needBehind_70 : decode cX0_needBehind 70 = .ok (.bipush 8, 2) := by decide +kernel
theorem dX0_needBehind_72 : decode cX0_needBehind 72 = .ok (.imul, 1) := by decide +kernel
theorem dX0_needBehind_73 : decode cX0_needBehind 73 = .ok (.iload 6, 2) := by decide +kernel
theorem dX0_needBehind_75 : decode cX0_needBehind 75 = .ok (.iadd, 1) := by decide +kernel
theorem dX0_needBehind_76 : decode cX0_needBehind 76 = .ok (.iaload, 1) := by decide +kernel
theorem dX0_needBehind_77 : decode cX0_needBehind 77 = .ok (.iload 7, 2) := by decide +kernel
theorem dX0_needBehind_79 : decode cX0_needBehind 79 = .ok (.iadd, 1) := by decide +kernel
theorem dX0_needBehind_80 : decode cX0_needBehind 80 = .ok (.iastore, 1) := by decide +kernel
theorem dX0_needBehind_81 : decode cX0_needBehind 81 = .ok (.iinc 6 1, 3) := by decide +kernel
theorem dX0_needBehind_84 : decode cX0_needBehind 84 = .ok (.goto (-66), 3) := by decide +kernel
theorem dX0_needBehind_87 : decode cX0_needBehind 87 = .ok (.return_, 1) := by decide +kernel
theorem dX0_takeShares_0 : decode cX0_takeShares 0 = .ok (.aload_n 1, 1) := by decide +kernel
theorem dX0_takeShares_1 : decode cX0_takeShares 1 = .ok (.iconst 0, 1) := by decide +kernel
theorem dX0_takeShares_2 : decode cX0_takeShares 2 = .ok (.aload_n 0, 1) := by decide +kernel
theorem dX0_takeShares_3 : decode cX0_takeShares 3 = .ok (.getfield 29, 3) := by decide +kernel
theorem dX0_takeShares_6 : decode cX0_takeShares 6 = .ok (.iconst 0, 1) := by decide +kernel
theorem dX0_takeShares_7 : decode cX0_takeShares 7 = .ok (.bipush 6, 2) := by decide +kernel
theorem dX0_takeShares_9 : decode cX0_takeShares 9 = .ok (.invokestatic 53, 3) := by decide +kernel
theorem dX0_takeShares_12 : decode cX0_takeShares 12 = .ok (.return_, 1) := by decide +kernel
theorem dX0_findHolders_0 : decode cX0_findHolders 0 = .ok (.aload_n 0, 1) := by decide +kernel
theorem dX0_findHolders_1 : decode cX0_findHolders 1 = .ok (.iconst 0, 1) := by decide +kernel
theorem dX0_findHolders_2 : decode cX0_findHolders 2 = .ok (.putfield 23, 3) := by decide +kernel
theorem dX0_findHolders_5 : decode cX0_findHolders 5 = .ok (.iconst 0, 1) := by decide +kernel
theorem dX0_findHolders_6 : decode cX0_findHolders 6 = .ok (.istore_n 2, 1) := by decide +kernel
theorem dX0_findHolders_7 : decode cX0_findHolders 7 = .ok (.iload_n 2, 1) := by decide +kernel
theorem dX0_findHolders_8 : decode cX0_findHolders 8 = .ok (.bipush 6, 2) := by decide +kernel
theorem dX0_findHolders_10 : decode cX0_findHolders 10 = .ok (.if_icmp .ge 37, 3) := by decide +kernel
theorem dX0_findHolders_13 : decode cX0_findHolders 13 = .ok (.aload_n 1, 1) := by decide +kernel
theorem dX0_findHolders_14 : decode cX0_findHolders 14 = .ok (.iload_n 2, 1) := by decide +kernel
theorem dX0_findHolders_15 : decode cX0_findHolders 15 = .ok (.invokevirtual 66, 3) := by decide +kernel
theorem dX0_findHolders_18 : decode cX0_findHolders 18 = .ok (.ifCond .eq 23, 3) := by decide +kernel
theorem dX0_findHolders_21 : decode cX0_findHolders 21 = .ok (.aload_n 0, 1) := by decide +kernel
theorem dX0_findHolders_22 : decode cX0_findHolders 22 = .ok (.getfield 26, 3) := by decide +kernel
theorem dX0_findHolders_25 : decode cX0_findHolders 25 = .ok (.aload_n 0, 1) := by decide +kernel
theorem dX0_findHolders_26 : decode cX0_findHolders 26 = .ok (.getfield 23, 3) := by decide +kernel
theorem dX0_findHolders_29 : decode cX0_findHolders 29 = .ok (.iload_n 2, 1) := by decide +kernel
theorem dX0_findHolders_30 : decode cX0_findHolders 30 = .ok (.iastore, 1) := by decide +kernel
theorem dX0_findHolders_31 : decode cX0_findHolders 31 = .ok (.aload_n 0, 1) := by decide +kernel
theorem dX0_findHolders_32 : decode cX0_findHolders 32 = .ok (.dup, 1) := by decide +kernel
theorem dX0_findHolders_33 : decode cX0_findHolders 33 = .ok (.getfield 23, 3) := by decide +kernel
theorem dX0_findHolders_36 : decode cX0_findHolders 36 = .ok (.iconst 1, 1) := by decide +kernel
theorem dX0_findHolders_37 : decode cX0_findHolders 37 = .ok (.iadd, 1) := by decide +kernel
theorem dX0_findHolders_38 : decode cX0_findHolders 38 = .ok (.putfield 23, 3) := by decide +kernel
theorem dX0_findHolders_41 : decode cX0_findHolders 41 = .ok (.iinc 2 1, 3) := by decide +kernel
theorem dX0_findHolders_44 : decode cX0_findHolders 44 = .ok (.goto (-37), 3) := by decide +kernel
theorem dX0_findHolders_47 : decode cX0_findHolders 47 = .ok (.return_, 1) := by decide +kernel
theorem dX0_leastPause_0 : decode cX0_leastPause 0 = .ok (.iconst 1, 1) := by decide +kernel
theorem dX0_leastPause_1 : decode cX0_leastPause 1 = .ok (.istore_n 3, 1) := by decide +kernel
theorem dX0_leastPause_2 : decode cX0_leastPause 2 = .ok (.iload_n 3, 1) := by decide +kernel
theorem dX0_leastPause_3 : decode cX0_leastPause 3 = .ok (.aload_n 0, 1) := by decide +kernel
theorem dX0_leastPause_4 : decode cX0_leastPause 4 = .ok (.getfield 42, 3) := by decide +kernel
theorem dX0_leastPause_7 : decode cX0_leastPause 7 = .ok (.if_icmp .gt 16, 3) := by decide +kernel
theorem dX0_leastPause_10 : decode cX0_leastPause 10 = .ok (.aload_n 0, 1) := by decide +kernel
theorem dX0_leastPause_11 : decode cX0_leastPause 11 = .ok (.getfield 35, 3) := by decide +kernel
theorem dX0_leastPause_14 : decode cX0_leastPause 14 = .ok (.iload_n 3, 1) := by decide +kernel
theorem dX0_leastPause_15 : decode cX0_leastPause 15 = .ok (.iload_n 2, 1) := by decide +kernel
theorem dX0_leastPause_16 : decode cX0_leastPause 16 = .ok (.iastore, 1) := by decide +kernel
theorem dX0_leastPause_17 : decode cX0_leastPause 17 = .ok (.iinc 3 1, 3) := by decide +kernel
theorem dX0_leastPause_20 : decode cX0_leastPause 20 = .ok (.goto (-18), 3) := by decide +kernel
theorem dX0_leastPause_23 : decode cX0_leastPause 23 = .ok (.aload_n 0, 1) := by decide +kernel
theorem dX0_leastPause_24 : decode cX0_leastPause 24 = .ok (.getfield 35, 3) := by decide +kernel
theorem dX0_leastPause_27 : decode cX0_leastPause 27 = .ok (.iconst 0, 1) := by decide +kernel
theorem dX0_leastPause_28 : decode cX0_leastPause 28 = .ok (.iconst 0, 1) := by decide +kernel
theorem dX0_leastPause_29 : decode cX0_leastPause 29 = .ok (.iastore, 1) := by decide +kernel
theorem dX0_leastPause_30 : decode cX0_leastPause 30 = .ok (.iconst 0, 1) := by decide +kernel
theorem dX0_leastPause_31 : decode cX0_leastPause 31 = .ok (.istore_n 3, 1) := by decide +kernel
theorem dX0_leastPause_32 : decode cX0_leastPause 32 = .ok (.iload_n 3, 1) := by decide +kernel
theorem dX0_leastPause_33 : decode cX0_leastPause 33 = .ok (.aload_n 0, 1) := by decide +kernel
theorem dX0_leastPause_34 : decode cX0_leastPause 34 = .ok (.getfield 42, 3) := by decide +kernel
theorem dX0_leastPause_37 : decode cX0_leastPause 37 = .ok (.if_icmp .ge 25, 3) := by decide +kernel
theorem dX0_leastPause_40 : decode cX0_leastPause 40 = .ok (.aload_n 0, 1) := by decide +kernel
theorem dX0_leastPause_41 : decode cX0_leastPause 41 = .ok (.getfield 35, 3) := by decide +kernel
theorem dX0_leastPause_44 : decode cX0_leastPause 44 = .ok (.iload_n 3, 1) := by decide +kernel
theorem dX0_leastPause_45 : decode cX0_leastPause 45 = .ok (.iaload, 1) := by decide +kernel
theorem dX0_leastPause_46 : decode cX0_leastPause 46 = .ok (.iload_n 2, 1) := by decide +kernel
theorem dX0_leastPause_47 : decode cX0_leastPause 47 = .ok (.if_icmp .ge 9, 3) := by decide +kernel
theorem dX0_leastPause_50 : decode cX0_leastPause 50 = .ok (.aload_n 0, 1) := by decide +kernel
theorem dX0_leastPause_51 : decode cX0_leastPause 51 = .ok (.aload_n 1, 1) := by decide +kernel
theorem dX0_leastPause_52 : decode cX0_leastPause 52 = .ok (.iload_n 3, 1) := by decide +kernel
theorem dX0_leastPause_53 : decode cX0_leastPause 53 = .ok (.invokevirtual 70, 3) := by decide +kernel
theorem dX0_leastPause_56 : decode cX0_leastPause 56 = .ok (.iinc 3 1, 3) := by decide +kernel
theorem dX0_leastPause_59 : decode cX0_leastPause 59 = .ok (.goto (-27), 3) := by decide +kernel
theorem dX0_leastPause_62 : decode cX0_leastPause 62 = .ok (.aload_n 0, 1) := by decide +kernel
theorem dX0_leastPause_63 : decode cX0_leastPause 63 = .ok (.getfield 35, 3) := by decide +kernel
theorem dX0_leastPause_66 : decode cX0_leastPause 66 = .ok (.aload_n 0, 1) := by decide +kernel
theorem dX0_leastPause_67 : decode cX0_leastPause 67 = .ok (.getfield 42, 3) := by decide +kernel
theorem dX0_leastPause_70 : decode cX0_leastPause 70 = .ok (.iaload, 1) := by decide +kernel
theorem dX0_leastPause_71 : decode cX0_leastPause 71 = .ok (.ireturn, 1) := by decide +kernel
theorem dX0_lengthen_0 : decode cX0_lengthen 0 = .ok (.iconst 0, 1) := by decide +kernel
theorem dX0_lengthen_1 : decode cX0_lengthen 1 = .ok (.istore_n 3, 1) := by decide +kernel
theorem dX0_lengthen_2 : decode cX0_lengthen 2 = .ok (.iload_n 3, 1) := by decide +kernel
theorem dX0_lengthen_3 : decode cX0_lengthen 3 = .ok (.aload_n 1, 1) := by decide +kernel
theorem dX0_lengthen_4 : decode cX0_lengthen 4 = .ok (.getfield 45, 3) := by decide +kernel
theorem dX0_lengthen_7 : decode cX0_lengthen 7 = .ok (.if_icmp .ge 62, 3) := by decide +kernel
theorem dX0_lengthen_10 : decode cX0_lengthen 10 = .ok (.aload_n 1, 1) := by decide +kernel
theorem dX0_lengthen_11 : decode cX0_lengthen 11 = .ok (.iload_n 3, 1) := by decide +kernel
theorem dX0_lengthen_12 : decode cX0_lengthen 12 = .ok (.iload_n 2, 1) := by decide +kernel
theorem dX0_lengthen_13 : decode cX0_lengthen 13 = .ok (.invokevirtual 74, 3) := by decide +kernel
theorem dX0_lengthen_16 : decode cX0_lengthen 16 = .ok (.ifCond .eq 47, 3) := by decide +kernel
theorem dX0_lengthen_19 : decode cX0_lengthen 19 = .ok (.iload_n 2, 1) := by decide +kernel
theorem dX0_lengthen_20 : decode cX0_lengthen 20 = .ok (.iconst 1, 1) := by decide +kernel
theorem dX0_lengthen_21 : decode cX0_lengthen 21 = .ok (.iload_n 3, 1) := by decide +kernel
theorem dX0_lengthen_22 : decode cX0_lengthen 22 = .ok (.ishl, 1) := by decide +kernel
theorem dX0_lengthen_23 : decode cX0_lengthen 23 = .ok (.ior, 1) := by decide +kernel
theorem dX0_lengthen_24 : decode cX0_lengthen 24 = .ok (.istore 4, 2) := by decide +kernel
theorem dX0_lengthen_26 : decode cX0_lengthen 26 = .ok (.aload_n 0, 1) := by decide +kernel
theorem dX0_lengthen_27 : decode cX0_lengthen 27 = .ok (.getfield 35, 3) := by decide +kernel
theorem dX0_lengthen_30 : decode cX0_lengthen 30 = .ok (.iload_n 2, 1) := by decide +kernel
theorem dX0_lengthen_31 : decode cX0_lengthen 31 = .ok (.iaload, 1) := by decide +kernel
theorem dX0_lengthen_32 : decode cX0_lengthen 32 = .ok (.aload_n 0, 1) := by decide +kernel
theorem dX0_lengthen_33 : decode cX0_lengthen 33 = .ok (.aload_n 1, 1) := by decide +kernel
theorem dX0_lengthen_34 : decode cX0_lengthen 34 = .ok (.iload_n 2, 1) := by decide +kernel
theorem dX0_lengthen_35 : decode cX0_lengthen 35 = .ok (.iload_n 3, 1) := by decide +kernel
theorem dX0_lengthen_36 : decode cX0_lengthen 36 = .ok (.invokevirtual 78, 3) := by decide +kernel
theorem dX0_lengthen_39 : decode cX0_lengthen 39 = .ok (.invokestatic 82, 3) := by decide +kernel
theorem dX0_lengthen_42 : decode cX0_lengthen 42 = .ok (.istore 5, 2) := by decide +kernel
theorem dX0_lengthen_44 : decode cX0_lengthen 44 = .ok (.aload_n 0, 1) := by decide +kernel
theorem dX0_lengthen_45 : decode cX0_lengthen 45 = .ok (.getfield 35, 3) := by decide +kernel
theorem dX0_lengthen_48 : decode cX0_lengthen 48 = .ok (.iload 4, 2) := by decide +kernel
theorem dX0_lengthen_50 : decode cX0_lengthen 50 = .ok (.aload_n 0, 1) := by decide +kernel
theorem dX0_lengthen_51 : decode cX0_lengthen 51 = .ok (.getfield 35, 3) := by decide +kernel
theorem dX0_lengthen_54 : decode cX0_lengthen 54 = .ok (.iload 4, 2) := by decide +kernel
theorem dX0_lengthen_56 : decode cX0_lengthen 56 = .ok (.iaload, 1) := by decide +kernel
theorem dX0_lengthen_57 : decode cX0_lengthen 57 = .ok (.iload 5, 2) := by decide +kernel
theorem dX0_lengthen_59 : decode cX0_lengthen 59 = .ok (.invokestatic 88, 3) := by decide +kernel
theorem dX0_lengthen_62 : decode cX0_lengthen 62 = .ok (.iastore, 1) := by decide +kernel
theorem dX0_lengthen_63 : decode cX0_lengthen 63 = .ok (.iinc 3 1, 3) := by decide +kernel
theorem dX0_lengthen_66 : decode cX0_lengthen 66 = .ok (.goto (-64), 3) := by decide +kernel
theorem dX0_lengthen_69 : decode cX0_lengthen 69 = .ok (.return_, 1) := by decide +kernel
theorem dX0_findOrder_0 : decode cX0_findOrder 0 = .ok (.aload_n 0, 1) := by decide +kernel
theorem dX0_findOrder_1 : decode cX0_findOrder 1 = .ok (.getfield 38, 3) := by decide +kernel
theorem dX0_findOrder_4 : decode cX0_findOrder 4 = .ok (.aload_n 0, 1) := by decide +kernel
theorem dX0_findOrder_5 : decode cX0_findOrder 5 = .ok (.getfield 42, 3) := by decide +kernel
theorem dX0_findOrder_8 : decode cX0_findOrder 8 = .ok (.iconst 1, 1) := by decide +kernel
theorem dX0_findOrder_9 : decode cX0_findOrder 9 = .ok (.bastore, 1) := by decide +kernel
theorem dX0_findOrder_10 : decode cX0_findOrder 10 = .ok (.aload_n 0, 1) := by decide +kernel
theorem dX0_findOrder_11 : decode cX0_findOrder 11 = .ok (.getfield 42, 3) := by decide +kernel
theorem dX0_findOrder_14 : decode cX0_findOrder 14 = .ok (.iconst 1, 1) := by decide +kernel
theorem dX0_findOrder_15 : decode cX0_findOrder 15 = .ok (.isub, 1) := by decide +kernel
theorem dX0_findOrder_16 : decode cX0_findOrder 16 = .ok (.istore_n 3, 1) := by decide +kernel
theorem dX0_findOrder_17 : decode cX0_findOrder 17 = .ok (.iload_n 3, 1) := by decide +kernel
theorem dX0_findOrder_18 : decode cX0_findOrder 18 = .ok (.ifCond .lt 34, 3) := by decide +kernel
theorem dX0_findOrder_21 : decode cX0_findOrder 21 = .ok (.aload_n 0, 1) := by decide +kernel
theorem dX0_findOrder_22 : decode cX0_findOrder 22 = .ok (.getfield 38, 3) := by decide +kernel
theorem dX0_findOrder_25 : decode cX0_findOrder 25 = .ok (.iload_n 3, 1) := by decide +kernel
theorem dX0_findOrder_26 : decode cX0_findOrder 26 = .ok (.aload_n 0, 1) := by decide +kernel
theorem dX0_findOrder_27 : decode cX0_findOrder 27 = .ok (.aload_n 1, 1) := by decide +kernel
theorem dX0_findOrder_28 : decode cX0_findOrder 28 = .ok (.iload_n 3, 1) := by decide +kernel
theorem dX0_findOrder_29 : decode cX0_findOrder 29 = .ok (.iload_n 2, 1) := by decide +kernel
theorem dX0_findOrder_30 : decode cX0_findOrder 30 = .ok (.invokevirtual 91, 3) := by decide +kernel
theorem dX0_findOrder_33 : decode cX0_findOrder 33 = .ok (.aload_n 1, 1) := by decide +kernel
theorem dX0_findOrder_34 : decode cX0_findOrder 34 = .ok (.getfield 45, 3) := by decide +kernel
theorem dX0_findOrder_37 : decode cX0_findOrder 37 = .ok (.if_icmp .ge 7, 3) := by decide +kernel
theorem dX0_findOrder_40 : decode cX0_findOrder 40 = .ok (.iconst 1, 1) := by decide +kernel
theorem dX0_findOrder_41 : decode cX0_findOrder 41 = .ok (.goto 4, 3) := by decide +kernel
theorem dX0_findOrder_44 : decode cX0_findOrder 44 = .ok (.iconst 0, 1) := by decide +kernel
theorem dX0_findOrder_45 : decode cX0_findOrder 45 = .ok (.bastore, 1) := by decide +kernel
theorem dX0_findOrder_46 : decode cX0_findOrder 46 = .ok (.iinc 3 (-1), 3) := by decide +kernel
theorem dX0_findOrder_49 : decode cX0_findOrder 49 = .ok (.goto (-32), 3) := by decide +kernel
theorem dX0_findOrder_52 : decode cX0_findOrder 52 = .ok (.iconst 0, 1) := by decide +kernel
theorem dX0_findOrder_53 : decode cX0_findOrder 53 = .ok (.istore_n 3, 1) := by decide +kernel
theorem dX0_findOrder_54 : decode cX0_findOrder 54 = .ok (.iconst 0, 1) := by decide +kernel
theorem dX0_findOrder_55 : decode cX0_findOrder 55 = .ok (.istore 4, 2) := by decide +kernel
theorem dX0_findOrder_57 : decode cX0_findOrder 57 = .ok (.iload 4, 2) := by decide +kernel
theorem dX0_findOrder_59 : decode cX0_findOrder 59 = .ok (.aload_n 1, 1) := by decide +kernel
theorem dX0_findOrder_60 : decode cX0_findOrder 60 = .ok (.getfield 45, 3) := by decide +kernel
theorem dX0_findOrder_63 : decode cX0_findOrder 63 = .ok (.if_icmp .ge 44, 3) := by decide +kernel
theorem dX0_findOrder_66 : decode cX0_findOrder 66 = .ok (.aload_n 0, 1) := by decide +kernel
theorem dX0_findOrder_67 : decode cX0_findOrder 67 = .ok (.aload_n 1, 1) := by decide +kernel
theorem dX0_findOrder_68 : decode cX0_findOrder 68 = .ok (.iload_n 3, 1) := by decide +kernel
theorem dX0_findOrder_69 : decode cX0_findOrder 69 = .ok (.iload_n 2, 1) := by decide +kernel
theorem dX0_findOrder_70 : decode cX0_findOrder 70 = .ok (.invokevirtual 91, 3) := by decide +kernel
theorem dX0_findOrder_73 : decode cX0_findOrder 73 = .ok (.istore 5, 2) := by decide +kernel
theorem dX0_findOrder_75 : decode cX0_findOrder 75 = .ok (.iload 5, 2) := by decide +kernel
theorem dX0_findOrder_77 : decode cX0_findOrder 77 = .ok (.aload_n 1, 1) := by decide +kernel
theorem dX0_findOrder_78 : decode cX0_findOrder 78 = .ok (.getfield 45, 3) := by decide +kernel
theorem dX0_findOrder_81 : decode cX0_findOrder 81 = .ok (.if_icmp .lt 4, 3) := by decide +kernel
theorem dX0_findOrder_84 : decode cX0_findOrder 84 = .ok (.return_, 1) := by decide +kernel
theorem dX0_findOrder_85 : decode cX0_findOrder 85 = .ok (.aload_n 0, 1) := by decide +kernel
theorem dX0_findOrder_86 : decode cX0_findOrder 86 = .ok (.getfield 9, 3) := by decide +kernel
theorem dX0_findOrder_89 : decode cX0_findOrder 89 = .ok (.iload 4, 2) := by decide +kernel
theorem dX0_findOrder_91 : decode cX0_findOrder 91 = .ok (.iload 5, 2) := by decide +kernel
theorem dX0_findOrder_93 : decode cX0_findOrder 93 = .ok (.iastore, 1) := by decide +kernel
theorem dX0_findOrder_94 : decode cX0_findOrder 94 = .ok (.iload_n 3, 1) := by decide +kernel
theorem dX0_findOrder_95 : decode cX0_findOrder 95 = .ok (.iconst 1, 1) := by decide +kernel
theorem dX0_findOrder_96 : decode cX0_findOrder 96 = .ok (.iload 5, 2) := by decide +kernel
theorem dX0_findOrder_98 : decode cX0_findOrder 98 = .ok (.ishl, 1) := by decide +kernel
theorem dX0_findOrder_99 : decode cX0_findOrder 99 = .ok (.ior, 1) := by decide +kernel
theorem dX0_findOrder_100 : decode cX0_findOrder 100 = .ok (.istore_n 3, 1) := by decide +kernel
theorem dX0_findOrder_101 : decode cX0_findOrder 101 = .ok (.iinc 4 1, 3) := by decide +kernel
theorem dX0_findOrder_104 : decode cX0_findOrder 104 = .ok (.goto (-47), 3) := by decide +kernel
theorem dX0_findOrder_107 : decode cX0_findOrder 107 = .ok (.return_, 1) := by decide +kernel
theorem dX0_findBestDeal_0 : decode cX0_findBestDeal 0 = .ok (.aload_n 0, 1) := by decide +kernel
theorem dX0_findBestDeal_1 : decode cX0_findBestDeal 1 = .ok (.ldc 18, 2) := by decide +kernel
theorem dX0_findBestDeal_3 : decode cX0_findBestDeal 3 = .ok (.putfield 19, 3) := by decide +kernel
theorem dX0_findBestDeal_6 : decode cX0_findBestDeal 6 = .ok (.aload_n 0, 1) := by decide +kernel
theorem dX0_findBestDeal_7 : decode cX0_findBestDeal 7 = .ok (.aload_n 1, 1) := by decide +kernel
theorem dX0_findBestDeal_8 : decode cX0_findBestDeal 8 = .ok (.iconst 0, 1) := by decide +kernel
theorem dX0_findBestDeal_9 : decode cX0_findBestDeal 9 = .ok (.iload_n 2, 1) := by decide +kernel
theorem dX0_findBestDeal_10 : decode cX0_findBestDeal 10 = .ok (.invokestatic 94, 3) := by decide +kernel
theorem dX0_findBestDeal_13 : decode cX0_findBestDeal 13 = .ok (.return_, 1) := by decide +kernel
theorem dX0_deal_0 : decode cX0_deal 0 = .ok (.iload_n 2, 1) := by decide +kernel
theorem dX0_deal_1 : decode cX0_deal 1 = .ok (.ifCond .lt 16, 3) := by decide +kernel
theorem dX0_deal_4 : decode cX0_deal 4 = .ok (.iload_n 2, 1) := by decide +kernel
theorem dX0_deal_5 : decode cX0_deal 5 = .ok (.aload_n 0, 1) := by decide +kernel
theorem dX0_deal_6 : decode cX0_deal 6 = .ok (.getfield 23, 3) := by decide +kernel
theorem dX0_deal_9 : decode cX0_deal 9 = .ok (.if_icmp .ge 8, 3) := by decide +kernel
theorem dX0_deal_12 : decode cX0_deal 12 = .ok (.iload_n 2, 1) := by decide +kernel
theorem dX0_deal_13 : decode cX0_deal 13 = .ok (.iconst 4, 1) := by decide +kernel
theorem dX0_deal_14 : decode cX0_deal 14 = .ok (.if_icmp .lt 4, 3) := by decide +kernel
theorem dX0_deal_17 : decode cX0_deal 17 = .ok (.return_, 1) := by decide +kernel
theorem dX0_deal_18 : decode cX0_deal 18 = .ok (.iload_n 2, 1) := by decide +kernel
theorem dX0_deal_19 : decode cX0_deal 19 = .ok (.aload_n 0, 1) := by decide +kernel
theorem dX0_deal_20 : decode cX0_deal 20 = .ok (.getfield 23, 3) := by decide +kernel
theorem dX0_deal_23 : decode cX0_deal 23 = .ok (.iconst 1, 1) := by decide +kernel
theorem dX0_deal_24 : decode cX0_deal 24 = .ok (.isub, 1) := by decide +kernel
theorem dX0_deal_25 : decode cX0_deal 25 = .ok (.if_icmp .ne 7, 3) := by decide +kernel
theorem dX0_deal_28 : decode cX0_deal 28 = .ok (.iconst 1, 1) := by decide +kernel
theorem dX0_deal_29 : decode cX0_deal 29 = .ok (.goto 4, 3) := by decide +kernel
theorem dX0_deal_32 : decode cX0_deal 32 = .ok (.iconst 0, 1) := by decide +kernel
theorem dX0_deal_33 : decode cX0_deal 33 = .ok (.istore 4, 2) := by decide +kernel
theorem dX0_deal_35 : decode cX0_deal 35 = .ok (.iload_n 3, 1) := by decide +kernel
theorem dX0_deal_36 : decode cX0_deal 36 = .ok (.istore 5, 2) := by decide +kernel
theorem dX0_deal_38 : decode cX0_deal 38 = .ok (.iload 5, 2) := by decide +kernel
theorem dX0_deal_40 : decode cX0_deal 40 = .ok (.iload 4, 2) := by decide +kernel
theorem dX0_deal_42 : decode cX0_deal 42 = .ok (.ifCond .eq 7, 3) := by decide +kernel
theorem dX0_deal_45 : decode cX0_deal 45 = .ok (.iload_n 3, 1) := by decide +kernel
theorem dX0_deal_46 : decode cX0_deal 46 = .ok (.goto 4, 3) := by decide +kernel
theorem dX0_deal_49 : decode cX0_deal 49 = .ok (.iconst 0, 1) := by decide +kernel
theorem dX0_deal_50 : decode cX0_deal 50 = .ok (.if_icmp .lt 122, 3) := by decide +kernel
theorem dX0_deal_53 : decode cX0_deal 53 = .ok (.aload_n 0, 1) := by decide +kernel
theorem dX0_deal_54 : decode cX0_deal 54 = .ok (.getfield 29, 3) := by decide +kernel
theorem dX0_deal_57 : decode cX0_deal 57 = .ok (.aload_n 0, 1) := by decide +kernel
theorem dX0_deal_58 : decode cX0_deal 58 = .ok (.getfield 26, 3) := by decide +kernel
theorem dX0_deal_61 : decode cX0_deal 61 = .ok (.iload_n 2, 1) := by decide +kernel
theorem dX0_deal_62 : decode cX0_deal 62 = .ok (.iaload, 1) := by decide +kernel
theorem dX0_deal_63 : decode cX0_deal 63 = .ok (.iload 5, 2) := by decide +kernel
theorem dX0_deal_65 : decode cX0_deal 65 = .ok (.iastore, 1) := by decide +kernel
theorem dX0_deal_66 : decode cX0_deal 66 = .ok (.iload_n 2, 1) := by decide +kernel
theorem dX0_deal_67 : decode cX0_deal 67 = .ok (.iconst 1, 1) := by decide +kernel
theorem dX0_deal_68 : decode cX0_deal 68 = .ok (.iadd, 1) := by decide +kernel
theorem dX0_deal_69 : decode cX0_deal 69 = .ok (.istore 6, 2) := by decide +kernel
theorem dX0_deal_71 : decode cX0_deal 71 = .ok (.iload 6, 2) := by decide +kernel
theorem dX0_deal_73 : decode cX0_deal 73 = .ok (.aload_n 0, 1) := by decide +kernel
theorem dX0_deal_74 : decode cX0_deal 74 = .ok (.getfield 23, 3) := by decide +kernel
theorem dX0_deal_77 : decode cX0_deal 77 = .ok (.if_icmp .ge 25, 3) := by decide +kernel
theorem dX0_deal_80 : decode cX0_deal 80 = .ok (.aload_n 0, 1) := by decide +kernel
theorem dX0_deal_81 : decode cX0_deal 81 = .ok (.getfield 29, 3) := by decide +kernel
theorem dX0_deal_84 : decode cX0_deal 84 = .ok (.aload_n 0, 1) := by decide +kernel
theorem dX0_deal_85 : decode cX0_deal 85 = .ok (.getfield 26, 3) := by decide +kernel
theorem dX0_deal_88 : decode cX0_deal 88 = .ok (.iload 6, 2) := by decide +kernel
theorem dX0_deal_90 : decode cX0_deal 90 = .ok (.iaload, 1) := by decide +kernel
theorem dX0_deal_91 : decode cX0_deal 91 = .ok (.iload_n 3, 1) := by decide +kernel
theorem dX0_deal_92 : decode cX0_deal 92 = .ok (.iload 5, 2) := by decide +kernel
theorem dX0_deal_94 : decode cX0_deal 94 = .ok (.isub, 1) := by decide +kernel
theorem dX0_deal_95 : decode cX0_deal 95 = .ok (.iastore, 1) := by decide +kernel
theorem dX0_deal_96 : decode cX0_deal 96 = .ok (.iinc 6 1, 3) := by decide +kernel
theorem dX0_deal_99 : decode cX0_deal 99 = .ok (.goto (-28), 3) := by decide +kernel
theorem dX0_deal_102 : decode cX0_deal 102 = .ok (.aload_n 0, 1) := by decide +kernel
theorem dX0_deal_103 : decode cX0_deal 103 = .ok (.aload_n 1, 1) := by decide +kernel
theorem dX0_deal_104 : decode cX0_deal 104 = .ok (.aload_n 0, 1) := by decide +kernel
theorem dX0_deal_105 : decode cX0_deal 105 = .ok (.getfield 19, 3) := by decide +kernel
theorem dX0_deal_108 : decode cX0_deal 108 = .ok (.invokevirtual 98, 3) := by decide +kernel
theorem dX0_deal_111 : decode cX0_deal 111 = .ok (.istore 6, 2) := by decide +kernel
theorem dX0_deal_113 : decode cX0_deal 113 = .ok (.iload 6, 2) := by decide +kernel
theorem dX0_deal_115 : decode cX0_deal 115 = .ok (.aload_n 0, 1) := by decide +kernel
theorem dX0_deal_116 : decode cX0_deal 116 = .ok (.getfield 19, 3) := by decide +kernel
theorem dX0_deal_119 : decode cX0_deal 119 = .ok (.if_icmp .lt 6, 3) := by decide +kernel
theorem dX0_deal_122 : decode cX0_deal 122 = .ok (.goto 44, 3) := by decide +kernel
theorem dX0_deal_125 : decode cX0_deal 125 = .ok (.iload 4, 2) := by decide +kernel
theorem dX0_deal_127 : decode cX0_deal 127 = .ok (.ifCond .eq 27, 3) := by decide +kernel
theorem dX0_deal_130 : decode cX0_deal 130 = .ok (.aload_n 0, 1) := by decide +kernel
theorem dX0_deal_131 : decode cX0_deal 131 = .ok (.iload 6, 2) := by decide +kernel
theorem dX0_deal_133 : decode cX0_deal 133 = .ok (.putfield 19, 3) := by decide +kernel
theorem dX0_deal_136 : decode cX0_deal 136 = .ok (.aload_n 0, 1) := by decide +kernel
theorem dX0_deal_137 : decode cX0_deal 137 = .ok (.getfield 29, 3) := by decide +kernel
theorem dX0_deal_140 : decode cX0_deal 140 = .ok (.iconst 0, 1) := by decide +kernel
theorem dX0_deal_141 : decode cX0_deal 141 = .ok (.aload_n 0, 1) := by decide +kernel
theorem dX0_deal_142 : decode cX0_deal 142 = .ok (.getfield 15, 3) := by decide +kernel
theorem dX0_deal_145 : decode cX0_deal 145 = .ok (.iconst 0, 1) := by decide +kernel
theorem dX0_deal_146 : decode cX0_deal 146 = .ok (.bipush 6, 2) := by decide +kernel
theorem dX0_deal_148 : decode cX0_deal 148 = .ok (.invokestatic 53, 3) := by decide +kernel
theorem dX0_deal_151 : decode cX0_deal 151 = .ok (.goto 15, 3) := by decide +kernel
theorem dX0_deal_154 : decode cX0_deal 154 = .ok (.aload_n 0, 1) := by decide +kernel
theorem dX0_deal_155 : decode cX0_deal 155 = .ok (.aload_n 1, 1) := by decide +kernel
theorem dX0_deal_156 : decode cX0_deal 156 = .ok (.iload_n 2, 1) := by decide +kernel
theorem dX0_deal_157 : decode cX0_deal 157 = .ok (.iconst 1, 1) := by decide +kernel
theorem dX0_deal_158 : decode cX0_deal 158 = .ok (.iadd, 1) := by decide +kernel
theorem dX0_deal_159 : decode cX0_deal 159 = .ok (.iload_n 3, 1) := by decide +kernel
theorem dX0_deal_160 : decode cX0_deal 160 = .ok (.iload 5, 2) := by decide +kernel
theorem dX0_deal_162 : decode cX0_deal 162 = .ok (.isub, 1) := by decide +kernel
theorem dX0_deal_163 : decode cX0_deal 163 = .ok (.invokestatic 94, 3) := by decide +kernel
theorem dX0_deal_166 : decode cX0_deal 166 = .ok (.iinc 5 (-1), 3) := by decide +kernel
theorem dX0_deal_169 : decode cX0_deal 169 = .ok (.goto (-131), 3) := by decide +kernel
theorem dX0_deal_172 : decode cX0_deal 172 = .ok (.return_, 1) := by decide +kernel
theorem dX0_findNext_0 : decode cX0_findNext 0 = .ok (.iconst 0, 1) := by decide +kernel
theorem dX0_findNext_1 : decode cX0_findNext 1 = .ok (.istore 4, 2) := by decide +kernel
theorem dX0_findNext_3 : decode cX0_findNext 3 = .ok (.iload 4, 2) := by decide +kernel
theorem dX0_findNext_5 : decode cX0_findNext 5 = .ok (.aload_n 1, 1) := by decide +kernel
theorem dX0_findNext_6 : decode cX0_findNext 6 = .ok (.getfield 45, 3) := by decide +kernel
theorem dX0_findNext_9 : decode cX0_findNext 9 = .ok (.if_icmp .ge 48, 3) := by decide +kernel
theorem dX0_findNext_12 : decode cX0_findNext 12 = .ok (.aload_n 1, 1) := by decide +kernel
theorem dX0_findNext_13 : decode cX0_findNext 13 = .ok (.iload 4, 2) := by decide +kernel
theorem dX0_findNext_15 : decode cX0_findNext 15 = .ok (.iload_n 2, 1) := by decide +kernel
theorem dX0_findNext_16 : decode cX0_findNext 16 = .ok (.invokevirtual 74, 3) := by decide +kernel
theorem dX0_findNext_19 : decode cX0_findNext 19 = .ok (.ifCond .eq 32, 3) := by decide +kernel
theorem dX0_findNext_22 : decode cX0_findNext 22 = .ok (.aload_n 0, 1) := by decide +kernel
theorem dX0_findNext_23 : decode cX0_findNext 23 = .ok (.aload_n 1, 1) := by decide +kernel
theorem dX0_findNext_24 : decode cX0_findNext 24 = .ok (.iload_n 2, 1) := by decide +kernel
theorem dX0_findNext_25 : decode cX0_findNext 25 = .ok (.iload 4, 2) := by decide +kernel
theorem dX0_findNext_27 : decode cX0_findNext 27 = .ok (.invokevirtual 78, 3) := by decide +kernel
theorem dX0_findNext_30 : decode cX0_findNext 30 = .ok (.iload_n 3, 1) := by decide +kernel
theorem dX0_findNext_31 : decode cX0_findNext 31 = .ok (.if_icmp .gt 20, 3) := by decide +kernel
theorem dX0_findNext_34 : decode cX0_findNext 34 = .ok (.aload_n 0, 1) := by decide +kernel
theorem dX0_findNext_35 : decode cX0_findNext 35 = .ok (.getfield 38, 3) := by decide +kernel
theorem dX0_findNext_38 : decode cX0_findNext 38 = .ok (.iload_n 2, 1) := by decide +kernel
theorem dX0_findNext_39 : decode cX0_findNext 39 = .ok (.iconst 1, 1) := by decide +kernel
theorem dX0_findNext_40 : decode cX0_findNext 40 = .ok (.iload 4, 2) := by decide +kernel
theorem dX0_findNext_42 : decode cX0_findNext 42 = .ok (.ishl, 1) := by decide +kernel
theorem dX0_findNext_43 : decode cX0_findNext 43 = .ok (.ior, 1) := by decide +kernel
theorem dX0_findNext_44 : decode cX0_findNext 44 = .ok (.baload, 1) := by decide +kernel
theorem dX0_findNext_45 : decode cX0_findNext 45 = .ok (.ifCond .eq 6, 3) := by decide +kernel
theorem dX0_findNext_48 : decode cX0_findNext 48 = .ok (.iload 4, 2) := by decide +kernel
theorem dX0_findNext_50 : decode cX0_findNext 50 = .ok (.ireturn, 1) := by decide +kernel
theorem dX0_findNext_51 : decode cX0_findNext 51 = .ok (.iinc 4 1, 3) := by decide +kernel
theorem dX0_findNext_54 : decode cX0_findNext 54 = .ok (.goto (-51), 3) := by decide +kernel
theorem dX0_findNext_57 : decode cX0_findNext 57 = .ok (.aload_n 1, 1) := by decide +kernel
theorem dX0_findNext_58 : decode cX0_findNext 58 = .ok (.getfield 45, 3) := by decide +kernel
theorem dX0_findNext_61 : decode cX0_findNext 61 = .ok (.ireturn, 1) := by decide +kernel
theorem dX0_lack_0 : decode cX0_lack 0 = .ok (.aload_n 0, 1) := by decide +kernel
theorem dX0_lack_1 : decode cX0_lack 1 = .ok (.getfield 32, 3) := by decide +kernel
theorem dX0_lack_4 : decode cX0_lack 4 = .ok (.iload_n 2, 1) := by decide +kernel
theorem dX0_lack_5 : decode cX0_lack 5 = .ok (.bipush 8, 2) := by decide +kernel
theorem dX0_lack_7 : decode cX0_lack 7 = .ok (.imul, 1) := by decide +kernel
theorem dX0_lack_8 : decode cX0_lack 8 = .ok (.iload_n 3, 1) := by decide +kernel
theorem dX0_lack_9 : decode cX0_lack 9 = .ok (.iadd, 1) := by decide +kernel
theorem dX0_lack_10 : decode cX0_lack 10 = .ok (.iaload, 1) := by decide +kernel
theorem dX0_lack_11 : decode cX0_lack 11 = .ok (.aload_n 0, 1) := by decide +kernel
theorem dX0_lack_12 : decode cX0_lack 12 = .ok (.getfield 29, 3) := by decide +kernel
theorem dX0_lack_15 : decode cX0_lack 15 = .ok (.aload_n 1, 1) := by decide +kernel
theorem dX0_lack_16 : decode cX0_lack 16 = .ok (.getfield 63, 3) := by decide +kernel
theorem dX0_lack_19 : decode cX0_lack 19 = .ok (.iload_n 3, 1) := by decide +kernel
theorem dX0_lack_20 : decode cX0_lack 20 = .ok (.iaload, 1) := by decide +kernel
theorem dX0_lack_21 : decode cX0_lack 21 = .ok (.iaload, 1) := by decide +kernel
theorem dX0_lack_22 : decode cX0_lack 22 = .ok (.isub, 1) := by decide +kernel
theorem dX0_lack_23 : decode cX0_lack 23 = .ok (.ireturn, 1) := by decide +kernel
theorem dX1_init_0 : decode cX1_init 0 = .ok (.aload_n 0, 1) := by decide +kernel
theorem dX1_init_1 : decode cX1_init 1 = .ok (.invokespecial 3, 3) := by decide +kernel
theorem dX1_init_4 : decode cX1_init 4 = .ok (.aload_n 0, 1) := by decide +kernel
theorem dX1_init_5 : decode cX1_init 5 = .ok (.bipush 12, 2) := by decide +kernel
theorem dX1_init_7 : decode cX1_init 7 = .ok (.newarray .int, 2) := by decide +kernel
theorem dX1_init_9 : decode cX1_init 9 = .ok (.putfield 9, 3) := by decide +kernel
theorem dX1_init_12 : decode cX1_init 12 = .ok (.aload_n 0, 1) := by decide +kernel
theorem dX1_init_13 : decode cX1_init 13 = .ok (.iconst 0, 1) := by decide +kernel
theorem dX1_init_14 : decode cX1_init 14 = .ok (.putfield 15, 3) := by decide +kernel
theorem dX1_init_17 : decode cX1_init 17 = .ok (.aload_n 0, 1) := by decide +kernel
theorem dX1_init_18 : decode cX1_init 18 = .ok (.bipush 12, 2) := by decide +kernel
theorem dX1_init_20 : decode cX1_init 20 = .ok (.newarray .int, 2) := by decide +kernel
theorem dX1_init_22 : decode cX1_init 22 = .ok (.putfield 19, 3) := by decide +kernel
theorem dX1_init_25 : decode cX1_init 25 = .ok (.aload_n 0, 1) := by decide +kernel
theorem dX1_init_26 : decode cX1_init 26 = .ok (.bipush 6, 2) := by decide +kernel
theorem dX1_init_28 : decode cX1_init 28 = .ok (.newarray .int, 2) := by decide +kernel
theorem dX1_init_30 : decode cX1_init 30 = .ok (.putfield 22, 3) := by decide +kernel
theorem dX1_init_33 : decode cX1_init 33 = .ok (.aload_n 0, 1) := by decide +kernel
theorem dX1_init_34 : decode cX1_init 34 = .ok (.bipush 6, 2) := by decide +kernel
theorem dX1_init_36 : decode cX1_init 36 = .ok (.newarray .int, 2) := by decide +kernel
theorem dX1_init_38 : decode cX1_init 38 = .ok (.putfield 25, 3) := by decide +kernel
theorem dX1_init_41 : decode cX1_init 41 = .ok (.return_, 1) := by decide +kernel
theorem dX1_open_0 : decode cX1_open 0 = .ok (.aload_n 0, 1) := by decide +kernel
theorem dX1_open_1 : decode cX1_open 1 = .ok (.aload_n 1, 1) := by decide +kernel
theorem dX1_open_2 : decode cX1_open 2 = .ok (.getfield 28, 3) := by decide +kernel
theorem dX1_open_5 : decode cX1_open 5 = .ok (.bipush 12, 2) := by decide +kernel
theorem dX1_open_7 : decode cX1_open 7 = .ok (.invokestatic 33, 3) := by decide +kernel
theorem dX1_open_10 : decode cX1_open 10 = .ok (.putfield 15, 3) := by decide +kernel
theorem dX1_open_13 : decode cX1_open 13 = .ok (.iconst 0, 1) := by decide +kernel
theorem dX1_open_14 : decode cX1_open 14 = .ok (.istore_n 3, 1) := by decide +kernel
theorem dX1_open_15 : decode cX1_open 15 = .ok (.iload_n 3, 1) := by decide +kernel
theorem dX1_open_16 : decode cX1_open 16 = .ok (.aload_n 0, 1) := by decide +kernel
theorem dX1_open_17 : decode cX1_open 17 = .ok (.getfield 15, 3) := by decide +kernel
theorem dX1_open_20 : decode cX1_open 20 = .ok (.if_icmp .ge 23, 3) := by decide +kernel
theorem dX1_open_23 : decode cX1_open 23 = .ok (.aload_n 0, 1) := by decide +kernel
theorem dX1_open_24 : decode cX1_open 24 = .ok (.getfield 19, 3) := by decide +kernel
theorem dX1_open_27 : decode cX1_open 27 = .ok (.iload_n 3, 1) := by decide +kernel
theorem dX1_open_28 : decode cX1_open 28 = .ok (.aload_n 1, 1) := by decide +kernel
theorem dX1_open_29 : decode cX1_open 29 = .ok (.iload_n 3, 1) := by decide +kernel
theorem dX1_open_30 : decode cX1_open 30 = .ok (.invokevirtual 39, 3) := by decide +kernel
theorem dX1_open_33 : decode cX1_open 33 = .ok (.invokestatic 43, 3) := by decide +kernel
theorem dX1_open_36 : decode cX1_open 36 = .ok (.iastore, 1) := by decide +kernel
theorem dX1_open_37 : decode cX1_open 37 = .ok (.iinc 3 1, 3) := by decide +kernel
theorem dX1_open_40 : decode cX1_open 40 = .ok (.goto (-25), 3) := by decide +kernel
theorem dX1_open_43 : decode cX1_open 43 = .ok (.aload_n 2, 1) := by decide +kernel
theorem dX1_open_44 : decode cX1_open 44 = .ok (.iconst 0, 1) := by decide +kernel
theorem dX1_open_45 : decode cX1_open 45 = .ok (.aload_n 0, 1) := by decide +kernel
theorem dX1_open_46 : decode cX1_open 46 = .ok (.getfield 22, 3) := by decide +kernel
theorem dX1_open_49 : decode cX1_open 49 = .ok (.iconst 0, 1) := by decide +kernel
theorem dX1_open_50 : decode cX1_open 50 = .ok (.bipush 6, 2) := by decide +kernel
theorem dX1_open_52 : decode cX1_open 52 = .ok (.invokestatic 46, 3) := by decide +kernel
theorem dX1_open_55 : decode cX1_open 55 = .ok (.iconst 0, 1) := by decide +kernel
theorem dX1_open_56 : decode cX1_open 56 = .ok (.istore_n 3, 1) := by decide +kernel
theorem dX1_open_57 : decode cX1_open 57 = .ok (.iload_n 3, 1) := by decide +kernel
theorem dX1_open_58 : decode cX1_open 58 = .ok (.bipush 6, 2) := by decide +kernel
theorem dX1_open_60 : decode cX1_open 60 = .ok (.if_icmp .ge 16, 3) := by decide +kernel
theorem dX1_open_63 : decode cX1_open 63 = .ok (.aload_n 0, 1) := by decide +kernel
theorem dX1_open_64 : decode cX1_open 64 = .ok (.getfield 25, 3) := by decide +kernel
theorem dX1_open_67 : decode cX1_open 67 = .ok (.iload_n 3, 1) := by decide +kernel
theorem dX1_open_68 : decode cX1_open 68 = .ok (.iconst 0, 1) := by decide +kernel
theorem dX1_open_69 : decode cX1_open 69 = .ok (.iastore, 1) := by decide +kernel
theorem dX1_open_70 : decode cX1_open 70 = .ok (.iinc 3 1, 3) := by decide +kernel
theorem dX1_open_73 : decode cX1_open 73 = .ok (.goto (-16), 3) := by decide +kernel
theorem dX1_open_76 : decode cX1_open 76 = .ok (.return_, 1) := by decide +kernel
theorem dX1_sign_0 : decode cX1_sign 0 = .ok (.aload_n 0, 1) := by decide +kernel
theorem dX1_sign_1 : decode cX1_sign 1 = .ok (.getfield 9, 3) := by decide +kernel
theorem dX1_sign_4 : decode cX1_sign 4 = .ok (.iload_n 1, 1) := by decide +kernel
theorem dX1_sign_5 : decode cX1_sign 5 = .ok (.iaload, 1) := by decide +kernel
theorem dX1_sign_6 : decode cX1_sign 6 = .ok (.istore_n 2, 1) := by decide +kernel
theorem dX1_sign_7 : decode cX1_sign 7 = .ok (.iload_n 2, 1) := by decide +kernel
theorem dX1_sign_8 : decode cX1_sign 8 = .ok (.invokestatic 52, 3) := by decide +kernel
theorem dX1_sign_11 : decode cX1_sign 11 = .ok (.ifCond .eq 10, 3) := by decide +kernel
theorem dX1_sign_14 : decode cX1_sign 14 = .ok (.bipush 97, 2) := by decide +kernel
theorem dX1_sign_16 : decode cX1_sign 16 = .ok (.iload_n 2, 1) := by decide +kernel
theorem dX1_sign_17 : decode cX1_sign 17 = .ok (.iadd, 1) := by decide +kernel
theorem dX1_sign_18 : decode cX1_sign 18 = .ok (.goto 5, 3) := by decide +kernel
theorem dX1_sign_21 : decode cX1_sign 21 = .ok (.bipush 46, 2) := by decide +kernel
theorem dX1_sign_23 : decode cX1_sign 23 = .ok (.ireturn, 1) := by decide +kernel
theorem dX1_ways_0 : decode cX1_ways 0 = .ok (.iload_n 1, 1) := by decide +kernel
theorem dX1_ways_1 : decode cX1_ways 1 = .ok (.ifCond .lt 11, 3) := by decide +kernel
theorem dX1_ways_4 : decode cX1_ways 4 = .ok (.iload_n 1, 1) := by decide +kernel
theorem dX1_ways_5 : decode cX1_ways 5 = .ok (.aload_n 0, 1) := by decide +kernel
theorem dX1_ways_6 : decode cX1_ways 6 = .ok (.getfield 15, 3) := by decide +kernel
theorem dX1_ways_9 : decode cX1_ways 9 = .ok (.if_icmp .lt 5, 3) := by decide +kernel
theorem dX1_ways_12 : decode cX1_ways 12 = .ok (.iconst 1, 1) := by decide +kernel
theorem dX1_ways_13 : decode cX1_ways 13 = .ok (.ireturn, 1) := by decide +kernel
theorem dX1_ways_14 : decode cX1_ways 14 = .ok (.aload_n 0, 1) := by decide +kernel
theorem dX1_ways_15 : decode cX1_ways 15 = .ok (.getfield 19, 3) := by decide +kernel
theorem dX1_ways_18 : decode cX1_ways 18 = .ok (.iload_n 1, 1) := by decide +kernel
theorem dX1_ways_19 : decode cX1_ways 19 = .ok (.iaload, 1) := by decide +kernel
theorem dX1_ways_20 : decode cX1_ways 20 = .ok (.istore_n 3, 1) := by decide +kernel
theorem dX1_ways_21 : decode cX1_ways 21 = .ok (.iload_n 3, 1) := by decide +kernel
theorem dX1_ways_22 : decode cX1_ways 22 = .ok (.bipush 7, 2) := by decide +kernel
theorem dX1_ways_24 : decode cX1_ways 24 = .ok (.if_icmp .ne 7, 3) := by decide +kernel
theorem dX1_ways_27 : decode cX1_ways 27 = .ok (.iconst 0, 1) := by decide +kernel
theorem dX1_ways_28 : decode cX1_ways 28 = .ok (.goto 4, 3) := by decide +kernel
theorem dX1_ways_31 : decode cX1_ways 31 = .ok (.iload_n 3, 1) := by decide +kernel
theorem dX1_ways_32 : decode cX1_ways 32 = .ok (.istore 4, 2) := by decide +kernel
theorem dX1_ways_34 : decode cX1_ways 34 = .ok (.iload_n 3, 1) := by decide +kernel
theorem dX1_ways_35 : decode cX1_ways 35 = .ok (.bipush 7, 2) := by decide +kernel
theorem dX1_ways_37 : decode cX1_ways 37 = .ok (.if_icmp .ne 8, 3) := by decide +kernel
theorem dX1_ways_40 : decode cX1_ways 40 = .ok (.bipush 6, 2) := by decide +kernel
theorem dX1_ways_42 : decode cX1_ways 42 = .ok (.goto 4, 3) := by decide +kernel
theorem dX1_ways_45 : decode cX1_ways 45 = .ok (.iload_n 3, 1) := by decide +kernel
theorem dX1_ways_46 : decode cX1_ways 46 = .ok (.istore 5, 2) := by decide +kernel
theorem dX1_ways_48 : decode cX1_ways 48 = .ok (.iconst 0, 1) := by decide +kernel
theorem dX1_ways_49 : decode cX1_ways 49 = .ok (.istore 6, 2) := by decide +kernel
theorem dX1_ways_51 : decode cX1_ways 51 = .ok (.iload 4, 2) := by decide +kernel
theorem dX1_ways_53 : decode cX1_ways 53 = .ok (.istore 7, 2) := by decide +kernel
theorem dX1_ways_55 : decode cX1_ways 55 = .ok (.iload 7, 2) := by decide +kernel
theorem dX1_ways_57 : decode cX1_ways 57 = .ok (.iload 5, 2) := by decide +kernel
theorem dX1_ways_59 : decode cX1_ways 59 = .ok (.if_icmp .gt 63, 3) := by decide +kernel
theorem dX1_ways_62 : decode cX1_ways 62 = .ok (.iload 6, 2) := by decide +kernel
theorem dX1_ways_64 : decode cX1_ways 64 = .ok (.iload_n 2, 1) := by decide +kernel
theorem dX1_ways_65 : decode cX1_ways 65 = .ok (.if_icmp .gt 57, 3) := by decide +kernel
theorem dX1_ways_68 : decode cX1_ways 68 = .ok (.aload_n 0, 1) := by decide +kernel
theorem dX1_ways_69 : decode cX1_ways 69 = .ok (.iload_n 1, 1) := by decide +kernel
theorem dX1_ways_70 : decode cX1_ways 70 = .ok (.iload 7, 2) := by decide +kernel
theorem dX1_ways_72 : decode cX1_ways 72 = .ok (.invokevirtual 56, 3) := by decide +kernel
theorem dX1_ways_75 : decode cX1_ways 75 = .ok (.ifCond .eq 41, 3) := by decide +kernel
theorem dX1_ways_78 : decode cX1_ways 78 = .ok (.aload_n 0, 1) := by decide +kernel
theorem dX1_ways_79 : decode cX1_ways 79 = .ok (.getfield 9, 3) := by decide +kernel
theorem dX1_ways_82 : decode cX1_ways 82 = .ok (.iload_n 1, 1) := by decide +kernel
theorem dX1_ways_83 : decode cX1_ways 83 = .ok (.iload 7, 2) := by decide +kernel
theorem dX1_ways_85 : decode cX1_ways 85 = .ok (.iastore, 1) := by decide +kernel
theorem dX1_ways_86 : decode cX1_ways 86 = .ok (.aload_n 0, 1) := by decide +kernel
theorem dX1_ways_87 : decode cX1_ways 87 = .ok (.iload 7, 2) := by decide +kernel
theorem dX1_ways_89 : decode cX1_ways 89 = .ok (.iconst 1, 1) := by decide +kernel
theorem dX1_ways_90 : decode cX1_ways 90 = .ok (.invokevirtual 60, 3) := by decide +kernel
theorem dX1_ways_93 : decode cX1_ways 93 = .ok (.iload 6, 2) := by decide +kernel
theorem dX1_ways_95 : decode cX1_ways 95 = .ok (.aload_n 0, 1) := by decide +kernel
theorem dX1_ways_96 : decode cX1_ways 96 = .ok (.iload_n 1, 1) := by decide +kernel
theorem dX1_ways_97 : decode cX1_ways 97 = .ok (.iconst 1, 1) := by decide +kernel
theorem dX1_ways_98 : decode cX1_ways 98 = .ok (.iadd, 1) := by decide +kernel
theorem dX1_ways_99 : decode cX1_ways 99 = .ok (.iload_n 2, 1) := by decide +kernel
theorem dX1_ways_100 : decode cX1_ways 100 = .ok (.iload 6, 2) := by decide +kernel
theorem dX1_ways_102 : decode cX1_ways 102 = .ok (.isub, 1) := by decide +kernel
theorem dX1_ways_103 : decode cX1_ways 103 = .ok (.invokestatic 63, 3) := by decide +kernel
theorem dX1_ways_106 : decode cX1_ways 106 = .ok (.iadd, 1) := by decide +kernel
theorem dX1_ways_107 : decode cX1_ways 107 = .ok (.istore 6, 2) := by decide +kernel
theorem dX1_ways_109 : decode cX1_ways 109 = .ok (.aload_n 0, 1) := by decide +kernel
theorem dX1_ways_110 : decode cX1_ways 110 = .ok (.iload 7, 2) := by decide +kernel
theorem dX1_ways_112 : decode cX1_ways 112 = .ok (.iconst (-1), 1) := by decide +kernel
theorem dX1_ways_113 : decode cX1_ways 113 = .ok (.invokevirtual 60, 3) := by decide +kernel
theorem dX1_ways_116 : decode cX1_ways 116 = .ok (.iinc 7 1, 3) := by decide +kernel
theorem dX1_ways_119 : decode cX1_ways 119 = .ok (.goto (-64), 3) := by decide +kernel
theorem dX1_ways_122 : decode cX1_ways 122 = .ok (.iload 6, 2) := by decide +kernel
theorem dX1_ways_124 : decode cX1_ways 124 = .ok (.ireturn, 1) := by decide +kernel
theorem dX1_firstFalse_0 : decode cX1_firstFalse 0 = .ok (.iconst 0, 1) := by decide +kernel
theorem dX1_firstFalse_1 : decode cX1_firstFalse 1 = .ok (.istore_n 1, 1) := by decide +kernel
theorem dX1_firstFalse_2 : decode cX1_firstFalse 2 = .ok (.iload_n 1, 1) := by decide +kernel
theorem dX1_firstFalse_3 : decode cX1_firstFalse 3 = .ok (.aload_n 0, 1) := by decide +kernel
theorem dX1_firstFalse_4 : decode cX1_firstFalse 4 = .ok (.getfield 15, 3) := by decide +kernel
theorem dX1_firstFalse_7 : decode cX1_firstFalse 7 = .ok (.if_icmp .ge 36, 3) := by decide +kernel
theorem dX1_firstFalse_10 : decode cX1_firstFalse 10 = .ok (.aload_n 0, 1) := by decide +kernel
theorem dX1_firstFalse_11 : decode cX1_firstFalse 11 = .ok (.iload_n 1, 1) := by decide +kernel
theorem dX1_firstFalse_12 : decode cX1_firstFalse 12 = .ok (.aload_n 0, 1) := by decide +kernel
theorem dX1_firstFalse_13 : decode cX1_firstFalse 13 = .ok (.getfield 19, 3) := by decide +kernel
theorem dX1_firstFalse_16 : decode cX1_firstFalse 16 = .ok (.iload_n 1, 1) := by decide +kernel
theorem dX1_firstFalse_17 : decode cX1_firstFalse 17 = .ok (.iaload, 1) := by decide +kernel
theorem dX1_firstFalse_18 : decode cX1_firstFalse 18 = .ok (.invokevirtual 56, 3) := by decide +kernel
theorem dX1_firstFalse_21 : decode cX1_firstFalse 21 = .ok (.ifCond .ne 5, 3) := by decide +kernel
theorem dX1_firstFalse_24 : decode cX1_firstFalse 24 = .ok (.iload_n 1, 1) := by decide +kernel
theorem dX1_firstFalse_25 : decode cX1_firstFalse 25 = .ok (.ireturn, 1) := by decide +kernel
theorem dX1_firstFalse_26 : decode cX1_firstFalse 26 = .ok (.aload_n 0, 1) := by decide +kernel
theorem dX1_firstFalse_27 : decode cX1_firstFalse 27 = .ok (.aload_n 0, 1) := by decide +kernel
theorem dX1_firstFalse_28 : decode cX1_firstFalse 28 = .ok (.getfield 19, 3) := by decide +kernel
theorem dX1_firstFalse_31 : decode cX1_firstFalse 31 = .ok (.iload_n 1, 1) := by decide +kernel
theorem dX1_firstFalse_32 : decode cX1_firstFalse 32 = .ok (.iaload, 1) := by decide +kernel
theorem dX1_firstFalse_33 : decode cX1_firstFalse 33 = .ok (.iconst 1, 1) := by decide +kernel
theorem dX1_firstFalse_34 : decode cX1_firstFalse 34 = .ok (.invokevirtual 60, 3) := by decide +kernel
theorem dX1_firstFalse_37 : decode cX1_firstFalse 37 = .ok (.iinc 1 1, 3) := by decide +kernel
theorem dX1_firstFalse_40 : decode cX1_firstFalse 40 = .ok (.goto (-38), 3) := by decide +kernel
theorem dX1_firstFalse_43 : decode cX1_firstFalse 43 = .ok (.bipush (-6), 2) := by decide +kernel
theorem dX1_firstFalse_45 : decode cX1_firstFalse 45 = .ok (.ireturn, 1) := by decide +kernel
theorem dX1_line_0 : decode cX1_line 0 = .ok (.iload_n 0, 1) := by decide +kernel
theorem dX1_line_1 : decode cX1_line 1 = .ok (.bipush 42, 2) := by decide +kernel
theorem dX1_line_3 : decode cX1_line 3 = .ok (.if_icmp .ne 6, 3) := by decide +kernel
theorem dX1_line_6 : decode cX1_line 6 = .ok (.bipush 7, 2) := by decide +kernel
theorem dX1_line_8 : decode cX1_line 8 = .ok (.ireturn, 1) := by decide +kernel
theorem dX1_line_9 : decode cX1_line 9 = .ok (.iload_n 0, 1) := by decide +kernel
theorem dX1_line_10 : decode cX1_line 10 = .ok (.invokestatic 67, 3) := by decide +kernel
theorem dX1_line_13 : decode cX1_line 13 = .ok (.ifCond .eq 10, 3) := by decide +kernel
theorem dX1_line_16 : decode cX1_line 16 = .ok (.iload_n 0, 1) := by decide +kernel
theorem dX1_line_17 : decode cX1_line 17 = .ok (.bipush 97, 2) := by decide +kernel
theorem dX1_line_19 : decode cX1_line 19 = .ok (.isub, 1) := by decide +kernel
theorem dX1_line_20 : decode cX1_line 20 = .ok (.goto 5, 3) := by decide +kernel
theorem dX1_line_23 : decode cX1_line 23 = .ok (.bipush 6, 2) := by decide +kernel
theorem dX1_line_25 : decode cX1_line 25 = .ok (.ireturn, 1) := by decide +kernel
theorem dX1_canSpeak_0 : decode cX1_canSpeak 0 = .ok (.iload_n 2, 1) := by decide +kernel
theorem dX1_canSpeak_1 : decode cX1_canSpeak 1 = .ok (.invokestatic 52, 3) := by decide +kernel
theorem dX1_canSpeak_4 : decode cX1_canSpeak 4 = .ok (.ifCond .eq 23, 3) := by decide +kernel
theorem dX1_canSpeak_7 : decode cX1_canSpeak 7 = .ok (.aload_n 0, 1) := by decide +kernel
theorem dX1_canSpeak_8 : decode cX1_canSpeak 8 = .ok (.getfield 22, 3) := by decide +kernel
theorem dX1_canSpeak_11 : decode cX1_canSpeak 11 = .ok (.iload_n 2, 1) := by decide +kernel
theorem dX1_canSpeak_12 : decode cX1_canSpeak 12 = .ok (.iaload, 1) := by decide +kernel
theorem dX1_canSpeak_13 : decode cX1_canSpeak 13 = .ok (.iload_n 1, 1) := by decide +kernel
theorem dX1_canSpeak_14 : decode cX1_canSpeak 14 = .ok (.iadd, 1) := by decide +kernel
theorem dX1_canSpeak_15 : decode cX1_canSpeak 15 = .ok (.iconst 2, 1) := by decide +kernel
theorem dX1_canSpeak_16 : decode cX1_canSpeak 16 = .ok (.aload_n 0, 1) := by decide +kernel
theorem dX1_canSpeak_17 : decode cX1_canSpeak 17 = .ok (.getfield 25, 3) := by decide +kernel
theorem dX1_canSpeak_20 : decode cX1_canSpeak 20 = .ok (.iload_n 2, 1) := by decide +kernel
theorem dX1_canSpeak_21 : decode cX1_canSpeak 21 = .ok (.iaload, 1) := by decide +kernel
theorem dX1_canSpeak_22 : decode cX1_canSpeak 22 = .ok (.imul, 1) := by decide +kernel
theorem dX1_canSpeak_23 : decode cX1_canSpeak 23 = .ok (.isub, 1) := by decide +kernel
theorem dX1_canSpeak_24 : decode cX1_canSpeak 24 = .ok (.ifCond .le 7, 3) := by decide +kernel
theorem dX1_canSpeak_27 : decode cX1_canSpeak 27 = .ok (.iconst 1, 1) := by decide +kernel
theorem dX1_canSpeak_28 : decode cX1_canSpeak 28 = .ok (.goto 4, 3) := by decide +kernel
theorem dX1_canSpeak_31 : decode cX1_canSpeak 31 = .ok (.iconst 0, 1) := by decide +kernel
theorem dX1_canSpeak_32 : decode cX1_canSpeak 32 = .ok (.ireturn, 1) := by decide +kernel
theorem dX1_count_0 : decode cX1_count 0 = .ok (.iload_n 1, 1) := by decide +kernel
theorem dX1_count_1 : decode cX1_count 1 = .ok (.invokestatic 52, 3) := by decide +kernel
theorem dX1_count_4 : decode cX1_count 4 = .ok (.ifCond .eq 13, 3) := by decide +kernel
theorem dX1_count_7 : decode cX1_count 7 = .ok (.aload_n 0, 1) := by decide +kernel
theorem dX1_count_8 : decode cX1_count 8 = .ok (.getfield 25, 3) := by decide +kernel
theorem dX1_count_11 : decode cX1_count 11 = .ok (.iload_n 1, 1) := by decide +kernel
theorem dX1_count_12 : decode cX1_count 12 = .ok (.dup2, 1) := by decide +kernel
theorem dX1_count_13 : decode cX1_count 13 = .ok (.iaload, 1) := by decide +kernel
theorem dX1_count_14 : decode cX1_count 14 = .ok (.iload_n 2, 1) := by decide +kernel
theorem dX1_count_15 : decode cX1_count 15 = .ok (.iadd, 1) := by decide +kernel
theorem dX1_count_16 : decode cX1_count 16 = .ok (.iastore, 1) := by decide +kernel
theorem dX1_count_17 : decode cX1_count 17 = .ok (.return_, 1) := by decide +kernel
theorem dX2_init_0 : decode cX2_init 0 = .ok (.aload_n 0, 1) := by decide +kernel
theorem dX2_init_1 : decode cX2_init 1 = .ok (.invokespecial 3, 3) := by decide +kernel
theorem dX2_init_4 : decode cX2_init 4 = .ok (.aload_n 0, 1) := by decide +kernel
theorem dX2_init_5 : decode cX2_init 5 = .ok (.iconst 4, 1) := by decide +kernel
theorem dX2_init_6 : decode cX2_init 6 = .ok (.bipush 6, 2) := by decide +kernel
theorem dX2_init_8 : decode cX2_init 8 = .ok (.multianewarray 9 2, 4) := by decide +kernel
theorem dX2_init_12 : decode cX2_init 12 = .ok (.putfield 11, 3) := by decide +kernel
theorem dX2_init_15 : decode cX2_init 15 = .ok (.aload_n 0, 1) := by decide +kernel
theorem dX2_init_16 : decode cX2_init 16 = .ok (.bipush 6, 2) := by decide +kernel
theorem dX2_init_18 : decode cX2_init 18 = .ok (.bipush 6, 2) := by decide +kernel
theorem dX2_init_20 : decode cX2_init 20 = .ok (.multianewarray 9 2, 4) := by decide +kernel
theorem dX2_init_24 : decode cX2_init 24 = .ok (.putfield 16, 3) := by decide +kernel
end
section
theorem dX2_init_27 : decode cX2_init 27 = .ok (.aload_n 0, 1) := by decide +kernel
theorem dX2_init_28 : decode cX2_init 28 = .ok (.new 19, 3) := by decide +kernel
theorem dX2_init_31 : decode cX2_init 31 = .ok (.dup, 1) := by decide +kernel
theorem dX2_init_32 : decode cX2_init 32 = .ok (.invokespecial 21, 3) := by decide +kernel
theorem dX2_init_35 : decode cX2_init 35 = .ok (.putfield 22, 3) := by decide +kernel
theorem dX2_init_38 : decode cX2_init 38 = .ok (.aload_n 0, 1) := by decide +kernel
theorem dX2_init_39 : decode cX2_init 39 = .ok (.iconst 5, 1) := by decide +kernel
theorem dX2_init_40 : decode cX2_init 40 = .ok (.putfield 26, 3) := by decide +kernel
theorem dX2_init_43 : decode cX2_init 43 = .ok (.aload_n 0, 1) := by decide +kernel
theorem dX2_init_44 : decode cX2_init 44 = .ok (.iconst 2, 1) := by decide +kernel
theorem dX2_init_45 : decode cX2_init 45 = .ok (.putfield 30, 3) := by decide +kernel
theorem dX2_init_48 : decode cX2_init 48 = .ok (.iconst 0, 1) := by decide +kernel
theorem dX2_init_49 : decode cX2_init 49 = .ok (.istore_n 1, 1) := by decide +kernel
theorem dX2_init_50 : decode cX2_init 50 = .ok (.iload_n 1, 1) := by decide +kernel
theorem dX2_init_51 : decode cX2_init 51 = .ok (.bipush 6, 2) := by decide +kernel
theorem dX2_init_53 : decode cX2_init 53 = .ok (.if_icmp .ge 27, 3) := by decide +kernel
theorem dX2_init_56 : decode cX2_init 56 = .ok (.aload_n 0, 1) := by decide +kernel
theorem dX2_init_57 : decode cX2_init 57 = .ok (.getfield 11, 3) := by decide +kernel
theorem dX2_init_60 : decode cX2_init 60 = .ok (.iconst 1, 1) := by decide +kernel
theorem dX2_init_61 : decode cX2_init 61 = .ok (.aaload, 1) := by decide +kernel
theorem dX2_init_62 : decode cX2_init 62 = .ok (.iload_n 1, 1) := by decide +kernel
theorem dX2_init_63 : decode cX2_init 63 = .ok (.iconst 1, 1) := by decide +kernel
theorem dX2_init_64 : decode cX2_init 64 = .ok (.iastore, 1) := by decide +kernel
theorem dX2_init_65 : decode cX2_init 65 = .ok (.aload_n 0, 1) := by decide +kernel
theorem dX2_init_66 : decode cX2_init 66 = .ok (.getfield 11, 3) := by decide +kernel
theorem dX2_init_69 : decode cX2_init 69 = .ok (.iconst 2, 1) := by decide +kernel
theorem dX2_init_70 : decode cX2_init 70 = .ok (.aaload, 1) := by decide +kernel
theorem dX2_init_71 : decode cX2_init 71 = .ok (.iload_n 1, 1) := by decide +kernel
theorem dX2_init_72 : decode cX2_init 72 = .ok (.iconst 1, 1) := by decide +kernel
theorem dX2_init_73 : decode cX2_init 73 = .ok (.iastore, 1) := by decide +kernel
theorem dX2_init_74 : decode cX2_init 74 = .ok (.iinc 1 1, 3) := by decide +kernel
theorem dX2_init_77 : decode cX2_init 77 = .ok (.goto (-27), 3) := by decide +kernel
theorem dX2_init_80 : decode cX2_init 80 = .ok (.return_, 1) := by decide +kernel
theorem dX2_take_0 : decode cX2_take 0 = .ok (.aload_n 1, 1) := by decide +kernel
theorem dX2_take_1 : decode cX2_take 1 = .ok (.getfield 11, 3) := by decide +kernel
theorem dX2_take_4 : decode cX2_take 4 = .ok (.aload_n 0, 1) := by decide +kernel
theorem dX2_take_5 : decode cX2_take 5 = .ok (.getfield 11, 3) := by decide +kernel
theorem dX2_take_8 : decode cX2_take 8 = .ok (.iconst 4, 1) := by decide +kernel
theorem dX2_take_9 : decode cX2_take 9 = .ok (.invokestatic 33, 3) := by decide +kernel
theorem dX2_take_12 : decode cX2_take 12 = .ok (.aload_n 1, 1) := by decide +kernel
theorem dX2_take_13 : decode cX2_take 13 = .ok (.getfield 16, 3) := by decide +kernel
theorem dX2_take_16 : decode cX2_take 16 = .ok (.aload_n 0, 1) := by decide +kernel
theorem dX2_take_17 : decode cX2_take 17 = .ok (.getfield 16, 3) := by decide +kernel
theorem dX2_take_20 : decode cX2_take 20 = .ok (.bipush 6, 2) := by decide +kernel
theorem dX2_take_22 : decode cX2_take 22 = .ok (.invokestatic 33, 3) := by decide +kernel
theorem dX2_take_25 : decode cX2_take 25 = .ok (.aload_n 0, 1) := by decide +kernel
theorem dX2_take_26 : decode cX2_take 26 = .ok (.getfield 22, 3) := by decide +kernel
theorem dX2_take_29 : decode cX2_take 29 = .ok (.aload_n 1, 1) := by decide +kernel
theorem dX2_take_30 : decode cX2_take 30 = .ok (.getfield 22, 3) := by decide +kernel
theorem dX2_take_33 : decode cX2_take 33 = .ok (.invokevirtual 37, 3) := by decide +kernel
theorem dX2_take_36 : decode cX2_take 36 = .ok (.aload_n 0, 1) := by decide +kernel
theorem dX2_take_37 : decode cX2_take 37 = .ok (.aload_n 1, 1) := by decide +kernel
theorem dX2_take_38 : decode cX2_take 38 = .ok (.getfield 26, 3) := by decide +kernel
theorem dX2_take_41 : decode cX2_take 41 = .ok (.putfield 26, 3) := by decide +kernel
theorem dX2_take_44 : decode cX2_take 44 = .ok (.aload_n 0, 1) := by decide +kernel
theorem dX2_take_45 : decode cX2_take 45 = .ok (.aload_n 1, 1) := by decide +kernel
theorem dX2_take_46 : decode cX2_take 46 = .ok (.getfield 30, 3) := by decide +kernel
theorem dX2_take_49 : decode cX2_take 49 = .ok (.putfield 30, 3) := by decide +kernel
theorem dX2_take_52 : decode cX2_take 52 = .ok (.return_, 1) := by decide +kernel
theorem dX3_init_0 : decode cX3_init 0 = .ok (.aload_n 0, 1) := by decide +kernel
theorem dX3_init_1 : decode cX3_init 1 = .ok (.invokespecial 3, 3) := by decide +kernel
theorem dX3_init_4 : decode cX3_init 4 = .ok (.aload_n 0, 1) := by decide +kernel
theorem dX3_init_5 : decode cX3_init 5 = .ok (.bipush 64, 2) := by decide +kernel
theorem dX3_init_7 : decode cX3_init 7 = .ok (.newarray .int, 2) := by decide +kernel
theorem dX3_init_9 : decode cX3_init 9 = .ok (.putfield 9, 3) := by decide +kernel
theorem dX3_init_12 : decode cX3_init 12 = .ok (.aload_n 0, 1) := by decide +kernel
theorem dX3_init_13 : decode cX3_init 13 = .ok (.bipush 64, 2) := by decide +kernel
theorem dX3_init_15 : decode cX3_init 15 = .ok (.newarray .int, 2) := by decide +kernel
theorem dX3_init_17 : decode cX3_init 17 = .ok (.putfield 15, 3) := by decide +kernel
theorem dX3_init_20 : decode cX3_init 20 = .ok (.return_, 1) := by decide +kernel
theorem dX3_fewestGifts_0 : decode cX3_fewestGifts 0 = .ok (.iconst 0, 1) := by decide +kernel
theorem dX3_fewestGifts_1 : decode cX3_fewestGifts 1 = .ok (.istore_n 2, 1) := by decide +kernel
theorem dX3_fewestGifts_2 : decode cX3_fewestGifts 2 = .ok (.iload_n 2, 1) := by decide +kernel
theorem dX3_fewestGifts_3 : decode cX3_fewestGifts 3 = .ok (.bipush 6, 2) := by decide +kernel
theorem dX3_fewestGifts_5 : decode cX3_fewestGifts 5 = .ok (.if_icmp .ge 85, 3) := by decide +kernel
theorem dX3_fewestGifts_8 : decode cX3_fewestGifts 8 = .ok (.aload_n 1, 1) := by decide +kernel
theorem dX3_fewestGifts_9 : decode cX3_fewestGifts 9 = .ok (.iload_n 2, 1) := by decide +kernel
theorem dX3_fewestGifts_10 : decode cX3_fewestGifts 10 = .ok (.invokestatic 18, 3) := by decide +kernel
theorem dX3_fewestGifts_13 : decode cX3_fewestGifts 13 = .ok (.istore_n 3, 1) := by decide +kernel
theorem dX3_fewestGifts_14 : decode cX3_fewestGifts 14 = .ok (.iconst 0, 1) := by decide +kernel
theorem dX3_fewestGifts_15 : decode cX3_fewestGifts 15 = .ok (.istore 4, 2) := by decide +kernel
theorem dX3_fewestGifts_17 : decode cX3_fewestGifts 17 = .ok (.iload 4, 2) := by decide +kernel
theorem dX3_fewestGifts_19 : decode cX3_fewestGifts 19 = .ok (.iconst 1, 1) := by decide +kernel
theorem dX3_fewestGifts_20 : decode cX3_fewestGifts 20 = .ok (.iload_n 2, 1) := by decide +kernel
theorem dX3_fewestGifts_21 : decode cX3_fewestGifts 21 = .ok (.ishl, 1) := by decide +kernel
theorem dX3_fewestGifts_22 : decode cX3_fewestGifts 22 = .ok (.if_icmp .ge 62, 3) := by decide +kernel
theorem dX3_fewestGifts_25 : decode cX3_fewestGifts 25 = .ok (.iload 4, 2) := by decide +kernel
theorem dX3_fewestGifts_27 : decode cX3_fewestGifts 27 = .ok (.iconst 1, 1) := by decide +kernel
theorem dX3_fewestGifts_28 : decode cX3_fewestGifts 28 = .ok (.iload_n 2, 1) := by decide +kernel
theorem dX3_fewestGifts_29 : decode cX3_fewestGifts 29 = .ok (.ishl, 1) := by decide +kernel
theorem dX3_fewestGifts_30 : decode cX3_fewestGifts 30 = .ok (.ior, 1) := by decide +kernel
theorem dX3_fewestGifts_31 : decode cX3_fewestGifts 31 = .ok (.istore 5, 2) := by decide +kernel
theorem dX3_fewestGifts_33 : decode cX3_fewestGifts 33 = .ok (.aload_n 0, 1) := by decide +kernel
theorem dX3_fewestGifts_34 : decode cX3_fewestGifts 34 = .ok (.getfield 9, 3) := by decide +kernel
theorem dX3_fewestGifts_37 : decode cX3_fewestGifts 37 = .ok (.iload 5, 2) := by decide +kernel
theorem dX3_fewestGifts_39 : decode cX3_fewestGifts 39 = .ok (.aload_n 0, 1) := by decide +kernel
theorem dX3_fewestGifts_40 : decode cX3_fewestGifts 40 = .ok (.getfield 9, 3) := by decide +kernel
theorem dX3_fewestGifts_43 : decode cX3_fewestGifts 43 = .ok (.iload 4, 2) := by decide +kernel
theorem dX3_fewestGifts_45 : decode cX3_fewestGifts 45 = .ok (.iaload, 1) := by decide +kernel
theorem dX3_fewestGifts_46 : decode cX3_fewestGifts 46 = .ok (.iload_n 3, 1) := by decide +kernel
theorem dX3_fewestGifts_47 : decode cX3_fewestGifts 47 = .ok (.iadd, 1) := by decide +kernel
theorem dX3_fewestGifts_48 : decode cX3_fewestGifts 48 = .ok (.iastore, 1) := by decide +kernel
theorem dX3_fewestGifts_49 : decode cX3_fewestGifts 49 = .ok (.aload_n 0, 1) := by decide +kernel
theorem dX3_fewestGifts_50 : decode cX3_fewestGifts 50 = .ok (.getfield 15, 3) := by decide +kernel
theorem dX3_fewestGifts_53 : decode cX3_fewestGifts 53 = .ok (.iload 5, 2) := by decide +kernel
theorem dX3_fewestGifts_55 : decode cX3_fewestGifts 55 = .ok (.aload_n 0, 1) := by decide +kernel
theorem dX3_fewestGifts_56 : decode cX3_fewestGifts 56 = .ok (.iload 5, 2) := by decide +kernel
theorem dX3_fewestGifts_58 : decode cX3_fewestGifts 58 = .ok (.invokevirtual 22, 3) := by decide +kernel
theorem dX3_fewestGifts_61 : decode cX3_fewestGifts 61 = .ok (.aload_n 0, 1) := by decide +kernel
theorem dX3_fewestGifts_62 : decode cX3_fewestGifts 62 = .ok (.getfield 9, 3) := by decide +kernel
theorem dX3_fewestGifts_65 : decode cX3_fewestGifts 65 = .ok (.iload 5, 2) := by decide +kernel
theorem dX3_fewestGifts_67 : decode cX3_fewestGifts 67 = .ok (.iaload, 1) := by decide +kernel
theorem dX3_fewestGifts_68 : decode cX3_fewestGifts 68 = .ok (.ifCond .ne 7, 3) := by decide +kernel
theorem dX3_fewestGifts_71 : decode cX3_fewestGifts 71 = .ok (.iconst 1, 1) := by decide +kernel
theorem dX3_fewestGifts_72 : decode cX3_fewestGifts 72 = .ok (.goto 4, 3) := by decide +kernel
theorem dX3_fewestGifts_75 : decode cX3_fewestGifts 75 = .ok (.iconst 0, 1) := by decide +kernel
theorem dX3_fewestGifts_76 : decode cX3_fewestGifts 76 = .ok (.iadd, 1) := by decide +kernel
theorem dX3_fewestGifts_77 : decode cX3_fewestGifts 77 = .ok (.iastore, 1) := by decide +kernel
theorem dX3_fewestGifts_78 : decode cX3_fewestGifts 78 = .ok (.iinc 4 1, 3) := by decide +kernel
theorem dX3_fewestGifts_81 : decode cX3_fewestGifts 81 = .ok (.goto (-64), 3) := by decide +kernel
theorem dX3_fewestGifts_84 : decode cX3_fewestGifts 84 = .ok (.iinc 2 1, 3) := by decide +kernel
theorem dX3_fewestGifts_87 : decode cX3_fewestGifts 87 = .ok (.goto (-85), 3) := by decide +kernel
theorem dX3_fewestGifts_90 : decode cX3_fewestGifts 90 = .ok (.bipush 6, 2) := by decide +kernel
theorem dX3_fewestGifts_92 : decode cX3_fewestGifts 92 = .ok (.aload_n 0, 1) := by decide +kernel
theorem dX3_fewestGifts_93 : decode cX3_fewestGifts 93 = .ok (.getfield 15, 3) := by decide +kernel
theorem dX3_fewestGifts_96 : decode cX3_fewestGifts 96 = .ok (.bipush 63, 2) := by decide +kernel
theorem dX3_fewestGifts_98 : decode cX3_fewestGifts 98 = .ok (.iaload, 1) := by decide +kernel
theorem dX3_fewestGifts_99 : decode cX3_fewestGifts 99 = .ok (.isub, 1) := by decide +kernel
theorem dX3_fewestGifts_100 : decode cX3_fewestGifts 100 = .ok (.ireturn, 1) := by decide +kernel
theorem dX3_mostGroups_0 : decode cX3_mostGroups 0 = .ok (.iconst 0, 1) := by decide +kernel
theorem dX3_mostGroups_1 : decode cX3_mostGroups 1 = .ok (.istore_n 2, 1) := by decide +kernel
theorem dX3_mostGroups_2 : decode cX3_mostGroups 2 = .ok (.iconst 0, 1) := by decide +kernel
theorem dX3_mostGroups_3 : decode cX3_mostGroups 3 = .ok (.istore_n 3, 1) := by decide +kernel
theorem dX3_mostGroups_4 : decode cX3_mostGroups 4 = .ok (.iload_n 3, 1) := by decide +kernel
theorem dX3_mostGroups_5 : decode cX3_mostGroups 5 = .ok (.bipush 6, 2) := by decide +kernel
theorem dX3_mostGroups_7 : decode cX3_mostGroups 7 = .ok (.if_icmp .ge 34, 3) := by decide +kernel
theorem dX3_mostGroups_10 : decode cX3_mostGroups 10 = .ok (.iload_n 1, 1) := by decide +kernel
theorem dX3_mostGroups_11 : decode cX3_mostGroups 11 = .ok (.iload_n 3, 1) := by decide +kernel
theorem dX3_mostGroups_12 : decode cX3_mostGroups 12 = .ok (.invokestatic 26, 3) := by decide +kernel
theorem dX3_mostGroups_15 : decode cX3_mostGroups 15 = .ok (.ifCond .eq 20, 3) := by decide +kernel
theorem dX3_mostGroups_18 : decode cX3_mostGroups 18 = .ok (.iload_n 2, 1) := by decide +kernel
theorem dX3_mostGroups_19 : decode cX3_mostGroups 19 = .ok (.aload_n 0, 1) := by decide +kernel
theorem dX3_mostGroups_20 : decode cX3_mostGroups 20 = .ok (.getfield 15, 3) := by decide +kernel
theorem dX3_mostGroups_23 : decode cX3_mostGroups 23 = .ok (.iload_n 1, 1) := by decide +kernel
theorem dX3_mostGroups_24 : decode cX3_mostGroups 24 = .ok (.iconst 1, 1) := by decide +kernel
theorem dX3_mostGroups_25 : decode cX3_mostGroups 25 = .ok (.iload_n 3, 1) := by decide +kernel
theorem dX3_mostGroups_26 : decode cX3_mostGroups 26 = .ok (.ishl, 1) := by decide +kernel
theorem dX3_mostGroups_27 : decode cX3_mostGroups 27 = .ok (.iconst (-1), 1) := by decide +kernel
theorem dX3_mostGroups_28 : decode cX3_mostGroups 28 = .ok (.ixor, 1) := by decide +kernel
theorem dX3_mostGroups_29 : decode cX3_mostGroups 29 = .ok (.iand, 1) := by decide +kernel
theorem dX3_mostGroups_30 : decode cX3_mostGroups 30 = .ok (.iaload, 1) := by decide +kernel
theorem dX3_mostGroups_31 : decode cX3_mostGroups 31 = .ok (.invokestatic 30, 3) := by decide +kernel
theorem dX3_mostGroups_34 : decode cX3_mostGroups 34 = .ok (.istore_n 2, 1) := by decide +kernel
theorem dX3_mostGroups_35 : decode cX3_mostGroups 35 = .ok (.iinc 3 1, 3) := by decide +kernel
theorem dX3_mostGroups_38 : decode cX3_mostGroups 38 = .ok (.goto (-34), 3) := by decide +kernel
theorem dX3_mostGroups_41 : decode cX3_mostGroups 41 = .ok (.iload_n 2, 1) := by decide +kernel
theorem dX3_mostGroups_42 : decode cX3_mostGroups 42 = .ok (.ireturn, 1) := by decide +kernel
theorem dX4_init_0 : decode cX4_init 0 = .ok (.aload_n 0, 1) := by decide +kernel
theorem dX4_init_1 : decode cX4_init 1 = .ok (.invokespecial 3, 3) := by decide +kernel
theorem dX4_init_4 : decode cX4_init 4 = .ok (.aload_n 0, 1) := by decide +kernel
theorem dX4_init_5 : decode cX4_init 5 = .ok (.bipush 8, 2) := by decide +kernel
theorem dX4_init_7 : decode cX4_init 7 = .ok (.newarray .int, 2) := by decide +kernel
theorem dX4_init_9 : decode cX4_init 9 = .ok (.putfield 9, 3) := by decide +kernel
theorem dX4_init_12 : decode cX4_init 12 = .ok (.aload_n 0, 1) := by decide +kernel
theorem dX4_init_13 : decode cX4_init 13 = .ok (.bipush 8, 2) := by decide +kernel
theorem dX4_init_15 : decode cX4_init 15 = .ok (.newarray .int, 2) := by decide +kernel
theorem dX4_init_17 : decode cX4_init 17 = .ok (.putfield 15, 3) := by decide +kernel
theorem dX4_init_20 : decode cX4_init 20 = .ok (.aload_n 0, 1) := by decide +kernel
theorem dX4_init_21 : decode cX4_init 21 = .ok (.bipush 8, 2) := by decide +kernel
theorem dX4_init_23 : decode cX4_init 23 = .ok (.newarray .int, 2) := by decide +kernel
theorem dX4_init_25 : decode cX4_init 25 = .ok (.putfield 18, 3) := by decide +kernel
theorem dX4_init_28 : decode cX4_init 28 = .ok (.aload_n 0, 1) := by decide +kernel
theorem dX4_init_29 : decode cX4_init 29 = .ok (.iconst 0, 1) := by decide +kernel
theorem dX4_init_30 : decode cX4_init 30 = .ok (.putfield 21, 3) := by decide +kernel
theorem dX4_init_33 : decode cX4_init 33 = .ok (.return_, 1) := by decide +kernel
theorem dX4_add_0 : decode cX4_add 0 = .ok (.aload_n 0, 1) := by decide +kernel
theorem dX4_add_1 : decode cX4_add 1 = .ok (.getfield 21, 3) := by decide +kernel
theorem dX4_add_4 : decode cX4_add 4 = .ok (.ifCond .lt 12, 3) := by decide +kernel
theorem dX4_add_7 : decode cX4_add 7 = .ok (.aload_n 0, 1) := by decide +kernel
theorem dX4_add_8 : decode cX4_add 8 = .ok (.getfield 21, 3) := by decide +kernel
theorem dX4_add_11 : decode cX4_add 11 = .ok (.bipush 8, 2) := by decide +kernel
theorem dX4_add_13 : decode cX4_add 13 = .ok (.if_icmp .lt 5, 3) := by decide +kernel
theorem dX4_add_16 : decode cX4_add 16 = .ok (.iconst 0, 1) := by decide +kernel
theorem dX4_add_17 : decode cX4_add 17 = .ok (.ireturn, 1) := by decide +kernel
theorem dX4_add_18 : decode cX4_add 18 = .ok (.aload_n 0, 1) := by decide +kernel
theorem dX4_add_19 : decode cX4_add 19 = .ok (.getfield 9, 3) := by decide +kernel
theorem dX4_add_22 : decode cX4_add 22 = .ok (.aload_n 0, 1) := by decide +kernel
theorem dX4_add_23 : decode cX4_add 23 = .ok (.getfield 21, 3) := by decide +kernel
theorem dX4_add_26 : decode cX4_add 26 = .ok (.iload_n 1, 1) := by decide +kernel
theorem dX4_add_27 : decode cX4_add 27 = .ok (.iastore, 1) := by decide +kernel
theorem dX4_add_28 : decode cX4_add 28 = .ok (.aload_n 0, 1) := by decide +kernel
theorem dX4_add_29 : decode cX4_add 29 = .ok (.getfield 15, 3) := by decide +kernel
theorem dX4_add_32 : decode cX4_add 32 = .ok (.aload_n 0, 1) := by decide +kernel
theorem dX4_add_33 : decode cX4_add 33 = .ok (.getfield 21, 3) := by decide +kernel
theorem dX4_add_36 : decode cX4_add 36 = .ok (.iload_n 2, 1) := by decide +kernel
theorem dX4_add_37 : decode cX4_add 37 = .ok (.iastore, 1) := by decide +kernel
theorem dX4_add_38 : decode cX4_add 38 = .ok (.aload_n 0, 1) := by decide +kernel
theorem dX4_add_39 : decode cX4_add 39 = .ok (.getfield 18, 3) := by decide +kernel
theorem dX4_add_42 : decode cX4_add 42 = .ok (.aload_n 0, 1) := by decide +kernel
theorem dX4_add_43 : decode cX4_add 43 = .ok (.getfield 21, 3) := by decide +kernel
theorem dX4_add_46 : decode cX4_add 46 = .ok (.iload_n 3, 1) := by decide +kernel
theorem dX4_add_47 : decode cX4_add 47 = .ok (.iastore, 1) := by decide +kernel
theorem dX4_add_48 : decode cX4_add 48 = .ok (.aload_n 0, 1) := by decide +kernel
theorem dX4_add_49 : decode cX4_add 49 = .ok (.dup, 1) := by decide +kernel
theorem dX4_add_50 : decode cX4_add 50 = .ok (.getfield 21, 3) := by decide +kernel
theorem dX4_add_53 : decode cX4_add 53 = .ok (.iconst 1, 1) := by decide +kernel
theorem dX4_add_54 : decode cX4_add 54 = .ok (.iadd, 1) := by decide +kernel
theorem dX4_add_55 : decode cX4_add 55 = .ok (.putfield 21, 3) := by decide +kernel
theorem dX4_add_58 : decode cX4_add 58 = .ok (.iconst 1, 1) := by decide +kernel
theorem dX4_add_59 : decode cX4_add 59 = .ok (.ireturn, 1) := by decide +kernel
theorem dX4_has_0 : decode cX4_has 0 = .ok (.iconst 0, 1) := by decide +kernel
theorem dX4_has_1 : decode cX4_has 1 = .ok (.istore_n 2, 1) := by decide +kernel
theorem dX4_has_2 : decode cX4_has 2 = .ok (.iload_n 2, 1) := by decide +kernel
theorem dX4_has_3 : decode cX4_has 3 = .ok (.aload_n 0, 1) := by decide +kernel
theorem dX4_has_4 : decode cX4_has 4 = .ok (.getfield 21, 3) := by decide +kernel
theorem dX4_has_7 : decode cX4_has 7 = .ok (.if_icmp .ge 21, 3) := by decide +kernel
theorem dX4_has_10 : decode cX4_has 10 = .ok (.aload_n 0, 1) := by decide +kernel
theorem dX4_has_11 : decode cX4_has 11 = .ok (.getfield 9, 3) := by decide +kernel
theorem dX4_has_14 : decode cX4_has 14 = .ok (.iload_n 2, 1) := by decide +kernel
theorem dX4_has_15 : decode cX4_has 15 = .ok (.iaload, 1) := by decide +kernel
theorem dX4_has_16 : decode cX4_has 16 = .ok (.iload_n 1, 1) := by decide +kernel
theorem dX4_has_17 : decode cX4_has 17 = .ok (.if_icmp .ne 5, 3) := by decide +kernel
theorem dX4_has_20 : decode cX4_has 20 = .ok (.iconst 1, 1) := by decide +kernel
theorem dX4_has_21 : decode cX4_has 21 = .ok (.ireturn, 1) := by decide +kernel
theorem dX4_has_22 : decode cX4_has 22 = .ok (.iinc 2 1, 3) := by decide +kernel
theorem dX4_has_25 : decode cX4_has 25 = .ok (.goto (-23), 3) := by decide +kernel
theorem dX4_has_28 : decode cX4_has 28 = .ok (.iconst 0, 1) := by decide +kernel
theorem dX4_has_29 : decode cX4_has 29 = .ok (.ireturn, 1) := by decide +kernel
theorem dX4_allMinutes_0 : decode cX4_allMinutes 0 = .ok (.iconst 0, 1) := by decide +kernel
theorem dX4_allMinutes_1 : decode cX4_allMinutes 1 = .ok (.istore_n 1, 1) := by decide +kernel
theorem dX4_allMinutes_2 : decode cX4_allMinutes 2 = .ok (.iconst 0, 1) := by decide +kernel
theorem dX4_allMinutes_3 : decode cX4_allMinutes 3 = .ok (.istore_n 2, 1) := by decide +kernel
theorem dX4_allMinutes_4 : decode cX4_allMinutes 4 = .ok (.iload_n 2, 1) := by decide +kernel
theorem dX4_allMinutes_5 : decode cX4_allMinutes 5 = .ok (.aload_n 0, 1) := by decide +kernel
theorem dX4_allMinutes_6 : decode cX4_allMinutes 6 = .ok (.getfield 21, 3) := by decide +kernel
theorem dX4_allMinutes_9 : decode cX4_allMinutes 9 = .ok (.if_icmp .ge 18, 3) := by decide +kernel
theorem dX4_allMinutes_12 : decode cX4_allMinutes 12 = .ok (.iload_n 1, 1) := by decide +kernel
theorem dX4_allMinutes_13 : decode cX4_allMinutes 13 = .ok (.aload_n 0, 1) := by decide +kernel
theorem dX4_allMinutes_14 : decode cX4_allMinutes 14 = .ok (.getfield 15, 3) := by decide +kernel
theorem dX4_allMinutes_17 : decode cX4_allMinutes 17 = .ok (.iload_n 2, 1) := by decide +kernel
theorem dX4_allMinutes_18 : decode cX4_allMinutes 18 = .ok (.iaload, 1) := by decide +kernel
theorem dX4_allMinutes_19 : decode cX4_allMinutes 19 = .ok (.iadd, 1) := by decide +kernel
theorem dX4_allMinutes_20 : decode cX4_allMinutes 20 = .ok (.istore_n 1, 1) := by decide +kernel
theorem dX4_allMinutes_21 : decode cX4_allMinutes 21 = .ok (.iinc 2 1, 3) := by decide +kernel
theorem dX4_allMinutes_24 : decode cX4_allMinutes 24 = .ok (.goto (-20), 3) := by decide +kernel
theorem dX4_allMinutes_27 : decode cX4_allMinutes 27 = .ok (.iload_n 1, 1) := by decide +kernel
theorem dX4_allMinutes_28 : decode cX4_allMinutes 28 = .ok (.ireturn, 1) := by decide +kernel
theorem dX4_isNext_0 : decode cX4_isNext 0 = .ok (.iload_n 2, 1) := by decide +kernel
theorem dX4_isNext_1 : decode cX4_isNext 1 = .ok (.iload_n 1, 1) := by decide +kernel
theorem dX4_isNext_2 : decode cX4_isNext 2 = .ok (.invokestatic 25, 3) := by decide +kernel
theorem dX4_isNext_5 : decode cX4_isNext 5 = .ok (.ifCond .ne 20, 3) := by decide +kernel
theorem dX4_isNext_8 : decode cX4_isNext 8 = .ok (.aload_n 0, 1) := by decide +kernel
theorem dX4_isNext_9 : decode cX4_isNext 9 = .ok (.getfield 18, 3) := by decide +kernel
theorem dX4_isNext_12 : decode cX4_isNext 12 = .ok (.iload_n 1, 1) := by decide +kernel
theorem dX4_isNext_13 : decode cX4_isNext 13 = .ok (.iaload, 1) := by decide +kernel
theorem dX4_isNext_14 : decode cX4_isNext 14 = .ok (.iload_n 2, 1) := by decide +kernel
theorem dX4_isNext_15 : decode cX4_isNext 15 = .ok (.iconst (-1), 1) := by decide +kernel
theorem dX4_isNext_16 : decode cX4_isNext 16 = .ok (.ixor, 1) := by decide +kernel
theorem dX4_isNext_17 : decode cX4_isNext 17 = .ok (.iand, 1) := by decide +kernel
theorem dX4_isNext_18 : decode cX4_isNext 18 = .ok (.ifCond .ne 7, 3) := by decide +kernel
theorem dX4_isNext_21 : decode cX4_isNext 21 = .ok (.iconst 1, 1) := by decide +kernel
theorem dX4_isNext_22 : decode cX4_isNext 22 = .ok (.goto 4, 3) := by decide +kernel
theorem dX4_isNext_25 : decode cX4_isNext 25 = .ok (.iconst 0, 1) := by decide +kernel
theorem dX4_isNext_26 : decode cX4_isNext 26 = .ok (.ireturn, 1) := by decide +kernel
theorem dX4_take_0 : decode cX4_take 0 = .ok (.aload_n 1, 1) := by decide +kernel
theorem dX4_take_1 : decode cX4_take 1 = .ok (.getfield 9, 3) := by decide +kernel
theorem dX4_take_4 : decode cX4_take 4 = .ok (.iconst 0, 1) := by decide +kernel
theorem dX4_take_5 : decode cX4_take 5 = .ok (.aload_n 0, 1) := by decide +kernel
theorem dX4_take_6 : decode cX4_take 6 = .ok (.getfield 9, 3) := by decide +kernel
theorem dX4_take_9 : decode cX4_take 9 = .ok (.iconst 0, 1) := by decide +kernel
theorem dX4_take_10 : decode cX4_take 10 = .ok (.bipush 8, 2) := by decide +kernel
theorem dX4_take_12 : decode cX4_take 12 = .ok (.invokestatic 29, 3) := by decide +kernel
theorem dX4_take_15 : decode cX4_take 15 = .ok (.aload_n 1, 1) := by decide +kernel
theorem dX4_take_16 : decode cX4_take 16 = .ok (.getfield 15, 3) := by decide +kernel
theorem dX4_take_19 : decode cX4_take 19 = .ok (.iconst 0, 1) := by decide +kernel
theorem dX4_take_20 : decode cX4_take 20 = .ok (.aload_n 0, 1) := by decide +kernel
theorem dX4_take_21 : decode cX4_take 21 = .ok (.getfield 15, 3) := by decide +kernel
theorem dX4_take_24 : decode cX4_take 24 = .ok (.iconst 0, 1) := by decide +kernel
theorem dX4_take_25 : decode cX4_take 25 = .ok (.bipush 8, 2) := by decide +kernel
theorem dX4_take_27 : decode cX4_take 27 = .ok (.invokestatic 29, 3) := by decide +kernel
theorem dX4_take_30 : decode cX4_take 30 = .ok (.aload_n 1, 1) := by decide +kernel
theorem dX4_take_31 : decode cX4_take 31 = .ok (.getfield 18, 3) := by decide +kernel
theorem dX4_take_34 : decode cX4_take 34 = .ok (.iconst 0, 1) := by decide +kernel
theorem dX4_take_35 : decode cX4_take 35 = .ok (.aload_n 0, 1) := by decide +kernel
theorem dX4_take_36 : decode cX4_take 36 = .ok (.getfield 18, 3) := by decide +kernel
theorem dX4_take_39 : decode cX4_take 39 = .ok (.iconst 0, 1) := by decide +kernel
theorem dX4_take_40 : decode cX4_take 40 = .ok (.bipush 8, 2) := by decide +kernel
theorem dX4_take_42 : decode cX4_take 42 = .ok (.invokestatic 29, 3) := by decide +kernel
theorem dX4_take_45 : decode cX4_take 45 = .ok (.aload_n 0, 1) := by decide +kernel
theorem dX4_take_46 : decode cX4_take 46 = .ok (.aload_n 1, 1) := by decide +kernel
theorem dX4_take_47 : decode cX4_take 47 = .ok (.getfield 21, 3) := by decide +kernel
theorem dX4_take_50 : decode cX4_take 50 = .ok (.putfield 21, 3) := by decide +kernel
theorem dX4_take_53 : decode cX4_take 53 = .ok (.return_, 1) := by decide +kernel
theorem dX5_init_0 : decode cX5_init 0 = .ok (.aload_n 0, 1) := by decide +kernel
theorem dX5_init_1 : decode cX5_init 1 = .ok (.invokespecial 3, 3) := by decide +kernel
theorem dX5_init_4 : decode cX5_init 4 = .ok (.aload_n 0, 1) := by decide +kernel
theorem dX5_init_5 : decode cX5_init 5 = .ok (.bipush 40, 2) := by decide +kernel
theorem dX5_init_7 : decode cX5_init 7 = .ok (.newarray .int, 2) := by decide +kernel
theorem dX5_init_9 : decode cX5_init 9 = .ok (.putfield 9, 3) := by decide +kernel
theorem dX5_init_12 : decode cX5_init 12 = .ok (.aload_n 0, 1) := by decide +kernel
theorem dX5_init_13 : decode cX5_init 13 = .ok (.iconst 0, 1) := by decide +kernel
theorem dX5_init_14 : decode cX5_init 14 = .ok (.putfield 15, 3) := by decide +kernel
theorem dX5_init_17 : decode cX5_init 17 = .ok (.return_, 1) := by decide +kernel
theorem dX5_add_0 : decode cX5_add 0 = .ok (.aload_n 0, 1) := by decide +kernel
theorem dX5_add_1 : decode cX5_add 1 = .ok (.getfield 15, 3) := by decide +kernel
theorem dX5_add_4 : decode cX5_add 4 = .ok (.ifCond .lt 12, 3) := by decide +kernel
theorem dX5_add_7 : decode cX5_add 7 = .ok (.aload_n 0, 1) := by decide +kernel
theorem dX5_add_8 : decode cX5_add 8 = .ok (.getfield 15, 3) := by decide +kernel
theorem dX5_add_11 : decode cX5_add 11 = .ok (.bipush 40, 2) := by decide +kernel
theorem dX5_add_13 : decode cX5_add 13 = .ok (.if_icmp .lt 5, 3) := by decide +kernel
theorem dX5_add_16 : decode cX5_add 16 = .ok (.iconst 0, 1) := by decide +kernel
theorem dX5_add_17 : decode cX5_add 17 = .ok (.ireturn, 1) := by decide +kernel
theorem dX5_add_18 : decode cX5_add 18 = .ok (.aload_n 0, 1) := by decide +kernel
theorem dX5_add_19 : decode cX5_add 19 = .ok (.getfield 9, 3) := by decide +kernel
theorem dX5_add_22 : decode cX5_add 22 = .ok (.aload_n 0, 1) := by decide +kernel
theorem dX5_add_23 : decode cX5_add 23 = .ok (.getfield 15, 3) := by decide +kernel
theorem dX5_add_26 : decode cX5_add 26 = .ok (.iload_n 1, 1) := by decide +kernel
theorem dX5_add_27 : decode cX5_add 27 = .ok (.iastore, 1) := by decide +kernel
theorem dX5_add_28 : decode cX5_add 28 = .ok (.aload_n 0, 1) := by decide +kernel
theorem dX5_add_29 : decode cX5_add 29 = .ok (.dup, 1) := by decide +kernel
theorem dX5_add_30 : decode cX5_add 30 = .ok (.getfield 15, 3) := by decide +kernel
theorem dX5_add_33 : decode cX5_add 33 = .ok (.iconst 1, 1) := by decide +kernel
theorem dX5_add_34 : decode cX5_add 34 = .ok (.iadd, 1) := by decide +kernel
theorem dX5_add_35 : decode cX5_add 35 = .ok (.putfield 15, 3) := by decide +kernel
theorem dX5_add_38 : decode cX5_add 38 = .ok (.iconst 1, 1) := by decide +kernel
theorem dX5_add_39 : decode cX5_add 39 = .ok (.ireturn, 1) := by decide +kernel
theorem dX5_sign_0 : decode cX5_sign 0 = .ok (.iload_n 1, 1) := by decide +kernel
theorem dX5_sign_1 : decode cX5_sign 1 = .ok (.ifCond .lt 26, 3) := by decide +kernel
theorem dX5_sign_4 : decode cX5_sign 4 = .ok (.iload_n 1, 1) := by decide +kernel
theorem dX5_sign_5 : decode cX5_sign 5 = .ok (.aload_n 0, 1) := by decide +kernel
theorem dX5_sign_6 : decode cX5_sign 6 = .ok (.getfield 15, 3) := by decide +kernel
theorem dX5_sign_9 : decode cX5_sign 9 = .ok (.if_icmp .ge 18, 3) := by decide +kernel
theorem dX5_sign_12 : decode cX5_sign 12 = .ok (.iload_n 1, 1) := by decide +kernel
theorem dX5_sign_13 : decode cX5_sign 13 = .ok (.bipush 40, 2) := by decide +kernel
theorem dX5_sign_15 : decode cX5_sign 15 = .ok (.if_icmp .ge 12, 3) := by decide +kernel
theorem dX5_sign_18 : decode cX5_sign 18 = .ok (.aload_n 0, 1) := by decide +kernel
theorem dX5_sign_19 : decode cX5_sign 19 = .ok (.getfield 9, 3) := by decide +kernel
theorem dX5_sign_22 : decode cX5_sign 22 = .ok (.iload_n 1, 1) := by decide +kernel
theorem dX5_sign_23 : decode cX5_sign 23 = .ok (.iaload, 1) := by decide +kernel
theorem dX5_sign_24 : decode cX5_sign 24 = .ok (.goto 4, 3) := by decide +kernel
theorem dX5_sign_27 : decode cX5_sign 27 = .ok (.iconst 0, 1) := by decide +kernel
theorem dX5_sign_28 : decode cX5_sign 28 = .ok (.ireturn, 1) := by decide +kernel
theorem dX5_sittingFault_0 : decode cX5_sittingFault 0 = .ok (.iconst 0, 1) := by decide +kernel
theorem dX5_sittingFault_1 : decode cX5_sittingFault 1 = .ok (.istore_n 1, 1) := by decide +kernel
theorem dX5_sittingFault_2 : decode cX5_sittingFault 2 = .ok (.iconst 0, 1) := by decide +kernel
theorem dX5_sittingFault_3 : decode cX5_sittingFault 3 = .ok (.istore_n 2, 1) := by decide +kernel
theorem dX5_sittingFault_4 : decode cX5_sittingFault 4 = .ok (.iload_n 2, 1) := by decide +kernel
theorem dX5_sittingFault_5 : decode cX5_sittingFault 5 = .ok (.aload_n 0, 1) := by decide +kernel
theorem dX5_sittingFault_6 : decode cX5_sittingFault 6 = .ok (.getfield 15, 3) := by decide +kernel
theorem dX5_sittingFault_9 : decode cX5_sittingFault 9 = .ok (.if_icmp .ge 33, 3) := by decide +kernel
theorem dX5_sittingFault_12 : decode cX5_sittingFault 12 = .ok (.iload_n 1, 1) := by decide +kernel
theorem dX5_sittingFault_13 : decode cX5_sittingFault 13 = .ok (.aload_n 0, 1) := by decide +kernel
theorem dX5_sittingFault_14 : decode cX5_sittingFault 14 = .ok (.iload_n 2, 1) := by decide +kernel
theorem dX5_sittingFault_15 : decode cX5_sittingFault 15 = .ok (.invokevirtual 19, 3) := by decide +kernel
theorem dX5_sittingFault_18 : decode cX5_sittingFault 18 = .ok (.aload_n 0, 1) := by decide +kernel
theorem dX5_sittingFault_19 : decode cX5_sittingFault 19 = .ok (.iload_n 2, 1) := by decide +kernel
theorem dX5_sittingFault_20 : decode cX5_sittingFault 20 = .ok (.iconst 1, 1) := by decide +kernel
theorem dX5_sittingFault_21 : decode cX5_sittingFault 21 = .ok (.isub, 1) := by decide +kernel
theorem dX5_sittingFault_22 : decode cX5_sittingFault 22 = .ok (.invokevirtual 19, 3) := by decide +kernel
theorem dX5_sittingFault_25 : decode cX5_sittingFault 25 = .ok (.invokestatic 23, 3) := by decide +kernel
theorem dX5_sittingFault_28 : decode cX5_sittingFault 28 = .ok (.istore_n 1, 1) := by decide +kernel
theorem dX5_sittingFault_29 : decode cX5_sittingFault 29 = .ok (.iload_n 1, 1) := by decide +kernel
theorem dX5_sittingFault_30 : decode cX5_sittingFault 30 = .ok (.iconst (-1), 1) := by decide +kernel
theorem dX5_sittingFault_31 : decode cX5_sittingFault 31 = .ok (.if_icmp .ne 5, 3) := by decide +kernel
theorem dX5_sittingFault_34 : decode cX5_sittingFault 34 = .ok (.iload_n 2, 1) := by decide +kernel
theorem dX5_sittingFault_35 : decode cX5_sittingFault 35 = .ok (.ireturn, 1) := by decide +kernel
theorem dX5_sittingFault_36 : decode cX5_sittingFault 36 = .ok (.iinc 2 1, 3) := by decide +kernel
theorem dX5_sittingFault_39 : decode cX5_sittingFault 39 = .ok (.goto (-35), 3) := by decide +kernel
theorem dX5_sittingFault_42 : decode cX5_sittingFault 42 = .ok (.iload_n 1, 1) := by decide +kernel
theorem dX5_sittingFault_43 : decode cX5_sittingFault 43 = .ok (.ifCond .ne 8, 3) := by decide +kernel
theorem dX5_sittingFault_46 : decode cX5_sittingFault 46 = .ok (.bipush (-6), 2) := by decide +kernel
theorem dX5_sittingFault_48 : decode cX5_sittingFault 48 = .ok (.goto 7, 3) := by decide +kernel
theorem dX5_sittingFault_51 : decode cX5_sittingFault 51 = .ok (.aload_n 0, 1) := by decide +kernel
theorem dX5_sittingFault_52 : decode cX5_sittingFault 52 = .ok (.getfield 15, 3) := by decide +kernel
theorem dX5_sittingFault_55 : decode cX5_sittingFault 55 = .ok (.ireturn, 1) := by decide +kernel
theorem dX5_bookFault_0 : decode cX5_bookFault 0 = .ok (.iconst 0, 1) := by decide +kernel
theorem dX5_bookFault_1 : decode cX5_bookFault 1 = .ok (.istore_n 1, 1) := by decide +kernel
theorem dX5_bookFault_2 : decode cX5_bookFault 2 = .ok (.iconst 0, 1) := by decide +kernel
theorem dX5_bookFault_3 : decode cX5_bookFault 3 = .ok (.istore_n 2, 1) := by decide +kernel
theorem dX5_bookFault_4 : decode cX5_bookFault 4 = .ok (.iload_n 2, 1) := by decide +kernel
theorem dX5_bookFault_5 : decode cX5_bookFault 5 = .ok (.aload_n 0, 1) := by decide +kernel
theorem dX5_bookFault_6 : decode cX5_bookFault 6 = .ok (.getfield 15, 3) := by decide +kernel
theorem dX5_bookFault_9 : decode cX5_bookFault 9 = .ok (.if_icmp .ge 73, 3) := by decide +kernel
theorem dX5_bookFault_12 : decode cX5_bookFault 12 = .ok (.aload_n 0, 1) := by decide +kernel
theorem dX5_bookFault_13 : decode cX5_bookFault 13 = .ok (.iload_n 2, 1) := by decide +kernel
theorem dX5_bookFault_14 : decode cX5_bookFault 14 = .ok (.invokevirtual 19, 3) := by decide +kernel
theorem dX5_bookFault_17 : decode cX5_bookFault 17 = .ok (.istore_n 3, 1) := by decide +kernel
theorem dX5_bookFault_18 : decode cX5_bookFault 18 = .ok (.iload_n 1, 1) := by decide +kernel
theorem dX5_bookFault_19 : decode cX5_bookFault 19 = .ok (.iload_n 3, 1) := by decide +kernel
theorem dX5_bookFault_20 : decode cX5_bookFault 20 = .ok (.bipush 42, 2) := by decide +kernel
theorem dX5_bookFault_22 : decode cX5_bookFault 22 = .ok (.if_icmp .ne 7, 3) := by decide +kernel
theorem dX5_bookFault_25 : decode cX5_bookFault 25 = .ok (.iconst 1, 1) := by decide +kernel
theorem dX5_bookFault_26 : decode cX5_bookFault 26 = .ok (.goto 4, 3) := by decide +kernel
theorem dX5_bookFault_29 : decode cX5_bookFault 29 = .ok (.iconst 0, 1) := by decide +kernel
theorem dX5_bookFault_30 : decode cX5_bookFault 30 = .ok (.iadd, 1) := by decide +kernel
theorem dX5_bookFault_31 : decode cX5_bookFault 31 = .ok (.istore_n 1, 1) := by decide +kernel
theorem dX5_bookFault_32 : decode cX5_bookFault 32 = .ok (.iload_n 3, 1) := by decide +kernel
theorem dX5_bookFault_33 : decode cX5_bookFault 33 = .ok (.invokestatic 27, 3) := by decide +kernel
theorem dX5_bookFault_36 : decode cX5_bookFault 36 = .ok (.ifCond .ne 15, 3) := by decide +kernel
theorem dX5_bookFault_39 : decode cX5_bookFault 39 = .ok (.iload_n 3, 1) := by decide +kernel
theorem dX5_bookFault_40 : decode cX5_bookFault 40 = .ok (.bipush 46, 2) := by decide +kernel
theorem dX5_bookFault_42 : decode cX5_bookFault 42 = .ok (.if_icmp .eq 9, 3) := by decide +kernel
theorem dX5_bookFault_45 : decode cX5_bookFault 45 = .ok (.iload_n 3, 1) := by decide +kernel
theorem dX5_bookFault_46 : decode cX5_bookFault 46 = .ok (.bipush 42, 2) := by decide +kernel
theorem dX5_bookFault_48 : decode cX5_bookFault 48 = .ok (.if_icmp .ne 7, 3) := by decide +kernel
theorem dX5_bookFault_51 : decode cX5_bookFault 51 = .ok (.iconst 1, 1) := by decide +kernel
theorem dX5_bookFault_52 : decode cX5_bookFault 52 = .ok (.goto 4, 3) := by decide +kernel
theorem dX5_bookFault_55 : decode cX5_bookFault 55 = .ok (.iconst 0, 1) := by decide +kernel
theorem dX5_bookFault_56 : decode cX5_bookFault 56 = .ok (.istore 4, 2) := by decide +kernel
theorem dX5_bookFault_58 : decode cX5_bookFault 58 = .ok (.iload 4, 2) := by decide +kernel
theorem dX5_bookFault_60 : decode cX5_bookFault 60 = .ok (.ifCond .eq 14, 3) := by decide +kernel
theorem dX5_bookFault_63 : decode cX5_bookFault 63 = .ok (.iload_n 2, 1) := by decide +kernel
theorem dX5_bookFault_64 : decode cX5_bookFault 64 = .ok (.bipush 12, 2) := by decide +kernel
theorem dX5_bookFault_66 : decode cX5_bookFault 66 = .ok (.if_icmp .ge 8, 3) := by decide +kernel
theorem dX5_bookFault_69 : decode cX5_bookFault 69 = .ok (.iload_n 1, 1) := by decide +kernel
theorem dX5_bookFault_70 : decode cX5_bookFault 70 = .ok (.iconst 5, 1) := by decide +kernel
theorem dX5_bookFault_71 : decode cX5_bookFault 71 = .ok (.if_icmp .le 5, 3) := by decide +kernel
theorem dX5_bookFault_74 : decode cX5_bookFault 74 = .ok (.iload_n 2, 1) := by decide +kernel
theorem dX5_bookFault_75 : decode cX5_bookFault 75 = .ok (.ireturn, 1) := by decide +kernel
theorem dX5_bookFault_76 : decode cX5_bookFault 76 = .ok (.iinc 2 1, 3) := by decide +kernel
theorem dX5_bookFault_79 : decode cX5_bookFault 79 = .ok (.goto (-75), 3) := by decide +kernel
theorem dX5_bookFault_82 : decode cX5_bookFault 82 = .ok (.aload_n 0, 1) := by decide +kernel
theorem dX5_bookFault_83 : decode cX5_bookFault 83 = .ok (.getfield 15, 3) := by decide +kernel
theorem dX5_bookFault_86 : decode cX5_bookFault 86 = .ok (.ifCond .ne 7, 3) := by decide +kernel
theorem dX5_bookFault_89 : decode cX5_bookFault 89 = .ok (.iconst 0, 1) := by decide +kernel
theorem dX5_bookFault_90 : decode cX5_bookFault 90 = .ok (.goto 5, 3) := by decide +kernel
theorem dX5_bookFault_93 : decode cX5_bookFault 93 = .ok (.bipush (-6), 2) := by decide +kernel
theorem dX5_bookFault_95 : decode cX5_bookFault 95 = .ok (.ireturn, 1) := by decide +kernel
theorem dX5_wantedBehind_0 : decode cX5_wantedBehind 0 = .ok (.iload_n 0, 1) := by decide +kernel
theorem dX5_wantedBehind_1 : decode cX5_wantedBehind 1 = .ok (.tableswitch 80 0 3 #[31, 36, 54, 67], 31) := by decide +kernel
theorem dX5_wantedBehind_32 : decode cX5_wantedBehind 32 = .ok (.iload_n 1, 1) := by decide +kernel
theorem dX5_wantedBehind_33 : decode cX5_wantedBehind 33 = .ok (.invokestatic 31, 3) := by decide +kernel
theorem dX5_wantedBehind_36 : decode cX5_wantedBehind 36 = .ok (.ireturn, 1) := by decide +kernel
theorem dX5_wantedBehind_37 : decode cX5_wantedBehind 37 = .ok (.iload_n 1, 1) := by decide +kernel
theorem dX5_wantedBehind_38 : decode cX5_wantedBehind 38 = .ok (.bipush 49, 2) := by decide +kernel
theorem dX5_wantedBehind_40 : decode cX5_wantedBehind 40 = .ok (.if_icmp .lt 13, 3) := by decide +kernel
theorem dX5_wantedBehind_43 : decode cX5_wantedBehind 43 = .ok (.iload_n 1, 1) := by decide +kernel
theorem dX5_wantedBehind_44 : decode cX5_wantedBehind 44 = .ok (.bipush 57, 2) := by decide +kernel
theorem dX5_wantedBehind_46 : decode cX5_wantedBehind 46 = .ok (.if_icmp .gt 7, 3) := by decide +kernel
theorem dX5_wantedBehind_49 : decode cX5_wantedBehind 49 = .ok (.iconst 0, 1) := by decide +kernel
theorem dX5_wantedBehind_50 : decode cX5_wantedBehind 50 = .ok (.goto 4, 3) := by decide +kernel
theorem dX5_wantedBehind_53 : decode cX5_wantedBehind 53 = .ok (.iconst (-1), 1) := by decide +kernel
theorem dX5_wantedBehind_54 : decode cX5_wantedBehind 54 = .ok (.ireturn, 1) := by decide +kernel
theorem dX5_wantedBehind_55 : decode cX5_wantedBehind 55 = .ok (.iload_n 1, 1) := by decide +kernel
theorem dX5_wantedBehind_56 : decode cX5_wantedBehind 56 = .ok (.invokestatic 27, 3) := by decide +kernel
theorem dX5_wantedBehind_59 : decode cX5_wantedBehind 59 = .ok (.ifCond .eq 7, 3) := by decide +kernel
theorem dX5_wantedBehind_62 : decode cX5_wantedBehind 62 = .ok (.iconst 0, 1) := by decide +kernel
theorem dX5_wantedBehind_63 : decode cX5_wantedBehind 63 = .ok (.goto 4, 3) := by decide +kernel
theorem dX5_wantedBehind_66 : decode cX5_wantedBehind 66 = .ok (.iconst (-1), 1) := by decide +kernel
theorem dX5_wantedBehind_67 : decode cX5_wantedBehind 67 = .ok (.ireturn, 1) := by decide +kernel
theorem dX5_wantedBehind_68 : decode cX5_wantedBehind 68 = .ok (.iload_n 1, 1) := by decide +kernel
theorem dX5_wantedBehind_69 : decode cX5_wantedBehind 69 = .ok (.invokestatic 27, 3) := by decide +kernel
theorem dX5_wantedBehind_72 : decode cX5_wantedBehind 72 = .ok (.ifCond .eq 7, 3) := by decide +kernel
theorem dX5_wantedBehind_75 : decode cX5_wantedBehind 75 = .ok (.iconst 4, 1) := by decide +kernel
theorem dX5_wantedBehind_76 : decode cX5_wantedBehind 76 = .ok (.goto 4, 3) := by decide +kernel
theorem dX5_wantedBehind_79 : decode cX5_wantedBehind 79 = .ok (.iconst (-1), 1) := by decide +kernel
theorem dX5_wantedBehind_80 : decode cX5_wantedBehind 80 = .ok (.ireturn, 1) := by decide +kernel
theorem dX5_wantedBehind_81 : decode cX5_wantedBehind 81 = .ok (.iload_n 1, 1) := by decide +kernel
theorem dX5_wantedBehind_82 : decode cX5_wantedBehind 82 = .ok (.invokestatic 27, 3) := by decide +kernel
theorem dX5_wantedBehind_85 : decode cX5_wantedBehind 85 = .ok (.ifCond .eq 12, 3) := by decide +kernel
theorem dX5_wantedBehind_88 : decode cX5_wantedBehind 88 = .ok (.iload_n 1, 1) := by decide +kernel
theorem dX5_wantedBehind_89 : decode cX5_wantedBehind 89 = .ok (.iload_n 2, 1) := by decide +kernel
theorem dX5_wantedBehind_90 : decode cX5_wantedBehind 90 = .ok (.if_icmp .eq 7, 3) := by decide +kernel
theorem dX5_wantedBehind_93 : decode cX5_wantedBehind 93 = .ok (.iconst 0, 1) := by decide +kernel
theorem dX5_wantedBehind_94 : decode cX5_wantedBehind 94 = .ok (.goto 4, 3) := by decide +kernel
theorem dX5_wantedBehind_97 : decode cX5_wantedBehind 97 = .ok (.iconst (-1), 1) := by decide +kernel
theorem dX5_wantedBehind_98 : decode cX5_wantedBehind 98 = .ok (.ireturn, 1) := by decide +kernel
theorem dX5_wantedBehindHead_0 : decode cX5_wantedBehindHead 0 = .ok (.iload_n 0, 1) := by decide +kernel
theorem dX5_wantedBehindHead_1 : decode cX5_wantedBehindHead 1 = .ok (.lookupswitch 73 #[(46, 71), (63, 69), (105, 67), (107, 67), (120, 67), (121, 67), (122, 67)], 67) := by decide +kernel
theorem dX5_wantedBehindHead_68 : decode cX5_wantedBehindHead 68 = .ok (.iconst 2, 1) := by decide +kernel
theorem dX5_wantedBehindHead_69 : decode cX5_wantedBehindHead 69 = .ok (.ireturn, 1) := by decide +kernel
theorem dX5_wantedBehindHead_70 : decode cX5_wantedBehindHead 70 = .ok (.iconst 3, 1) := by decide +kernel
theorem dX5_wantedBehindHead_71 : decode cX5_wantedBehindHead 71 = .ok (.ireturn, 1) := by decide +kernel
theorem dX5_wantedBehindHead_72 : decode cX5_wantedBehindHead 72 = .ok (.iconst 1, 1) := by decide +kernel
theorem dX5_wantedBehindHead_73 : decode cX5_wantedBehindHead 73 = .ok (.ireturn, 1) := by decide +kernel
theorem dX5_wantedBehindHead_74 : decode cX5_wantedBehindHead 74 = .ok (.iload_n 0, 1) := by decide +kernel
theorem dX5_wantedBehindHead_75 : decode cX5_wantedBehindHead 75 = .ok (.invokestatic 27, 3) := by decide +kernel
theorem dX5_wantedBehindHead_78 : decode cX5_wantedBehindHead 78 = .ok (.ifCond .eq 7, 3) := by decide +kernel
theorem dX5_wantedBehindHead_81 : decode cX5_wantedBehindHead 81 = .ok (.iconst 1, 1) := by decide +kernel
theorem dX5_wantedBehindHead_82 : decode cX5_wantedBehindHead 82 = .ok (.goto 4, 3) := by decide +kernel
theorem dX5_wantedBehindHead_85 : decode cX5_wantedBehindHead 85 = .ok (.iconst (-1), 1) := by decide +kernel
theorem dX5_wantedBehindHead_86 : decode cX5_wantedBehindHead 86 = .ok (.ireturn, 1) := by decide +kernel
theorem dX6_init_0 : decode cX6_init 0 = .ok (.aload_n 0, 1) := by decide +kernel
theorem dX6_init_1 : decode cX6_init 1 = .ok (.invokespecial 3, 3) := by decide +kernel
theorem dX6_init_4 : decode cX6_init 4 = .ok (.aload_n 0, 1) := by decide +kernel
theorem dX6_init_5 : decode cX6_init 5 = .ok (.iconst 4, 1) := by decide +kernel
theorem dX6_init_6 : decode cX6_init 6 = .ok (.bipush 6, 2) := by decide +kernel
theorem dX6_init_8 : decode cX6_init 8 = .ok (.multianewarray 9 2, 4) := by decide +kernel
theorem dX6_init_12 : decode cX6_init 12 = .ok (.putfield 11, 3) := by decide +kernel
theorem dX6_init_15 : decode cX6_init 15 = .ok (.aload_n 0, 1) := by decide +kernel
theorem dX6_init_16 : decode cX6_init 16 = .ok (.bipush 6, 2) := by decide +kernel
theorem dX6_init_18 : decode cX6_init 18 = .ok (.newarray .int, 2) := by decide +kernel
theorem dX6_init_20 : decode cX6_init 20 = .ok (.putfield 16, 3) := by decide +kernel
theorem dX6_init_23 : decode cX6_init 23 = .ok (.aload_n 0, 1) := by decide +kernel
theorem dX6_init_24 : decode cX6_init 24 = .ok (.iconst 0, 1) := by decide +kernel
theorem dX6_init_25 : decode cX6_init 25 = .ok (.putfield 20, 3) := by decide +kernel
theorem dX6_init_28 : decode cX6_init 28 = .ok (.aload_n 0, 1) := by decide +kernel
theorem dX6_init_29 : decode cX6_init 29 = .ok (.iconst 0, 1) := by decide +kernel
theorem dX6_init_30 : decode cX6_init 30 = .ok (.putfield 24, 3) := by decide +kernel
theorem dX6_init_33 : decode cX6_init 33 = .ok (.aload_n 0, 1) := by decide +kernel
theorem dX6_init_34 : decode cX6_init 34 = .ok (.bipush (-6), 2) := by decide +kernel
theorem dX6_init_36 : decode cX6_init 36 = .ok (.putfield 27, 3) := by decide +kernel
theorem dX6_init_39 : decode cX6_init 39 = .ok (.return_, 1) := by decide +kernel
theorem dX6_run_0 : decode cX6_run 0 = .ok (.aload_n 0, 1) := by decide +kernel
theorem dX6_run_1 : decode cX6_run 1 = .ok (.aload_n 1, 1) := by decide +kernel
theorem dX6_run_2 : decode cX6_run 2 = .ok (.invokevirtual 30, 3) := by decide +kernel
theorem dX6_run_5 : decode cX6_run 5 = .ok (.iconst 0, 1) := by decide +kernel
theorem dX6_run_6 : decode cX6_run 6 = .ok (.istore_n 3, 1) := by decide +kernel
theorem dX6_run_7 : decode cX6_run 7 = .ok (.iload_n 3, 1) := by decide +kernel
theorem dX6_run_8 : decode cX6_run 8 = .ok (.aload_n 2, 1) := by decide +kernel
theorem dX6_run_9 : decode cX6_run 9 = .ok (.getfield 34, 3) := by decide +kernel
theorem dX6_run_12 : decode cX6_run 12 = .ok (.if_icmp .ge 134, 3) := by decide +kernel
theorem dX6_run_15 : decode cX6_run 15 = .ok (.aload_n 2, 1) := by decide +kernel
theorem dX6_run_16 : decode cX6_run 16 = .ok (.iload_n 3, 1) := by decide +kernel
theorem dX6_run_17 : decode cX6_run 17 = .ok (.invokevirtual 39, 3) := by decide +kernel
theorem dX6_run_20 : decode cX6_run 20 = .ok (.istore 4, 2) := by decide +kernel
theorem dX6_run_22 : decode cX6_run 22 = .ok (.aload_n 2, 1) := by decide +kernel
theorem dX6_run_23 : decode cX6_run 23 = .ok (.iload_n 3, 1) := by decide +kernel
theorem dX6_run_24 : decode cX6_run 24 = .ok (.iconst 1, 1) := by decide +kernel
theorem dX6_run_25 : decode cX6_run 25 = .ok (.iadd, 1) := by decide +kernel
theorem dX6_run_26 : decode cX6_run 26 = .ok (.invokevirtual 39, 3) := by decide +kernel
theorem dX6_run_29 : decode cX6_run 29 = .ok (.istore 5, 2) := by decide +kernel
theorem dX6_run_31 : decode cX6_run 31 = .ok (.iload 4, 2) := by decide +kernel
theorem dX6_run_33 : decode cX6_run 33 = .ok (.bipush 46, 2) := by decide +kernel
theorem dX6_run_35 : decode cX6_run 35 = .ok (.if_icmp .ne 17, 3) := by decide +kernel
theorem dX6_run_38 : decode cX6_run 38 = .ok (.aload_n 0, 1) := by decide +kernel
theorem dX6_run_39 : decode cX6_run 39 = .ok (.bipush 6, 2) := by decide +kernel
theorem dX6_run_41 : decode cX6_run 41 = .ok (.iload 5, 2) := by decide +kernel
theorem dX6_run_43 : decode cX6_run 43 = .ok (.bipush 48, 2) := by decide +kernel
theorem dX6_run_45 : decode cX6_run 45 = .ok (.isub, 1) := by decide +kernel
theorem dX6_run_46 : decode cX6_run 46 = .ok (.invokevirtual 43, 3) := by decide +kernel
theorem dX6_run_49 : decode cX6_run 49 = .ok (.goto 76, 3) := by decide +kernel
theorem dX6_run_52 : decode cX6_run 52 = .ok (.iload 4, 2) := by decide +kernel
theorem dX6_run_54 : decode cX6_run 54 = .ok (.invokestatic 47, 3) := by decide +kernel
theorem dX6_run_57 : decode cX6_run 57 = .ok (.ifCond .eq 20, 3) := by decide +kernel
theorem dX6_run_60 : decode cX6_run 60 = .ok (.aload_n 0, 1) := by decide +kernel
theorem dX6_run_61 : decode cX6_run 61 = .ok (.iload 4, 2) := by decide +kernel
theorem dX6_run_63 : decode cX6_run 63 = .ok (.bipush 97, 2) := by decide +kernel
theorem dX6_run_65 : decode cX6_run 65 = .ok (.isub, 1) := by decide +kernel
theorem dX6_run_66 : decode cX6_run 66 = .ok (.iload 5, 2) := by decide +kernel
theorem dX6_run_68 : decode cX6_run 68 = .ok (.bipush 48, 2) := by decide +kernel
theorem dX6_run_70 : decode cX6_run 70 = .ok (.isub, 1) := by decide +kernel
theorem dX6_run_71 : decode cX6_run 71 = .ok (.invokevirtual 43, 3) := by decide +kernel
theorem dX6_run_74 : decode cX6_run 74 = .ok (.goto 51, 3) := by decide +kernel
theorem dX6_run_77 : decode cX6_run 77 = .ok (.iload 4, 2) := by decide +kernel
theorem dX6_run_79 : decode cX6_run 79 = .ok (.bipush 63, 2) := by decide +kernel
theorem dX6_run_81 : decode cX6_run 81 = .ok (.if_icmp .ne 29, 3) := by decide +kernel
theorem dX6_run_84 : decode cX6_run 84 = .ok (.aload_n 0, 1) := by decide +kernel
theorem dX6_run_85 : decode cX6_run 85 = .ok (.iload 5, 2) := by decide +kernel
theorem dX6_run_87 : decode cX6_run 87 = .ok (.bipush 97, 2) := by decide +kernel
theorem dX6_run_89 : decode cX6_run 89 = .ok (.isub, 1) := by decide +kernel
theorem dX6_run_90 : decode cX6_run 90 = .ok (.aload_n 2, 1) := by decide +kernel
theorem dX6_run_91 : decode cX6_run 91 = .ok (.iload_n 3, 1) := by decide +kernel
theorem dX6_run_92 : decode cX6_run 92 = .ok (.iconst 2, 1) := by decide +kernel
theorem dX6_run_93 : decode cX6_run 93 = .ok (.iadd, 1) := by decide +kernel
theorem dX6_run_94 : decode cX6_run 94 = .ok (.invokevirtual 39, 3) := by decide +kernel
theorem dX6_run_97 : decode cX6_run 97 = .ok (.bipush 97, 2) := by decide +kernel
theorem dX6_run_99 : decode cX6_run 99 = .ok (.isub, 1) := by decide +kernel
theorem dX6_run_100 : decode cX6_run 100 = .ok (.aload_n 1, 1) := by decide +kernel
theorem dX6_run_101 : decode cX6_run 101 = .ok (.getfield 51, 3) := by decide +kernel
theorem dX6_run_104 : decode cX6_run 104 = .ok (.invokevirtual 56, 3) := by decide +kernel
theorem dX6_run_107 : decode cX6_run 107 = .ok (.goto 18, 3) := by decide +kernel
theorem dX6_run_110 : decode cX6_run 110 = .ok (.aload_n 0, 1) := by decide +kernel
theorem dX6_run_111 : decode cX6_run 111 = .ok (.iload 4, 2) := by decide +kernel
theorem dX6_run_113 : decode cX6_run 113 = .ok (.iload 5, 2) := by decide +kernel
theorem dX6_run_115 : decode cX6_run 115 = .ok (.bipush 97, 2) := by decide +kernel
theorem dX6_run_117 : decode cX6_run 117 = .ok (.isub, 1) := by decide +kernel
theorem dX6_run_118 : decode cX6_run 118 = .ok (.aload_n 1, 1) := by decide +kernel
theorem dX6_run_119 : decode cX6_run 119 = .ok (.getfield 60, 3) := by decide +kernel
theorem dX6_run_122 : decode cX6_run 122 = .ok (.invokevirtual 63, 3) := by decide +kernel
theorem dX6_run_125 : decode cX6_run 125 = .ok (.iload_n 3, 1) := by decide +kernel
theorem dX6_run_126 : decode cX6_run 126 = .ok (.aload_n 2, 1) := by decide +kernel
theorem dX6_run_127 : decode cX6_run 127 = .ok (.iload_n 3, 1) := by decide +kernel
theorem dX6_run_128 : decode cX6_run 128 = .ok (.invokevirtual 39, 3) := by decide +kernel
theorem dX6_run_131 : decode cX6_run 131 = .ok (.bipush 63, 2) := by decide +kernel
theorem dX6_run_133 : decode cX6_run 133 = .ok (.if_icmp .ne 7, 3) := by decide +kernel
theorem dX6_run_136 : decode cX6_run 136 = .ok (.iconst 3, 1) := by decide +kernel
theorem dX6_run_137 : decode cX6_run 137 = .ok (.goto 4, 3) := by decide +kernel
theorem dX6_run_140 : decode cX6_run 140 = .ok (.iconst 2, 1) := by decide +kernel
theorem dX6_run_141 : decode cX6_run 141 = .ok (.iadd, 1) := by decide +kernel
theorem dX6_run_142 : decode cX6_run 142 = .ok (.istore_n 3, 1) := by decide +kernel
theorem dX6_run_143 : decode cX6_run 143 = .ok (.goto (-136), 3) := by decide +kernel
theorem dX6_run_146 : decode cX6_run 146 = .ok (.return_, 1) := by decide +kernel
theorem dX6_ofAll_0 : decode cX6_ofAll 0 = .ok (.iload_n 1, 1) := by decide +kernel
theorem dX6_ofAll_1 : decode cX6_ofAll 1 = .ok (.ifCond .ne 10, 3) := by decide +kernel
theorem dX6_ofAll_4 : decode cX6_ofAll 4 = .ok (.aload_n 0, 1) := by decide +kernel
theorem dX6_ofAll_5 : decode cX6_ofAll 5 = .ok (.getfield 20, 3) := by decide +kernel
theorem dX6_ofAll_8 : decode cX6_ofAll 8 = .ok (.goto 19, 3) := by decide +kernel
theorem dX6_ofAll_11 : decode cX6_ofAll 11 = .ok (.iload_n 1, 1) := by decide +kernel
theorem dX6_ofAll_12 : decode cX6_ofAll 12 = .ok (.iconst 1, 1) := by decide +kernel
theorem dX6_ofAll_13 : decode cX6_ofAll 13 = .ok (.if_icmp .ne 10, 3) := by decide +kernel
theorem dX6_ofAll_16 : decode cX6_ofAll 16 = .ok (.aload_n 0, 1) := by decide +kernel
theorem dX6_ofAll_17 : decode cX6_ofAll 17 = .ok (.getfield 27, 3) := by decide +kernel
theorem dX6_ofAll_20 : decode cX6_ofAll 20 = .ok (.goto 7, 3) := by decide +kernel
theorem dX6_ofAll_23 : decode cX6_ofAll 23 = .ok (.aload_n 0, 1) := by decide +kernel
theorem dX6_ofAll_24 : decode cX6_ofAll 24 = .ok (.getfield 24, 3) := by decide +kernel
theorem dX6_ofAll_27 : decode cX6_ofAll 27 = .ok (.ireturn, 1) := by decide +kernel
theorem dX6_ofOne_0 : decode cX6_ofOne 0 = .ok (.iload_n 2, 1) := by decide +kernel
theorem dX6_ofOne_1 : decode cX6_ofOne 1 = .ok (.invokestatic 66, 3) := by decide +kernel
theorem dX6_ofOne_4 : decode cX6_ofOne 4 = .ok (.ifCond .ne 6, 3) := by decide +kernel
theorem dX6_ofOne_7 : decode cX6_ofOne 7 = .ok (.bipush (-6), 2) := by decide +kernel
theorem dX6_ofOne_9 : decode cX6_ofOne 9 = .ok (.ireturn, 1) := by decide +kernel
theorem dX6_ofOne_10 : decode cX6_ofOne 10 = .ok (.iload_n 1, 1) := by decide +kernel
theorem dX6_ofOne_11 : decode cX6_ofOne 11 = .ok (.iconst 1, 1) := by decide +kernel
theorem dX6_ofOne_12 : decode cX6_ofOne 12 = .ok (.if_icmp .ne 12, 3) := by decide +kernel
theorem dX6_ofOne_15 : decode cX6_ofOne 15 = .ok (.aload_n 0, 1) := by decide +kernel
theorem dX6_ofOne_16 : decode cX6_ofOne 16 = .ok (.getfield 16, 3) := by decide +kernel
theorem dX6_ofOne_19 : decode cX6_ofOne 19 = .ok (.iload_n 2, 1) := by decide +kernel
theorem dX6_ofOne_20 : decode cX6_ofOne 20 = .ok (.iaload, 1) := by decide +kernel
theorem dX6_ofOne_21 : decode cX6_ofOne 21 = .ok (.goto 20, 3) := by decide +kernel
theorem dX6_ofOne_24 : decode cX6_ofOne 24 = .ok (.aload_n 0, 1) := by decide +kernel
theorem dX6_ofOne_25 : decode cX6_ofOne 25 = .ok (.getfield 11, 3) := by decide +kernel
theorem dX6_ofOne_28 : decode cX6_ofOne 28 = .ok (.iload_n 1, 1) := by decide +kernel
theorem dX6_ofOne_29 : decode cX6_ofOne 29 = .ok (.iconst 2, 1) := by decide +kernel
theorem dX6_ofOne_30 : decode cX6_ofOne 30 = .ok (.if_icmp .ne 7, 3) := by decide +kernel
theorem dX6_ofOne_33 : decode cX6_ofOne 33 = .ok (.iconst 0, 1) := by decide +kernel
theorem dX6_ofOne_34 : decode cX6_ofOne 34 = .ok (.goto 4, 3) := by decide +kernel
theorem dX6_ofOne_37 : decode cX6_ofOne 37 = .ok (.iconst 3, 1) := by decide +kernel
theorem dX6_ofOne_38 : decode cX6_ofOne 38 = .ok (.aaload, 1) := by decide +kernel
theorem dX6_ofOne_39 : decode cX6_ofOne 39 = .ok (.iload_n 2, 1) := by decide +kernel
theorem dX6_ofOne_40 : decode cX6_ofOne 40 = .ok (.iaload, 1) := by decide +kernel
theorem dX6_ofOne_41 : decode cX6_ofOne 41 = .ok (.ireturn, 1) := by decide +kernel
theorem dX6_begin_0 : decode cX6_begin 0 = .ok (.aload_n 1, 1) := by decide +kernel
theorem dX6_begin_1 : decode cX6_begin 1 = .ok (.getfield 69, 3) := by decide +kernel
theorem dX6_begin_4 : decode cX6_begin 4 = .ok (.aload_n 0, 1) := by decide +kernel
theorem dX6_begin_5 : decode cX6_begin 5 = .ok (.getfield 11, 3) := by decide +kernel
theorem dX6_begin_8 : decode cX6_begin 8 = .ok (.iconst 4, 1) := by decide +kernel
theorem dX6_begin_9 : decode cX6_begin 9 = .ok (.invokestatic 70, 3) := by decide +kernel
theorem dX6_begin_12 : decode cX6_begin 12 = .ok (.iconst 0, 1) := by decide +kernel
theorem dX6_begin_13 : decode cX6_begin 13 = .ok (.istore_n 2, 1) := by decide +kernel
theorem dX6_begin_14 : decode cX6_begin 14 = .ok (.iload_n 2, 1) := by decide +kernel
theorem dX6_begin_15 : decode cX6_begin 15 = .ok (.bipush 6, 2) := by decide +kernel
theorem dX6_begin_17 : decode cX6_begin 17 = .ok (.if_icmp .ge 16, 3) := by decide +kernel
theorem dX6_begin_20 : decode cX6_begin 20 = .ok (.aload_n 0, 1) := by decide +kernel
theorem dX6_begin_21 : decode cX6_begin 21 = .ok (.getfield 16, 3) := by decide +kernel
theorem dX6_begin_24 : decode cX6_begin 24 = .ok (.iload_n 2, 1) := by decide +kernel
theorem dX6_begin_25 : decode cX6_begin 25 = .ok (.iconst 0, 1) := by decide +kernel
theorem dX6_begin_26 : decode cX6_begin 26 = .ok (.iastore, 1) := by decide +kernel
theorem dX6_begin_27 : decode cX6_begin 27 = .ok (.iinc 2 1, 3) := by decide +kernel
theorem dX6_begin_30 : decode cX6_begin 30 = .ok (.goto (-16), 3) := by decide +kernel
theorem dX6_begin_33 : decode cX6_begin 33 = .ok (.aload_n 0, 1) := by decide +kernel
theorem dX6_begin_34 : decode cX6_begin 34 = .ok (.iconst 0, 1) := by decide +kernel
theorem dX6_begin_35 : decode cX6_begin 35 = .ok (.putfield 20, 3) := by decide +kernel
theorem dX6_begin_38 : decode cX6_begin 38 = .ok (.aload_n 0, 1) := by decide +kernel
theorem dX6_begin_39 : decode cX6_begin 39 = .ok (.iconst 0, 1) := by decide +kernel
theorem dX6_begin_40 : decode cX6_begin 40 = .ok (.putfield 24, 3) := by decide +kernel
theorem dX6_begin_43 : decode cX6_begin 43 = .ok (.aload_n 0, 1) := by decide +kernel
theorem dX6_begin_44 : decode cX6_begin 44 = .ok (.bipush (-6), 2) := by decide +kernel
theorem dX6_begin_46 : decode cX6_begin 46 = .ok (.putfield 27, 3) := by decide +kernel
theorem dX6_begin_49 : decode cX6_begin 49 = .ok (.return_, 1) := by decide +kernel
theorem dX6_ask_0 : decode cX6_ask 0 = .ok (.aload_n 0, 1) := by decide +kernel
theorem dX6_ask_1 : decode cX6_ask 1 = .ok (.iload_n 1, 1) := by decide +kernel
theorem dX6_ask_2 : decode cX6_ask 2 = .ok (.invokevirtual 74, 3) := by decide +kernel
theorem dX6_ask_5 : decode cX6_ask 5 = .ok (.ifCond .eq 20, 3) := by decide +kernel
theorem dX6_ask_8 : decode cX6_ask 8 = .ok (.aload_n 0, 1) := by decide +kernel
theorem dX6_ask_9 : decode cX6_ask 9 = .ok (.iload_n 2, 1) := by decide +kernel
theorem dX6_ask_10 : decode cX6_ask 10 = .ok (.invokevirtual 74, 3) := by decide +kernel
theorem dX6_ask_13 : decode cX6_ask 13 = .ok (.ifCond .eq 12, 3) := by decide +kernel
theorem dX6_ask_16 : decode cX6_ask 16 = .ok (.aload_n 0, 1) := by decide +kernel
theorem dX6_ask_17 : decode cX6_ask 17 = .ok (.getfield 11, 3) := by decide +kernel
theorem dX6_ask_20 : decode cX6_ask 20 = .ok (.iconst 3, 1) := by decide +kernel
theorem dX6_ask_21 : decode cX6_ask 21 = .ok (.aaload, 1) := by decide +kernel
theorem dX6_ask_22 : decode cX6_ask 22 = .ok (.iload_n 2, 1) := by decide +kernel
theorem dX6_ask_23 : decode cX6_ask 23 = .ok (.iload_n 3, 1) := by decide +kernel
theorem dX6_ask_24 : decode cX6_ask 24 = .ok (.iastore, 1) := by decide +kernel
theorem dX6_ask_25 : decode cX6_ask 25 = .ok (.return_, 1) := by decide +kernel
theorem dX6_stir_0 : decode cX6_stir 0 = .ok (.iload_n 2, 1) := by decide +kernel
theorem dX6_stir_1 : decode cX6_stir 1 = .ok (.invokestatic 66, 3) := by decide +kernel
theorem dX6_stir_4 : decode cX6_stir 4 = .ok (.ifCond .ne 4, 3) := by decide +kernel
theorem dX6_stir_7 : decode cX6_stir 7 = .ok (.return_, 1) := by decide +kernel
theorem dX6_stir_8 : decode cX6_stir 8 = .ok (.iload_n 1, 1) := by decide +kernel
theorem dX6_stir_9 : decode cX6_stir 9 = .ok (.lookupswitch 118 #[(105, 97), (120, 67), (121, 55), (122, 43)], 43) := by decide +kernel
theorem dX6_stir_52 : decode cX6_stir 52 = .ok (.aload_n 0, 1) := by decide +kernel
theorem dX6_stir_53 : decode cX6_stir 53 = .ok (.getfield 11, 3) := by decide +kernel
theorem dX6_stir_56 : decode cX6_stir 56 = .ok (.iconst 2, 1) := by decide +kernel
theorem dX6_stir_57 : decode cX6_stir 57 = .ok (.aaload, 1) := by decide +kernel
theorem dX6_stir_58 : decode cX6_stir 58 = .ok (.iload_n 2, 1) := by decide +kernel
theorem dX6_stir_59 : decode cX6_stir 59 = .ok (.iconst 0, 1) := by decide +kernel
theorem dX6_stir_60 : decode cX6_stir 60 = .ok (.iastore, 1) := by decide +kernel
theorem dX6_stir_61 : decode cX6_stir 61 = .ok (.goto 100, 3) := by decide +kernel
theorem dX6_stir_64 : decode cX6_stir 64 = .ok (.aload_n 0, 1) := by decide +kernel
theorem dX6_stir_65 : decode cX6_stir 65 = .ok (.getfield 11, 3) := by decide +kernel
theorem dX6_stir_68 : decode cX6_stir 68 = .ok (.iconst 2, 1) := by decide +kernel
theorem dX6_stir_69 : decode cX6_stir 69 = .ok (.aaload, 1) := by decide +kernel
theorem dX6_stir_70 : decode cX6_stir 70 = .ok (.iload_n 2, 1) := by decide +kernel
theorem dX6_stir_71 : decode cX6_stir 71 = .ok (.iconst 1, 1) := by decide +kernel
theorem dX6_stir_72 : decode cX6_stir 72 = .ok (.iastore, 1) := by decide +kernel
theorem dX6_stir_73 : decode cX6_stir 73 = .ok (.goto 88, 3) := by decide +kernel
theorem dX6_stir_76 : decode cX6_stir 76 = .ok (.aload_n 0, 1) := by decide +kernel
theorem dX6_stir_77 : decode cX6_stir 77 = .ok (.getfield 11, 3) := by decide +kernel
theorem dX6_stir_80 : decode cX6_stir 80 = .ok (.iconst 1, 1) := by decide +kernel
theorem dX6_stir_81 : decode cX6_stir 81 = .ok (.aaload, 1) := by decide +kernel
theorem dX6_stir_82 : decode cX6_stir 82 = .ok (.iload_n 2, 1) := by decide +kernel
theorem dX6_stir_83 : decode cX6_stir 83 = .ok (.iconst 0, 1) := by decide +kernel
theorem dX6_stir_84 : decode cX6_stir 84 = .ok (.iastore, 1) := by decide +kernel
theorem dX6_stir_85 : decode cX6_stir 85 = .ok (.aload_n 0, 1) := by decide +kernel
theorem dX6_stir_86 : decode cX6_stir 86 = .ok (.getfield 11, 3) := by decide +kernel
theorem dX6_stir_89 : decode cX6_stir 89 = .ok (.iconst 0, 1) := by decide +kernel
theorem dX6_stir_90 : decode cX6_stir 90 = .ok (.aaload, 1) := by decide +kernel
theorem dX6_stir_91 : decode cX6_stir 91 = .ok (.iload_n 2, 1) := by decide +kernel
end
section
theorem dX6_stir_92 : decode cX6_stir 92 = .ok (.iconst 0, 1) := by decide +kernel
theorem dX6_stir_93 : decode cX6_stir 93 = .ok (.iastore, 1) := by decide +kernel
theorem dX6_stir_94 : decode cX6_stir 94 = .ok (.aload_n 0, 1) := by decide +kernel
theorem dX6_stir_95 : decode cX6_stir 95 = .ok (.getfield 11, 3) := by decide +kernel
theorem dX6_stir_98 : decode cX6_stir 98 = .ok (.iconst 3, 1) := by decide +kernel
theorem dX6_stir_99 : decode cX6_stir 99 = .ok (.aaload, 1) := by decide +kernel
theorem dX6_stir_100 : decode cX6_stir 100 = .ok (.iload_n 2, 1) := by decide +kernel
theorem dX6_stir_101 : decode cX6_stir 101 = .ok (.iconst 0, 1) := by decide +kernel
theorem dX6_stir_102 : decode cX6_stir 102 = .ok (.iastore, 1) := by decide +kernel
theorem dX6_stir_103 : decode cX6_stir 103 = .ok (.goto 58, 3) := by decide +kernel
theorem dX6_stir_106 : decode cX6_stir 106 = .ok (.aload_n 0, 1) := by decide +kernel
theorem dX6_stir_107 : decode cX6_stir 107 = .ok (.getfield 11, 3) := by decide +kernel
theorem dX6_stir_110 : decode cX6_stir 110 = .ok (.iconst 1, 1) := by decide +kernel
theorem dX6_stir_111 : decode cX6_stir 111 = .ok (.aaload, 1) := by decide +kernel
theorem dX6_stir_112 : decode cX6_stir 112 = .ok (.iload_n 2, 1) := by decide +kernel
theorem dX6_stir_113 : decode cX6_stir 113 = .ok (.iconst 1, 1) := by decide +kernel
theorem dX6_stir_114 : decode cX6_stir 114 = .ok (.iastore, 1) := by decide +kernel
theorem dX6_stir_115 : decode cX6_stir 115 = .ok (.aload_n 0, 1) := by decide +kernel
theorem dX6_stir_116 : decode cX6_stir 116 = .ok (.getfield 11, 3) := by decide +kernel
theorem dX6_stir_119 : decode cX6_stir 119 = .ok (.iconst 2, 1) := by decide +kernel
theorem dX6_stir_120 : decode cX6_stir 120 = .ok (.aaload, 1) := by decide +kernel
theorem dX6_stir_121 : decode cX6_stir 121 = .ok (.iload_n 2, 1) := by decide +kernel
theorem dX6_stir_122 : decode cX6_stir 122 = .ok (.iconst 1, 1) := by decide +kernel
theorem dX6_stir_123 : decode cX6_stir 123 = .ok (.iastore, 1) := by decide +kernel
theorem dX6_stir_124 : decode cX6_stir 124 = .ok (.goto 37, 3) := by decide +kernel
theorem dX6_stir_127 : decode cX6_stir 127 = .ok (.aload_n 0, 1) := by decide +kernel
theorem dX6_stir_128 : decode cX6_stir 128 = .ok (.getfield 11, 3) := by decide +kernel
theorem dX6_stir_131 : decode cX6_stir 131 = .ok (.iconst 1, 1) := by decide +kernel
theorem dX6_stir_132 : decode cX6_stir 132 = .ok (.aaload, 1) := by decide +kernel
theorem dX6_stir_133 : decode cX6_stir 133 = .ok (.iload_n 2, 1) := by decide +kernel
theorem dX6_stir_134 : decode cX6_stir 134 = .ok (.iaload, 1) := by decide +kernel
theorem dX6_stir_135 : decode cX6_stir 135 = .ok (.iconst 1, 1) := by decide +kernel
theorem dX6_stir_136 : decode cX6_stir 136 = .ok (.if_icmp .ne 25, 3) := by decide +kernel
theorem dX6_stir_139 : decode cX6_stir 139 = .ok (.aload_n 0, 1) := by decide +kernel
theorem dX6_stir_140 : decode cX6_stir 140 = .ok (.getfield 11, 3) := by decide +kernel
theorem dX6_stir_143 : decode cX6_stir 143 = .ok (.iconst 0, 1) := by decide +kernel
theorem dX6_stir_144 : decode cX6_stir 144 = .ok (.aaload, 1) := by decide +kernel
theorem dX6_stir_145 : decode cX6_stir 145 = .ok (.iload_n 2, 1) := by decide +kernel
theorem dX6_stir_146 : decode cX6_stir 146 = .ok (.iconst 0, 1) := by decide +kernel
theorem dX6_stir_147 : decode cX6_stir 147 = .ok (.aload_n 0, 1) := by decide +kernel
theorem dX6_stir_148 : decode cX6_stir 148 = .ok (.getfield 11, 3) := by decide +kernel
theorem dX6_stir_151 : decode cX6_stir 151 = .ok (.iconst 0, 1) := by decide +kernel
theorem dX6_stir_152 : decode cX6_stir 152 = .ok (.aaload, 1) := by decide +kernel
theorem dX6_stir_153 : decode cX6_stir 153 = .ok (.iload_n 2, 1) := by decide +kernel
theorem dX6_stir_154 : decode cX6_stir 154 = .ok (.iaload, 1) := by decide +kernel
theorem dX6_stir_155 : decode cX6_stir 155 = .ok (.iload_n 3, 1) := by decide +kernel
theorem dX6_stir_156 : decode cX6_stir 156 = .ok (.isub, 1) := by decide +kernel
theorem dX6_stir_157 : decode cX6_stir 157 = .ok (.invokestatic 77, 3) := by decide +kernel
theorem dX6_stir_160 : decode cX6_stir 160 = .ok (.iastore, 1) := by decide +kernel
theorem dX6_stir_161 : decode cX6_stir 161 = .ok (.return_, 1) := by decide +kernel
theorem dX6_last_0 : decode cX6_last 0 = .ok (.iconst 0, 1) := by decide +kernel
theorem dX6_last_1 : decode cX6_last 1 = .ok (.istore_n 3, 1) := by decide +kernel
theorem dX6_last_2 : decode cX6_last 2 = .ok (.iload_n 3, 1) := by decide +kernel
theorem dX6_last_3 : decode cX6_last 3 = .ok (.iload_n 2, 1) := by decide +kernel
theorem dX6_last_4 : decode cX6_last 4 = .ok (.if_icmp .ge 81, 3) := by decide +kernel
theorem dX6_last_7 : decode cX6_last 7 = .ok (.aload_n 0, 1) := by decide +kernel
theorem dX6_last_8 : decode cX6_last 8 = .ok (.iload_n 1, 1) := by decide +kernel
theorem dX6_last_9 : decode cX6_last 9 = .ok (.invokevirtual 83, 3) := by decide +kernel
theorem dX6_last_12 : decode cX6_last 12 = .ok (.iconst 0, 1) := by decide +kernel
theorem dX6_last_13 : decode cX6_last 13 = .ok (.istore 4, 2) := by decide +kernel
theorem dX6_last_15 : decode cX6_last 15 = .ok (.iload 4, 2) := by decide +kernel
theorem dX6_last_17 : decode cX6_last 17 = .ok (.bipush 6, 2) := by decide +kernel
theorem dX6_last_19 : decode cX6_last 19 = .ok (.if_icmp .ge 50, 3) := by decide +kernel
theorem dX6_last_22 : decode cX6_last 22 = .ok (.iload 4, 2) := by decide +kernel
theorem dX6_last_24 : decode cX6_last 24 = .ok (.iload_n 1, 1) := by decide +kernel
theorem dX6_last_25 : decode cX6_last 25 = .ok (.if_icmp .eq 38, 3) := by decide +kernel
theorem dX6_last_28 : decode cX6_last 28 = .ok (.aload_n 0, 1) := by decide +kernel
theorem dX6_last_29 : decode cX6_last 29 = .ok (.iload 4, 2) := by decide +kernel
theorem dX6_last_31 : decode cX6_last 31 = .ok (.invokevirtual 74, 3) := by decide +kernel
theorem dX6_last_34 : decode cX6_last 34 = .ok (.ifCond .eq 29, 3) := by decide +kernel
theorem dX6_last_37 : decode cX6_last 37 = .ok (.aload_n 0, 1) := by decide +kernel
theorem dX6_last_38 : decode cX6_last 38 = .ok (.getfield 11, 3) := by decide +kernel
theorem dX6_last_41 : decode cX6_last 41 = .ok (.iconst 0, 1) := by decide +kernel
theorem dX6_last_42 : decode cX6_last 42 = .ok (.aaload, 1) := by decide +kernel
theorem dX6_last_43 : decode cX6_last 43 = .ok (.iload 4, 2) := by decide +kernel
theorem dX6_last_45 : decode cX6_last 45 = .ok (.sipush 999, 3) := by decide +kernel
theorem dX6_last_48 : decode cX6_last 48 = .ok (.aload_n 0, 1) := by decide +kernel
theorem dX6_last_49 : decode cX6_last 49 = .ok (.getfield 11, 3) := by decide +kernel
theorem dX6_last_52 : decode cX6_last 52 = .ok (.iconst 0, 1) := by decide +kernel
theorem dX6_last_53 : decode cX6_last 53 = .ok (.aaload, 1) := by decide +kernel
theorem dX6_last_54 : decode cX6_last 54 = .ok (.iload 4, 2) := by decide +kernel
theorem dX6_last_56 : decode cX6_last 56 = .ok (.iaload, 1) := by decide +kernel
theorem dX6_last_57 : decode cX6_last 57 = .ok (.iconst 1, 1) := by decide +kernel
theorem dX6_last_58 : decode cX6_last 58 = .ok (.iadd, 1) := by decide +kernel
theorem dX6_last_59 : decode cX6_last 59 = .ok (.invokestatic 87, 3) := by decide +kernel
theorem dX6_last_62 : decode cX6_last 62 = .ok (.iastore, 1) := by decide +kernel
theorem dX6_last_63 : decode cX6_last 63 = .ok (.iinc 4 1, 3) := by decide +kernel
theorem dX6_last_66 : decode cX6_last 66 = .ok (.goto (-51), 3) := by decide +kernel
theorem dX6_last_69 : decode cX6_last 69 = .ok (.aload_n 0, 1) := by decide +kernel
theorem dX6_last_70 : decode cX6_last 70 = .ok (.dup, 1) := by decide +kernel
theorem dX6_last_71 : decode cX6_last 71 = .ok (.getfield 20, 3) := by decide +kernel
theorem dX6_last_74 : decode cX6_last 74 = .ok (.iconst 1, 1) := by decide +kernel
theorem dX6_last_75 : decode cX6_last 75 = .ok (.iadd, 1) := by decide +kernel
theorem dX6_last_76 : decode cX6_last 76 = .ok (.putfield 20, 3) := by decide +kernel
theorem dX6_last_79 : decode cX6_last 79 = .ok (.iinc 3 1, 3) := by decide +kernel
theorem dX6_last_82 : decode cX6_last 82 = .ok (.goto (-80), 3) := by decide +kernel
theorem dX6_last_85 : decode cX6_last 85 = .ok (.return_, 1) := by decide +kernel
theorem dX6_speak_0 : decode cX6_speak 0 = .ok (.iload_n 1, 1) := by decide +kernel
theorem dX6_speak_1 : decode cX6_speak 1 = .ok (.invokestatic 66, 3) := by decide +kernel
theorem dX6_speak_4 : decode cX6_speak 4 = .ok (.ifCond .ne 4, 3) := by decide +kernel
theorem dX6_speak_7 : decode cX6_speak 7 = .ok (.return_, 1) := by decide +kernel
theorem dX6_speak_8 : decode cX6_speak 8 = .ok (.aload_n 0, 1) := by decide +kernel
theorem dX6_speak_9 : decode cX6_speak 9 = .ok (.getfield 16, 3) := by decide +kernel
theorem dX6_speak_12 : decode cX6_speak 12 = .ok (.iload_n 1, 1) := by decide +kernel
theorem dX6_speak_13 : decode cX6_speak 13 = .ok (.dup2, 1) := by decide +kernel
theorem dX6_speak_14 : decode cX6_speak 14 = .ok (.iaload, 1) := by decide +kernel
theorem dX6_speak_15 : decode cX6_speak 15 = .ok (.iconst 1, 1) := by decide +kernel
theorem dX6_speak_16 : decode cX6_speak 16 = .ok (.iadd, 1) := by decide +kernel
theorem dX6_speak_17 : decode cX6_speak 17 = .ok (.iastore, 1) := by decide +kernel
theorem dX6_speak_18 : decode cX6_speak 18 = .ok (.aload_n 0, 1) := by decide +kernel
theorem dX6_speak_19 : decode cX6_speak 19 = .ok (.iload_n 1, 1) := by decide +kernel
theorem dX6_speak_20 : decode cX6_speak 20 = .ok (.invokevirtual 90, 3) := by decide +kernel
theorem dX6_speak_23 : decode cX6_speak 23 = .ok (.ifCond .eq 4, 3) := by decide +kernel
theorem dX6_speak_26 : decode cX6_speak 26 = .ok (.return_, 1) := by decide +kernel
theorem dX6_speak_27 : decode cX6_speak 27 = .ok (.aload_n 0, 1) := by decide +kernel
theorem dX6_speak_28 : decode cX6_speak 28 = .ok (.getfield 24, 3) := by decide +kernel
theorem dX6_speak_31 : decode cX6_speak 31 = .ok (.ifCond .ne 11, 3) := by decide +kernel
theorem dX6_speak_34 : decode cX6_speak 34 = .ok (.aload_n 0, 1) := by decide +kernel
theorem dX6_speak_35 : decode cX6_speak 35 = .ok (.aload_n 0, 1) := by decide +kernel
theorem dX6_speak_36 : decode cX6_speak 36 = .ok (.getfield 20, 3) := by decide +kernel
theorem dX6_speak_39 : decode cX6_speak 39 = .ok (.putfield 27, 3) := by decide +kernel
theorem dX6_speak_42 : decode cX6_speak 42 = .ok (.aload_n 0, 1) := by decide +kernel
theorem dX6_speak_43 : decode cX6_speak 43 = .ok (.dup, 1) := by decide +kernel
theorem dX6_speak_44 : decode cX6_speak 44 = .ok (.getfield 24, 3) := by decide +kernel
theorem dX6_speak_47 : decode cX6_speak 47 = .ok (.iconst 1, 1) := by decide +kernel
theorem dX6_speak_48 : decode cX6_speak 48 = .ok (.iadd, 1) := by decide +kernel
theorem dX6_speak_49 : decode cX6_speak 49 = .ok (.putfield 24, 3) := by decide +kernel
theorem dX6_speak_52 : decode cX6_speak 52 = .ok (.return_, 1) := by decide +kernel
theorem dX6_pay_0 : decode cX6_pay 0 = .ok (.aload_n 0, 1) := by decide +kernel
theorem dX6_pay_1 : decode cX6_pay 1 = .ok (.iload_n 1, 1) := by decide +kernel
theorem dX6_pay_2 : decode cX6_pay 2 = .ok (.invokevirtual 74, 3) := by decide +kernel
theorem dX6_pay_5 : decode cX6_pay 5 = .ok (.ifCond .ne 5, 3) := by decide +kernel
theorem dX6_pay_8 : decode cX6_pay 8 = .ok (.iconst 0, 1) := by decide +kernel
theorem dX6_pay_9 : decode cX6_pay 9 = .ok (.ireturn, 1) := by decide +kernel
theorem dX6_pay_10 : decode cX6_pay 10 = .ok (.aload_n 0, 1) := by decide +kernel
theorem dX6_pay_11 : decode cX6_pay 11 = .ok (.getfield 11, 3) := by decide +kernel
theorem dX6_pay_14 : decode cX6_pay 14 = .ok (.iconst 3, 1) := by decide +kernel
theorem dX6_pay_15 : decode cX6_pay 15 = .ok (.aaload, 1) := by decide +kernel
theorem dX6_pay_16 : decode cX6_pay 16 = .ok (.iload_n 1, 1) := by decide +kernel
theorem dX6_pay_17 : decode cX6_pay 17 = .ok (.iaload, 1) := by decide +kernel
theorem dX6_pay_18 : decode cX6_pay 18 = .ok (.istore_n 2, 1) := by decide +kernel
theorem dX6_pay_19 : decode cX6_pay 19 = .ok (.iload_n 2, 1) := by decide +kernel
theorem dX6_pay_20 : decode cX6_pay 20 = .ok (.ifCond .le 15, 3) := by decide +kernel
theorem dX6_pay_23 : decode cX6_pay 23 = .ok (.iload_n 2, 1) := by decide +kernel
theorem dX6_pay_24 : decode cX6_pay 24 = .ok (.iconst 1, 1) := by decide +kernel
theorem dX6_pay_25 : decode cX6_pay 25 = .ok (.isub, 1) := by decide +kernel
theorem dX6_pay_26 : decode cX6_pay 26 = .ok (.iconst 2, 1) := by decide +kernel
theorem dX6_pay_27 : decode cX6_pay 27 = .ok (.irem, 1) := by decide +kernel
theorem dX6_pay_28 : decode cX6_pay 28 = .ok (.ifCond .ne 7, 3) := by decide +kernel
theorem dX6_pay_31 : decode cX6_pay 31 = .ok (.iconst 0, 1) := by decide +kernel
theorem dX6_pay_32 : decode cX6_pay 32 = .ok (.goto 4, 3) := by decide +kernel
theorem dX6_pay_35 : decode cX6_pay 35 = .ok (.iconst 1, 1) := by decide +kernel
theorem dX6_pay_36 : decode cX6_pay 36 = .ok (.istore_n 3, 1) := by decide +kernel
theorem dX6_pay_37 : decode cX6_pay 37 = .ok (.aload_n 0, 1) := by decide +kernel
theorem dX6_pay_38 : decode cX6_pay 38 = .ok (.getfield 11, 3) := by decide +kernel
theorem dX6_pay_41 : decode cX6_pay 41 = .ok (.iconst 0, 1) := by decide +kernel
theorem dX6_pay_42 : decode cX6_pay 42 = .ok (.aaload, 1) := by decide +kernel
theorem dX6_pay_43 : decode cX6_pay 43 = .ok (.iload_n 1, 1) := by decide +kernel
theorem dX6_pay_44 : decode cX6_pay 44 = .ok (.iaload, 1) := by decide +kernel
theorem dX6_pay_45 : decode cX6_pay 45 = .ok (.iload_n 3, 1) := by decide +kernel
theorem dX6_pay_46 : decode cX6_pay 46 = .ok (.if_icmp .ge 5, 3) := by decide +kernel
theorem dX6_pay_49 : decode cX6_pay 49 = .ok (.iconst 0, 1) := by decide +kernel
theorem dX6_pay_50 : decode cX6_pay 50 = .ok (.ireturn, 1) := by decide +kernel
theorem dX6_pay_51 : decode cX6_pay 51 = .ok (.aload_n 0, 1) := by decide +kernel
theorem dX6_pay_52 : decode cX6_pay 52 = .ok (.getfield 11, 3) := by decide +kernel
theorem dX6_pay_55 : decode cX6_pay 55 = .ok (.iconst 0, 1) := by decide +kernel
theorem dX6_pay_56 : decode cX6_pay 56 = .ok (.aaload, 1) := by decide +kernel
theorem dX6_pay_57 : decode cX6_pay 57 = .ok (.iload_n 1, 1) := by decide +kernel
theorem dX6_pay_58 : decode cX6_pay 58 = .ok (.dup2, 1) := by decide +kernel
theorem dX6_pay_59 : decode cX6_pay 59 = .ok (.iaload, 1) := by decide +kernel
theorem dX6_pay_60 : decode cX6_pay 60 = .ok (.iload_n 3, 1) := by decide +kernel
theorem dX6_pay_61 : decode cX6_pay 61 = .ok (.isub, 1) := by decide +kernel
theorem dX6_pay_62 : decode cX6_pay 62 = .ok (.iastore, 1) := by decide +kernel
theorem dX6_pay_63 : decode cX6_pay 63 = .ok (.aload_n 0, 1) := by decide +kernel
theorem dX6_pay_64 : decode cX6_pay 64 = .ok (.getfield 11, 3) := by decide +kernel
theorem dX6_pay_67 : decode cX6_pay 67 = .ok (.iconst 3, 1) := by decide +kernel
theorem dX6_pay_68 : decode cX6_pay 68 = .ok (.aaload, 1) := by decide +kernel
theorem dX6_pay_69 : decode cX6_pay 69 = .ok (.iload_n 1, 1) := by decide +kernel
theorem dX6_pay_70 : decode cX6_pay 70 = .ok (.iconst 0, 1) := by decide +kernel
theorem dX6_pay_71 : decode cX6_pay 71 = .ok (.iload_n 2, 1) := by decide +kernel
theorem dX6_pay_72 : decode cX6_pay 72 = .ok (.iconst 1, 1) := by decide +kernel
theorem dX6_pay_73 : decode cX6_pay 73 = .ok (.isub, 1) := by decide +kernel
theorem dX6_pay_74 : decode cX6_pay 74 = .ok (.invokestatic 77, 3) := by decide +kernel
theorem dX6_pay_77 : decode cX6_pay 77 = .ok (.iastore, 1) := by decide +kernel
theorem dX6_pay_78 : decode cX6_pay 78 = .ok (.iconst 1, 1) := by decide +kernel
theorem dX6_pay_79 : decode cX6_pay 79 = .ok (.ireturn, 1) := by decide +kernel
theorem dX6_listens_0 : decode cX6_listens 0 = .ok (.iload_n 1, 1) := by decide +kernel
theorem dX6_listens_1 : decode cX6_listens 1 = .ok (.invokestatic 66, 3) := by decide +kernel
theorem dX6_listens_4 : decode cX6_listens 4 = .ok (.ifCond .eq 31, 3) := by decide +kernel
theorem dX6_listens_7 : decode cX6_listens 7 = .ok (.aload_n 0, 1) := by decide +kernel
theorem dX6_listens_8 : decode cX6_listens 8 = .ok (.getfield 11, 3) := by decide +kernel
theorem dX6_listens_11 : decode cX6_listens 11 = .ok (.iconst 1, 1) := by decide +kernel
theorem dX6_listens_12 : decode cX6_listens 12 = .ok (.aaload, 1) := by decide +kernel
theorem dX6_listens_13 : decode cX6_listens 13 = .ok (.iload_n 1, 1) := by decide +kernel
theorem dX6_listens_14 : decode cX6_listens 14 = .ok (.iaload, 1) := by decide +kernel
theorem dX6_listens_15 : decode cX6_listens 15 = .ok (.iconst 1, 1) := by decide +kernel
theorem dX6_listens_16 : decode cX6_listens 16 = .ok (.if_icmp .ne 19, 3) := by decide +kernel
theorem dX6_listens_19 : decode cX6_listens 19 = .ok (.aload_n 0, 1) := by decide +kernel
theorem dX6_listens_20 : decode cX6_listens 20 = .ok (.getfield 11, 3) := by decide +kernel
theorem dX6_listens_23 : decode cX6_listens 23 = .ok (.iconst 2, 1) := by decide +kernel
theorem dX6_listens_24 : decode cX6_listens 24 = .ok (.aaload, 1) := by decide +kernel
theorem dX6_listens_25 : decode cX6_listens 25 = .ok (.iload_n 1, 1) := by decide +kernel
theorem dX6_listens_26 : decode cX6_listens 26 = .ok (.iaload, 1) := by decide +kernel
theorem dX6_listens_27 : decode cX6_listens 27 = .ok (.iconst 1, 1) := by decide +kernel
theorem dX6_listens_28 : decode cX6_listens 28 = .ok (.if_icmp .ne 7, 3) := by decide +kernel
theorem dX6_listens_31 : decode cX6_listens 31 = .ok (.iconst 1, 1) := by decide +kernel
theorem dX6_listens_32 : decode cX6_listens 32 = .ok (.goto 4, 3) := by decide +kernel
theorem dX6_listens_35 : decode cX6_listens 35 = .ok (.iconst 0, 1) := by decide +kernel
theorem dX6_listens_36 : decode cX6_listens 36 = .ok (.ireturn, 1) := by decide +kernel
theorem dX7_init_0 : decode cX7_init 0 = .ok (.aload_n 0, 1) := by decide +kernel
theorem dX7_init_1 : decode cX7_init 1 = .ok (.invokespecial 1, 3) := by decide +kernel
theorem dX7_init_4 : decode cX7_init 4 = .ok (.aload_n 0, 1) := by decide +kernel
theorem dX7_init_5 : decode cX7_init 5 = .ok (.new 7, 3) := by decide +kernel
theorem dX7_init_8 : decode cX7_init 8 = .ok (.dup, 1) := by decide +kernel
theorem dX7_init_9 : decode cX7_init 9 = .ok (.invokespecial 9, 3) := by decide +kernel
theorem dX7_init_12 : decode cX7_init 12 = .ok (.putfield 10, 3) := by decide +kernel
theorem dX7_init_15 : decode cX7_init 15 = .ok (.aload_n 0, 1) := by decide +kernel
theorem dX7_init_16 : decode cX7_init 16 = .ok (.iconst 2, 1) := by decide +kernel
theorem dX7_init_17 : decode cX7_init 17 = .ok (.anewarray 7, 3) := by decide +kernel
theorem dX7_init_20 : decode cX7_init 20 = .ok (.putfield 16, 3) := by decide +kernel
theorem dX7_init_23 : decode cX7_init 23 = .ok (.aload_n 0, 1) := by decide +kernel
theorem dX7_init_24 : decode cX7_init 24 = .ok (.iconst 2, 1) := by decide +kernel
theorem dX7_init_25 : decode cX7_init 25 = .ok (.newarray .boolean, 2) := by decide +kernel
theorem dX7_init_27 : decode cX7_init 27 = .ok (.putfield 20, 3) := by decide +kernel
theorem dX7_init_30 : decode cX7_init 30 = .ok (.aload_n 0, 1) := by decide +kernel
theorem dX7_init_31 : decode cX7_init 31 = .ok (.new 24, 3) := by decide +kernel
theorem dX7_init_34 : decode cX7_init 34 = .ok (.dup, 1) := by decide +kernel
theorem dX7_init_35 : decode cX7_init 35 = .ok (.invokespecial 26, 3) := by decide +kernel
theorem dX7_init_38 : decode cX7_init 38 = .ok (.putfield 27, 3) := by decide +kernel
theorem dX7_init_41 : decode cX7_init 41 = .ok (.aload_n 0, 1) := by decide +kernel
theorem dX7_init_42 : decode cX7_init 42 = .ok (.new 31, 3) := by decide +kernel
theorem dX7_init_45 : decode cX7_init 45 = .ok (.dup, 1) := by decide +kernel
theorem dX7_init_46 : decode cX7_init 46 = .ok (.invokespecial 33, 3) := by decide +kernel
theorem dX7_init_49 : decode cX7_init 49 = .ok (.putfield 34, 3) := by decide +kernel
theorem dX7_init_52 : decode cX7_init 52 = .ok (.aload_n 0, 1) := by decide +kernel
theorem dX7_init_53 : decode cX7_init 53 = .ok (.new 38, 3) := by decide +kernel
theorem dX7_init_56 : decode cX7_init 56 = .ok (.dup, 1) := by decide +kernel
theorem dX7_init_57 : decode cX7_init 57 = .ok (.invokespecial 40, 3) := by decide +kernel
theorem dX7_init_60 : decode cX7_init 60 = .ok (.putfield 41, 3) := by decide +kernel
theorem dX7_init_63 : decode cX7_init 63 = .ok (.aload_n 0, 1) := by decide +kernel
theorem dX7_init_64 : decode cX7_init 64 = .ok (.new 45, 3) := by decide +kernel
theorem dX7_init_67 : decode cX7_init 67 = .ok (.dup, 1) := by decide +kernel
theorem dX7_init_68 : decode cX7_init 68 = .ok (.invokespecial 47, 3) := by decide +kernel
theorem dX7_init_71 : decode cX7_init 71 = .ok (.putfield 48, 3) := by decide +kernel
theorem dX7_init_74 : decode cX7_init 74 = .ok (.aload_n 0, 1) := by decide +kernel
theorem dX7_init_75 : decode cX7_init 75 = .ok (.new 52, 3) := by decide +kernel
theorem dX7_init_78 : decode cX7_init 78 = .ok (.dup, 1) := by decide +kernel
theorem dX7_init_79 : decode cX7_init 79 = .ok (.invokespecial 54, 3) := by decide +kernel
theorem dX7_init_82 : decode cX7_init 82 = .ok (.putfield 55, 3) := by decide +kernel
theorem dX7_init_85 : decode cX7_init 85 = .ok (.iconst 0, 1) := by decide +kernel
theorem dX7_init_86 : decode cX7_init 86 = .ok (.istore_n 1, 1) := by decide +kernel
theorem dX7_init_87 : decode cX7_init 87 = .ok (.iload_n 1, 1) := by decide +kernel
theorem dX7_init_88 : decode cX7_init 88 = .ok (.iconst 2, 1) := by decide +kernel
theorem dX7_init_89 : decode cX7_init 89 = .ok (.if_icmp .ge 22, 3) := by decide +kernel
theorem dX7_init_92 : decode cX7_init 92 = .ok (.aload_n 0, 1) := by decide +kernel
theorem dX7_init_93 : decode cX7_init 93 = .ok (.getfield 16, 3) := by decide +kernel
theorem dX7_init_96 : decode cX7_init 96 = .ok (.iload_n 1, 1) := by decide +kernel
theorem dX7_init_97 : decode cX7_init 97 = .ok (.new 7, 3) := by decide +kernel
theorem dX7_init_100 : decode cX7_init 100 = .ok (.dup, 1) := by decide +kernel
theorem dX7_init_101 : decode cX7_init 101 = .ok (.invokespecial 9, 3) := by decide +kernel
theorem dX7_init_104 : decode cX7_init 104 = .ok (.aastore, 1) := by decide +kernel
theorem dX7_init_105 : decode cX7_init 105 = .ok (.iinc 1 1, 3) := by decide +kernel
theorem dX7_init_108 : decode cX7_init 108 = .ok (.goto (-21), 3) := by decide +kernel
theorem dX7_init_111 : decode cX7_init 111 = .ok (.return_, 1) := by decide +kernel
theorem dX7_set_0 : decode cX7_set 0 = .ok (.iload_n 1, 1) := by decide +kernel
theorem dX7_set_1 : decode cX7_set 1 = .ok (.invokestatic 59, 3) := by decide +kernel
theorem dX7_set_4 : decode cX7_set 4 = .ok (.ifCond .ne 5, 3) := by decide +kernel
theorem dX7_set_7 : decode cX7_set 7 = .ok (.iconst (-1), 1) := by decide +kernel
theorem dX7_set_8 : decode cX7_set 8 = .ok (.ireturn, 1) := by decide +kernel
theorem dX7_set_9 : decode cX7_set 9 = .ok (.iload_n 2, 1) := by decide +kernel
theorem dX7_set_10 : decode cX7_set 10 = .ok (.ifCond .lt 21, 3) := by decide +kernel
theorem dX7_set_13 : decode cX7_set 13 = .ok (.iload_n 2, 1) := by decide +kernel
theorem dX7_set_14 : decode cX7_set 14 = .ok (.iconst 4, 1) := by decide +kernel
theorem dX7_set_15 : decode cX7_set 15 = .ok (.if_icmp .ge 16, 3) := by decide +kernel
theorem dX7_set_18 : decode cX7_set 18 = .ok (.iload_n 3, 1) := by decide +kernel
theorem dX7_set_19 : decode cX7_set 19 = .ok (.ifCond .lt 12, 3) := by decide +kernel
theorem dX7_set_22 : decode cX7_set 22 = .ok (.iload_n 3, 1) := by decide +kernel
theorem dX7_set_23 : decode cX7_set 23 = .ok (.getstatic 63, 3) := by decide +kernel
theorem dX7_set_26 : decode cX7_set 26 = .ok (.iload_n 2, 1) := by decide +kernel
theorem dX7_set_27 : decode cX7_set 27 = .ok (.iaload, 1) := by decide +kernel
theorem dX7_set_28 : decode cX7_set 28 = .ok (.if_icmp .le 6, 3) := by decide +kernel
theorem dX7_set_31 : decode cX7_set 31 = .ok (.bipush (-2), 2) := by decide +kernel
theorem dX7_set_33 : decode cX7_set 33 = .ok (.ireturn, 1) := by decide +kernel
theorem dX7_set_34 : decode cX7_set 34 = .ok (.aload_n 0, 1) := by decide +kernel
theorem dX7_set_35 : decode cX7_set 35 = .ok (.getfield 10, 3) := by decide +kernel
theorem dX7_set_38 : decode cX7_set 38 = .ok (.getfield 67, 3) := by decide +kernel
theorem dX7_set_41 : decode cX7_set 41 = .ok (.iload_n 2, 1) := by decide +kernel
theorem dX7_set_42 : decode cX7_set 42 = .ok (.aaload, 1) := by decide +kernel
theorem dX7_set_43 : decode cX7_set 43 = .ok (.iload_n 1, 1) := by decide +kernel
theorem dX7_set_44 : decode cX7_set 44 = .ok (.iaload, 1) := by decide +kernel
theorem dX7_set_45 : decode cX7_set 45 = .ok (.istore 4, 2) := by decide +kernel
theorem dX7_set_47 : decode cX7_set 47 = .ok (.aload_n 0, 1) := by decide +kernel
theorem dX7_set_48 : decode cX7_set 48 = .ok (.getfield 10, 3) := by decide +kernel
theorem dX7_set_51 : decode cX7_set 51 = .ok (.getfield 67, 3) := by decide +kernel
theorem dX7_set_54 : decode cX7_set 54 = .ok (.iload_n 2, 1) := by decide +kernel
theorem dX7_set_55 : decode cX7_set 55 = .ok (.aaload, 1) := by decide +kernel
theorem dX7_set_56 : decode cX7_set 56 = .ok (.iload_n 1, 1) := by decide +kernel
theorem dX7_set_57 : decode cX7_set 57 = .ok (.iload_n 3, 1) := by decide +kernel
theorem dX7_set_58 : decode cX7_set 58 = .ok (.iastore, 1) := by decide +kernel
theorem dX7_set_59 : decode cX7_set 59 = .ok (.iload 4, 2) := by decide +kernel
theorem dX7_set_61 : decode cX7_set 61 = .ok (.ireturn, 1) := by decide +kernel
theorem dX7_law_0 : decode cX7_law 0 = .ok (.iload_n 1, 1) := by decide +kernel
theorem dX7_law_1 : decode cX7_law 1 = .ok (.ifCond .lt 18, 3) := by decide +kernel
theorem dX7_law_4 : decode cX7_law 4 = .ok (.iload_n 1, 1) := by decide +kernel
theorem dX7_law_5 : decode cX7_law 5 = .ok (.iconst 1, 1) := by decide +kernel
theorem dX7_law_6 : decode cX7_law 6 = .ok (.if_icmp .gt 13, 3) := by decide +kernel
theorem dX7_law_9 : decode cX7_law 9 = .ok (.iload_n 2, 1) := by decide +kernel
theorem dX7_law_10 : decode cX7_law 10 = .ok (.ifCond .lt 9, 3) := by decide +kernel
theorem dX7_law_13 : decode cX7_law 13 = .ok (.iload_n 2, 1) := by decide +kernel
theorem dX7_law_14 : decode cX7_law 14 = .ok (.bipush 99, 2) := by decide +kernel
theorem dX7_law_16 : decode cX7_law 16 = .ok (.if_icmp .le 6, 3) := by decide +kernel
theorem dX7_law_19 : decode cX7_law 19 = .ok (.bipush (-2), 2) := by decide +kernel
theorem dX7_law_21 : decode cX7_law 21 = .ok (.ireturn, 1) := by decide +kernel
theorem dX7_law_22 : decode cX7_law 22 = .ok (.iload_n 1, 1) := by decide +kernel
theorem dX7_law_23 : decode cX7_law 23 = .ok (.ifCond .ne 13, 3) := by decide +kernel
theorem dX7_law_26 : decode cX7_law 26 = .ok (.aload_n 0, 1) := by decide +kernel
theorem dX7_law_27 : decode cX7_law 27 = .ok (.getfield 10, 3) := by decide +kernel
theorem dX7_law_30 : decode cX7_law 30 = .ok (.getfield 71, 3) := by decide +kernel
theorem dX7_law_33 : decode cX7_law 33 = .ok (.goto 10, 3) := by decide +kernel
theorem dX7_law_36 : decode cX7_law 36 = .ok (.aload_n 0, 1) := by decide +kernel
theorem dX7_law_37 : decode cX7_law 37 = .ok (.getfield 10, 3) := by decide +kernel
theorem dX7_law_40 : decode cX7_law 40 = .ok (.getfield 75, 3) := by decide +kernel
theorem dX7_law_43 : decode cX7_law 43 = .ok (.istore_n 3, 1) := by decide +kernel
theorem dX7_law_44 : decode cX7_law 44 = .ok (.iload_n 1, 1) := by decide +kernel
theorem dX7_law_45 : decode cX7_law 45 = .ok (.ifCond .ne 14, 3) := by decide +kernel
theorem dX7_law_48 : decode cX7_law 48 = .ok (.aload_n 0, 1) := by decide +kernel
theorem dX7_law_49 : decode cX7_law 49 = .ok (.getfield 10, 3) := by decide +kernel
theorem dX7_law_52 : decode cX7_law 52 = .ok (.iload_n 2, 1) := by decide +kernel
theorem dX7_law_53 : decode cX7_law 53 = .ok (.putfield 71, 3) := by decide +kernel
theorem dX7_law_56 : decode cX7_law 56 = .ok (.goto 11, 3) := by decide +kernel
theorem dX7_law_59 : decode cX7_law 59 = .ok (.aload_n 0, 1) := by decide +kernel
theorem dX7_law_60 : decode cX7_law 60 = .ok (.getfield 10, 3) := by decide +kernel
theorem dX7_law_63 : decode cX7_law 63 = .ok (.iload_n 2, 1) := by decide +kernel
theorem dX7_law_64 : decode cX7_law 64 = .ok (.putfield 75, 3) := by decide +kernel
theorem dX7_law_67 : decode cX7_law 67 = .ok (.iload_n 3, 1) := by decide +kernel
theorem dX7_law_68 : decode cX7_law 68 = .ok (.ireturn, 1) := by decide +kernel
theorem dX7_say_0 : decode cX7_say 0 = .ok (.iload_n 1, 1) := by decide +kernel
theorem dX7_say_1 : decode cX7_say 1 = .ok (.bipush 33, 2) := by decide +kernel
theorem dX7_say_3 : decode cX7_say 3 = .ok (.if_icmp .lt 9, 3) := by decide +kernel
theorem dX7_say_6 : decode cX7_say 6 = .ok (.iload_n 1, 1) := by decide +kernel
theorem dX7_say_7 : decode cX7_say 7 = .ok (.bipush 126, 2) := by decide +kernel
theorem dX7_say_9 : decode cX7_say 9 = .ok (.if_icmp .le 6, 3) := by decide +kernel
theorem dX7_say_12 : decode cX7_say 12 = .ok (.bipush (-2), 2) := by decide +kernel
theorem dX7_say_14 : decode cX7_say 14 = .ok (.ireturn, 1) := by decide +kernel
theorem dX7_say_15 : decode cX7_say 15 = .ok (.aload_n 0, 1) := by decide +kernel
theorem dX7_say_16 : decode cX7_say 16 = .ok (.getfield 27, 3) := by decide +kernel
theorem dX7_say_19 : decode cX7_say 19 = .ok (.iload_n 1, 1) := by decide +kernel
theorem dX7_say_20 : decode cX7_say 20 = .ok (.invokevirtual 78, 3) := by decide +kernel
theorem dX7_say_23 : decode cX7_say 23 = .ok (.ifCond .eq 13, 3) := by decide +kernel
theorem dX7_say_26 : decode cX7_say 26 = .ok (.aload_n 0, 1) := by decide +kernel
theorem dX7_say_27 : decode cX7_say 27 = .ok (.getfield 27, 3) := by decide +kernel
theorem dX7_say_30 : decode cX7_say 30 = .ok (.getfield 81, 3) := by decide +kernel
theorem dX7_say_33 : decode cX7_say 33 = .ok (.goto 5, 3) := by decide +kernel
theorem dX7_say_36 : decode cX7_say 36 = .ok (.bipush (-4), 2) := by decide +kernel
theorem dX7_say_38 : decode cX7_say 38 = .ok (.ireturn, 1) := by decide +kernel
theorem dX7_wipe_0 : decode cX7_wipe 0 = .ok (.aload_n 0, 1) := by decide +kernel
theorem dX7_wipe_1 : decode cX7_wipe 1 = .ok (.getfield 27, 3) := by decide +kernel
theorem dX7_wipe_4 : decode cX7_wipe 4 = .ok (.getfield 81, 3) := by decide +kernel
theorem dX7_wipe_7 : decode cX7_wipe 7 = .ok (.istore_n 1, 1) := by decide +kernel
theorem dX7_wipe_8 : decode cX7_wipe 8 = .ok (.aload_n 0, 1) := by decide +kernel
theorem dX7_wipe_9 : decode cX7_wipe 9 = .ok (.getfield 27, 3) := by decide +kernel
theorem dX7_wipe_12 : decode cX7_wipe 12 = .ok (.iconst 0, 1) := by decide +kernel
theorem dX7_wipe_13 : decode cX7_wipe 13 = .ok (.putfield 81, 3) := by decide +kernel
theorem dX7_wipe_16 : decode cX7_wipe 16 = .ok (.iload_n 1, 1) := by decide +kernel
theorem dX7_wipe_17 : decode cX7_wipe 17 = .ok (.ireturn, 1) := by decide +kernel
theorem dX7_fault_0 : decode cX7_fault 0 = .ok (.iload_n 1, 1) := by decide +kernel
theorem dX7_fault_1 : decode cX7_fault 1 = .ok (.ifCond .lt 8, 3) := by decide +kernel
theorem dX7_fault_4 : decode cX7_fault 4 = .ok (.iload_n 1, 1) := by decide +kernel
theorem dX7_fault_5 : decode cX7_fault 5 = .ok (.iconst 1, 1) := by decide +kernel
theorem dX7_fault_6 : decode cX7_fault 6 = .ok (.if_icmp .le 6, 3) := by decide +kernel
theorem dX7_fault_9 : decode cX7_fault 9 = .ok (.bipush (-2), 2) := by decide +kernel
theorem dX7_fault_11 : decode cX7_fault 11 = .ok (.ireturn, 1) := by decide +kernel
theorem dX7_fault_12 : decode cX7_fault 12 = .ok (.iload_n 1, 1) := by decide +kernel
theorem dX7_fault_13 : decode cX7_fault 13 = .ok (.ifCond .ne 13, 3) := by decide +kernel
theorem dX7_fault_16 : decode cX7_fault 16 = .ok (.aload_n 0, 1) := by decide +kernel
theorem dX7_fault_17 : decode cX7_fault 17 = .ok (.getfield 27, 3) := by decide +kernel
theorem dX7_fault_20 : decode cX7_fault 20 = .ok (.invokevirtual 84, 3) := by decide +kernel
theorem dX7_fault_23 : decode cX7_fault 23 = .ok (.goto 10, 3) := by decide +kernel
theorem dX7_fault_26 : decode cX7_fault 26 = .ok (.aload_n 0, 1) := by decide +kernel
theorem dX7_fault_27 : decode cX7_fault 27 = .ok (.getfield 27, 3) := by decide +kernel
theorem dX7_fault_30 : decode cX7_fault 30 = .ok (.invokevirtual 88, 3) := by decide +kernel
theorem dX7_fault_33 : decode cX7_fault 33 = .ok (.ireturn, 1) := by decide +kernel
theorem dX7_sits_0 : decode cX7_sits 0 = .ok (.iload_n 1, 1) := by decide +kernel
theorem dX7_sits_1 : decode cX7_sits 1 = .ok (.ifCond .lt 12, 3) := by decide +kernel
theorem dX7_sits_4 : decode cX7_sits 4 = .ok (.iload_n 1, 1) := by decide +kernel
theorem dX7_sits_5 : decode cX7_sits 5 = .ok (.iconst 2, 1) := by decide +kernel
theorem dX7_sits_6 : decode cX7_sits 6 = .ok (.if_icmp .gt 7, 3) := by decide +kernel
theorem dX7_sits_9 : decode cX7_sits 9 = .ok (.iconst 1, 1) := by decide +kernel
theorem dX7_sits_10 : decode cX7_sits 10 = .ok (.goto 4, 3) := by decide +kernel
theorem dX7_sits_13 : decode cX7_sits 13 = .ok (.iconst 0, 1) := by decide +kernel
theorem dX7_sits_14 : decode cX7_sits 14 = .ok (.istore_n 2, 1) := by decide +kernel
theorem dX7_sits_15 : decode cX7_sits 15 = .ok (.iload_n 1, 1) := by decide +kernel
theorem dX7_sits_16 : decode cX7_sits 16 = .ok (.bipush 10, 2) := by decide +kernel
theorem dX7_sits_18 : decode cX7_sits 18 = .ok (.if_icmp .lt 23, 3) := by decide +kernel
theorem dX7_sits_21 : decode cX7_sits 21 = .ok (.iload_n 1, 1) := by decide +kernel
theorem dX7_sits_22 : decode cX7_sits 22 = .ok (.bipush 40, 2) := by decide +kernel
theorem dX7_sits_24 : decode cX7_sits 24 = .ok (.if_icmp .ge 17, 3) := by decide +kernel
theorem dX7_sits_27 : decode cX7_sits 27 = .ok (.iload_n 1, 1) := by decide +kernel
theorem dX7_sits_28 : decode cX7_sits 28 = .ok (.bipush 10, 2) := by decide +kernel
theorem dX7_sits_30 : decode cX7_sits 30 = .ok (.irem, 1) := by decide +kernel
theorem dX7_sits_31 : decode cX7_sits 31 = .ok (.invokestatic 59, 3) := by decide +kernel
theorem dX7_sits_34 : decode cX7_sits 34 = .ok (.ifCond .eq 7, 3) := by decide +kernel
theorem dX7_sits_37 : decode cX7_sits 37 = .ok (.iconst 1, 1) := by decide +kernel
theorem dX7_sits_38 : decode cX7_sits 38 = .ok (.goto 4, 3) := by decide +kernel
theorem dX7_sits_41 : decode cX7_sits 41 = .ok (.iconst 0, 1) := by decide +kernel
theorem dX7_sits_42 : decode cX7_sits 42 = .ok (.istore_n 3, 1) := by decide +kernel
theorem dX7_sits_43 : decode cX7_sits 43 = .ok (.iload_n 2, 1) := by decide +kernel
theorem dX7_sits_44 : decode cX7_sits 44 = .ok (.ifCond .ne 10, 3) := by decide +kernel
theorem dX7_sits_47 : decode cX7_sits 47 = .ok (.iload_n 3, 1) := by decide +kernel
theorem dX7_sits_48 : decode cX7_sits 48 = .ok (.ifCond .ne 6, 3) := by decide +kernel
theorem dX7_sits_51 : decode cX7_sits 51 = .ok (.bipush (-2), 2) := by decide +kernel
theorem dX7_sits_53 : decode cX7_sits 53 = .ok (.ireturn, 1) := by decide +kernel
theorem dX7_sits_54 : decode cX7_sits 54 = .ok (.aload_n 0, 1) := by decide +kernel
theorem dX7_sits_55 : decode cX7_sits 55 = .ok (.getfield 27, 3) := by decide +kernel
theorem dX7_sits_58 : decode cX7_sits 58 = .ok (.invokevirtual 84, 3) := by decide +kernel
theorem dX7_sits_61 : decode cX7_sits 61 = .ok (.bipush (-6), 2) := by decide +kernel
theorem dX7_sits_63 : decode cX7_sits 63 = .ok (.if_icmp .eq 6, 3) := by decide +kernel
theorem dX7_sits_66 : decode cX7_sits 66 = .ok (.bipush (-5), 2) := by decide +kernel
theorem dX7_sits_68 : decode cX7_sits 68 = .ok (.ireturn, 1) := by decide +kernel
theorem dX7_sits_69 : decode cX7_sits 69 = .ok (.aload_n 0, 1) := by decide +kernel
theorem dX7_sits_70 : decode cX7_sits 70 = .ok (.getfield 34, 3) := by decide +kernel
theorem dX7_sits_73 : decode cX7_sits 73 = .ok (.aload_n 0, 1) := by decide +kernel
theorem dX7_sits_74 : decode cX7_sits 74 = .ok (.getfield 10, 3) := by decide +kernel
theorem dX7_sits_77 : decode cX7_sits 77 = .ok (.aload_n 0, 1) := by decide +kernel
theorem dX7_sits_78 : decode cX7_sits 78 = .ok (.getfield 27, 3) := by decide +kernel
theorem dX7_sits_81 : decode cX7_sits 81 = .ok (.invokevirtual 91, 3) := by decide +kernel
theorem dX7_sits_84 : decode cX7_sits 84 = .ok (.iload_n 2, 1) := by decide +kernel
theorem dX7_sits_85 : decode cX7_sits 85 = .ok (.ifCond .eq 14, 3) := by decide +kernel
theorem dX7_sits_88 : decode cX7_sits 88 = .ok (.aload_n 0, 1) := by decide +kernel
theorem dX7_sits_89 : decode cX7_sits 89 = .ok (.getfield 34, 3) := by decide +kernel
theorem dX7_sits_92 : decode cX7_sits 92 = .ok (.iload_n 1, 1) := by decide +kernel
theorem dX7_sits_93 : decode cX7_sits 93 = .ok (.invokevirtual 95, 3) := by decide +kernel
theorem dX7_sits_96 : decode cX7_sits 96 = .ok (.goto 18, 3) := by decide +kernel
theorem dX7_sits_99 : decode cX7_sits 99 = .ok (.aload_n 0, 1) := by decide +kernel
theorem dX7_sits_100 : decode cX7_sits 100 = .ok (.getfield 34, 3) := by decide +kernel
theorem dX7_sits_103 : decode cX7_sits 103 = .ok (.iload_n 1, 1) := by decide +kernel
theorem dX7_sits_104 : decode cX7_sits 104 = .ok (.bipush 10, 2) := by decide +kernel
theorem dX7_sits_106 : decode cX7_sits 106 = .ok (.idiv, 1) := by decide +kernel
theorem dX7_sits_107 : decode cX7_sits 107 = .ok (.iload_n 1, 1) := by decide +kernel
theorem dX7_sits_108 : decode cX7_sits 108 = .ok (.bipush 10, 2) := by decide +kernel
theorem dX7_sits_110 : decode cX7_sits 110 = .ok (.irem, 1) := by decide +kernel
theorem dX7_sits_111 : decode cX7_sits 111 = .ok (.invokevirtual 99, 3) := by decide +kernel
theorem dX7_sits_114 : decode cX7_sits 114 = .ok (.ireturn, 1) := by decide +kernel
theorem dX7_sit_0 : decode cX7_sit 0 = .ok (.aload_n 0, 1) := by decide +kernel
theorem dX7_sit_1 : decode cX7_sit 1 = .ok (.getfield 27, 3) := by decide +kernel
theorem dX7_sit_4 : decode cX7_sit 4 = .ok (.invokevirtual 84, 3) := by decide +kernel
theorem dX7_sit_7 : decode cX7_sit 7 = .ok (.bipush (-6), 2) := by decide +kernel
theorem dX7_sit_9 : decode cX7_sit 9 = .ok (.if_icmp .eq 6, 3) := by decide +kernel
theorem dX7_sit_12 : decode cX7_sit 12 = .ok (.bipush (-5), 2) := by decide +kernel
theorem dX7_sit_14 : decode cX7_sit 14 = .ok (.ireturn, 1) := by decide +kernel
theorem dX7_sit_15 : decode cX7_sit 15 = .ok (.aload_n 0, 1) := by decide +kernel
theorem dX7_sit_16 : decode cX7_sit 16 = .ok (.getfield 34, 3) := by decide +kernel
theorem dX7_sit_19 : decode cX7_sit 19 = .ok (.aload_n 0, 1) := by decide +kernel
theorem dX7_sit_20 : decode cX7_sit 20 = .ok (.getfield 10, 3) := by decide +kernel
theorem dX7_sit_23 : decode cX7_sit 23 = .ok (.aload_n 0, 1) := by decide +kernel
theorem dX7_sit_24 : decode cX7_sit 24 = .ok (.getfield 27, 3) := by decide +kernel
theorem dX7_sit_27 : decode cX7_sit 27 = .ok (.invokevirtual 91, 3) := by decide +kernel
theorem dX7_sit_30 : decode cX7_sit 30 = .ok (.aload_n 0, 1) := by decide +kernel
theorem dX7_sit_31 : decode cX7_sit 31 = .ok (.getfield 34, 3) := by decide +kernel
theorem dX7_sit_34 : decode cX7_sit 34 = .ok (.getfield 103, 3) := by decide +kernel
theorem dX7_sit_37 : decode cX7_sit 37 = .ok (.ifCond .le 6, 3) := by decide +kernel
theorem dX7_sit_40 : decode cX7_sit 40 = .ok (.bipush (-5), 2) := by decide +kernel
theorem dX7_sit_42 : decode cX7_sit 42 = .ok (.ireturn, 1) := by decide +kernel
theorem dX7_sit_43 : decode cX7_sit 43 = .ok (.aload_n 0, 1) := by decide +kernel
theorem dX7_sit_44 : decode cX7_sit 44 = .ok (.getfield 34, 3) := by decide +kernel
theorem dX7_sit_47 : decode cX7_sit 47 = .ok (.getfield 106, 3) := by decide +kernel
theorem dX7_sit_50 : decode cX7_sit 50 = .ok (.aload_n 0, 1) := by decide +kernel
theorem dX7_sit_51 : decode cX7_sit 51 = .ok (.getfield 10, 3) := by decide +kernel
theorem dX7_sit_54 : decode cX7_sit 54 = .ok (.getfield 67, 3) := by decide +kernel
theorem dX7_sit_57 : decode cX7_sit 57 = .ok (.iconst 4, 1) := by decide +kernel
theorem dX7_sit_58 : decode cX7_sit 58 = .ok (.invokestatic 107, 3) := by decide +kernel
theorem dX7_sit_61 : decode cX7_sit 61 = .ok (.aload_n 0, 1) := by decide +kernel
theorem dX7_sit_62 : decode cX7_sit 62 = .ok (.getfield 27, 3) := by decide +kernel
theorem dX7_sit_65 : decode cX7_sit 65 = .ok (.iconst 0, 1) := by decide +kernel
theorem dX7_sit_66 : decode cX7_sit 66 = .ok (.putfield 81, 3) := by decide +kernel
theorem dX7_sit_69 : decode cX7_sit 69 = .ok (.aload_n 0, 1) := by decide +kernel
theorem dX7_sit_70 : decode cX7_sit 70 = .ok (.getfield 34, 3) := by decide +kernel
theorem dX7_sit_73 : decode cX7_sit 73 = .ok (.getfield 111, 3) := by decide +kernel
theorem dX7_sit_76 : decode cX7_sit 76 = .ok (.ireturn, 1) := by decide +kernel
theorem dX7_matter_0 : decode cX7_matter 0 = .ok (.aload_n 0, 1) := by decide +kernel
theorem dX7_matter_1 : decode cX7_matter 1 = .ok (.getfield 10, 3) := by decide +kernel
theorem dX7_matter_4 : decode cX7_matter 4 = .ok (.getfield 114, 3) := by decide +kernel
theorem dX7_matter_7 : decode cX7_matter 7 = .ok (.astore 4, 2) := by decide +kernel
theorem dX7_matter_9 : decode cX7_matter 9 = .ok (.iload_n 1, 1) := by decide +kernel
theorem dX7_matter_10 : decode cX7_matter 10 = .ok (.invokestatic 59, 3) := by decide +kernel
theorem dX7_matter_13 : decode cX7_matter 13 = .ok (.ifCond .ne 5, 3) := by decide +kernel
theorem dX7_matter_16 : decode cX7_matter 16 = .ok (.iconst (-1), 1) := by decide +kernel
theorem dX7_matter_17 : decode cX7_matter 17 = .ok (.ireturn, 1) := by decide +kernel
theorem dX7_matter_18 : decode cX7_matter 18 = .ok (.iload_n 2, 1) := by decide +kernel
theorem dX7_matter_19 : decode cX7_matter 19 = .ok (.iconst 1, 1) := by decide +kernel
theorem dX7_matter_20 : decode cX7_matter 20 = .ok (.if_icmp .lt 24, 3) := by decide +kernel
theorem dX7_matter_23 : decode cX7_matter 23 = .ok (.iload_n 2, 1) := by decide +kernel
theorem dX7_matter_24 : decode cX7_matter 24 = .ok (.bipush 60, 2) := by decide +kernel
theorem dX7_matter_26 : decode cX7_matter 26 = .ok (.if_icmp .gt 18, 3) := by decide +kernel
theorem dX7_matter_29 : decode cX7_matter 29 = .ok (.iload_n 3, 1) := by decide +kernel
theorem dX7_matter_30 : decode cX7_matter 30 = .ok (.ifCond .lt 14, 3) := by decide +kernel
theorem dX7_matter_33 : decode cX7_matter 33 = .ok (.iload_n 3, 1) := by decide +kernel
theorem dX7_matter_34 : decode cX7_matter 34 = .ok (.iconst 1, 1) := by decide +kernel
theorem dX7_matter_35 : decode cX7_matter 35 = .ok (.aload 4, 2) := by decide +kernel
theorem dX7_matter_37 : decode cX7_matter 37 = .ok (.getfield 118, 3) := by decide +kernel
theorem dX7_matter_40 : decode cX7_matter 40 = .ok (.ishl, 1) := by decide +kernel
theorem dX7_matter_41 : decode cX7_matter 41 = .ok (.if_icmp .lt 6, 3) := by decide +kernel
theorem dX7_matter_44 : decode cX7_matter 44 = .ok (.bipush (-2), 2) := by decide +kernel
theorem dX7_matter_46 : decode cX7_matter 46 = .ok (.ireturn, 1) := by decide +kernel
theorem dX7_matter_47 : decode cX7_matter 47 = .ok (.aload 4, 2) := by decide +kernel
theorem dX7_matter_49 : decode cX7_matter 49 = .ok (.iload_n 1, 1) := by decide +kernel
theorem dX7_matter_50 : decode cX7_matter 50 = .ok (.iload_n 2, 1) := by decide +kernel
theorem dX7_matter_51 : decode cX7_matter 51 = .ok (.iload_n 3, 1) := by decide +kernel
theorem dX7_matter_52 : decode cX7_matter 52 = .ok (.invokevirtual 121, 3) := by decide +kernel
theorem dX7_matter_55 : decode cX7_matter 55 = .ok (.ifCond .eq 13, 3) := by decide +kernel
theorem dX7_matter_58 : decode cX7_matter 58 = .ok (.aload 4, 2) := by decide +kernel
theorem dX7_matter_60 : decode cX7_matter 60 = .ok (.getfield 118, 3) := by decide +kernel
theorem dX7_matter_63 : decode cX7_matter 63 = .ok (.iconst 1, 1) := by decide +kernel
theorem dX7_matter_64 : decode cX7_matter 64 = .ok (.isub, 1) := by decide +kernel
theorem dX7_matter_65 : decode cX7_matter 65 = .ok (.goto 5, 3) := by decide +kernel
theorem dX7_matter_68 : decode cX7_matter 68 = .ok (.bipush (-4), 2) := by decide +kernel
theorem dX7_matter_70 : decode cX7_matter 70 = .ok (.ireturn, 1) := by decide +kernel
theorem dX7_about_0 : decode cX7_about 0 = .ok (.aload_n 0, 1) := by decide +kernel
theorem dX7_about_1 : decode cX7_about 1 = .ok (.getfield 10, 3) := by decide +kernel
theorem dX7_about_4 : decode cX7_about 4 = .ok (.getfield 114, 3) := by decide +kernel
theorem dX7_about_7 : decode cX7_about 7 = .ok (.astore_n 3, 1) := by decide +kernel
theorem dX7_about_8 : decode cX7_about 8 = .ok (.iload_n 1, 1) := by decide +kernel
theorem dX7_about_9 : decode cX7_about 9 = .ok (.ifCond .lt 11, 3) := by decide +kernel
theorem dX7_about_12 : decode cX7_about 12 = .ok (.iload_n 1, 1) := by decide +kernel
theorem dX7_about_13 : decode cX7_about 13 = .ok (.aload_n 3, 1) := by decide +kernel
theorem dX7_about_14 : decode cX7_about 14 = .ok (.getfield 118, 3) := by decide +kernel
theorem dX7_about_17 : decode cX7_about 17 = .ok (.if_icmp .lt 5, 3) := by decide +kernel
theorem dX7_about_20 : decode cX7_about 20 = .ok (.iconst (-1), 1) := by decide +kernel
theorem dX7_about_21 : decode cX7_about 21 = .ok (.ireturn, 1) := by decide +kernel
theorem dX7_about_22 : decode cX7_about 22 = .ok (.iload_n 2, 1) := by decide +kernel
theorem dX7_about_23 : decode cX7_about 23 = .ok (.tableswitch 46 0 2 #[25, 32, 39], 25) := by decide +kernel
theorem dX7_about_48 : decode cX7_about 48 = .ok (.aload_n 3, 1) := by decide +kernel
theorem dX7_about_49 : decode cX7_about 49 = .ok (.getfield 124, 3) := by decide +kernel
theorem dX7_about_52 : decode cX7_about 52 = .ok (.iload_n 1, 1) := by decide +kernel
theorem dX7_about_53 : decode cX7_about 53 = .ok (.iaload, 1) := by decide +kernel
theorem dX7_about_54 : decode cX7_about 54 = .ok (.ireturn, 1) := by decide +kernel
theorem dX7_about_55 : decode cX7_about 55 = .ok (.aload_n 3, 1) := by decide +kernel
theorem dX7_about_56 : decode cX7_about 56 = .ok (.getfield 127, 3) := by decide +kernel
theorem dX7_about_59 : decode cX7_about 59 = .ok (.iload_n 1, 1) := by decide +kernel
theorem dX7_about_60 : decode cX7_about 60 = .ok (.iaload, 1) := by decide +kernel
theorem dX7_about_61 : decode cX7_about 61 = .ok (.ireturn, 1) := by decide +kernel
theorem dX7_about_62 : decode cX7_about 62 = .ok (.aload_n 3, 1) := by decide +kernel
theorem dX7_about_63 : decode cX7_about 63 = .ok (.getfield 129, 3) := by decide +kernel
theorem dX7_about_66 : decode cX7_about 66 = .ok (.iload_n 1, 1) := by decide +kernel
theorem dX7_about_67 : decode cX7_about 67 = .ok (.iaload, 1) := by decide +kernel
theorem dX7_about_68 : decode cX7_about 68 = .ok (.ireturn, 1) := by decide +kernel
theorem dX7_about_69 : decode cX7_about 69 = .ok (.bipush (-2), 2) := by decide +kernel
theorem dX7_about_71 : decode cX7_about 71 = .ok (.ireturn, 1) := by decide +kernel
theorem dX7_clear_0 : decode cX7_clear 0 = .ok (.aload_n 0, 1) := by decide +kernel
theorem dX7_clear_1 : decode cX7_clear 1 = .ok (.getfield 10, 3) := by decide +kernel
theorem dX7_clear_4 : decode cX7_clear 4 = .ok (.getfield 114, 3) := by decide +kernel
theorem dX7_clear_7 : decode cX7_clear 7 = .ok (.getfield 118, 3) := by decide +kernel
theorem dX7_clear_10 : decode cX7_clear 10 = .ok (.istore_n 1, 1) := by decide +kernel
theorem dX7_clear_11 : decode cX7_clear 11 = .ok (.aload_n 0, 1) := by decide +kernel
theorem dX7_clear_12 : decode cX7_clear 12 = .ok (.getfield 10, 3) := by decide +kernel
theorem dX7_clear_15 : decode cX7_clear 15 = .ok (.getfield 114, 3) := by decide +kernel
theorem dX7_clear_18 : decode cX7_clear 18 = .ok (.iconst 0, 1) := by decide +kernel
theorem dX7_clear_19 : decode cX7_clear 19 = .ok (.putfield 118, 3) := by decide +kernel
theorem dX7_clear_22 : decode cX7_clear 22 = .ok (.iload_n 1, 1) := by decide +kernel
theorem dX7_clear_23 : decode cX7_clear 23 = .ok (.ireturn, 1) := by decide +kernel
theorem dX7_least_0 : decode cX7_least 0 = .ok (.aload_n 0, 1) := by decide +kernel
theorem dX7_least_1 : decode cX7_least 1 = .ok (.getfield 10, 3) := by decide +kernel
theorem dX7_least_4 : decode cX7_least 4 = .ok (.getfield 114, 3) := by decide +kernel
theorem dX7_least_7 : decode cX7_least 7 = .ok (.astore_n 2, 1) := by decide +kernel
theorem dX7_least_8 : decode cX7_least 8 = .ok (.iload_n 1, 1) := by decide +kernel
theorem dX7_least_9 : decode cX7_least 9 = .ok (.iconst (-1), 1) := by decide +kernel
theorem dX7_least_10 : decode cX7_least 10 = .ok (.if_icmp .lt 11, 3) := by decide +kernel
theorem dX7_least_13 : decode cX7_least 13 = .ok (.iload_n 1, 1) := by decide +kernel
theorem dX7_least_14 : decode cX7_least 14 = .ok (.aload_n 2, 1) := by decide +kernel
theorem dX7_least_15 : decode cX7_least 15 = .ok (.getfield 118, 3) := by decide +kernel
theorem dX7_least_18 : decode cX7_least 18 = .ok (.if_icmp .lt 6, 3) := by decide +kernel
theorem dX7_least_21 : decode cX7_least 21 = .ok (.bipush (-6), 2) := by decide +kernel
theorem dX7_least_23 : decode cX7_least 23 = .ok (.ireturn, 1) := by decide +kernel
theorem dX7_least_24 : decode cX7_least 24 = .ok (.aload_n 0, 1) := by decide +kernel
theorem dX7_least_25 : decode cX7_least 25 = .ok (.getfield 41, 3) := by decide +kernel
theorem dX7_least_28 : decode cX7_least 28 = .ok (.aload_n 2, 1) := by decide +kernel
theorem dX7_least_29 : decode cX7_least 29 = .ok (.invokevirtual 132, 3) := by decide +kernel
theorem dX7_least_32 : decode cX7_least 32 = .ok (.aload_n 0, 1) := by decide +kernel
theorem dX7_least_33 : decode cX7_least 33 = .ok (.getfield 41, 3) := by decide +kernel
theorem dX7_least_36 : decode cX7_least 36 = .ok (.aload_n 0, 1) := by decide +kernel
theorem dX7_least_37 : decode cX7_least 37 = .ok (.getfield 10, 3) := by decide +kernel
theorem dX7_least_40 : decode cX7_least 40 = .ok (.getfield 67, 3) := by decide +kernel
theorem dX7_least_43 : decode cX7_least 43 = .ok (.iconst 0, 1) := by decide +kernel
theorem dX7_least_44 : decode cX7_least 44 = .ok (.aaload, 1) := by decide +kernel
theorem dX7_least_45 : decode cX7_least 45 = .ok (.invokevirtual 136, 3) := by decide +kernel
theorem dX7_least_48 : decode cX7_least 48 = .ok (.aload_n 0, 1) := by decide +kernel
theorem dX7_least_49 : decode cX7_least 49 = .ok (.getfield 41, 3) := by decide +kernel
theorem dX7_least_52 : decode cX7_least 52 = .ok (.aload_n 2, 1) := by decide +kernel
theorem dX7_least_53 : decode cX7_least 53 = .ok (.ldc 140, 2) := by decide +kernel
theorem dX7_least_55 : decode cX7_least 55 = .ok (.invokevirtual 141, 3) := by decide +kernel
theorem dX7_least_58 : decode cX7_least 58 = .ok (.istore_n 3, 1) := by decide +kernel
theorem dX7_least_59 : decode cX7_least 59 = .ok (.iload_n 1, 1) := by decide +kernel
theorem dX7_least_60 : decode cX7_least 60 = .ok (.iconst (-1), 1) := by decide +kernel
theorem dX7_least_61 : decode cX7_least 61 = .ok (.if_icmp .ne 10, 3) := by decide +kernel
theorem dX7_least_64 : decode cX7_least 64 = .ok (.aload_n 2, 1) := by decide +kernel
theorem dX7_least_65 : decode cX7_least 65 = .ok (.invokevirtual 145, 3) := by decide +kernel
theorem dX7_least_68 : decode cX7_least 68 = .ok (.iload_n 3, 1) := by decide +kernel
theorem dX7_least_69 : decode cX7_least 69 = .ok (.iadd, 1) := by decide +kernel
theorem dX7_least_70 : decode cX7_least 70 = .ok (.ireturn, 1) := by decide +kernel
theorem dX7_least_71 : decode cX7_least 71 = .ok (.aload_n 0, 1) := by decide +kernel
theorem dX7_least_72 : decode cX7_least 72 = .ok (.getfield 41, 3) := by decide +kernel
theorem dX7_least_75 : decode cX7_least 75 = .ok (.aload_n 2, 1) := by decide +kernel
theorem dX7_least_76 : decode cX7_least 76 = .ok (.iload_n 3, 1) := by decide +kernel
theorem dX7_least_77 : decode cX7_least 77 = .ok (.invokevirtual 148, 3) := by decide +kernel
theorem dX7_least_80 : decode cX7_least 80 = .ok (.aload_n 0, 1) := by decide +kernel
theorem dX7_least_81 : decode cX7_least 81 = .ok (.getfield 41, 3) := by decide +kernel
theorem dX7_least_84 : decode cX7_least 84 = .ok (.getfield 152, 3) := by decide +kernel
theorem dX7_least_87 : decode cX7_least 87 = .ok (.iload_n 1, 1) := by decide +kernel
theorem dX7_least_88 : decode cX7_least 88 = .ok (.iaload, 1) := by decide +kernel
theorem dX7_least_89 : decode cX7_least 89 = .ok (.ireturn, 1) := by decide +kernel
theorem dX7_dealt_0 : decode cX7_dealt 0 = .ok (.iload_n 2, 1) := by decide +kernel
theorem dX7_dealt_1 : decode cX7_dealt 1 = .ok (.iconst (-1), 1) := by decide +kernel
theorem dX7_dealt_2 : decode cX7_dealt 2 = .ok (.if_icmp .eq 12, 3) := by decide +kernel
theorem dX7_dealt_5 : decode cX7_dealt 5 = .ok (.iload_n 2, 1) := by decide +kernel
theorem dX7_dealt_6 : decode cX7_dealt 6 = .ok (.invokestatic 59, 3) := by decide +kernel
theorem dX7_dealt_9 : decode cX7_dealt 9 = .ok (.ifCond .ne 5, 3) := by decide +kernel
theorem dX7_dealt_12 : decode cX7_dealt 12 = .ok (.iconst (-1), 1) := by decide +kernel
theorem dX7_dealt_13 : decode cX7_dealt 13 = .ok (.ireturn, 1) := by decide +kernel
theorem dX7_dealt_14 : decode cX7_dealt 14 = .ok (.iload_n 1, 1) := by decide +kernel
theorem dX7_dealt_15 : decode cX7_dealt 15 = .ok (.ifCond .lt 9, 3) := by decide +kernel
theorem dX7_dealt_18 : decode cX7_dealt 18 = .ok (.iload_n 1, 1) := by decide +kernel
theorem dX7_dealt_19 : decode cX7_dealt 19 = .ok (.bipush 20, 2) := by decide +kernel
theorem dX7_dealt_21 : decode cX7_dealt 21 = .ok (.if_icmp .le 6, 3) := by decide +kernel
theorem dX7_dealt_24 : decode cX7_dealt 24 = .ok (.bipush (-2), 2) := by decide +kernel
theorem dX7_dealt_26 : decode cX7_dealt 26 = .ok (.ireturn, 1) := by decide +kernel
theorem dX7_dealt_27 : decode cX7_dealt 27 = .ok (.aload_n 0, 1) := by decide +kernel
theorem dX7_dealt_28 : decode cX7_dealt 28 = .ok (.getfield 10, 3) := by decide +kernel
theorem dX7_dealt_31 : decode cX7_dealt 31 = .ok (.getfield 114, 3) := by decide +kernel
theorem dX7_dealt_34 : decode cX7_dealt 34 = .ok (.astore_n 3, 1) := by decide +kernel
theorem dX7_dealt_35 : decode cX7_dealt 35 = .ok (.aload_n 0, 1) := by decide +kernel
theorem dX7_dealt_36 : decode cX7_dealt 36 = .ok (.getfield 41, 3) := by decide +kernel
theorem dX7_dealt_39 : decode cX7_dealt 39 = .ok (.aload_n 3, 1) := by decide +kernel
theorem dX7_dealt_40 : decode cX7_dealt 40 = .ok (.invokevirtual 155, 3) := by decide +kernel
theorem dX7_dealt_43 : decode cX7_dealt 43 = .ok (.aload_n 0, 1) := by decide +kernel
theorem dX7_dealt_44 : decode cX7_dealt 44 = .ok (.getfield 41, 3) := by decide +kernel
theorem dX7_dealt_47 : decode cX7_dealt 47 = .ok (.getfield 158, 3) := by decide +kernel
theorem dX7_dealt_50 : decode cX7_dealt 50 = .ok (.iconst 1, 1) := by decide +kernel
theorem dX7_dealt_51 : decode cX7_dealt 51 = .ok (.if_icmp .lt 14, 3) := by decide +kernel
theorem dX7_dealt_54 : decode cX7_dealt 54 = .ok (.aload_n 0, 1) := by decide +kernel
theorem dX7_dealt_55 : decode cX7_dealt 55 = .ok (.getfield 41, 3) := by decide +kernel
theorem dX7_dealt_58 : decode cX7_dealt 58 = .ok (.getfield 158, 3) := by decide +kernel
theorem dX7_dealt_61 : decode cX7_dealt 61 = .ok (.iconst 4, 1) := by decide +kernel
theorem dX7_dealt_62 : decode cX7_dealt 62 = .ok (.if_icmp .le 6, 3) := by decide +kernel
theorem dX7_dealt_65 : decode cX7_dealt 65 = .ok (.bipush (-5), 2) := by decide +kernel
theorem dX7_dealt_67 : decode cX7_dealt 67 = .ok (.ireturn, 1) := by decide +kernel
theorem dX7_dealt_68 : decode cX7_dealt 68 = .ok (.iload_n 2, 1) := by decide +kernel
theorem dX7_dealt_69 : decode cX7_dealt 69 = .ok (.iconst (-1), 1) := by decide +kernel
theorem dX7_dealt_70 : decode cX7_dealt 70 = .ok (.if_icmp .eq 14, 3) := by decide +kernel
theorem dX7_dealt_73 : decode cX7_dealt 73 = .ok (.aload_n 3, 1) := by decide +kernel
theorem dX7_dealt_74 : decode cX7_dealt 74 = .ok (.iload_n 2, 1) := by decide +kernel
theorem dX7_dealt_75 : decode cX7_dealt 75 = .ok (.invokevirtual 161, 3) := by decide +kernel
theorem dX7_dealt_78 : decode cX7_dealt 78 = .ok (.ifCond .ne 6, 3) := by decide +kernel
theorem dX7_dealt_81 : decode cX7_dealt 81 = .ok (.bipush (-6), 2) := by decide +kernel
theorem dX7_dealt_83 : decode cX7_dealt 83 = .ok (.ireturn, 1) := by decide +kernel
theorem dX7_dealt_84 : decode cX7_dealt 84 = .ok (.aload_n 0, 1) := by decide +kernel
theorem dX7_dealt_85 : decode cX7_dealt 85 = .ok (.getfield 41, 3) := by decide +kernel
theorem dX7_dealt_88 : decode cX7_dealt 88 = .ok (.aload_n 3, 1) := by decide +kernel
theorem dX7_dealt_89 : decode cX7_dealt 89 = .ok (.invokevirtual 132, 3) := by decide +kernel
theorem dX7_dealt_92 : decode cX7_dealt 92 = .ok (.aload_n 0, 1) := by decide +kernel
theorem dX7_dealt_93 : decode cX7_dealt 93 = .ok (.getfield 41, 3) := by decide +kernel
theorem dX7_dealt_96 : decode cX7_dealt 96 = .ok (.aload_n 3, 1) := by decide +kernel
theorem dX7_dealt_97 : decode cX7_dealt 97 = .ok (.iload_n 1, 1) := by decide +kernel
theorem dX7_dealt_98 : decode cX7_dealt 98 = .ok (.invokevirtual 164, 3) := by decide +kernel
theorem dX7_dealt_101 : decode cX7_dealt 101 = .ok (.iload_n 2, 1) := by decide +kernel
theorem dX7_dealt_102 : decode cX7_dealt 102 = .ok (.iconst (-1), 1) := by decide +kernel
theorem dX7_dealt_103 : decode cX7_dealt 103 = .ok (.if_icmp .ne 18, 3) := by decide +kernel
theorem dX7_dealt_106 : decode cX7_dealt 106 = .ok (.aload_n 3, 1) := by decide +kernel
theorem dX7_dealt_107 : decode cX7_dealt 107 = .ok (.invokevirtual 145, 3) := by decide +kernel
theorem dX7_dealt_110 : decode cX7_dealt 110 = .ok (.aload_n 0, 1) := by decide +kernel
theorem dX7_dealt_111 : decode cX7_dealt 111 = .ok (.getfield 41, 3) := by decide +kernel
theorem dX7_dealt_114 : decode cX7_dealt 114 = .ok (.getfield 167, 3) := by decide +kernel
theorem dX7_dealt_117 : decode cX7_dealt 117 = .ok (.iadd, 1) := by decide +kernel
theorem dX7_dealt_118 : decode cX7_dealt 118 = .ok (.goto 12, 3) := by decide +kernel
theorem dX7_dealt_121 : decode cX7_dealt 121 = .ok (.aload_n 0, 1) := by decide +kernel
theorem dX7_dealt_122 : decode cX7_dealt 122 = .ok (.getfield 41, 3) := by decide +kernel
theorem dX7_dealt_125 : decode cX7_dealt 125 = .ok (.getfield 170, 3) := by decide +kernel
theorem dX7_dealt_128 : decode cX7_dealt 128 = .ok (.iload_n 2, 1) := by decide +kernel
theorem dX7_dealt_129 : decode cX7_dealt 129 = .ok (.iaload, 1) := by decide +kernel
theorem dX7_dealt_130 : decode cX7_dealt 130 = .ok (.ireturn, 1) := by decide +kernel
theorem dX7_lend_0 : decode cX7_lend 0 = .ok (.iload_n 1, 1) := by decide +kernel
theorem dX7_lend_1 : decode cX7_lend 1 = .ok (.invokestatic 59, 3) := by decide +kernel
theorem dX7_lend_4 : decode cX7_lend 4 = .ok (.ifCond .eq 15, 3) := by decide +kernel
theorem dX7_lend_7 : decode cX7_lend 7 = .ok (.iload_n 2, 1) := by decide +kernel
theorem dX7_lend_8 : decode cX7_lend 8 = .ok (.invokestatic 59, 3) := by decide +kernel
theorem dX7_lend_11 : decode cX7_lend 11 = .ok (.ifCond .eq 8, 3) := by decide +kernel
theorem dX7_lend_14 : decode cX7_lend 14 = .ok (.iload_n 1, 1) := by decide +kernel
theorem dX7_lend_15 : decode cX7_lend 15 = .ok (.iload_n 2, 1) := by decide +kernel
theorem dX7_lend_16 : decode cX7_lend 16 = .ok (.if_icmp .ne 5, 3) := by decide +kernel
theorem dX7_lend_19 : decode cX7_lend 19 = .ok (.iconst (-1), 1) := by decide +kernel
theorem dX7_lend_20 : decode cX7_lend 20 = .ok (.ireturn, 1) := by decide +kernel
theorem dX7_lend_21 : decode cX7_lend 21 = .ok (.iload_n 3, 1) := by decide +kernel
theorem dX7_lend_22 : decode cX7_lend 22 = .ok (.ifCond .lt 9, 3) := by decide +kernel
theorem dX7_lend_25 : decode cX7_lend 25 = .ok (.iload_n 3, 1) := by decide +kernel
theorem dX7_lend_26 : decode cX7_lend 26 = .ok (.bipush 99, 2) := by decide +kernel
theorem dX7_lend_28 : decode cX7_lend 28 = .ok (.if_icmp .le 6, 3) := by decide +kernel
theorem dX7_lend_31 : decode cX7_lend 31 = .ok (.bipush (-2), 2) := by decide +kernel
theorem dX7_lend_33 : decode cX7_lend 33 = .ok (.ireturn, 1) := by decide +kernel
theorem dX7_lend_34 : decode cX7_lend 34 = .ok (.aload_n 0, 1) := by decide +kernel
theorem dX7_lend_35 : decode cX7_lend 35 = .ok (.getfield 10, 3) := by decide +kernel
theorem dX7_lend_38 : decode cX7_lend 38 = .ok (.getfield 173, 3) := by decide +kernel
end
section
theorem dX7_lend_41 : decode cX7_lend 41 = .ok (.iload_n 1, 1) := by decide +kernel
theorem dX7_lend_42 : decode cX7_lend 42 = .ok (.aaload, 1) := by decide +kernel
theorem dX7_lend_43 : decode cX7_lend 43 = .ok (.iload_n 2, 1) := by decide +kernel
theorem dX7_lend_44 : decode cX7_lend 44 = .ok (.iaload, 1) := by decide +kernel
theorem dX7_lend_45 : decode cX7_lend 45 = .ok (.istore 4, 2) := by decide +kernel
theorem dX7_lend_47 : decode cX7_lend 47 = .ok (.aload_n 0, 1) := by decide +kernel
theorem dX7_lend_48 : decode cX7_lend 48 = .ok (.getfield 10, 3) := by decide +kernel
theorem dX7_lend_51 : decode cX7_lend 51 = .ok (.getfield 173, 3) := by decide +kernel
theorem dX7_lend_54 : decode cX7_lend 54 = .ok (.iload_n 1, 1) := by decide +kernel
theorem dX7_lend_55 : decode cX7_lend 55 = .ok (.aaload, 1) := by decide +kernel
theorem dX7_lend_56 : decode cX7_lend 56 = .ok (.iload_n 2, 1) := by decide +kernel
theorem dX7_lend_57 : decode cX7_lend 57 = .ok (.iload_n 3, 1) := by decide +kernel
theorem dX7_lend_58 : decode cX7_lend 58 = .ok (.iastore, 1) := by decide +kernel
theorem dX7_lend_59 : decode cX7_lend 59 = .ok (.iload 4, 2) := by decide +kernel
theorem dX7_lend_61 : decode cX7_lend 61 = .ok (.ireturn, 1) := by decide +kernel
theorem dX7_net_0 : decode cX7_net 0 = .ok (.iload_n 1, 1) := by decide +kernel
theorem dX7_net_1 : decode cX7_net 1 = .ok (.invokestatic 59, 3) := by decide +kernel
theorem dX7_net_4 : decode cX7_net 4 = .ok (.ifCond .eq 21, 3) := by decide +kernel
theorem dX7_net_7 : decode cX7_net 7 = .ok (.aload_n 0, 1) := by decide +kernel
theorem dX7_net_8 : decode cX7_net 8 = .ok (.getfield 10, 3) := by decide +kernel
theorem dX7_net_11 : decode cX7_net 11 = .ok (.getfield 173, 3) := by decide +kernel
theorem dX7_net_14 : decode cX7_net 14 = .ok (.iload_n 1, 1) := by decide +kernel
theorem dX7_net_15 : decode cX7_net 15 = .ok (.invokestatic 176, 3) := by decide +kernel
theorem dX7_net_18 : decode cX7_net 18 = .ok (.sipush 1000, 3) := by decide +kernel
theorem dX7_net_21 : decode cX7_net 21 = .ok (.iadd, 1) := by decide +kernel
theorem dX7_net_22 : decode cX7_net 22 = .ok (.goto 4, 3) := by decide +kernel
theorem dX7_net_25 : decode cX7_net 25 = .ok (.iconst (-1), 1) := by decide +kernel
theorem dX7_net_26 : decode cX7_net 26 = .ok (.ireturn, 1) := by decide +kernel
theorem dX7_gifts_0 : decode cX7_gifts 0 = .ok (.aload_n 0, 1) := by decide +kernel
theorem dX7_gifts_1 : decode cX7_gifts 1 = .ok (.getfield 48, 3) := by decide +kernel
theorem dX7_gifts_4 : decode cX7_gifts 4 = .ok (.aload_n 0, 1) := by decide +kernel
theorem dX7_gifts_5 : decode cX7_gifts 5 = .ok (.getfield 10, 3) := by decide +kernel
theorem dX7_gifts_8 : decode cX7_gifts 8 = .ok (.getfield 173, 3) := by decide +kernel
theorem dX7_gifts_11 : decode cX7_gifts 11 = .ok (.invokevirtual 180, 3) := by decide +kernel
theorem dX7_gifts_14 : decode cX7_gifts 14 = .ok (.ireturn, 1) := by decide +kernel
theorem dX7_filled_0 : decode cX7_filled 0 = .ok (.aload_n 0, 1) := by decide +kernel
theorem dX7_filled_1 : decode cX7_filled 1 = .ok (.getfield 27, 3) := by decide +kernel
theorem dX7_filled_4 : decode cX7_filled 4 = .ok (.invokevirtual 88, 3) := by decide +kernel
theorem dX7_filled_7 : decode cX7_filled 7 = .ok (.bipush (-6), 2) := by decide +kernel
theorem dX7_filled_9 : decode cX7_filled 9 = .ok (.if_icmp .eq 6, 3) := by decide +kernel
theorem dX7_filled_12 : decode cX7_filled 12 = .ok (.bipush (-5), 2) := by decide +kernel
theorem dX7_filled_14 : decode cX7_filled 14 = .ok (.ireturn, 1) := by decide +kernel
theorem dX7_filled_15 : decode cX7_filled 15 = .ok (.aload_n 0, 1) := by decide +kernel
theorem dX7_filled_16 : decode cX7_filled 16 = .ok (.getfield 55, 3) := by decide +kernel
theorem dX7_filled_19 : decode cX7_filled 19 = .ok (.aload_n 0, 1) := by decide +kernel
theorem dX7_filled_20 : decode cX7_filled 20 = .ok (.getfield 27, 3) := by decide +kernel
theorem dX7_filled_23 : decode cX7_filled 23 = .ok (.aload_n 0, 1) := by decide +kernel
theorem dX7_filled_24 : decode cX7_filled 24 = .ok (.getfield 10, 3) := by decide +kernel
theorem dX7_filled_27 : decode cX7_filled 27 = .ok (.getfield 67, 3) := by decide +kernel
theorem dX7_filled_30 : decode cX7_filled 30 = .ok (.iconst 0, 1) := by decide +kernel
theorem dX7_filled_31 : decode cX7_filled 31 = .ok (.aaload, 1) := by decide +kernel
theorem dX7_filled_32 : decode cX7_filled 32 = .ok (.invokevirtual 184, 3) := by decide +kernel
theorem dX7_filled_35 : decode cX7_filled 35 = .ok (.iload_n 1, 1) := by decide +kernel
theorem dX7_filled_36 : decode cX7_filled 36 = .ok (.iconst (-1), 1) := by decide +kernel
theorem dX7_filled_37 : decode cX7_filled 37 = .ok (.if_icmp .ne 14, 3) := by decide +kernel
theorem dX7_filled_40 : decode cX7_filled 40 = .ok (.aload_n 0, 1) := by decide +kernel
theorem dX7_filled_41 : decode cX7_filled 41 = .ok (.getfield 55, 3) := by decide +kernel
theorem dX7_filled_44 : decode cX7_filled 44 = .ok (.iconst 0, 1) := by decide +kernel
theorem dX7_filled_45 : decode cX7_filled 45 = .ok (.ldc 140, 2) := by decide +kernel
theorem dX7_filled_47 : decode cX7_filled 47 = .ok (.invokestatic 188, 3) := by decide +kernel
theorem dX7_filled_50 : decode cX7_filled 50 = .ok (.ireturn, 1) := by decide +kernel
theorem dX7_filled_51 : decode cX7_filled 51 = .ok (.iload_n 1, 1) := by decide +kernel
theorem dX7_filled_52 : decode cX7_filled 52 = .ok (.ifCond .lt 31, 3) := by decide +kernel
theorem dX7_filled_55 : decode cX7_filled 55 = .ok (.iload_n 2, 1) := by decide +kernel
theorem dX7_filled_56 : decode cX7_filled 56 = .ok (.ifCond .lt 27, 3) := by decide +kernel
theorem dX7_filled_59 : decode cX7_filled 59 = .ok (.iload_n 2, 1) := by decide +kernel
theorem dX7_filled_60 : decode cX7_filled 60 = .ok (.aload_n 0, 1) := by decide +kernel
theorem dX7_filled_61 : decode cX7_filled 61 = .ok (.getfield 55, 3) := by decide +kernel
theorem dX7_filled_64 : decode cX7_filled 64 = .ok (.getfield 192, 3) := by decide +kernel
theorem dX7_filled_67 : decode cX7_filled 67 = .ok (.if_icmp .ge 16, 3) := by decide +kernel
theorem dX7_filled_70 : decode cX7_filled 70 = .ok (.aload_n 0, 1) := by decide +kernel
theorem dX7_filled_71 : decode cX7_filled 71 = .ok (.getfield 55, 3) := by decide +kernel
theorem dX7_filled_74 : decode cX7_filled 74 = .ok (.iconst 0, 1) := by decide +kernel
theorem dX7_filled_75 : decode cX7_filled 75 = .ok (.iload_n 1, 1) := by decide +kernel
theorem dX7_filled_76 : decode cX7_filled 76 = .ok (.invokestatic 188, 3) := by decide +kernel
theorem dX7_filled_79 : decode cX7_filled 79 = .ok (.iload_n 1, 1) := by decide +kernel
theorem dX7_filled_80 : decode cX7_filled 80 = .ok (.if_icmp .gt 6, 3) := by decide +kernel
theorem dX7_filled_83 : decode cX7_filled 83 = .ok (.bipush (-6), 2) := by decide +kernel
theorem dX7_filled_85 : decode cX7_filled 85 = .ok (.ireturn, 1) := by decide +kernel
theorem dX7_filled_86 : decode cX7_filled 86 = .ok (.aload_n 0, 1) := by decide +kernel
theorem dX7_filled_87 : decode cX7_filled 87 = .ok (.getfield 55, 3) := by decide +kernel
theorem dX7_filled_90 : decode cX7_filled 90 = .ok (.iload_n 2, 1) := by decide +kernel
theorem dX7_filled_91 : decode cX7_filled 91 = .ok (.invokevirtual 195, 3) := by decide +kernel
theorem dX7_filled_94 : decode cX7_filled 94 = .ok (.ireturn, 1) := by decide +kernel
theorem dX7_lie_0 : decode cX7_lie 0 = .ok (.aload_n 0, 1) := by decide +kernel
theorem dX7_lie_1 : decode cX7_lie 1 = .ok (.getfield 27, 3) := by decide +kernel
theorem dX7_lie_4 : decode cX7_lie 4 = .ok (.invokevirtual 88, 3) := by decide +kernel
theorem dX7_lie_7 : decode cX7_lie 7 = .ok (.bipush (-6), 2) := by decide +kernel
theorem dX7_lie_9 : decode cX7_lie 9 = .ok (.if_icmp .eq 6, 3) := by decide +kernel
theorem dX7_lie_12 : decode cX7_lie 12 = .ok (.bipush (-5), 2) := by decide +kernel
theorem dX7_lie_14 : decode cX7_lie 14 = .ok (.ireturn, 1) := by decide +kernel
theorem dX7_lie_15 : decode cX7_lie 15 = .ok (.aload_n 0, 1) := by decide +kernel
theorem dX7_lie_16 : decode cX7_lie 16 = .ok (.getfield 55, 3) := by decide +kernel
theorem dX7_lie_19 : decode cX7_lie 19 = .ok (.aload_n 0, 1) := by decide +kernel
theorem dX7_lie_20 : decode cX7_lie 20 = .ok (.getfield 27, 3) := by decide +kernel
theorem dX7_lie_23 : decode cX7_lie 23 = .ok (.aload_n 0, 1) := by decide +kernel
theorem dX7_lie_24 : decode cX7_lie 24 = .ok (.getfield 10, 3) := by decide +kernel
theorem dX7_lie_27 : decode cX7_lie 27 = .ok (.getfield 67, 3) := by decide +kernel
theorem dX7_lie_30 : decode cX7_lie 30 = .ok (.iconst 0, 1) := by decide +kernel
theorem dX7_lie_31 : decode cX7_lie 31 = .ok (.aaload, 1) := by decide +kernel
theorem dX7_lie_32 : decode cX7_lie 32 = .ok (.invokevirtual 184, 3) := by decide +kernel
theorem dX7_lie_35 : decode cX7_lie 35 = .ok (.aload_n 0, 1) := by decide +kernel
theorem dX7_lie_36 : decode cX7_lie 36 = .ok (.getfield 55, 3) := by decide +kernel
theorem dX7_lie_39 : decode cX7_lie 39 = .ok (.invokevirtual 198, 3) := by decide +kernel
theorem dX7_lie_42 : decode cX7_lie 42 = .ok (.ireturn, 1) := by decide +kernel
theorem dX7_floor_0 : decode cX7_floor 0 = .ok (.iload_n 1, 1) := by decide +kernel
theorem dX7_floor_1 : decode cX7_floor 1 = .ok (.ifCond .lt 9, 3) := by decide +kernel
theorem dX7_floor_4 : decode cX7_floor 4 = .ok (.iload_n 1, 1) := by decide +kernel
theorem dX7_floor_5 : decode cX7_floor 5 = .ok (.bipush 64, 2) := by decide +kernel
theorem dX7_floor_7 : decode cX7_floor 7 = .ok (.if_icmp .lt 8, 3) := by decide +kernel
theorem dX7_floor_10 : decode cX7_floor 10 = .ok (.bipush (-2), 2) := by decide +kernel
theorem dX7_floor_12 : decode cX7_floor 12 = .ok (.goto 8, 3) := by decide +kernel
theorem dX7_floor_15 : decode cX7_floor 15 = .ok (.aload_n 0, 1) := by decide +kernel
theorem dX7_floor_16 : decode cX7_floor 16 = .ok (.iload_n 1, 1) := by decide +kernel
theorem dX7_floor_17 : decode cX7_floor 17 = .ok (.invokevirtual 201, 3) := by decide +kernel
theorem dX7_floor_20 : decode cX7_floor 20 = .ok (.ireturn, 1) := by decide +kernel
theorem dX7_friends_0 : decode cX7_friends 0 = .ok (.iload_n 1, 1) := by decide +kernel
theorem dX7_friends_1 : decode cX7_friends 1 = .ok (.invokestatic 59, 3) := by decide +kernel
theorem dX7_friends_4 : decode cX7_friends 4 = .ok (.ifCond .ne 5, 3) := by decide +kernel
theorem dX7_friends_7 : decode cX7_friends 7 = .ok (.iconst (-1), 1) := by decide +kernel
theorem dX7_friends_8 : decode cX7_friends 8 = .ok (.ireturn, 1) := by decide +kernel
theorem dX7_friends_9 : decode cX7_friends 9 = .ok (.iload_n 2, 1) := by decide +kernel
theorem dX7_friends_10 : decode cX7_friends 10 = .ok (.ifCond .lt 10, 3) := by decide +kernel
theorem dX7_friends_13 : decode cX7_friends 13 = .ok (.iload_n 2, 1) := by decide +kernel
theorem dX7_friends_14 : decode cX7_friends 14 = .ok (.sipush 999, 3) := by decide +kernel
theorem dX7_friends_17 : decode cX7_friends 17 = .ok (.if_icmp .le 6, 3) := by decide +kernel
theorem dX7_friends_20 : decode cX7_friends 20 = .ok (.bipush (-2), 2) := by decide +kernel
theorem dX7_friends_22 : decode cX7_friends 22 = .ok (.ireturn, 1) := by decide +kernel
theorem dX7_friends_23 : decode cX7_friends 23 = .ok (.bipush (-6), 2) := by decide +kernel
theorem dX7_friends_25 : decode cX7_friends 25 = .ok (.istore_n 3, 1) := by decide +kernel
theorem dX7_friends_26 : decode cX7_friends 26 = .ok (.iconst 1, 1) := by decide +kernel
theorem dX7_friends_27 : decode cX7_friends 27 = .ok (.istore 4, 2) := by decide +kernel
theorem dX7_friends_29 : decode cX7_friends 29 = .ok (.iload 4, 2) := by decide +kernel
theorem dX7_friends_31 : decode cX7_friends 31 = .ok (.bipush 64, 2) := by decide +kernel
theorem dX7_friends_33 : decode cX7_friends 33 = .ok (.if_icmp .ge 61, 3) := by decide +kernel
theorem dX7_friends_36 : decode cX7_friends 36 = .ok (.iload_n 3, 1) := by decide +kernel
theorem dX7_friends_37 : decode cX7_friends 37 = .ok (.bipush (-6), 2) := by decide +kernel
theorem dX7_friends_39 : decode cX7_friends 39 = .ok (.if_icmp .eq 15, 3) := by decide +kernel
theorem dX7_friends_42 : decode cX7_friends 42 = .ok (.iload 4, 2) := by decide +kernel
theorem dX7_friends_44 : decode cX7_friends 44 = .ok (.invokestatic 204, 3) := by decide +kernel
theorem dX7_friends_47 : decode cX7_friends 47 = .ok (.iload_n 3, 1) := by decide +kernel
theorem dX7_friends_48 : decode cX7_friends 48 = .ok (.invokestatic 204, 3) := by decide +kernel
theorem dX7_friends_51 : decode cX7_friends 51 = .ok (.if_icmp .ge 7, 3) := by decide +kernel
theorem dX7_friends_54 : decode cX7_friends 54 = .ok (.iconst 1, 1) := by decide +kernel
theorem dX7_friends_55 : decode cX7_friends 55 = .ok (.goto 4, 3) := by decide +kernel
theorem dX7_friends_58 : decode cX7_friends 58 = .ok (.iconst 0, 1) := by decide +kernel
theorem dX7_friends_59 : decode cX7_friends 59 = .ok (.istore 5, 2) := by decide +kernel
theorem dX7_friends_61 : decode cX7_friends 61 = .ok (.iload 4, 2) := by decide +kernel
theorem dX7_friends_63 : decode cX7_friends 63 = .ok (.iload_n 1, 1) := by decide +kernel
theorem dX7_friends_64 : decode cX7_friends 64 = .ok (.invokestatic 209, 3) := by decide +kernel
theorem dX7_friends_67 : decode cX7_friends 67 = .ok (.ifCond .eq 21, 3) := by decide +kernel
theorem dX7_friends_70 : decode cX7_friends 70 = .ok (.iload 5, 2) := by decide +kernel
theorem dX7_friends_72 : decode cX7_friends 72 = .ok (.ifCond .eq 16, 3) := by decide +kernel
theorem dX7_friends_75 : decode cX7_friends 75 = .ok (.aload_n 0, 1) := by decide +kernel
theorem dX7_friends_76 : decode cX7_friends 76 = .ok (.iload 4, 2) := by decide +kernel
theorem dX7_friends_78 : decode cX7_friends 78 = .ok (.invokevirtual 201, 3) := by decide +kernel
theorem dX7_friends_81 : decode cX7_friends 81 = .ok (.iload_n 2, 1) := by decide +kernel
theorem dX7_friends_82 : decode cX7_friends 82 = .ok (.if_icmp .lt 6, 3) := by decide +kernel
theorem dX7_friends_85 : decode cX7_friends 85 = .ok (.iload 4, 2) := by decide +kernel
theorem dX7_friends_87 : decode cX7_friends 87 = .ok (.istore_n 3, 1) := by decide +kernel
theorem dX7_friends_88 : decode cX7_friends 88 = .ok (.iinc 4 1, 3) := by decide +kernel
theorem dX7_friends_91 : decode cX7_friends 91 = .ok (.goto (-62), 3) := by decide +kernel
theorem dX7_friends_94 : decode cX7_friends 94 = .ok (.iload_n 3, 1) := by decide +kernel
theorem dX7_friends_95 : decode cX7_friends 95 = .ok (.ireturn, 1) := by decide +kernel
theorem dX7_image_0 : decode cX7_image 0 = .ok (.iload_n 1, 1) := by decide +kernel
theorem dX7_image_1 : decode cX7_image 1 = .ok (.ifCond .lt 8, 3) := by decide +kernel
theorem dX7_image_4 : decode cX7_image 4 = .ok (.iload_n 1, 1) := by decide +kernel
theorem dX7_image_5 : decode cX7_image 5 = .ok (.iconst 2, 1) := by decide +kernel
theorem dX7_image_6 : decode cX7_image 6 = .ok (.if_icmp .lt 6, 3) := by decide +kernel
theorem dX7_image_9 : decode cX7_image 9 = .ok (.bipush (-2), 2) := by decide +kernel
theorem dX7_image_11 : decode cX7_image 11 = .ok (.ireturn, 1) := by decide +kernel
theorem dX7_image_12 : decode cX7_image 12 = .ok (.aload_n 0, 1) := by decide +kernel
theorem dX7_image_13 : decode cX7_image 13 = .ok (.getfield 16, 3) := by decide +kernel
theorem dX7_image_16 : decode cX7_image 16 = .ok (.iload_n 1, 1) := by decide +kernel
theorem dX7_image_17 : decode cX7_image 17 = .ok (.aaload, 1) := by decide +kernel
theorem dX7_image_18 : decode cX7_image 18 = .ok (.aload_n 0, 1) := by decide +kernel
theorem dX7_image_19 : decode cX7_image 19 = .ok (.getfield 10, 3) := by decide +kernel
theorem dX7_image_22 : decode cX7_image 22 = .ok (.invokevirtual 213, 3) := by decide +kernel
theorem dX7_image_25 : decode cX7_image 25 = .ok (.aload_n 0, 1) := by decide +kernel
theorem dX7_image_26 : decode cX7_image 26 = .ok (.getfield 20, 3) := by decide +kernel
theorem dX7_image_29 : decode cX7_image 29 = .ok (.iload_n 1, 1) := by decide +kernel
theorem dX7_image_30 : decode cX7_image 30 = .ok (.iconst 1, 1) := by decide +kernel
theorem dX7_image_31 : decode cX7_image 31 = .ok (.bastore, 1) := by decide +kernel
theorem dX7_image_32 : decode cX7_image 32 = .ok (.iconst 1, 1) := by decide +kernel
theorem dX7_image_33 : decode cX7_image 33 = .ok (.ireturn, 1) := by decide +kernel
theorem dX7_restore_0 : decode cX7_restore 0 = .ok (.iload_n 1, 1) := by decide +kernel
theorem dX7_restore_1 : decode cX7_restore 1 = .ok (.ifCond .lt 8, 3) := by decide +kernel
theorem dX7_restore_4 : decode cX7_restore 4 = .ok (.iload_n 1, 1) := by decide +kernel
theorem dX7_restore_5 : decode cX7_restore 5 = .ok (.iconst 2, 1) := by decide +kernel
theorem dX7_restore_6 : decode cX7_restore 6 = .ok (.if_icmp .lt 6, 3) := by decide +kernel
theorem dX7_restore_9 : decode cX7_restore 9 = .ok (.bipush (-2), 2) := by decide +kernel
theorem dX7_restore_11 : decode cX7_restore 11 = .ok (.ireturn, 1) := by decide +kernel
theorem dX7_restore_12 : decode cX7_restore 12 = .ok (.aload_n 0, 1) := by decide +kernel
theorem dX7_restore_13 : decode cX7_restore 13 = .ok (.getfield 20, 3) := by decide +kernel
theorem dX7_restore_16 : decode cX7_restore 16 = .ok (.iload_n 1, 1) := by decide +kernel
theorem dX7_restore_17 : decode cX7_restore 17 = .ok (.baload, 1) := by decide +kernel
theorem dX7_restore_18 : decode cX7_restore 18 = .ok (.ifCond .ne 6, 3) := by decide +kernel
theorem dX7_restore_21 : decode cX7_restore 21 = .ok (.bipush (-3), 2) := by decide +kernel
theorem dX7_restore_23 : decode cX7_restore 23 = .ok (.ireturn, 1) := by decide +kernel
theorem dX7_restore_24 : decode cX7_restore 24 = .ok (.aload_n 0, 1) := by decide +kernel
theorem dX7_restore_25 : decode cX7_restore 25 = .ok (.getfield 10, 3) := by decide +kernel
theorem dX7_restore_28 : decode cX7_restore 28 = .ok (.aload_n 0, 1) := by decide +kernel
theorem dX7_restore_29 : decode cX7_restore 29 = .ok (.getfield 16, 3) := by decide +kernel
theorem dX7_restore_32 : decode cX7_restore 32 = .ok (.iload_n 1, 1) := by decide +kernel
theorem dX7_restore_33 : decode cX7_restore 33 = .ok (.aaload, 1) := by decide +kernel
theorem dX7_restore_34 : decode cX7_restore 34 = .ok (.invokevirtual 213, 3) := by decide +kernel
theorem dX7_restore_37 : decode cX7_restore 37 = .ok (.iconst 1, 1) := by decide +kernel
theorem dX7_restore_38 : decode cX7_restore 38 = .ok (.ireturn, 1) := by decide +kernel
theorem dX7_told_0 : decode cX7_told 0 = .ok (.iload_n 1, 1) := by decide +kernel
theorem dX7_told_1 : decode cX7_told 1 = .ok (.bipush 100, 2) := by decide +kernel
theorem dX7_told_3 : decode cX7_told 3 = .ok (.if_icmp .lt 34, 3) := by decide +kernel
theorem dX7_told_6 : decode cX7_told 6 = .ok (.iload_n 1, 1) := by decide +kernel
theorem dX7_told_7 : decode cX7_told 7 = .ok (.sipush 136, 3) := by decide +kernel
theorem dX7_told_10 : decode cX7_told 10 = .ok (.if_icmp .ge 27, 3) := by decide +kernel
theorem dX7_told_13 : decode cX7_told 13 = .ok (.aload_n 0, 1) := by decide +kernel
theorem dX7_told_14 : decode cX7_told 14 = .ok (.getfield 10, 3) := by decide +kernel
theorem dX7_told_17 : decode cX7_told 17 = .ok (.getfield 173, 3) := by decide +kernel
theorem dX7_told_20 : decode cX7_told 20 = .ok (.iload_n 1, 1) := by decide +kernel
theorem dX7_told_21 : decode cX7_told 21 = .ok (.bipush 100, 2) := by decide +kernel
theorem dX7_told_23 : decode cX7_told 23 = .ok (.isub, 1) := by decide +kernel
theorem dX7_told_24 : decode cX7_told 24 = .ok (.bipush 6, 2) := by decide +kernel
theorem dX7_told_26 : decode cX7_told 26 = .ok (.idiv, 1) := by decide +kernel
theorem dX7_told_27 : decode cX7_told 27 = .ok (.aaload, 1) := by decide +kernel
theorem dX7_told_28 : decode cX7_told 28 = .ok (.iload_n 1, 1) := by decide +kernel
theorem dX7_told_29 : decode cX7_told 29 = .ok (.bipush 100, 2) := by decide +kernel
theorem dX7_told_31 : decode cX7_told 31 = .ok (.isub, 1) := by decide +kernel
theorem dX7_told_32 : decode cX7_told 32 = .ok (.bipush 6, 2) := by decide +kernel
theorem dX7_told_34 : decode cX7_told 34 = .ok (.irem, 1) := by decide +kernel
theorem dX7_told_35 : decode cX7_told 35 = .ok (.iaload, 1) := by decide +kernel
theorem dX7_told_36 : decode cX7_told 36 = .ok (.ireturn, 1) := by decide +kernel
theorem dX7_told_37 : decode cX7_told 37 = .ok (.iload_n 1, 1) := by decide +kernel
theorem dX7_told_38 : decode cX7_told 38 = .ok (.bipush 10, 2) := by decide +kernel
theorem dX7_told_40 : decode cX7_told 40 = .ok (.if_icmp .lt 39, 3) := by decide +kernel
theorem dX7_told_43 : decode cX7_told 43 = .ok (.iload_n 1, 1) := by decide +kernel
theorem dX7_told_44 : decode cX7_told 44 = .ok (.bipush 50, 2) := by decide +kernel
theorem dX7_told_46 : decode cX7_told 46 = .ok (.if_icmp .ge 33, 3) := by decide +kernel
theorem dX7_told_49 : decode cX7_told 49 = .ok (.iload_n 1, 1) := by decide +kernel
theorem dX7_told_50 : decode cX7_told 50 = .ok (.bipush 10, 2) := by decide +kernel
theorem dX7_told_52 : decode cX7_told 52 = .ok (.irem, 1) := by decide +kernel
theorem dX7_told_53 : decode cX7_told 53 = .ok (.invokestatic 59, 3) := by decide +kernel
theorem dX7_told_56 : decode cX7_told 56 = .ok (.ifCond .eq 23, 3) := by decide +kernel
theorem dX7_told_59 : decode cX7_told 59 = .ok (.aload_n 0, 1) := by decide +kernel
theorem dX7_told_60 : decode cX7_told 60 = .ok (.getfield 10, 3) := by decide +kernel
theorem dX7_told_63 : decode cX7_told 63 = .ok (.getfield 67, 3) := by decide +kernel
theorem dX7_told_66 : decode cX7_told 66 = .ok (.iload_n 1, 1) := by decide +kernel
theorem dX7_told_67 : decode cX7_told 67 = .ok (.bipush 10, 2) := by decide +kernel
theorem dX7_told_69 : decode cX7_told 69 = .ok (.idiv, 1) := by decide +kernel
theorem dX7_told_70 : decode cX7_told 70 = .ok (.iconst 1, 1) := by decide +kernel
theorem dX7_told_71 : decode cX7_told 71 = .ok (.isub, 1) := by decide +kernel
theorem dX7_told_72 : decode cX7_told 72 = .ok (.aaload, 1) := by decide +kernel
theorem dX7_told_73 : decode cX7_told 73 = .ok (.iload_n 1, 1) := by decide +kernel
theorem dX7_told_74 : decode cX7_told 74 = .ok (.bipush 10, 2) := by decide +kernel
theorem dX7_told_76 : decode cX7_told 76 = .ok (.irem, 1) := by decide +kernel
theorem dX7_told_77 : decode cX7_told 77 = .ok (.iaload, 1) := by decide +kernel
theorem dX7_told_78 : decode cX7_told 78 = .ok (.ireturn, 1) := by decide +kernel
theorem dX7_told_79 : decode cX7_told 79 = .ok (.iload_n 1, 1) := by decide +kernel
theorem dX7_told_80 : decode cX7_told 80 = .ok (.tableswitch 67 0 3 #[32, 40, 51, 59], 32) := by decide +kernel
theorem dX7_told_112 : decode cX7_told 112 = .ok (.aload_n 0, 1) := by decide +kernel
theorem dX7_told_113 : decode cX7_told 113 = .ok (.getfield 27, 3) := by decide +kernel
theorem dX7_told_116 : decode cX7_told 116 = .ok (.getfield 81, 3) := by decide +kernel
theorem dX7_told_119 : decode cX7_told 119 = .ok (.ireturn, 1) := by decide +kernel
theorem dX7_told_120 : decode cX7_told 120 = .ok (.aload_n 0, 1) := by decide +kernel
theorem dX7_told_121 : decode cX7_told 121 = .ok (.getfield 10, 3) := by decide +kernel
theorem dX7_told_124 : decode cX7_told 124 = .ok (.getfield 114, 3) := by decide +kernel
theorem dX7_told_127 : decode cX7_told 127 = .ok (.getfield 118, 3) := by decide +kernel
theorem dX7_told_130 : decode cX7_told 130 = .ok (.ireturn, 1) := by decide +kernel
theorem dX7_told_131 : decode cX7_told 131 = .ok (.aload_n 0, 1) := by decide +kernel
theorem dX7_told_132 : decode cX7_told 132 = .ok (.getfield 10, 3) := by decide +kernel
theorem dX7_told_135 : decode cX7_told 135 = .ok (.getfield 71, 3) := by decide +kernel
theorem dX7_told_138 : decode cX7_told 138 = .ok (.ireturn, 1) := by decide +kernel
theorem dX7_told_139 : decode cX7_told 139 = .ok (.aload_n 0, 1) := by decide +kernel
theorem dX7_told_140 : decode cX7_told 140 = .ok (.getfield 10, 3) := by decide +kernel
theorem dX7_told_143 : decode cX7_told 143 = .ok (.getfield 75, 3) := by decide +kernel
theorem dX7_told_146 : decode cX7_told 146 = .ok (.ireturn, 1) := by decide +kernel
theorem dX7_told_147 : decode cX7_told 147 = .ok (.bipush (-2), 2) := by decide +kernel
theorem dX7_told_149 : decode cX7_told 149 = .ok (.ireturn, 1) := by decide +kernel
theorem dX7_floorOf_0 : decode cX7_floorOf 0 = .ok (.iconst 0, 1) := by decide +kernel
theorem dX7_floorOf_1 : decode cX7_floorOf 1 = .ok (.istore_n 2, 1) := by decide +kernel
theorem dX7_floorOf_2 : decode cX7_floorOf 2 = .ok (.iconst 0, 1) := by decide +kernel
theorem dX7_floorOf_3 : decode cX7_floorOf 3 = .ok (.istore_n 3, 1) := by decide +kernel
theorem dX7_floorOf_4 : decode cX7_floorOf 4 = .ok (.iload_n 3, 1) := by decide +kernel
theorem dX7_floorOf_5 : decode cX7_floorOf 5 = .ok (.bipush 6, 2) := by decide +kernel
theorem dX7_floorOf_7 : decode cX7_floorOf 7 = .ok (.if_icmp .ge 31, 3) := by decide +kernel
theorem dX7_floorOf_10 : decode cX7_floorOf 10 = .ok (.iload_n 1, 1) := by decide +kernel
theorem dX7_floorOf_11 : decode cX7_floorOf 11 = .ok (.iload_n 3, 1) := by decide +kernel
theorem dX7_floorOf_12 : decode cX7_floorOf 12 = .ok (.invokestatic 209, 3) := by decide +kernel
theorem dX7_floorOf_15 : decode cX7_floorOf 15 = .ok (.ifCond .eq 17, 3) := by decide +kernel
theorem dX7_floorOf_18 : decode cX7_floorOf 18 = .ok (.iload_n 2, 1) := by decide +kernel
theorem dX7_floorOf_19 : decode cX7_floorOf 19 = .ok (.aload_n 0, 1) := by decide +kernel
theorem dX7_floorOf_20 : decode cX7_floorOf 20 = .ok (.getfield 10, 3) := by decide +kernel
theorem dX7_floorOf_23 : decode cX7_floorOf 23 = .ok (.getfield 67, 3) := by decide +kernel
theorem dX7_floorOf_26 : decode cX7_floorOf 26 = .ok (.iconst 0, 1) := by decide +kernel
theorem dX7_floorOf_27 : decode cX7_floorOf 27 = .ok (.aaload, 1) := by decide +kernel
theorem dX7_floorOf_28 : decode cX7_floorOf 28 = .ok (.iload_n 3, 1) := by decide +kernel
theorem dX7_floorOf_29 : decode cX7_floorOf 29 = .ok (.iaload, 1) := by decide +kernel
theorem dX7_floorOf_30 : decode cX7_floorOf 30 = .ok (.iadd, 1) := by decide +kernel
theorem dX7_floorOf_31 : decode cX7_floorOf 31 = .ok (.istore_n 2, 1) := by decide +kernel
theorem dX7_floorOf_32 : decode cX7_floorOf 32 = .ok (.iinc 3 1, 3) := by decide +kernel
theorem dX7_floorOf_35 : decode cX7_floorOf 35 = .ok (.goto (-31), 3) := by decide +kernel
theorem dX7_floorOf_38 : decode cX7_floorOf 38 = .ok (.iload_n 2, 1) := by decide +kernel
theorem dX7_floorOf_39 : decode cX7_floorOf 39 = .ok (.ifCond .eq 11, 3) := by decide +kernel
theorem dX7_floorOf_42 : decode cX7_floorOf 42 = .ok (.iload_n 1, 1) := by decide +kernel
theorem dX7_floorOf_43 : decode cX7_floorOf 43 = .ok (.invokestatic 204, 3) := by decide +kernel
theorem dX7_floorOf_46 : decode cX7_floorOf 46 = .ok (.iconst 1, 1) := by decide +kernel
theorem dX7_floorOf_47 : decode cX7_floorOf 47 = .ok (.if_icmp .ne 7, 3) := by decide +kernel
theorem dX7_floorOf_50 : decode cX7_floorOf 50 = .ok (.iload_n 2, 1) := by decide +kernel
theorem dX7_floorOf_51 : decode cX7_floorOf 51 = .ok (.goto 5, 3) := by decide +kernel
theorem dX7_floorOf_54 : decode cX7_floorOf 54 = .ok (.ldc 140, 2) := by decide +kernel
theorem dX7_floorOf_56 : decode cX7_floorOf 56 = .ok (.ireturn, 1) := by decide +kernel
theorem dX7_isOne_0 : decode cX7_isOne 0 = .ok (.iload_n 0, 1) := by decide +kernel
theorem dX7_isOne_1 : decode cX7_isOne 1 = .ok (.ifCond .lt 13, 3) := by decide +kernel
theorem dX7_isOne_4 : decode cX7_isOne 4 = .ok (.iload_n 0, 1) := by decide +kernel
theorem dX7_isOne_5 : decode cX7_isOne 5 = .ok (.bipush 6, 2) := by decide +kernel
theorem dX7_isOne_7 : decode cX7_isOne 7 = .ok (.if_icmp .ge 7, 3) := by decide +kernel
theorem dX7_isOne_10 : decode cX7_isOne 10 = .ok (.iconst 1, 1) := by decide +kernel
theorem dX7_isOne_11 : decode cX7_isOne 11 = .ok (.goto 4, 3) := by decide +kernel
theorem dX7_isOne_14 : decode cX7_isOne 14 = .ok (.iconst 0, 1) := by decide +kernel
theorem dX7_isOne_15 : decode cX7_isOne 15 = .ok (.ireturn, 1) := by decide +kernel
theorem dX7_isOneSign_0 : decode cX7_isOneSign 0 = .ok (.iload_n 0, 1) := by decide +kernel
theorem dX7_isOneSign_1 : decode cX7_isOneSign 1 = .ok (.bipush 97, 2) := by decide +kernel
theorem dX7_isOneSign_3 : decode cX7_isOneSign 3 = .ok (.isub, 1) := by decide +kernel
theorem dX7_isOneSign_4 : decode cX7_isOneSign 4 = .ok (.invokestatic 59, 3) := by decide +kernel
theorem dX7_isOneSign_7 : decode cX7_isOneSign 7 = .ok (.ireturn, 1) := by decide +kernel
theorem dX7_holds_0 : decode cX7_holds 0 = .ok (.iload_n 0, 1) := by decide +kernel
theorem dX7_holds_1 : decode cX7_holds 1 = .ok (.iload_n 1, 1) := by decide +kernel
theorem dX7_holds_2 : decode cX7_holds 2 = .ok (.ishr, 1) := by decide +kernel
theorem dX7_holds_3 : decode cX7_holds 3 = .ok (.iconst 1, 1) := by decide +kernel
theorem dX7_holds_4 : decode cX7_holds 4 = .ok (.iand, 1) := by decide +kernel
theorem dX7_holds_5 : decode cX7_holds 5 = .ok (.iconst 1, 1) := by decide +kernel
theorem dX7_holds_6 : decode cX7_holds 6 = .ok (.if_icmp .ne 7, 3) := by decide +kernel
theorem dX7_holds_9 : decode cX7_holds 9 = .ok (.iconst 1, 1) := by decide +kernel
theorem dX7_holds_10 : decode cX7_holds 10 = .ok (.goto 4, 3) := by decide +kernel
theorem dX7_holds_13 : decode cX7_holds 13 = .ok (.iconst 0, 1) := by decide +kernel
theorem dX7_holds_14 : decode cX7_holds 14 = .ok (.ireturn, 1) := by decide +kernel
theorem dX7_netOf_0 : decode cX7_netOf 0 = .ok (.iconst 0, 1) := by decide +kernel
theorem dX7_netOf_1 : decode cX7_netOf 1 = .ok (.istore_n 2, 1) := by decide +kernel
theorem dX7_netOf_2 : decode cX7_netOf 2 = .ok (.iconst 0, 1) := by decide +kernel
theorem dX7_netOf_3 : decode cX7_netOf 3 = .ok (.istore_n 3, 1) := by decide +kernel
theorem dX7_netOf_4 : decode cX7_netOf 4 = .ok (.iload_n 3, 1) := by decide +kernel
theorem dX7_netOf_5 : decode cX7_netOf 5 = .ok (.bipush 6, 2) := by decide +kernel
theorem dX7_netOf_7 : decode cX7_netOf 7 = .ok (.if_icmp .ge 23, 3) := by decide +kernel
theorem dX7_netOf_10 : decode cX7_netOf 10 = .ok (.iload_n 2, 1) := by decide +kernel
theorem dX7_netOf_11 : decode cX7_netOf 11 = .ok (.aload_n 0, 1) := by decide +kernel
theorem dX7_netOf_12 : decode cX7_netOf 12 = .ok (.iload_n 1, 1) := by decide +kernel
theorem dX7_netOf_13 : decode cX7_netOf 13 = .ok (.aaload, 1) := by decide +kernel
theorem dX7_netOf_14 : decode cX7_netOf 14 = .ok (.iload_n 3, 1) := by decide +kernel
theorem dX7_netOf_15 : decode cX7_netOf 15 = .ok (.iaload, 1) := by decide +kernel
theorem dX7_netOf_16 : decode cX7_netOf 16 = .ok (.aload_n 0, 1) := by decide +kernel
theorem dX7_netOf_17 : decode cX7_netOf 17 = .ok (.iload_n 3, 1) := by decide +kernel
theorem dX7_netOf_18 : decode cX7_netOf 18 = .ok (.aaload, 1) := by decide +kernel
theorem dX7_netOf_19 : decode cX7_netOf 19 = .ok (.iload_n 1, 1) := by decide +kernel
theorem dX7_netOf_20 : decode cX7_netOf 20 = .ok (.iaload, 1) := by decide +kernel
theorem dX7_netOf_21 : decode cX7_netOf 21 = .ok (.isub, 1) := by decide +kernel
theorem dX7_netOf_22 : decode cX7_netOf 22 = .ok (.iadd, 1) := by decide +kernel
theorem dX7_netOf_23 : decode cX7_netOf 23 = .ok (.istore_n 2, 1) := by decide +kernel
theorem dX7_netOf_24 : decode cX7_netOf 24 = .ok (.iinc 3 1, 3) := by decide +kernel
theorem dX7_netOf_27 : decode cX7_netOf 27 = .ok (.goto (-23), 3) := by decide +kernel
theorem dX7_netOf_30 : decode cX7_netOf 30 = .ok (.iload_n 2, 1) := by decide +kernel
theorem dX7_netOf_31 : decode cX7_netOf 31 = .ok (.ireturn, 1) := by decide +kernel
theorem dX7_copyRows_0 : decode cX7_copyRows 0 = .ok (.iconst 0, 1) := by decide +kernel
theorem dX7_copyRows_1 : decode cX7_copyRows 1 = .ok (.istore_n 3, 1) := by decide +kernel
theorem dX7_copyRows_2 : decode cX7_copyRows 2 = .ok (.iload_n 3, 1) := by decide +kernel
theorem dX7_copyRows_3 : decode cX7_copyRows 3 = .ok (.iload_n 2, 1) := by decide +kernel
theorem dX7_copyRows_4 : decode cX7_copyRows 4 = .ok (.if_icmp .ge 22, 3) := by decide +kernel
theorem dX7_copyRows_7 : decode cX7_copyRows 7 = .ok (.aload_n 0, 1) := by decide +kernel
theorem dX7_copyRows_8 : decode cX7_copyRows 8 = .ok (.iload_n 3, 1) := by decide +kernel
theorem dX7_copyRows_9 : decode cX7_copyRows 9 = .ok (.aaload, 1) := by decide +kernel
theorem dX7_copyRows_10 : decode cX7_copyRows 10 = .ok (.iconst 0, 1) := by decide +kernel
theorem dX7_copyRows_11 : decode cX7_copyRows 11 = .ok (.aload_n 1, 1) := by decide +kernel
theorem dX7_copyRows_12 : decode cX7_copyRows 12 = .ok (.iload_n 3, 1) := by decide +kernel
theorem dX7_copyRows_13 : decode cX7_copyRows 13 = .ok (.aaload, 1) := by decide +kernel
theorem dX7_copyRows_14 : decode cX7_copyRows 14 = .ok (.iconst 0, 1) := by decide +kernel
theorem dX7_copyRows_15 : decode cX7_copyRows 15 = .ok (.bipush 6, 2) := by decide +kernel
theorem dX7_copyRows_17 : decode cX7_copyRows 17 = .ok (.invokestatic 217, 3) := by decide +kernel
theorem dX7_copyRows_20 : decode cX7_copyRows 20 = .ok (.iinc 3 1, 3) := by decide +kernel
theorem dX7_copyRows_23 : decode cX7_copyRows 23 = .ok (.goto (-21), 3) := by decide +kernel
theorem dX7_copyRows_26 : decode cX7_copyRows 26 = .ok (.return_, 1) := by decide +kernel
theorem dX8_init_0 : decode cX8_init 0 = .ok (.aload_n 0, 1) := by decide +kernel
theorem dX8_init_1 : decode cX8_init 1 = .ok (.invokespecial 1, 3) := by decide +kernel
theorem dX8_init_4 : decode cX8_init 4 = .ok (.aload_n 0, 1) := by decide +kernel
theorem dX8_init_5 : decode cX8_init 5 = .ok (.bipush 24, 2) := by decide +kernel
theorem dX8_init_7 : decode cX8_init 7 = .ok (.newarray .int, 2) := by decide +kernel
theorem dX8_init_9 : decode cX8_init 9 = .ok (.putfield 7, 3) := by decide +kernel
theorem dX8_init_12 : decode cX8_init 12 = .ok (.aload_n 0, 1) := by decide +kernel
theorem dX8_init_13 : decode cX8_init 13 = .ok (.iconst 5, 1) := by decide +kernel
theorem dX8_init_14 : decode cX8_init 14 = .ok (.putfield 13, 3) := by decide +kernel
theorem dX8_init_17 : decode cX8_init 17 = .ok (.aload_n 0, 1) := by decide +kernel
theorem dX8_init_18 : decode cX8_init 18 = .ok (.iconst 2, 1) := by decide +kernel
theorem dX8_init_19 : decode cX8_init 19 = .ok (.putfield 17, 3) := by decide +kernel
theorem dX8_init_22 : decode cX8_init 22 = .ok (.aload_n 0, 1) := by decide +kernel
theorem dX8_init_23 : decode cX8_init 23 = .ok (.bipush 40, 2) := by decide +kernel
theorem dX8_init_25 : decode cX8_init 25 = .ok (.newarray .int, 2) := by decide +kernel
theorem dX8_init_27 : decode cX8_init 27 = .ok (.putfield 20, 3) := by decide +kernel
theorem dX8_init_30 : decode cX8_init 30 = .ok (.aload_n 0, 1) := by decide +kernel
theorem dX8_init_31 : decode cX8_init 31 = .ok (.bipush 24, 2) := by decide +kernel
theorem dX8_init_33 : decode cX8_init 33 = .ok (.newarray .int, 2) := by decide +kernel
theorem dX8_init_35 : decode cX8_init 35 = .ok (.putfield 23, 3) := by decide +kernel
theorem dX8_init_38 : decode cX8_init 38 = .ok (.aload_n 0, 1) := by decide +kernel
theorem dX8_init_39 : decode cX8_init 39 = .ok (.bipush 36, 2) := by decide +kernel
theorem dX8_init_41 : decode cX8_init 41 = .ok (.newarray .int, 2) := by decide +kernel
theorem dX8_init_43 : decode cX8_init 43 = .ok (.putfield 26, 3) := by decide +kernel
theorem dX8_init_46 : decode cX8_init 46 = .ok (.aload_n 0, 1) := by decide +kernel
theorem dX8_init_47 : decode cX8_init 47 = .ok (.bipush 24, 2) := by decide +kernel
theorem dX8_init_49 : decode cX8_init 49 = .ok (.newarray .int, 2) := by decide +kernel
theorem dX8_init_51 : decode cX8_init 51 = .ok (.putfield 29, 3) := by decide +kernel
theorem dX8_init_54 : decode cX8_init 54 = .ok (.aload_n 0, 1) := by decide +kernel
theorem dX8_init_55 : decode cX8_init 55 = .ok (.bipush 6, 2) := by decide +kernel
theorem dX8_init_57 : decode cX8_init 57 = .ok (.newarray .int, 2) := by decide +kernel
theorem dX8_init_59 : decode cX8_init 59 = .ok (.putfield 32, 3) := by decide +kernel
theorem dX8_init_62 : decode cX8_init 62 = .ok (.aload_n 0, 1) := by decide +kernel
theorem dX8_init_63 : decode cX8_init 63 = .ok (.bipush 6, 2) := by decide +kernel
theorem dX8_init_65 : decode cX8_init 65 = .ok (.newarray .int, 2) := by decide +kernel
theorem dX8_init_67 : decode cX8_init 67 = .ok (.putfield 35, 3) := by decide +kernel
theorem dX8_init_70 : decode cX8_init 70 = .ok (.aload_n 0, 1) := by decide +kernel
theorem dX8_init_71 : decode cX8_init 71 = .ok (.sipush 256, 3) := by decide +kernel
theorem dX8_init_74 : decode cX8_init 74 = .ok (.newarray .int, 2) := by decide +kernel
theorem dX8_init_76 : decode cX8_init 76 = .ok (.putfield 38, 3) := by decide +kernel
theorem dX8_init_79 : decode cX8_init 79 = .ok (.aload_n 0, 1) := by decide +kernel
theorem dX8_init_80 : decode cX8_init 80 = .ok (.iconst 4, 1) := by decide +kernel
theorem dX8_init_81 : decode cX8_init 81 = .ok (.newarray .int, 2) := by decide +kernel
theorem dX8_init_83 : decode cX8_init 83 = .ok (.putfield 41, 3) := by decide +kernel
theorem dX8_init_86 : decode cX8_init 86 = .ok (.aload_n 0, 1) := by decide +kernel
theorem dX8_init_87 : decode cX8_init 87 = .ok (.iconst 4, 1) := by decide +kernel
theorem dX8_init_88 : decode cX8_init 88 = .ok (.newarray .int, 2) := by decide +kernel
theorem dX8_init_90 : decode cX8_init 90 = .ok (.putfield 44, 3) := by decide +kernel
theorem dX8_init_93 : decode cX8_init 93 = .ok (.aload_n 0, 1) := by decide +kernel
theorem dX8_init_94 : decode cX8_init 94 = .ok (.bipush 64, 2) := by decide +kernel
theorem dX8_init_96 : decode cX8_init 96 = .ok (.newarray .int, 2) := by decide +kernel
theorem dX8_init_98 : decode cX8_init 98 = .ok (.putfield 47, 3) := by decide +kernel
theorem dX8_init_101 : decode cX8_init 101 = .ok (.aload_n 0, 1) := by decide +kernel
theorem dX8_init_102 : decode cX8_init 102 = .ok (.bipush 12, 2) := by decide +kernel
theorem dX8_init_104 : decode cX8_init 104 = .ok (.newarray .int, 2) := by decide +kernel
theorem dX8_init_106 : decode cX8_init 106 = .ok (.putfield 50, 3) := by decide +kernel
theorem dX8_init_109 : decode cX8_init 109 = .ok (.aload_n 0, 1) := by decide +kernel
theorem dX8_init_110 : decode cX8_init 110 = .ok (.bipush 6, 2) := by decide +kernel
theorem dX8_init_112 : decode cX8_init 112 = .ok (.newarray .int, 2) := by decide +kernel
theorem dX8_init_114 : decode cX8_init 114 = .ok (.putfield 53, 3) := by decide +kernel
theorem dX8_init_117 : decode cX8_init 117 = .ok (.aload_n 0, 1) := by decide +kernel
theorem dX8_init_118 : decode cX8_init 118 = .ok (.sipush 176, 3) := by decide +kernel
theorem dX8_init_121 : decode cX8_init 121 = .ok (.newarray .int, 2) := by decide +kernel
theorem dX8_init_123 : decode cX8_init 123 = .ok (.putfield 56, 3) := by decide +kernel
theorem dX8_init_126 : decode cX8_init 126 = .ok (.aload_n 0, 1) := by decide +kernel
theorem dX8_init_127 : decode cX8_init 127 = .ok (.iconst 2, 1) := by decide +kernel
theorem dX8_init_128 : decode cX8_init 128 = .ok (.newarray .boolean, 2) := by decide +kernel
theorem dX8_init_130 : decode cX8_init 130 = .ok (.putfield 59, 3) := by decide +kernel
theorem dX8_init_133 : decode cX8_init 133 = .ok (.iconst 0, 1) := by decide +kernel
theorem dX8_init_134 : decode cX8_init 134 = .ok (.istore_n 1, 1) := by decide +kernel
theorem dX8_init_135 : decode cX8_init 135 = .ok (.iload_n 1, 1) := by decide +kernel
theorem dX8_init_136 : decode cX8_init 136 = .ok (.bipush 6, 2) := by decide +kernel
theorem dX8_init_138 : decode cX8_init 138 = .ok (.if_icmp .ge 31, 3) := by decide +kernel
theorem dX8_init_141 : decode cX8_init 141 = .ok (.aload_n 0, 1) := by decide +kernel
theorem dX8_init_142 : decode cX8_init 142 = .ok (.getfield 7, 3) := by decide +kernel
theorem dX8_init_145 : decode cX8_init 145 = .ok (.iconst 4, 1) := by decide +kernel
theorem dX8_init_146 : decode cX8_init 146 = .ok (.iload_n 1, 1) := by decide +kernel
theorem dX8_init_147 : decode cX8_init 147 = .ok (.imul, 1) := by decide +kernel
theorem dX8_init_148 : decode cX8_init 148 = .ok (.iconst 1, 1) := by decide +kernel
theorem dX8_init_149 : decode cX8_init 149 = .ok (.iadd, 1) := by decide +kernel
theorem dX8_init_150 : decode cX8_init 150 = .ok (.iconst 1, 1) := by decide +kernel
theorem dX8_init_151 : decode cX8_init 151 = .ok (.iastore, 1) := by decide +kernel
theorem dX8_init_152 : decode cX8_init 152 = .ok (.aload_n 0, 1) := by decide +kernel
theorem dX8_init_153 : decode cX8_init 153 = .ok (.getfield 7, 3) := by decide +kernel
theorem dX8_init_156 : decode cX8_init 156 = .ok (.iconst 4, 1) := by decide +kernel
theorem dX8_init_157 : decode cX8_init 157 = .ok (.iload_n 1, 1) := by decide +kernel
theorem dX8_init_158 : decode cX8_init 158 = .ok (.imul, 1) := by decide +kernel
theorem dX8_init_159 : decode cX8_init 159 = .ok (.iconst 2, 1) := by decide +kernel
theorem dX8_init_160 : decode cX8_init 160 = .ok (.iadd, 1) := by decide +kernel
theorem dX8_init_161 : decode cX8_init 161 = .ok (.iconst 1, 1) := by decide +kernel
theorem dX8_init_162 : decode cX8_init 162 = .ok (.iastore, 1) := by decide +kernel
theorem dX8_init_163 : decode cX8_init 163 = .ok (.iinc 1 1, 3) := by decide +kernel
theorem dX8_init_166 : decode cX8_init 166 = .ok (.goto (-31), 3) := by decide +kernel
theorem dX8_init_169 : decode cX8_init 169 = .ok (.return_, 1) := by decide +kernel
theorem dX8_in_0 : decode cX8_in 0 = .ok (.iload_n 0, 1) := by decide +kernel
theorem dX8_in_1 : decode cX8_in 1 = .ok (.iload_n 1, 1) := by decide +kernel
theorem dX8_in_2 : decode cX8_in 2 = .ok (.if_icmp .lt 12, 3) := by decide +kernel
theorem dX8_in_5 : decode cX8_in 5 = .ok (.iload_n 0, 1) := by decide +kernel
theorem dX8_in_6 : decode cX8_in 6 = .ok (.iload_n 2, 1) := by decide +kernel
theorem dX8_in_7 : decode cX8_in 7 = .ok (.if_icmp .gt 7, 3) := by decide +kernel
theorem dX8_in_10 : decode cX8_in 10 = .ok (.iconst 1, 1) := by decide +kernel
theorem dX8_in_11 : decode cX8_in 11 = .ok (.goto 4, 3) := by decide +kernel
theorem dX8_in_14 : decode cX8_in 14 = .ok (.iconst 0, 1) := by decide +kernel
theorem dX8_in_15 : decode cX8_in 15 = .ok (.ireturn, 1) := by decide +kernel
theorem dX8_isOne_0 : decode cX8_isOne 0 = .ok (.iload_n 0, 1) := by decide +kernel
theorem dX8_isOne_1 : decode cX8_isOne 1 = .ok (.iconst 0, 1) := by decide +kernel
theorem dX8_isOne_2 : decode cX8_isOne 2 = .ok (.iconst 5, 1) := by decide +kernel
theorem dX8_isOne_3 : decode cX8_isOne 3 = .ok (.invokestatic 63, 3) := by decide +kernel
theorem dX8_isOne_6 : decode cX8_isOne 6 = .ok (.ireturn, 1) := by decide +kernel
theorem dX8_mostOf_0 : decode cX8_mostOf 0 = .ok (.iload_n 0, 1) := by decide +kernel
theorem dX8_mostOf_1 : decode cX8_mostOf 1 = .ok (.ifCond .ne 9, 3) := by decide +kernel
theorem dX8_mostOf_4 : decode cX8_mostOf 4 = .ok (.sipush 999, 3) := by decide +kernel
theorem dX8_mostOf_7 : decode cX8_mostOf 7 = .ok (.goto 14, 3) := by decide +kernel
theorem dX8_mostOf_10 : decode cX8_mostOf 10 = .ok (.iload_n 0, 1) := by decide +kernel
theorem dX8_mostOf_11 : decode cX8_mostOf 11 = .ok (.iconst 3, 1) := by decide +kernel
theorem dX8_mostOf_12 : decode cX8_mostOf 12 = .ok (.if_icmp .ne 8, 3) := by decide +kernel
theorem dX8_mostOf_15 : decode cX8_mostOf 15 = .ok (.bipush 99, 2) := by decide +kernel
theorem dX8_mostOf_17 : decode cX8_mostOf 17 = .ok (.goto 4, 3) := by decide +kernel
theorem dX8_mostOf_20 : decode cX8_mostOf 20 = .ok (.iconst 1, 1) := by decide +kernel
theorem dX8_mostOf_21 : decode cX8_mostOf 21 = .ok (.ireturn, 1) := by decide +kernel
theorem dX8_set_0 : decode cX8_set 0 = .ok (.iload_n 1, 1) := by decide +kernel
theorem dX8_set_1 : decode cX8_set 1 = .ok (.invokestatic 67, 3) := by decide +kernel
theorem dX8_set_4 : decode cX8_set 4 = .ok (.ifCond .ne 5, 3) := by decide +kernel
theorem dX8_set_7 : decode cX8_set 7 = .ok (.iconst (-1), 1) := by decide +kernel
theorem dX8_set_8 : decode cX8_set 8 = .ok (.ireturn, 1) := by decide +kernel
theorem dX8_set_9 : decode cX8_set 9 = .ok (.iload_n 2, 1) := by decide +kernel
theorem dX8_set_10 : decode cX8_set 10 = .ok (.iconst 0, 1) := by decide +kernel
theorem dX8_set_11 : decode cX8_set 11 = .ok (.iconst 3, 1) := by decide +kernel
theorem dX8_set_12 : decode cX8_set 12 = .ok (.invokestatic 63, 3) := by decide +kernel
theorem dX8_set_15 : decode cX8_set 15 = .ok (.ifCond .eq 15, 3) := by decide +kernel
theorem dX8_set_18 : decode cX8_set 18 = .ok (.iload_n 3, 1) := by decide +kernel
theorem dX8_set_19 : decode cX8_set 19 = .ok (.iconst 0, 1) := by decide +kernel
theorem dX8_set_20 : decode cX8_set 20 = .ok (.iload_n 2, 1) := by decide +kernel
theorem dX8_set_21 : decode cX8_set 21 = .ok (.invokestatic 71, 3) := by decide +kernel
theorem dX8_set_24 : decode cX8_set 24 = .ok (.invokestatic 63, 3) := by decide +kernel
theorem dX8_set_27 : decode cX8_set 27 = .ok (.ifCond .ne 6, 3) := by decide +kernel
theorem dX8_set_30 : decode cX8_set 30 = .ok (.bipush (-2), 2) := by decide +kernel
theorem dX8_set_32 : decode cX8_set 32 = .ok (.ireturn, 1) := by decide +kernel
theorem dX8_set_33 : decode cX8_set 33 = .ok (.aload_n 0, 1) := by decide +kernel
theorem dX8_set_34 : decode cX8_set 34 = .ok (.getfield 7, 3) := by decide +kernel
theorem dX8_set_37 : decode cX8_set 37 = .ok (.iconst 4, 1) := by decide +kernel
theorem dX8_set_38 : decode cX8_set 38 = .ok (.iload_n 1, 1) := by decide +kernel
theorem dX8_set_39 : decode cX8_set 39 = .ok (.imul, 1) := by decide +kernel
theorem dX8_set_40 : decode cX8_set 40 = .ok (.iload_n 2, 1) := by decide +kernel
theorem dX8_set_41 : decode cX8_set 41 = .ok (.iadd, 1) := by decide +kernel
theorem dX8_set_42 : decode cX8_set 42 = .ok (.iaload, 1) := by decide +kernel
theorem dX8_set_43 : decode cX8_set 43 = .ok (.istore 4, 2) := by decide +kernel
theorem dX8_set_45 : decode cX8_set 45 = .ok (.aload_n 0, 1) := by decide +kernel
theorem dX8_set_46 : decode cX8_set 46 = .ok (.getfield 7, 3) := by decide +kernel
theorem dX8_set_49 : decode cX8_set 49 = .ok (.iconst 4, 1) := by decide +kernel
theorem dX8_set_50 : decode cX8_set 50 = .ok (.iload_n 1, 1) := by decide +kernel
theorem dX8_set_51 : decode cX8_set 51 = .ok (.imul, 1) := by decide +kernel
theorem dX8_set_52 : decode cX8_set 52 = .ok (.iload_n 2, 1) := by decide +kernel
theorem dX8_set_53 : decode cX8_set 53 = .ok (.iadd, 1) := by decide +kernel
theorem dX8_set_54 : decode cX8_set 54 = .ok (.iload_n 3, 1) := by decide +kernel
theorem dX8_set_55 : decode cX8_set 55 = .ok (.iastore, 1) := by decide +kernel
theorem dX8_set_56 : decode cX8_set 56 = .ok (.iload 4, 2) := by decide +kernel
theorem dX8_set_58 : decode cX8_set 58 = .ok (.ireturn, 1) := by decide +kernel
theorem dX8_law_0 : decode cX8_law 0 = .ok (.iload_n 1, 1) := by decide +kernel
theorem dX8_law_1 : decode cX8_law 1 = .ok (.iconst 0, 1) := by decide +kernel
theorem dX8_law_2 : decode cX8_law 2 = .ok (.iconst 1, 1) := by decide +kernel
theorem dX8_law_3 : decode cX8_law 3 = .ok (.invokestatic 63, 3) := by decide +kernel
theorem dX8_law_6 : decode cX8_law 6 = .ok (.ifCond .eq 13, 3) := by decide +kernel
theorem dX8_law_9 : decode cX8_law 9 = .ok (.iload_n 2, 1) := by decide +kernel
theorem dX8_law_10 : decode cX8_law 10 = .ok (.iconst 0, 1) := by decide +kernel
theorem dX8_law_11 : decode cX8_law 11 = .ok (.bipush 99, 2) := by decide +kernel
theorem dX8_law_13 : decode cX8_law 13 = .ok (.invokestatic 63, 3) := by decide +kernel
theorem dX8_law_16 : decode cX8_law 16 = .ok (.ifCond .ne 6, 3) := by decide +kernel
theorem dX8_law_19 : decode cX8_law 19 = .ok (.bipush (-2), 2) := by decide +kernel
theorem dX8_law_21 : decode cX8_law 21 = .ok (.ireturn, 1) := by decide +kernel
theorem dX8_law_22 : decode cX8_law 22 = .ok (.iload_n 1, 1) := by decide +kernel
theorem dX8_law_23 : decode cX8_law 23 = .ok (.ifCond .ne 10, 3) := by decide +kernel
theorem dX8_law_26 : decode cX8_law 26 = .ok (.aload_n 0, 1) := by decide +kernel
theorem dX8_law_27 : decode cX8_law 27 = .ok (.getfield 13, 3) := by decide +kernel
theorem dX8_law_30 : decode cX8_law 30 = .ok (.goto 7, 3) := by decide +kernel
theorem dX8_law_33 : decode cX8_law 33 = .ok (.aload_n 0, 1) := by decide +kernel
theorem dX8_law_34 : decode cX8_law 34 = .ok (.getfield 17, 3) := by decide +kernel
theorem dX8_law_37 : decode cX8_law 37 = .ok (.istore_n 3, 1) := by decide +kernel
theorem dX8_law_38 : decode cX8_law 38 = .ok (.aload_n 0, 1) := by decide +kernel
theorem dX8_law_39 : decode cX8_law 39 = .ok (.iload_n 1, 1) := by decide +kernel
theorem dX8_law_40 : decode cX8_law 40 = .ok (.ifCond .ne 7, 3) := by decide +kernel
theorem dX8_law_43 : decode cX8_law 43 = .ok (.iload_n 2, 1) := by decide +kernel
theorem dX8_law_44 : decode cX8_law 44 = .ok (.goto 7, 3) := by decide +kernel
theorem dX8_law_47 : decode cX8_law 47 = .ok (.aload_n 0, 1) := by decide +kernel
theorem dX8_law_48 : decode cX8_law 48 = .ok (.getfield 13, 3) := by decide +kernel
theorem dX8_law_51 : decode cX8_law 51 = .ok (.putfield 13, 3) := by decide +kernel
theorem dX8_law_54 : decode cX8_law 54 = .ok (.aload_n 0, 1) := by decide +kernel
theorem dX8_law_55 : decode cX8_law 55 = .ok (.iload_n 1, 1) := by decide +kernel
theorem dX8_law_56 : decode cX8_law 56 = .ok (.iconst 1, 1) := by decide +kernel
theorem dX8_law_57 : decode cX8_law 57 = .ok (.if_icmp .ne 7, 3) := by decide +kernel
theorem dX8_law_60 : decode cX8_law 60 = .ok (.iload_n 2, 1) := by decide +kernel
theorem dX8_law_61 : decode cX8_law 61 = .ok (.goto 7, 3) := by decide +kernel
theorem dX8_law_64 : decode cX8_law 64 = .ok (.aload_n 0, 1) := by decide +kernel
theorem dX8_law_65 : decode cX8_law 65 = .ok (.getfield 17, 3) := by decide +kernel
theorem dX8_law_68 : decode cX8_law 68 = .ok (.putfield 17, 3) := by decide +kernel
theorem dX8_law_71 : decode cX8_law 71 = .ok (.iload_n 3, 1) := by decide +kernel
theorem dX8_law_72 : decode cX8_law 72 = .ok (.ireturn, 1) := by decide +kernel
theorem dX8_say_0 : decode cX8_say 0 = .ok (.iload_n 1, 1) := by decide +kernel
theorem dX8_say_1 : decode cX8_say 1 = .ok (.bipush 33, 2) := by decide +kernel
theorem dX8_say_3 : decode cX8_say 3 = .ok (.bipush 126, 2) := by decide +kernel
theorem dX8_say_5 : decode cX8_say 5 = .ok (.invokestatic 63, 3) := by decide +kernel
theorem dX8_say_8 : decode cX8_say 8 = .ok (.ifCond .ne 6, 3) := by decide +kernel
theorem dX8_say_11 : decode cX8_say 11 = .ok (.bipush (-2), 2) := by decide +kernel
theorem dX8_say_13 : decode cX8_say 13 = .ok (.ireturn, 1) := by decide +kernel
theorem dX8_say_14 : decode cX8_say 14 = .ok (.aload_n 0, 1) := by decide +kernel
theorem dX8_say_15 : decode cX8_say 15 = .ok (.getfield 75, 3) := by decide +kernel
theorem dX8_say_18 : decode cX8_say 18 = .ok (.bipush 40, 2) := by decide +kernel
theorem dX8_say_20 : decode cX8_say 20 = .ok (.if_icmp .ne 6, 3) := by decide +kernel
theorem dX8_say_23 : decode cX8_say 23 = .ok (.bipush (-4), 2) := by decide +kernel
theorem dX8_say_25 : decode cX8_say 25 = .ok (.ireturn, 1) := by decide +kernel
theorem dX8_say_26 : decode cX8_say 26 = .ok (.aload_n 0, 1) := by decide +kernel
theorem dX8_say_27 : decode cX8_say 27 = .ok (.getfield 20, 3) := by decide +kernel
theorem dX8_say_30 : decode cX8_say 30 = .ok (.aload_n 0, 1) := by decide +kernel
theorem dX8_say_31 : decode cX8_say 31 = .ok (.getfield 75, 3) := by decide +kernel
theorem dX8_say_34 : decode cX8_say 34 = .ok (.iload_n 1, 1) := by decide +kernel
theorem dX8_say_35 : decode cX8_say 35 = .ok (.iastore, 1) := by decide +kernel
theorem dX8_say_36 : decode cX8_say 36 = .ok (.aload_n 0, 1) := by decide +kernel
theorem dX8_say_37 : decode cX8_say 37 = .ok (.dup, 1) := by decide +kernel
theorem dX8_say_38 : decode cX8_say 38 = .ok (.getfield 75, 3) := by decide +kernel
theorem dX8_say_41 : decode cX8_say 41 = .ok (.iconst 1, 1) := by decide +kernel
theorem dX8_say_42 : decode cX8_say 42 = .ok (.iadd, 1) := by decide +kernel
theorem dX8_say_43 : decode cX8_say 43 = .ok (.putfield 75, 3) := by decide +kernel
theorem dX8_say_46 : decode cX8_say 46 = .ok (.aload_n 0, 1) := by decide +kernel
theorem dX8_say_47 : decode cX8_say 47 = .ok (.getfield 75, 3) := by decide +kernel
theorem dX8_say_50 : decode cX8_say 50 = .ok (.ireturn, 1) := by decide +kernel
theorem dX8_wipe_0 : decode cX8_wipe 0 = .ok (.aload_n 0, 1) := by decide +kernel
theorem dX8_wipe_1 : decode cX8_wipe 1 = .ok (.getfield 75, 3) := by decide +kernel
theorem dX8_wipe_4 : decode cX8_wipe 4 = .ok (.istore_n 1, 1) := by decide +kernel
theorem dX8_wipe_5 : decode cX8_wipe 5 = .ok (.aload_n 0, 1) := by decide +kernel
theorem dX8_wipe_6 : decode cX8_wipe 6 = .ok (.iconst 0, 1) := by decide +kernel
theorem dX8_wipe_7 : decode cX8_wipe 7 = .ok (.putfield 75, 3) := by decide +kernel
theorem dX8_wipe_10 : decode cX8_wipe 10 = .ok (.iload_n 1, 1) := by decide +kernel
theorem dX8_wipe_11 : decode cX8_wipe 11 = .ok (.ireturn, 1) := by decide +kernel
theorem dX8_isName_0 : decode cX8_isName 0 = .ok (.iload_n 0, 1) := by decide +kernel
theorem dX8_isName_1 : decode cX8_isName 1 = .ok (.bipush 97, 2) := by decide +kernel
theorem dX8_isName_3 : decode cX8_isName 3 = .ok (.bipush 102, 2) := by decide +kernel
theorem dX8_isName_5 : decode cX8_isName 5 = .ok (.invokestatic 63, 3) := by decide +kernel
theorem dX8_isName_8 : decode cX8_isName 8 = .ok (.ireturn, 1) := by decide +kernel
theorem dX8_isAct_0 : decode cX8_isAct 0 = .ok (.iload_n 0, 1) := by decide +kernel
theorem dX8_isAct_1 : decode cX8_isAct 1 = .ok (.bipush 122, 2) := by decide +kernel
theorem dX8_isAct_3 : decode cX8_isAct 3 = .ok (.if_icmp .eq 27, 3) := by decide +kernel
theorem dX8_isAct_6 : decode cX8_isAct 6 = .ok (.iload_n 0, 1) := by decide +kernel
theorem dX8_isAct_7 : decode cX8_isAct 7 = .ok (.bipush 121, 2) := by decide +kernel
theorem dX8_isAct_9 : decode cX8_isAct 9 = .ok (.if_icmp .eq 21, 3) := by decide +kernel
theorem dX8_isAct_12 : decode cX8_isAct 12 = .ok (.iload_n 0, 1) := by decide +kernel
theorem dX8_isAct_13 : decode cX8_isAct 13 = .ok (.bipush 120, 2) := by decide +kernel
theorem dX8_isAct_15 : decode cX8_isAct 15 = .ok (.if_icmp .eq 15, 3) := by decide +kernel
theorem dX8_isAct_18 : decode cX8_isAct 18 = .ok (.iload_n 0, 1) := by decide +kernel
theorem dX8_isAct_19 : decode cX8_isAct 19 = .ok (.bipush 105, 2) := by decide +kernel
theorem dX8_isAct_21 : decode cX8_isAct 21 = .ok (.if_icmp .eq 9, 3) := by decide +kernel
theorem dX8_isAct_24 : decode cX8_isAct 24 = .ok (.iload_n 0, 1) := by decide +kernel
theorem dX8_isAct_25 : decode cX8_isAct 25 = .ok (.bipush 107, 2) := by decide +kernel
theorem dX8_isAct_27 : decode cX8_isAct 27 = .ok (.if_icmp .ne 7, 3) := by decide +kernel
theorem dX8_isAct_30 : decode cX8_isAct 30 = .ok (.iconst 1, 1) := by decide +kernel
theorem dX8_isAct_31 : decode cX8_isAct 31 = .ok (.goto 4, 3) := by decide +kernel
theorem dX8_isAct_34 : decode cX8_isAct 34 = .ok (.iconst 0, 1) := by decide +kernel
theorem dX8_isAct_35 : decode cX8_isAct 35 = .ok (.ireturn, 1) := by decide +kernel
theorem dX8_sittingFault_0 : decode cX8_sittingFault 0 = .ok (.iconst 0, 1) := by decide +kernel
theorem dX8_sittingFault_1 : decode cX8_sittingFault 1 = .ok (.istore_n 1, 1) := by decide +kernel
theorem dX8_sittingFault_2 : decode cX8_sittingFault 2 = .ok (.iconst 0, 1) := by decide +kernel
theorem dX8_sittingFault_3 : decode cX8_sittingFault 3 = .ok (.istore_n 2, 1) := by decide +kernel
theorem dX8_sittingFault_4 : decode cX8_sittingFault 4 = .ok (.iload_n 2, 1) := by decide +kernel
theorem dX8_sittingFault_5 : decode cX8_sittingFault 5 = .ok (.aload_n 0, 1) := by decide +kernel
theorem dX8_sittingFault_6 : decode cX8_sittingFault 6 = .ok (.getfield 75, 3) := by decide +kernel
theorem dX8_sittingFault_9 : decode cX8_sittingFault 9 = .ok (.if_icmp .ge 179, 3) := by decide +kernel
theorem dX8_sittingFault_12 : decode cX8_sittingFault 12 = .ok (.aload_n 0, 1) := by decide +kernel
theorem dX8_sittingFault_13 : decode cX8_sittingFault 13 = .ok (.getfield 20, 3) := by decide +kernel
theorem dX8_sittingFault_16 : decode cX8_sittingFault 16 = .ok (.iload_n 2, 1) := by decide +kernel
theorem dX8_sittingFault_17 : decode cX8_sittingFault 17 = .ok (.iaload, 1) := by decide +kernel
theorem dX8_sittingFault_18 : decode cX8_sittingFault 18 = .ok (.istore_n 3, 1) := by decide +kernel
theorem dX8_sittingFault_19 : decode cX8_sittingFault 19 = .ok (.bipush (-6), 2) := by decide +kernel
theorem dX8_sittingFault_21 : decode cX8_sittingFault 21 = .ok (.istore 4, 2) := by decide +kernel
theorem dX8_sittingFault_23 : decode cX8_sittingFault 23 = .ok (.iload_n 1, 1) := by decide +kernel
theorem dX8_sittingFault_24 : decode cX8_sittingFault 24 = .ok (.ifCond .ne 48, 3) := by decide +kernel
theorem dX8_sittingFault_27 : decode cX8_sittingFault 27 = .ok (.iload_n 3, 1) := by decide +kernel
theorem dX8_sittingFault_28 : decode cX8_sittingFault 28 = .ok (.invokestatic 78, 3) := by decide +kernel
theorem dX8_sittingFault_31 : decode cX8_sittingFault 31 = .ok (.ifCond .ne 9, 3) := by decide +kernel
theorem dX8_sittingFault_34 : decode cX8_sittingFault 34 = .ok (.iload_n 3, 1) := by decide +kernel
theorem dX8_sittingFault_35 : decode cX8_sittingFault 35 = .ok (.bipush 46, 2) := by decide +kernel
theorem dX8_sittingFault_37 : decode cX8_sittingFault 37 = .ok (.if_icmp .ne 7, 3) := by decide +kernel
theorem dX8_sittingFault_40 : decode cX8_sittingFault 40 = .ok (.iconst 1, 1) := by decide +kernel
theorem dX8_sittingFault_41 : decode cX8_sittingFault 41 = .ok (.goto 26, 3) := by decide +kernel
theorem dX8_sittingFault_44 : decode cX8_sittingFault 44 = .ok (.iload_n 3, 1) := by decide +kernel
theorem dX8_sittingFault_45 : decode cX8_sittingFault 45 = .ok (.invokestatic 81, 3) := by decide +kernel
theorem dX8_sittingFault_48 : decode cX8_sittingFault 48 = .ok (.ifCond .eq 7, 3) := by decide +kernel
theorem dX8_sittingFault_51 : decode cX8_sittingFault 51 = .ok (.iconst 2, 1) := by decide +kernel
theorem dX8_sittingFault_52 : decode cX8_sittingFault 52 = .ok (.goto 15, 3) := by decide +kernel
theorem dX8_sittingFault_55 : decode cX8_sittingFault 55 = .ok (.iload_n 3, 1) := by decide +kernel
theorem dX8_sittingFault_56 : decode cX8_sittingFault 56 = .ok (.bipush 63, 2) := by decide +kernel
theorem dX8_sittingFault_58 : decode cX8_sittingFault 58 = .ok (.if_icmp .ne 7, 3) := by decide +kernel
theorem dX8_sittingFault_61 : decode cX8_sittingFault 61 = .ok (.iconst 3, 1) := by decide +kernel
theorem dX8_sittingFault_62 : decode cX8_sittingFault 62 = .ok (.goto 5, 3) := by decide +kernel
theorem dX8_sittingFault_65 : decode cX8_sittingFault 65 = .ok (.bipush (-6), 2) := by decide +kernel
theorem dX8_sittingFault_67 : decode cX8_sittingFault 67 = .ok (.istore 4, 2) := by decide +kernel
theorem dX8_sittingFault_69 : decode cX8_sittingFault 69 = .ok (.goto 103, 3) := by decide +kernel
theorem dX8_sittingFault_72 : decode cX8_sittingFault 72 = .ok (.iload_n 1, 1) := by decide +kernel
theorem dX8_sittingFault_73 : decode cX8_sittingFault 73 = .ok (.iconst 1, 1) := by decide +kernel
theorem dX8_sittingFault_74 : decode cX8_sittingFault 74 = .ok (.if_icmp .ne 25, 3) := by decide +kernel
theorem dX8_sittingFault_77 : decode cX8_sittingFault 77 = .ok (.iload_n 3, 1) := by decide +kernel
theorem dX8_sittingFault_78 : decode cX8_sittingFault 78 = .ok (.bipush 49, 2) := by decide +kernel
theorem dX8_sittingFault_80 : decode cX8_sittingFault 80 = .ok (.bipush 57, 2) := by decide +kernel
theorem dX8_sittingFault_82 : decode cX8_sittingFault 82 = .ok (.invokestatic 63, 3) := by decide +kernel
theorem dX8_sittingFault_85 : decode cX8_sittingFault 85 = .ok (.ifCond .eq 7, 3) := by decide +kernel
theorem dX8_sittingFault_88 : decode cX8_sittingFault 88 = .ok (.iconst 0, 1) := by decide +kernel
theorem dX8_sittingFault_89 : decode cX8_sittingFault 89 = .ok (.goto 5, 3) := by decide +kernel
theorem dX8_sittingFault_92 : decode cX8_sittingFault 92 = .ok (.bipush (-6), 2) := by decide +kernel
theorem dX8_sittingFault_94 : decode cX8_sittingFault 94 = .ok (.istore 4, 2) := by decide +kernel
theorem dX8_sittingFault_96 : decode cX8_sittingFault 96 = .ok (.goto 76, 3) := by decide +kernel
theorem dX8_sittingFault_99 : decode cX8_sittingFault 99 = .ok (.iload_n 1, 1) := by decide +kernel
theorem dX8_sittingFault_100 : decode cX8_sittingFault 100 = .ok (.iconst 2, 1) := by decide +kernel
theorem dX8_sittingFault_101 : decode cX8_sittingFault 101 = .ok (.if_icmp .ne 21, 3) := by decide +kernel
theorem dX8_sittingFault_104 : decode cX8_sittingFault 104 = .ok (.iload_n 3, 1) := by decide +kernel
theorem dX8_sittingFault_105 : decode cX8_sittingFault 105 = .ok (.invokestatic 78, 3) := by decide +kernel
theorem dX8_sittingFault_108 : decode cX8_sittingFault 108 = .ok (.ifCond .eq 7, 3) := by decide +kernel
theorem dX8_sittingFault_111 : decode cX8_sittingFault 111 = .ok (.iconst 0, 1) := by decide +kernel
theorem dX8_sittingFault_112 : decode cX8_sittingFault 112 = .ok (.goto 5, 3) := by decide +kernel
theorem dX8_sittingFault_115 : decode cX8_sittingFault 115 = .ok (.bipush (-6), 2) := by decide +kernel
theorem dX8_sittingFault_117 : decode cX8_sittingFault 117 = .ok (.istore 4, 2) := by decide +kernel
theorem dX8_sittingFault_119 : decode cX8_sittingFault 119 = .ok (.goto 53, 3) := by decide +kernel
theorem dX8_sittingFault_122 : decode cX8_sittingFault 122 = .ok (.iload_n 1, 1) := by decide +kernel
theorem dX8_sittingFault_123 : decode cX8_sittingFault 123 = .ok (.iconst 3, 1) := by decide +kernel
theorem dX8_sittingFault_124 : decode cX8_sittingFault 124 = .ok (.if_icmp .ne 21, 3) := by decide +kernel
theorem dX8_sittingFault_127 : decode cX8_sittingFault 127 = .ok (.iload_n 3, 1) := by decide +kernel
end
section
theorem dX8_sittingFault_128 : decode cX8_sittingFault 128 = .ok (.invokestatic 78, 3) := by decide +kernel
theorem dX8_sittingFault_131 : decode cX8_sittingFault 131 = .ok (.ifCond .eq 7, 3) := by decide +kernel
theorem dX8_sittingFault_134 : decode cX8_sittingFault 134 = .ok (.iconst 4, 1) := by decide +kernel
theorem dX8_sittingFault_135 : decode cX8_sittingFault 135 = .ok (.goto 5, 3) := by decide +kernel
theorem dX8_sittingFault_138 : decode cX8_sittingFault 138 = .ok (.bipush (-6), 2) := by decide +kernel
theorem dX8_sittingFault_140 : decode cX8_sittingFault 140 = .ok (.istore 4, 2) := by decide +kernel
theorem dX8_sittingFault_142 : decode cX8_sittingFault 142 = .ok (.goto 30, 3) := by decide +kernel
theorem dX8_sittingFault_145 : decode cX8_sittingFault 145 = .ok (.iload_n 3, 1) := by decide +kernel
theorem dX8_sittingFault_146 : decode cX8_sittingFault 146 = .ok (.invokestatic 78, 3) := by decide +kernel
theorem dX8_sittingFault_149 : decode cX8_sittingFault 149 = .ok (.ifCond .eq 19, 3) := by decide +kernel
theorem dX8_sittingFault_152 : decode cX8_sittingFault 152 = .ok (.iload_n 3, 1) := by decide +kernel
theorem dX8_sittingFault_153 : decode cX8_sittingFault 153 = .ok (.aload_n 0, 1) := by decide +kernel
theorem dX8_sittingFault_154 : decode cX8_sittingFault 154 = .ok (.getfield 20, 3) := by decide +kernel
theorem dX8_sittingFault_157 : decode cX8_sittingFault 157 = .ok (.iload_n 2, 1) := by decide +kernel
theorem dX8_sittingFault_158 : decode cX8_sittingFault 158 = .ok (.iconst 1, 1) := by decide +kernel
theorem dX8_sittingFault_159 : decode cX8_sittingFault 159 = .ok (.isub, 1) := by decide +kernel
theorem dX8_sittingFault_160 : decode cX8_sittingFault 160 = .ok (.iaload, 1) := by decide +kernel
theorem dX8_sittingFault_161 : decode cX8_sittingFault 161 = .ok (.if_icmp .eq 7, 3) := by decide +kernel
theorem dX8_sittingFault_164 : decode cX8_sittingFault 164 = .ok (.iconst 0, 1) := by decide +kernel
theorem dX8_sittingFault_165 : decode cX8_sittingFault 165 = .ok (.goto 5, 3) := by decide +kernel
theorem dX8_sittingFault_168 : decode cX8_sittingFault 168 = .ok (.bipush (-6), 2) := by decide +kernel
theorem dX8_sittingFault_170 : decode cX8_sittingFault 170 = .ok (.istore 4, 2) := by decide +kernel
theorem dX8_sittingFault_172 : decode cX8_sittingFault 172 = .ok (.iload 4, 2) := by decide +kernel
theorem dX8_sittingFault_174 : decode cX8_sittingFault 174 = .ok (.ifCond .ge 5, 3) := by decide +kernel
theorem dX8_sittingFault_177 : decode cX8_sittingFault 177 = .ok (.iload_n 2, 1) := by decide +kernel
theorem dX8_sittingFault_178 : decode cX8_sittingFault 178 = .ok (.ireturn, 1) := by decide +kernel
theorem dX8_sittingFault_179 : decode cX8_sittingFault 179 = .ok (.iload 4, 2) := by decide +kernel
theorem dX8_sittingFault_181 : decode cX8_sittingFault 181 = .ok (.istore_n 1, 1) := by decide +kernel
theorem dX8_sittingFault_182 : decode cX8_sittingFault 182 = .ok (.iinc 2 1, 3) := by decide +kernel
theorem dX8_sittingFault_185 : decode cX8_sittingFault 185 = .ok (.goto (-181), 3) := by decide +kernel
theorem dX8_sittingFault_188 : decode cX8_sittingFault 188 = .ok (.iload_n 1, 1) := by decide +kernel
theorem dX8_sittingFault_189 : decode cX8_sittingFault 189 = .ok (.ifCond .ne 8, 3) := by decide +kernel
theorem dX8_sittingFault_192 : decode cX8_sittingFault 192 = .ok (.bipush (-6), 2) := by decide +kernel
theorem dX8_sittingFault_194 : decode cX8_sittingFault 194 = .ok (.goto 7, 3) := by decide +kernel
theorem dX8_sittingFault_197 : decode cX8_sittingFault 197 = .ok (.aload_n 0, 1) := by decide +kernel
theorem dX8_sittingFault_198 : decode cX8_sittingFault 198 = .ok (.getfield 75, 3) := by decide +kernel
theorem dX8_sittingFault_201 : decode cX8_sittingFault 201 = .ok (.ireturn, 1) := by decide +kernel
theorem dX8_bookFault_0 : decode cX8_bookFault 0 = .ok (.iconst 0, 1) := by decide +kernel
theorem dX8_bookFault_1 : decode cX8_bookFault 1 = .ok (.istore_n 1, 1) := by decide +kernel
theorem dX8_bookFault_2 : decode cX8_bookFault 2 = .ok (.iconst 0, 1) := by decide +kernel
theorem dX8_bookFault_3 : decode cX8_bookFault 3 = .ok (.istore_n 2, 1) := by decide +kernel
theorem dX8_bookFault_4 : decode cX8_bookFault 4 = .ok (.iload_n 2, 1) := by decide +kernel
theorem dX8_bookFault_5 : decode cX8_bookFault 5 = .ok (.aload_n 0, 1) := by decide +kernel
theorem dX8_bookFault_6 : decode cX8_bookFault 6 = .ok (.getfield 75, 3) := by decide +kernel
theorem dX8_bookFault_9 : decode cX8_bookFault 9 = .ok (.if_icmp .ge 75, 3) := by decide +kernel
theorem dX8_bookFault_12 : decode cX8_bookFault 12 = .ok (.iload_n 1, 1) := by decide +kernel
theorem dX8_bookFault_13 : decode cX8_bookFault 13 = .ok (.aload_n 0, 1) := by decide +kernel
theorem dX8_bookFault_14 : decode cX8_bookFault 14 = .ok (.getfield 20, 3) := by decide +kernel
theorem dX8_bookFault_17 : decode cX8_bookFault 17 = .ok (.iload_n 2, 1) := by decide +kernel
theorem dX8_bookFault_18 : decode cX8_bookFault 18 = .ok (.iaload, 1) := by decide +kernel
theorem dX8_bookFault_19 : decode cX8_bookFault 19 = .ok (.bipush 42, 2) := by decide +kernel
theorem dX8_bookFault_21 : decode cX8_bookFault 21 = .ok (.if_icmp .ne 7, 3) := by decide +kernel
theorem dX8_bookFault_24 : decode cX8_bookFault 24 = .ok (.iconst 1, 1) := by decide +kernel
theorem dX8_bookFault_25 : decode cX8_bookFault 25 = .ok (.goto 4, 3) := by decide +kernel
theorem dX8_bookFault_28 : decode cX8_bookFault 28 = .ok (.iconst 0, 1) := by decide +kernel
theorem dX8_bookFault_29 : decode cX8_bookFault 29 = .ok (.iadd, 1) := by decide +kernel
theorem dX8_bookFault_30 : decode cX8_bookFault 30 = .ok (.istore_n 1, 1) := by decide +kernel
theorem dX8_bookFault_31 : decode cX8_bookFault 31 = .ok (.iload_n 2, 1) := by decide +kernel
theorem dX8_bookFault_32 : decode cX8_bookFault 32 = .ok (.bipush 12, 2) := by decide +kernel
theorem dX8_bookFault_34 : decode cX8_bookFault 34 = .ok (.if_icmp .eq 42, 3) := by decide +kernel
theorem dX8_bookFault_37 : decode cX8_bookFault 37 = .ok (.iload_n 1, 1) := by decide +kernel
theorem dX8_bookFault_38 : decode cX8_bookFault 38 = .ok (.iconst 5, 1) := by decide +kernel
theorem dX8_bookFault_39 : decode cX8_bookFault 39 = .ok (.if_icmp .gt 37, 3) := by decide +kernel
theorem dX8_bookFault_42 : decode cX8_bookFault 42 = .ok (.aload_n 0, 1) := by decide +kernel
theorem dX8_bookFault_43 : decode cX8_bookFault 43 = .ok (.getfield 20, 3) := by decide +kernel
theorem dX8_bookFault_46 : decode cX8_bookFault 46 = .ok (.iload_n 2, 1) := by decide +kernel
theorem dX8_bookFault_47 : decode cX8_bookFault 47 = .ok (.iaload, 1) := by decide +kernel
theorem dX8_bookFault_48 : decode cX8_bookFault 48 = .ok (.invokestatic 78, 3) := by decide +kernel
theorem dX8_bookFault_51 : decode cX8_bookFault 51 = .ok (.ifCond .ne 27, 3) := by decide +kernel
theorem dX8_bookFault_54 : decode cX8_bookFault 54 = .ok (.aload_n 0, 1) := by decide +kernel
theorem dX8_bookFault_55 : decode cX8_bookFault 55 = .ok (.getfield 20, 3) := by decide +kernel
theorem dX8_bookFault_58 : decode cX8_bookFault 58 = .ok (.iload_n 2, 1) := by decide +kernel
theorem dX8_bookFault_59 : decode cX8_bookFault 59 = .ok (.iaload, 1) := by decide +kernel
theorem dX8_bookFault_60 : decode cX8_bookFault 60 = .ok (.bipush 46, 2) := by decide +kernel
theorem dX8_bookFault_62 : decode cX8_bookFault 62 = .ok (.if_icmp .eq 16, 3) := by decide +kernel
theorem dX8_bookFault_65 : decode cX8_bookFault 65 = .ok (.aload_n 0, 1) := by decide +kernel
theorem dX8_bookFault_66 : decode cX8_bookFault 66 = .ok (.getfield 20, 3) := by decide +kernel
theorem dX8_bookFault_69 : decode cX8_bookFault 69 = .ok (.iload_n 2, 1) := by decide +kernel
theorem dX8_bookFault_70 : decode cX8_bookFault 70 = .ok (.iaload, 1) := by decide +kernel
theorem dX8_bookFault_71 : decode cX8_bookFault 71 = .ok (.bipush 42, 2) := by decide +kernel
theorem dX8_bookFault_73 : decode cX8_bookFault 73 = .ok (.if_icmp .eq 5, 3) := by decide +kernel
theorem dX8_bookFault_76 : decode cX8_bookFault 76 = .ok (.iload_n 2, 1) := by decide +kernel
theorem dX8_bookFault_77 : decode cX8_bookFault 77 = .ok (.ireturn, 1) := by decide +kernel
theorem dX8_bookFault_78 : decode cX8_bookFault 78 = .ok (.iinc 2 1, 3) := by decide +kernel
theorem dX8_bookFault_81 : decode cX8_bookFault 81 = .ok (.goto (-77), 3) := by decide +kernel
theorem dX8_bookFault_84 : decode cX8_bookFault 84 = .ok (.aload_n 0, 1) := by decide +kernel
theorem dX8_bookFault_85 : decode cX8_bookFault 85 = .ok (.getfield 75, 3) := by decide +kernel
theorem dX8_bookFault_88 : decode cX8_bookFault 88 = .ok (.ifCond .ne 7, 3) := by decide +kernel
theorem dX8_bookFault_91 : decode cX8_bookFault 91 = .ok (.iconst 0, 1) := by decide +kernel
theorem dX8_bookFault_92 : decode cX8_bookFault 92 = .ok (.goto 5, 3) := by decide +kernel
theorem dX8_bookFault_95 : decode cX8_bookFault 95 = .ok (.bipush (-6), 2) := by decide +kernel
theorem dX8_bookFault_97 : decode cX8_bookFault 97 = .ok (.ireturn, 1) := by decide +kernel
theorem dX8_fault_0 : decode cX8_fault 0 = .ok (.iload_n 1, 1) := by decide +kernel
theorem dX8_fault_1 : decode cX8_fault 1 = .ok (.ifCond .ne 10, 3) := by decide +kernel
theorem dX8_fault_4 : decode cX8_fault 4 = .ok (.aload_n 0, 1) := by decide +kernel
theorem dX8_fault_5 : decode cX8_fault 5 = .ok (.invokevirtual 84, 3) := by decide +kernel
theorem dX8_fault_8 : decode cX8_fault 8 = .ok (.goto 17, 3) := by decide +kernel
theorem dX8_fault_11 : decode cX8_fault 11 = .ok (.iload_n 1, 1) := by decide +kernel
theorem dX8_fault_12 : decode cX8_fault 12 = .ok (.iconst 1, 1) := by decide +kernel
theorem dX8_fault_13 : decode cX8_fault 13 = .ok (.if_icmp .ne 10, 3) := by decide +kernel
theorem dX8_fault_16 : decode cX8_fault 16 = .ok (.aload_n 0, 1) := by decide +kernel
theorem dX8_fault_17 : decode cX8_fault 17 = .ok (.invokevirtual 88, 3) := by decide +kernel
theorem dX8_fault_20 : decode cX8_fault 20 = .ok (.goto 5, 3) := by decide +kernel
theorem dX8_fault_23 : decode cX8_fault 23 = .ok (.bipush (-2), 2) := by decide +kernel
theorem dX8_fault_25 : decode cX8_fault 25 = .ok (.ireturn, 1) := by decide +kernel
theorem dX8_listens_0 : decode cX8_listens 0 = .ok (.aload_n 0, 1) := by decide +kernel
theorem dX8_listens_1 : decode cX8_listens 1 = .ok (.getfield 29, 3) := by decide +kernel
theorem dX8_listens_4 : decode cX8_listens 4 = .ok (.iconst 4, 1) := by decide +kernel
theorem dX8_listens_5 : decode cX8_listens 5 = .ok (.iload_n 1, 1) := by decide +kernel
theorem dX8_listens_6 : decode cX8_listens 6 = .ok (.imul, 1) := by decide +kernel
theorem dX8_listens_7 : decode cX8_listens 7 = .ok (.iconst 1, 1) := by decide +kernel
theorem dX8_listens_8 : decode cX8_listens 8 = .ok (.iadd, 1) := by decide +kernel
theorem dX8_listens_9 : decode cX8_listens 9 = .ok (.iaload, 1) := by decide +kernel
theorem dX8_listens_10 : decode cX8_listens 10 = .ok (.iconst 1, 1) := by decide +kernel
theorem dX8_listens_11 : decode cX8_listens 11 = .ok (.if_icmp .ne 21, 3) := by decide +kernel
theorem dX8_listens_14 : decode cX8_listens 14 = .ok (.aload_n 0, 1) := by decide +kernel
theorem dX8_listens_15 : decode cX8_listens 15 = .ok (.getfield 29, 3) := by decide +kernel
theorem dX8_listens_18 : decode cX8_listens 18 = .ok (.iconst 4, 1) := by decide +kernel
theorem dX8_listens_19 : decode cX8_listens 19 = .ok (.iload_n 1, 1) := by decide +kernel
theorem dX8_listens_20 : decode cX8_listens 20 = .ok (.imul, 1) := by decide +kernel
theorem dX8_listens_21 : decode cX8_listens 21 = .ok (.iconst 2, 1) := by decide +kernel
theorem dX8_listens_22 : decode cX8_listens 22 = .ok (.iadd, 1) := by decide +kernel
theorem dX8_listens_23 : decode cX8_listens 23 = .ok (.iaload, 1) := by decide +kernel
theorem dX8_listens_24 : decode cX8_listens 24 = .ok (.iconst 1, 1) := by decide +kernel
theorem dX8_listens_25 : decode cX8_listens 25 = .ok (.if_icmp .ne 7, 3) := by decide +kernel
theorem dX8_listens_28 : decode cX8_listens 28 = .ok (.iconst 1, 1) := by decide +kernel
theorem dX8_listens_29 : decode cX8_listens 29 = .ok (.goto 4, 3) := by decide +kernel
theorem dX8_listens_32 : decode cX8_listens 32 = .ok (.iconst 0, 1) := by decide +kernel
theorem dX8_listens_33 : decode cX8_listens 33 = .ok (.ireturn, 1) := by decide +kernel
theorem dX8_save_0 : decode cX8_save 0 = .ok (.iconst 0, 1) := by decide +kernel
theorem dX8_save_1 : decode cX8_save 1 = .ok (.istore_n 2, 1) := by decide +kernel
theorem dX8_save_2 : decode cX8_save 2 = .ok (.iload_n 2, 1) := by decide +kernel
theorem dX8_save_3 : decode cX8_save 3 = .ok (.bipush 6, 2) := by decide +kernel
theorem dX8_save_5 : decode cX8_save 5 = .ok (.if_icmp .ge 48, 3) := by decide +kernel
theorem dX8_save_8 : decode cX8_save 8 = .ok (.iload_n 2, 1) := by decide +kernel
theorem dX8_save_9 : decode cX8_save 9 = .ok (.iload_n 1, 1) := by decide +kernel
theorem dX8_save_10 : decode cX8_save 10 = .ok (.if_icmp .eq 37, 3) := by decide +kernel
theorem dX8_save_13 : decode cX8_save 13 = .ok (.aload_n 0, 1) := by decide +kernel
theorem dX8_save_14 : decode cX8_save 14 = .ok (.iload_n 2, 1) := by decide +kernel
theorem dX8_save_15 : decode cX8_save 15 = .ok (.invokevirtual 91, 3) := by decide +kernel
theorem dX8_save_18 : decode cX8_save 18 = .ok (.ifCond .eq 29, 3) := by decide +kernel
theorem dX8_save_21 : decode cX8_save 21 = .ok (.aload_n 0, 1) := by decide +kernel
theorem dX8_save_22 : decode cX8_save 22 = .ok (.getfield 29, 3) := by decide +kernel
theorem dX8_save_25 : decode cX8_save 25 = .ok (.iconst 4, 1) := by decide +kernel
theorem dX8_save_26 : decode cX8_save 26 = .ok (.iload_n 2, 1) := by decide +kernel
theorem dX8_save_27 : decode cX8_save 27 = .ok (.imul, 1) := by decide +kernel
theorem dX8_save_28 : decode cX8_save 28 = .ok (.iaload, 1) := by decide +kernel
theorem dX8_save_29 : decode cX8_save 29 = .ok (.sipush 999, 3) := by decide +kernel
theorem dX8_save_32 : decode cX8_save 32 = .ok (.if_icmp .ge 15, 3) := by decide +kernel
theorem dX8_save_35 : decode cX8_save 35 = .ok (.aload_n 0, 1) := by decide +kernel
theorem dX8_save_36 : decode cX8_save 36 = .ok (.getfield 29, 3) := by decide +kernel
theorem dX8_save_39 : decode cX8_save 39 = .ok (.iconst 4, 1) := by decide +kernel
theorem dX8_save_40 : decode cX8_save 40 = .ok (.iload_n 2, 1) := by decide +kernel
theorem dX8_save_41 : decode cX8_save 41 = .ok (.imul, 1) := by decide +kernel
theorem dX8_save_42 : decode cX8_save 42 = .ok (.dup2, 1) := by decide +kernel
theorem dX8_save_43 : decode cX8_save 43 = .ok (.iaload, 1) := by decide +kernel
theorem dX8_save_44 : decode cX8_save 44 = .ok (.iconst 1, 1) := by decide +kernel
theorem dX8_save_45 : decode cX8_save 45 = .ok (.iadd, 1) := by decide +kernel
theorem dX8_save_46 : decode cX8_save 46 = .ok (.iastore, 1) := by decide +kernel
theorem dX8_save_47 : decode cX8_save 47 = .ok (.iinc 2 1, 3) := by decide +kernel
theorem dX8_save_50 : decode cX8_save 50 = .ok (.goto (-48), 3) := by decide +kernel
theorem dX8_save_53 : decode cX8_save 53 = .ok (.return_, 1) := by decide +kernel
theorem dX8_speak_0 : decode cX8_speak 0 = .ok (.aload_n 0, 1) := by decide +kernel
theorem dX8_speak_1 : decode cX8_speak 1 = .ok (.getfield 29, 3) := by decide +kernel
theorem dX8_speak_4 : decode cX8_speak 4 = .ok (.iconst 4, 1) := by decide +kernel
theorem dX8_speak_5 : decode cX8_speak 5 = .ok (.iload_n 1, 1) := by decide +kernel
theorem dX8_speak_6 : decode cX8_speak 6 = .ok (.imul, 1) := by decide +kernel
theorem dX8_speak_7 : decode cX8_speak 7 = .ok (.iconst 3, 1) := by decide +kernel
theorem dX8_speak_8 : decode cX8_speak 8 = .ok (.iadd, 1) := by decide +kernel
theorem dX8_speak_9 : decode cX8_speak 9 = .ok (.iaload, 1) := by decide +kernel
theorem dX8_speak_10 : decode cX8_speak 10 = .ok (.istore_n 2, 1) := by decide +kernel
theorem dX8_speak_11 : decode cX8_speak 11 = .ok (.iload_n 2, 1) := by decide +kernel
theorem dX8_speak_12 : decode cX8_speak 12 = .ok (.ifCond .le 15, 3) := by decide +kernel
theorem dX8_speak_15 : decode cX8_speak 15 = .ok (.iload_n 2, 1) := by decide +kernel
theorem dX8_speak_16 : decode cX8_speak 16 = .ok (.iconst 1, 1) := by decide +kernel
theorem dX8_speak_17 : decode cX8_speak 17 = .ok (.isub, 1) := by decide +kernel
theorem dX8_speak_18 : decode cX8_speak 18 = .ok (.iconst 2, 1) := by decide +kernel
theorem dX8_speak_19 : decode cX8_speak 19 = .ok (.irem, 1) := by decide +kernel
theorem dX8_speak_20 : decode cX8_speak 20 = .ok (.ifCond .ne 7, 3) := by decide +kernel
theorem dX8_speak_23 : decode cX8_speak 23 = .ok (.iconst 1, 1) := by decide +kernel
theorem dX8_speak_24 : decode cX8_speak 24 = .ok (.goto 4, 3) := by decide +kernel
theorem dX8_speak_27 : decode cX8_speak 27 = .ok (.iconst 0, 1) := by decide +kernel
theorem dX8_speak_28 : decode cX8_speak 28 = .ok (.istore_n 3, 1) := by decide +kernel
theorem dX8_speak_29 : decode cX8_speak 29 = .ok (.aload_n 0, 1) := by decide +kernel
theorem dX8_speak_30 : decode cX8_speak 30 = .ok (.iload_n 1, 1) := by decide +kernel
theorem dX8_speak_31 : decode cX8_speak 31 = .ok (.invokevirtual 91, 3) := by decide +kernel
theorem dX8_speak_34 : decode cX8_speak 34 = .ok (.ifCond .eq 18, 3) := by decide +kernel
theorem dX8_speak_37 : decode cX8_speak 37 = .ok (.iload_n 3, 1) := by decide +kernel
theorem dX8_speak_38 : decode cX8_speak 38 = .ok (.ifCond .ne 49, 3) := by decide +kernel
theorem dX8_speak_41 : decode cX8_speak 41 = .ok (.aload_n 0, 1) := by decide +kernel
theorem dX8_speak_42 : decode cX8_speak 42 = .ok (.getfield 29, 3) := by decide +kernel
theorem dX8_speak_45 : decode cX8_speak 45 = .ok (.iconst 4, 1) := by decide +kernel
theorem dX8_speak_46 : decode cX8_speak 46 = .ok (.iload_n 1, 1) := by decide +kernel
theorem dX8_speak_47 : decode cX8_speak 47 = .ok (.imul, 1) := by decide +kernel
theorem dX8_speak_48 : decode cX8_speak 48 = .ok (.iaload, 1) := by decide +kernel
theorem dX8_speak_49 : decode cX8_speak 49 = .ok (.ifCond .ne 38, 3) := by decide +kernel
theorem dX8_speak_52 : decode cX8_speak 52 = .ok (.aload_n 0, 1) := by decide +kernel
theorem dX8_speak_53 : decode cX8_speak 53 = .ok (.aload_n 0, 1) := by decide +kernel
theorem dX8_speak_54 : decode cX8_speak 54 = .ok (.getfield 94, 3) := by decide +kernel
theorem dX8_speak_57 : decode cX8_speak 57 = .ok (.ifCond .ne 10, 3) := by decide +kernel
theorem dX8_speak_60 : decode cX8_speak 60 = .ok (.aload_n 0, 1) := by decide +kernel
theorem dX8_speak_61 : decode cX8_speak 61 = .ok (.getfield 97, 3) := by decide +kernel
theorem dX8_speak_64 : decode cX8_speak 64 = .ok (.goto 7, 3) := by decide +kernel
theorem dX8_speak_67 : decode cX8_speak 67 = .ok (.aload_n 0, 1) := by decide +kernel
theorem dX8_speak_68 : decode cX8_speak 68 = .ok (.getfield 100, 3) := by decide +kernel
theorem dX8_speak_71 : decode cX8_speak 71 = .ok (.putfield 100, 3) := by decide +kernel
theorem dX8_speak_74 : decode cX8_speak 74 = .ok (.aload_n 0, 1) := by decide +kernel
theorem dX8_speak_75 : decode cX8_speak 75 = .ok (.dup, 1) := by decide +kernel
theorem dX8_speak_76 : decode cX8_speak 76 = .ok (.getfield 94, 3) := by decide +kernel
theorem dX8_speak_79 : decode cX8_speak 79 = .ok (.iconst 1, 1) := by decide +kernel
theorem dX8_speak_80 : decode cX8_speak 80 = .ok (.iadd, 1) := by decide +kernel
theorem dX8_speak_81 : decode cX8_speak 81 = .ok (.putfield 94, 3) := by decide +kernel
theorem dX8_speak_84 : decode cX8_speak 84 = .ok (.goto 44, 3) := by decide +kernel
theorem dX8_speak_87 : decode cX8_speak 87 = .ok (.aload_n 0, 1) := by decide +kernel
theorem dX8_speak_88 : decode cX8_speak 88 = .ok (.getfield 29, 3) := by decide +kernel
theorem dX8_speak_91 : decode cX8_speak 91 = .ok (.iconst 4, 1) := by decide +kernel
theorem dX8_speak_92 : decode cX8_speak 92 = .ok (.iload_n 1, 1) := by decide +kernel
theorem dX8_speak_93 : decode cX8_speak 93 = .ok (.imul, 1) := by decide +kernel
theorem dX8_speak_94 : decode cX8_speak 94 = .ok (.iconst 3, 1) := by decide +kernel
theorem dX8_speak_95 : decode cX8_speak 95 = .ok (.iadd, 1) := by decide +kernel
theorem dX8_speak_96 : decode cX8_speak 96 = .ok (.iload_n 2, 1) := by decide +kernel
theorem dX8_speak_97 : decode cX8_speak 97 = .ok (.ifCond .le 9, 3) := by decide +kernel
theorem dX8_speak_100 : decode cX8_speak 100 = .ok (.iload_n 2, 1) := by decide +kernel
theorem dX8_speak_101 : decode cX8_speak 101 = .ok (.iconst 1, 1) := by decide +kernel
theorem dX8_speak_102 : decode cX8_speak 102 = .ok (.isub, 1) := by decide +kernel
theorem dX8_speak_103 : decode cX8_speak 103 = .ok (.goto 4, 3) := by decide +kernel
theorem dX8_speak_106 : decode cX8_speak 106 = .ok (.iconst 0, 1) := by decide +kernel
theorem dX8_speak_107 : decode cX8_speak 107 = .ok (.iastore, 1) := by decide +kernel
theorem dX8_speak_108 : decode cX8_speak 108 = .ok (.aload_n 0, 1) := by decide +kernel
theorem dX8_speak_109 : decode cX8_speak 109 = .ok (.getfield 29, 3) := by decide +kernel
theorem dX8_speak_112 : decode cX8_speak 112 = .ok (.iconst 4, 1) := by decide +kernel
theorem dX8_speak_113 : decode cX8_speak 113 = .ok (.iload_n 1, 1) := by decide +kernel
theorem dX8_speak_114 : decode cX8_speak 114 = .ok (.imul, 1) := by decide +kernel
theorem dX8_speak_115 : decode cX8_speak 115 = .ok (.dup2, 1) := by decide +kernel
theorem dX8_speak_116 : decode cX8_speak 116 = .ok (.iaload, 1) := by decide +kernel
theorem dX8_speak_117 : decode cX8_speak 117 = .ok (.iload_n 3, 1) := by decide +kernel
theorem dX8_speak_118 : decode cX8_speak 118 = .ok (.ifCond .eq 7, 3) := by decide +kernel
theorem dX8_speak_121 : decode cX8_speak 121 = .ok (.iconst 0, 1) := by decide +kernel
theorem dX8_speak_122 : decode cX8_speak 122 = .ok (.goto 4, 3) := by decide +kernel
theorem dX8_speak_125 : decode cX8_speak 125 = .ok (.iconst 1, 1) := by decide +kernel
theorem dX8_speak_126 : decode cX8_speak 126 = .ok (.isub, 1) := by decide +kernel
theorem dX8_speak_127 : decode cX8_speak 127 = .ok (.iastore, 1) := by decide +kernel
theorem dX8_speak_128 : decode cX8_speak 128 = .ok (.aload_n 0, 1) := by decide +kernel
theorem dX8_speak_129 : decode cX8_speak 129 = .ok (.getfield 32, 3) := by decide +kernel
theorem dX8_speak_132 : decode cX8_speak 132 = .ok (.iload_n 1, 1) := by decide +kernel
theorem dX8_speak_133 : decode cX8_speak 133 = .ok (.dup2, 1) := by decide +kernel
theorem dX8_speak_134 : decode cX8_speak 134 = .ok (.iaload, 1) := by decide +kernel
theorem dX8_speak_135 : decode cX8_speak 135 = .ok (.iconst 1, 1) := by decide +kernel
theorem dX8_speak_136 : decode cX8_speak 136 = .ok (.iadd, 1) := by decide +kernel
theorem dX8_speak_137 : decode cX8_speak 137 = .ok (.iastore, 1) := by decide +kernel
theorem dX8_speak_138 : decode cX8_speak 138 = .ok (.aload_n 0, 1) := by decide +kernel
theorem dX8_speak_139 : decode cX8_speak 139 = .ok (.iload_n 1, 1) := by decide +kernel
theorem dX8_speak_140 : decode cX8_speak 140 = .ok (.invokevirtual 103, 3) := by decide +kernel
theorem dX8_speak_143 : decode cX8_speak 143 = .ok (.return_, 1) := by decide +kernel
theorem dX8_act_0 : decode cX8_act 0 = .ok (.iconst 4, 1) := by decide +kernel
theorem dX8_act_1 : decode cX8_act 1 = .ok (.iload_n 2, 1) := by decide +kernel
theorem dX8_act_2 : decode cX8_act 2 = .ok (.imul, 1) := by decide +kernel
theorem dX8_act_3 : decode cX8_act 3 = .ok (.istore_n 3, 1) := by decide +kernel
theorem dX8_act_4 : decode cX8_act 4 = .ok (.iload_n 1, 1) := by decide +kernel
theorem dX8_act_5 : decode cX8_act 5 = .ok (.lookupswitch 116 #[(105, 95), (120, 67), (121, 55), (122, 43)], 43) := by decide +kernel
theorem dX8_act_48 : decode cX8_act 48 = .ok (.aload_n 0, 1) := by decide +kernel
theorem dX8_act_49 : decode cX8_act 49 = .ok (.getfield 29, 3) := by decide +kernel
theorem dX8_act_52 : decode cX8_act 52 = .ok (.iload_n 3, 1) := by decide +kernel
theorem dX8_act_53 : decode cX8_act 53 = .ok (.iconst 2, 1) := by decide +kernel
theorem dX8_act_54 : decode cX8_act 54 = .ok (.iadd, 1) := by decide +kernel
theorem dX8_act_55 : decode cX8_act 55 = .ok (.iconst 0, 1) := by decide +kernel
theorem dX8_act_56 : decode cX8_act 56 = .ok (.iastore, 1) := by decide +kernel
theorem dX8_act_57 : decode cX8_act 57 = .ok (.goto 110, 3) := by decide +kernel
theorem dX8_act_60 : decode cX8_act 60 = .ok (.aload_n 0, 1) := by decide +kernel
theorem dX8_act_61 : decode cX8_act 61 = .ok (.getfield 29, 3) := by decide +kernel
theorem dX8_act_64 : decode cX8_act 64 = .ok (.iload_n 3, 1) := by decide +kernel
theorem dX8_act_65 : decode cX8_act 65 = .ok (.iconst 2, 1) := by decide +kernel
theorem dX8_act_66 : decode cX8_act 66 = .ok (.iadd, 1) := by decide +kernel
theorem dX8_act_67 : decode cX8_act 67 = .ok (.iconst 1, 1) := by decide +kernel
theorem dX8_act_68 : decode cX8_act 68 = .ok (.iastore, 1) := by decide +kernel
theorem dX8_act_69 : decode cX8_act 69 = .ok (.goto 98, 3) := by decide +kernel
theorem dX8_act_72 : decode cX8_act 72 = .ok (.aload_n 0, 1) := by decide +kernel
theorem dX8_act_73 : decode cX8_act 73 = .ok (.getfield 29, 3) := by decide +kernel
theorem dX8_act_76 : decode cX8_act 76 = .ok (.iload_n 3, 1) := by decide +kernel
theorem dX8_act_77 : decode cX8_act 77 = .ok (.iconst 0, 1) := by decide +kernel
theorem dX8_act_78 : decode cX8_act 78 = .ok (.iastore, 1) := by decide +kernel
theorem dX8_act_79 : decode cX8_act 79 = .ok (.aload_n 0, 1) := by decide +kernel
theorem dX8_act_80 : decode cX8_act 80 = .ok (.getfield 29, 3) := by decide +kernel
theorem dX8_act_83 : decode cX8_act 83 = .ok (.iload_n 3, 1) := by decide +kernel
theorem dX8_act_84 : decode cX8_act 84 = .ok (.iconst 1, 1) := by decide +kernel
theorem dX8_act_85 : decode cX8_act 85 = .ok (.iadd, 1) := by decide +kernel
theorem dX8_act_86 : decode cX8_act 86 = .ok (.iconst 0, 1) := by decide +kernel
theorem dX8_act_87 : decode cX8_act 87 = .ok (.iastore, 1) := by decide +kernel
theorem dX8_act_88 : decode cX8_act 88 = .ok (.aload_n 0, 1) := by decide +kernel
theorem dX8_act_89 : decode cX8_act 89 = .ok (.getfield 29, 3) := by decide +kernel
theorem dX8_act_92 : decode cX8_act 92 = .ok (.iload_n 3, 1) := by decide +kernel
theorem dX8_act_93 : decode cX8_act 93 = .ok (.iconst 3, 1) := by decide +kernel
theorem dX8_act_94 : decode cX8_act 94 = .ok (.iadd, 1) := by decide +kernel
theorem dX8_act_95 : decode cX8_act 95 = .ok (.iconst 0, 1) := by decide +kernel
theorem dX8_act_96 : decode cX8_act 96 = .ok (.iastore, 1) := by decide +kernel
theorem dX8_act_97 : decode cX8_act 97 = .ok (.goto 70, 3) := by decide +kernel
theorem dX8_act_100 : decode cX8_act 100 = .ok (.aload_n 0, 1) := by decide +kernel
theorem dX8_act_101 : decode cX8_act 101 = .ok (.getfield 29, 3) := by decide +kernel
theorem dX8_act_104 : decode cX8_act 104 = .ok (.iload_n 3, 1) := by decide +kernel
theorem dX8_act_105 : decode cX8_act 105 = .ok (.iconst 1, 1) := by decide +kernel
theorem dX8_act_106 : decode cX8_act 106 = .ok (.iadd, 1) := by decide +kernel
theorem dX8_act_107 : decode cX8_act 107 = .ok (.iconst 1, 1) := by decide +kernel
theorem dX8_act_108 : decode cX8_act 108 = .ok (.iastore, 1) := by decide +kernel
theorem dX8_act_109 : decode cX8_act 109 = .ok (.aload_n 0, 1) := by decide +kernel
theorem dX8_act_110 : decode cX8_act 110 = .ok (.getfield 29, 3) := by decide +kernel
theorem dX8_act_113 : decode cX8_act 113 = .ok (.iload_n 3, 1) := by decide +kernel
theorem dX8_act_114 : decode cX8_act 114 = .ok (.iconst 2, 1) := by decide +kernel
theorem dX8_act_115 : decode cX8_act 115 = .ok (.iadd, 1) := by decide +kernel
theorem dX8_act_116 : decode cX8_act 116 = .ok (.iconst 1, 1) := by decide +kernel
theorem dX8_act_117 : decode cX8_act 117 = .ok (.iastore, 1) := by decide +kernel
theorem dX8_act_118 : decode cX8_act 118 = .ok (.goto 49, 3) := by decide +kernel
theorem dX8_act_121 : decode cX8_act 121 = .ok (.aload_n 0, 1) := by decide +kernel
theorem dX8_act_122 : decode cX8_act 122 = .ok (.getfield 29, 3) := by decide +kernel
theorem dX8_act_125 : decode cX8_act 125 = .ok (.iload_n 3, 1) := by decide +kernel
theorem dX8_act_126 : decode cX8_act 126 = .ok (.iconst 1, 1) := by decide +kernel
theorem dX8_act_127 : decode cX8_act 127 = .ok (.iadd, 1) := by decide +kernel
theorem dX8_act_128 : decode cX8_act 128 = .ok (.iaload, 1) := by decide +kernel
theorem dX8_act_129 : decode cX8_act 129 = .ok (.iconst 1, 1) := by decide +kernel
theorem dX8_act_130 : decode cX8_act 130 = .ok (.if_icmp .ne 37, 3) := by decide +kernel
theorem dX8_act_133 : decode cX8_act 133 = .ok (.aload_n 0, 1) := by decide +kernel
theorem dX8_act_134 : decode cX8_act 134 = .ok (.getfield 29, 3) := by decide +kernel
theorem dX8_act_137 : decode cX8_act 137 = .ok (.iload_n 3, 1) := by decide +kernel
theorem dX8_act_138 : decode cX8_act 138 = .ok (.aload_n 0, 1) := by decide +kernel
theorem dX8_act_139 : decode cX8_act 139 = .ok (.getfield 29, 3) := by decide +kernel
theorem dX8_act_142 : decode cX8_act 142 = .ok (.iload_n 3, 1) := by decide +kernel
theorem dX8_act_143 : decode cX8_act 143 = .ok (.iaload, 1) := by decide +kernel
theorem dX8_act_144 : decode cX8_act 144 = .ok (.aload_n 0, 1) := by decide +kernel
theorem dX8_act_145 : decode cX8_act 145 = .ok (.getfield 13, 3) := by decide +kernel
theorem dX8_act_148 : decode cX8_act 148 = .ok (.if_icmp .ge 7, 3) := by decide +kernel
theorem dX8_act_151 : decode cX8_act 151 = .ok (.iconst 0, 1) := by decide +kernel
theorem dX8_act_152 : decode cX8_act 152 = .ok (.goto 14, 3) := by decide +kernel
theorem dX8_act_155 : decode cX8_act 155 = .ok (.aload_n 0, 1) := by decide +kernel
theorem dX8_act_156 : decode cX8_act 156 = .ok (.getfield 29, 3) := by decide +kernel
theorem dX8_act_159 : decode cX8_act 159 = .ok (.iload_n 3, 1) := by decide +kernel
theorem dX8_act_160 : decode cX8_act 160 = .ok (.iaload, 1) := by decide +kernel
theorem dX8_act_161 : decode cX8_act 161 = .ok (.aload_n 0, 1) := by decide +kernel
theorem dX8_act_162 : decode cX8_act 162 = .ok (.getfield 13, 3) := by decide +kernel
theorem dX8_act_165 : decode cX8_act 165 = .ok (.isub, 1) := by decide +kernel
theorem dX8_act_166 : decode cX8_act 166 = .ok (.iastore, 1) := by decide +kernel
theorem dX8_act_167 : decode cX8_act 167 = .ok (.return_, 1) := by decide +kernel
theorem dX8_sitThrough_0 : decode cX8_sitThrough 0 = .ok (.iconst 0, 1) := by decide +kernel
theorem dX8_sitThrough_1 : decode cX8_sitThrough 1 = .ok (.istore_n 1, 1) := by decide +kernel
theorem dX8_sitThrough_2 : decode cX8_sitThrough 2 = .ok (.iload_n 1, 1) := by decide +kernel
theorem dX8_sitThrough_3 : decode cX8_sitThrough 3 = .ok (.bipush 24, 2) := by decide +kernel
theorem dX8_sitThrough_5 : decode cX8_sitThrough 5 = .ok (.if_icmp .ge 21, 3) := by decide +kernel
theorem dX8_sitThrough_8 : decode cX8_sitThrough 8 = .ok (.aload_n 0, 1) := by decide +kernel
theorem dX8_sitThrough_9 : decode cX8_sitThrough 9 = .ok (.getfield 29, 3) := by decide +kernel
theorem dX8_sitThrough_12 : decode cX8_sitThrough 12 = .ok (.iload_n 1, 1) := by decide +kernel
theorem dX8_sitThrough_13 : decode cX8_sitThrough 13 = .ok (.aload_n 0, 1) := by decide +kernel
theorem dX8_sitThrough_14 : decode cX8_sitThrough 14 = .ok (.getfield 7, 3) := by decide +kernel
theorem dX8_sitThrough_17 : decode cX8_sitThrough 17 = .ok (.iload_n 1, 1) := by decide +kernel
theorem dX8_sitThrough_18 : decode cX8_sitThrough 18 = .ok (.iaload, 1) := by decide +kernel
theorem dX8_sitThrough_19 : decode cX8_sitThrough 19 = .ok (.iastore, 1) := by decide +kernel
theorem dX8_sitThrough_20 : decode cX8_sitThrough 20 = .ok (.iinc 1 1, 3) := by decide +kernel
theorem dX8_sitThrough_23 : decode cX8_sitThrough 23 = .ok (.goto (-21), 3) := by decide +kernel
theorem dX8_sitThrough_26 : decode cX8_sitThrough 26 = .ok (.iconst 0, 1) := by decide +kernel
theorem dX8_sitThrough_27 : decode cX8_sitThrough 27 = .ok (.istore_n 1, 1) := by decide +kernel
theorem dX8_sitThrough_28 : decode cX8_sitThrough 28 = .ok (.iload_n 1, 1) := by decide +kernel
theorem dX8_sitThrough_29 : decode cX8_sitThrough 29 = .ok (.bipush 6, 2) := by decide +kernel
theorem dX8_sitThrough_31 : decode cX8_sitThrough 31 = .ok (.if_icmp .ge 16, 3) := by decide +kernel
theorem dX8_sitThrough_34 : decode cX8_sitThrough 34 = .ok (.aload_n 0, 1) := by decide +kernel
theorem dX8_sitThrough_35 : decode cX8_sitThrough 35 = .ok (.getfield 32, 3) := by decide +kernel
theorem dX8_sitThrough_38 : decode cX8_sitThrough 38 = .ok (.iload_n 1, 1) := by decide +kernel
theorem dX8_sitThrough_39 : decode cX8_sitThrough 39 = .ok (.iconst 0, 1) := by decide +kernel
theorem dX8_sitThrough_40 : decode cX8_sitThrough 40 = .ok (.iastore, 1) := by decide +kernel
theorem dX8_sitThrough_41 : decode cX8_sitThrough 41 = .ok (.iinc 1 1, 3) := by decide +kernel
theorem dX8_sitThrough_44 : decode cX8_sitThrough 44 = .ok (.goto (-16), 3) := by decide +kernel
theorem dX8_sitThrough_47 : decode cX8_sitThrough 47 = .ok (.aload_n 0, 1) := by decide +kernel
theorem dX8_sitThrough_48 : decode cX8_sitThrough 48 = .ok (.iconst 0, 1) := by decide +kernel
theorem dX8_sitThrough_49 : decode cX8_sitThrough 49 = .ok (.putfield 97, 3) := by decide +kernel
theorem dX8_sitThrough_52 : decode cX8_sitThrough 52 = .ok (.aload_n 0, 1) := by decide +kernel
theorem dX8_sitThrough_53 : decode cX8_sitThrough 53 = .ok (.iconst 0, 1) := by decide +kernel
theorem dX8_sitThrough_54 : decode cX8_sitThrough 54 = .ok (.putfield 94, 3) := by decide +kernel
theorem dX8_sitThrough_57 : decode cX8_sitThrough 57 = .ok (.aload_n 0, 1) := by decide +kernel
theorem dX8_sitThrough_58 : decode cX8_sitThrough 58 = .ok (.bipush (-6), 2) := by decide +kernel
theorem dX8_sitThrough_60 : decode cX8_sitThrough 60 = .ok (.putfield 100, 3) := by decide +kernel
theorem dX8_sitThrough_63 : decode cX8_sitThrough 63 = .ok (.iconst 0, 1) := by decide +kernel
theorem dX8_sitThrough_64 : decode cX8_sitThrough 64 = .ok (.istore_n 1, 1) := by decide +kernel
theorem dX8_sitThrough_65 : decode cX8_sitThrough 65 = .ok (.iload_n 1, 1) := by decide +kernel
theorem dX8_sitThrough_66 : decode cX8_sitThrough 66 = .ok (.aload_n 0, 1) := by decide +kernel
theorem dX8_sitThrough_67 : decode cX8_sitThrough 67 = .ok (.getfield 75, 3) := by decide +kernel
theorem dX8_sitThrough_70 : decode cX8_sitThrough 70 = .ok (.if_icmp .ge 159, 3) := by decide +kernel
theorem dX8_sitThrough_73 : decode cX8_sitThrough 73 = .ok (.aload_n 0, 1) := by decide +kernel
theorem dX8_sitThrough_74 : decode cX8_sitThrough 74 = .ok (.getfield 20, 3) := by decide +kernel
theorem dX8_sitThrough_77 : decode cX8_sitThrough 77 = .ok (.iload_n 1, 1) := by decide +kernel
theorem dX8_sitThrough_78 : decode cX8_sitThrough 78 = .ok (.iaload, 1) := by decide +kernel
theorem dX8_sitThrough_79 : decode cX8_sitThrough 79 = .ok (.istore_n 2, 1) := by decide +kernel
theorem dX8_sitThrough_80 : decode cX8_sitThrough 80 = .ok (.aload_n 0, 1) := by decide +kernel
theorem dX8_sitThrough_81 : decode cX8_sitThrough 81 = .ok (.getfield 20, 3) := by decide +kernel
theorem dX8_sitThrough_84 : decode cX8_sitThrough 84 = .ok (.iload_n 1, 1) := by decide +kernel
theorem dX8_sitThrough_85 : decode cX8_sitThrough 85 = .ok (.iconst 1, 1) := by decide +kernel
theorem dX8_sitThrough_86 : decode cX8_sitThrough 86 = .ok (.iadd, 1) := by decide +kernel
theorem dX8_sitThrough_87 : decode cX8_sitThrough 87 = .ok (.iaload, 1) := by decide +kernel
theorem dX8_sitThrough_88 : decode cX8_sitThrough 88 = .ok (.bipush 97, 2) := by decide +kernel
theorem dX8_sitThrough_90 : decode cX8_sitThrough 90 = .ok (.isub, 1) := by decide +kernel
theorem dX8_sitThrough_91 : decode cX8_sitThrough 91 = .ok (.istore_n 3, 1) := by decide +kernel
theorem dX8_sitThrough_92 : decode cX8_sitThrough 92 = .ok (.iload_n 2, 1) := by decide +kernel
theorem dX8_sitThrough_93 : decode cX8_sitThrough 93 = .ok (.bipush 63, 2) := by decide +kernel
theorem dX8_sitThrough_95 : decode cX8_sitThrough 95 = .ok (.if_icmp .ne 54, 3) := by decide +kernel
theorem dX8_sitThrough_98 : decode cX8_sitThrough 98 = .ok (.aload_n 0, 1) := by decide +kernel
theorem dX8_sitThrough_99 : decode cX8_sitThrough 99 = .ok (.getfield 20, 3) := by decide +kernel
theorem dX8_sitThrough_102 : decode cX8_sitThrough 102 = .ok (.iload_n 1, 1) := by decide +kernel
theorem dX8_sitThrough_103 : decode cX8_sitThrough 103 = .ok (.iconst 2, 1) := by decide +kernel
theorem dX8_sitThrough_104 : decode cX8_sitThrough 104 = .ok (.iadd, 1) := by decide +kernel
theorem dX8_sitThrough_105 : decode cX8_sitThrough 105 = .ok (.iaload, 1) := by decide +kernel
theorem dX8_sitThrough_106 : decode cX8_sitThrough 106 = .ok (.bipush 97, 2) := by decide +kernel
theorem dX8_sitThrough_108 : decode cX8_sitThrough 108 = .ok (.isub, 1) := by decide +kernel
theorem dX8_sitThrough_109 : decode cX8_sitThrough 109 = .ok (.istore 4, 2) := by decide +kernel
theorem dX8_sitThrough_111 : decode cX8_sitThrough 111 = .ok (.aload_n 0, 1) := by decide +kernel
theorem dX8_sitThrough_112 : decode cX8_sitThrough 112 = .ok (.iload_n 3, 1) := by decide +kernel
theorem dX8_sitThrough_113 : decode cX8_sitThrough 113 = .ok (.invokevirtual 91, 3) := by decide +kernel
theorem dX8_sitThrough_116 : decode cX8_sitThrough 116 = .ok (.ifCond .eq 27, 3) := by decide +kernel
theorem dX8_sitThrough_119 : decode cX8_sitThrough 119 = .ok (.aload_n 0, 1) := by decide +kernel
theorem dX8_sitThrough_120 : decode cX8_sitThrough 120 = .ok (.iload 4, 2) := by decide +kernel
theorem dX8_sitThrough_122 : decode cX8_sitThrough 122 = .ok (.invokevirtual 91, 3) := by decide +kernel
theorem dX8_sitThrough_125 : decode cX8_sitThrough 125 = .ok (.ifCond .eq 18, 3) := by decide +kernel
theorem dX8_sitThrough_128 : decode cX8_sitThrough 128 = .ok (.aload_n 0, 1) := by decide +kernel
theorem dX8_sitThrough_129 : decode cX8_sitThrough 129 = .ok (.getfield 29, 3) := by decide +kernel
theorem dX8_sitThrough_132 : decode cX8_sitThrough 132 = .ok (.iconst 4, 1) := by decide +kernel
theorem dX8_sitThrough_133 : decode cX8_sitThrough 133 = .ok (.iload 4, 2) := by decide +kernel
theorem dX8_sitThrough_135 : decode cX8_sitThrough 135 = .ok (.imul, 1) := by decide +kernel
theorem dX8_sitThrough_136 : decode cX8_sitThrough 136 = .ok (.iconst 3, 1) := by decide +kernel
theorem dX8_sitThrough_137 : decode cX8_sitThrough 137 = .ok (.iadd, 1) := by decide +kernel
theorem dX8_sitThrough_138 : decode cX8_sitThrough 138 = .ok (.aload_n 0, 1) := by decide +kernel
theorem dX8_sitThrough_139 : decode cX8_sitThrough 139 = .ok (.getfield 17, 3) := by decide +kernel
theorem dX8_sitThrough_142 : decode cX8_sitThrough 142 = .ok (.iastore, 1) := by decide +kernel
theorem dX8_sitThrough_143 : decode cX8_sitThrough 143 = .ok (.iinc 1 1, 3) := by decide +kernel
theorem dX8_sitThrough_146 : decode cX8_sitThrough 146 = .ok (.goto 77, 3) := by decide +kernel
theorem dX8_sitThrough_149 : decode cX8_sitThrough 149 = .ok (.iload_n 2, 1) := by decide +kernel
theorem dX8_sitThrough_150 : decode cX8_sitThrough 150 = .ok (.invokestatic 81, 3) := by decide +kernel
theorem dX8_sitThrough_153 : decode cX8_sitThrough 153 = .ok (.ifCond .eq 12, 3) := by decide +kernel
theorem dX8_sitThrough_156 : decode cX8_sitThrough 156 = .ok (.aload_n 0, 1) := by decide +kernel
theorem dX8_sitThrough_157 : decode cX8_sitThrough 157 = .ok (.iload_n 2, 1) := by decide +kernel
theorem dX8_sitThrough_158 : decode cX8_sitThrough 158 = .ok (.iload_n 3, 1) := by decide +kernel
theorem dX8_sitThrough_159 : decode cX8_sitThrough 159 = .ok (.invokevirtual 107, 3) := by decide +kernel
theorem dX8_sitThrough_162 : decode cX8_sitThrough 162 = .ok (.goto 61, 3) := by decide +kernel
theorem dX8_sitThrough_165 : decode cX8_sitThrough 165 = .ok (.iconst 0, 1) := by decide +kernel
theorem dX8_sitThrough_166 : decode cX8_sitThrough 166 = .ok (.istore 4, 2) := by decide +kernel
theorem dX8_sitThrough_168 : decode cX8_sitThrough 168 = .ok (.iload 4, 2) := by decide +kernel
theorem dX8_sitThrough_170 : decode cX8_sitThrough 170 = .ok (.aload_n 0, 1) := by decide +kernel
theorem dX8_sitThrough_171 : decode cX8_sitThrough 171 = .ok (.getfield 20, 3) := by decide +kernel
theorem dX8_sitThrough_174 : decode cX8_sitThrough 174 = .ok (.iload_n 1, 1) := by decide +kernel
theorem dX8_sitThrough_175 : decode cX8_sitThrough 175 = .ok (.iconst 1, 1) := by decide +kernel
theorem dX8_sitThrough_176 : decode cX8_sitThrough 176 = .ok (.iadd, 1) := by decide +kernel
theorem dX8_sitThrough_177 : decode cX8_sitThrough 177 = .ok (.iaload, 1) := by decide +kernel
theorem dX8_sitThrough_178 : decode cX8_sitThrough 178 = .ok (.bipush 48, 2) := by decide +kernel
theorem dX8_sitThrough_180 : decode cX8_sitThrough 180 = .ok (.isub, 1) := by decide +kernel
theorem dX8_sitThrough_181 : decode cX8_sitThrough 181 = .ok (.if_icmp .ge 42, 3) := by decide +kernel
theorem dX8_sitThrough_184 : decode cX8_sitThrough 184 = .ok (.iload_n 2, 1) := by decide +kernel
theorem dX8_sitThrough_185 : decode cX8_sitThrough 185 = .ok (.bipush 46, 2) := by decide +kernel
theorem dX8_sitThrough_187 : decode cX8_sitThrough 187 = .ok (.if_icmp .ne 12, 3) := by decide +kernel
theorem dX8_sitThrough_190 : decode cX8_sitThrough 190 = .ok (.aload_n 0, 1) := by decide +kernel
theorem dX8_sitThrough_191 : decode cX8_sitThrough 191 = .ok (.bipush (-6), 2) := by decide +kernel
theorem dX8_sitThrough_193 : decode cX8_sitThrough 193 = .ok (.invokevirtual 103, 3) := by decide +kernel
theorem dX8_sitThrough_196 : decode cX8_sitThrough 196 = .ok (.goto 11, 3) := by decide +kernel
theorem dX8_sitThrough_199 : decode cX8_sitThrough 199 = .ok (.aload_n 0, 1) := by decide +kernel
theorem dX8_sitThrough_200 : decode cX8_sitThrough 200 = .ok (.iload_n 2, 1) := by decide +kernel
theorem dX8_sitThrough_201 : decode cX8_sitThrough 201 = .ok (.bipush 97, 2) := by decide +kernel
theorem dX8_sitThrough_203 : decode cX8_sitThrough 203 = .ok (.isub, 1) := by decide +kernel
theorem dX8_sitThrough_204 : decode cX8_sitThrough 204 = .ok (.invokevirtual 111, 3) := by decide +kernel
theorem dX8_sitThrough_207 : decode cX8_sitThrough 207 = .ok (.aload_n 0, 1) := by decide +kernel
theorem dX8_sitThrough_208 : decode cX8_sitThrough 208 = .ok (.dup, 1) := by decide +kernel
theorem dX8_sitThrough_209 : decode cX8_sitThrough 209 = .ok (.getfield 97, 3) := by decide +kernel
theorem dX8_sitThrough_212 : decode cX8_sitThrough 212 = .ok (.iconst 1, 1) := by decide +kernel
theorem dX8_sitThrough_213 : decode cX8_sitThrough 213 = .ok (.iadd, 1) := by decide +kernel
theorem dX8_sitThrough_214 : decode cX8_sitThrough 214 = .ok (.putfield 97, 3) := by decide +kernel
theorem dX8_sitThrough_217 : decode cX8_sitThrough 217 = .ok (.iinc 4 1, 3) := by decide +kernel
theorem dX8_sitThrough_220 : decode cX8_sitThrough 220 = .ok (.goto (-52), 3) := by decide +kernel
theorem dX8_sitThrough_223 : decode cX8_sitThrough 223 = .ok (.iinc 1 2, 3) := by decide +kernel
theorem dX8_sitThrough_226 : decode cX8_sitThrough 226 = .ok (.goto (-161), 3) := by decide +kernel
theorem dX8_sitThrough_229 : decode cX8_sitThrough 229 = .ok (.return_, 1) := by decide +kernel
theorem dX8_sits_0 : decode cX8_sits 0 = .ok (.iload_n 1, 1) := by decide +kernel
theorem dX8_sits_1 : decode cX8_sits 1 = .ok (.iconst 0, 1) := by decide +kernel
theorem dX8_sits_2 : decode cX8_sits 2 = .ok (.iconst 2, 1) := by decide +kernel
theorem dX8_sits_3 : decode cX8_sits 3 = .ok (.invokestatic 63, 3) := by decide +kernel
theorem dX8_sits_6 : decode cX8_sits 6 = .ok (.ifCond .ne 36, 3) := by decide +kernel
theorem dX8_sits_9 : decode cX8_sits 9 = .ok (.iload_n 1, 1) := by decide +kernel
theorem dX8_sits_10 : decode cX8_sits 10 = .ok (.bipush 10, 2) := by decide +kernel
theorem dX8_sits_12 : decode cX8_sits 12 = .ok (.bipush 15, 2) := by decide +kernel
theorem dX8_sits_14 : decode cX8_sits 14 = .ok (.invokestatic 63, 3) := by decide +kernel
theorem dX8_sits_17 : decode cX8_sits 17 = .ok (.ifCond .ne 25, 3) := by decide +kernel
theorem dX8_sits_20 : decode cX8_sits 20 = .ok (.iload_n 1, 1) := by decide +kernel
theorem dX8_sits_21 : decode cX8_sits 21 = .ok (.bipush 20, 2) := by decide +kernel
theorem dX8_sits_23 : decode cX8_sits 23 = .ok (.bipush 25, 2) := by decide +kernel
theorem dX8_sits_25 : decode cX8_sits 25 = .ok (.invokestatic 63, 3) := by decide +kernel
theorem dX8_sits_28 : decode cX8_sits 28 = .ok (.ifCond .ne 14, 3) := by decide +kernel
theorem dX8_sits_31 : decode cX8_sits 31 = .ok (.iload_n 1, 1) := by decide +kernel
theorem dX8_sits_32 : decode cX8_sits 32 = .ok (.bipush 30, 2) := by decide +kernel
theorem dX8_sits_34 : decode cX8_sits 34 = .ok (.bipush 35, 2) := by decide +kernel
theorem dX8_sits_36 : decode cX8_sits 36 = .ok (.invokestatic 63, 3) := by decide +kernel
theorem dX8_sits_39 : decode cX8_sits 39 = .ok (.ifCond .eq 7, 3) := by decide +kernel
theorem dX8_sits_42 : decode cX8_sits 42 = .ok (.iconst 1, 1) := by decide +kernel
theorem dX8_sits_43 : decode cX8_sits 43 = .ok (.goto 4, 3) := by decide +kernel
theorem dX8_sits_46 : decode cX8_sits 46 = .ok (.iconst 0, 1) := by decide +kernel
theorem dX8_sits_47 : decode cX8_sits 47 = .ok (.istore_n 2, 1) := by decide +kernel
theorem dX8_sits_48 : decode cX8_sits 48 = .ok (.iload_n 2, 1) := by decide +kernel
theorem dX8_sits_49 : decode cX8_sits 49 = .ok (.ifCond .ne 6, 3) := by decide +kernel
theorem dX8_sits_52 : decode cX8_sits 52 = .ok (.bipush (-2), 2) := by decide +kernel
theorem dX8_sits_54 : decode cX8_sits 54 = .ok (.ireturn, 1) := by decide +kernel
theorem dX8_sits_55 : decode cX8_sits 55 = .ok (.aload_n 0, 1) := by decide +kernel
theorem dX8_sits_56 : decode cX8_sits 56 = .ok (.invokevirtual 84, 3) := by decide +kernel
theorem dX8_sits_59 : decode cX8_sits 59 = .ok (.ifCond .lt 6, 3) := by decide +kernel
theorem dX8_sits_62 : decode cX8_sits 62 = .ok (.bipush (-5), 2) := by decide +kernel
theorem dX8_sits_64 : decode cX8_sits 64 = .ok (.ireturn, 1) := by decide +kernel
theorem dX8_sits_65 : decode cX8_sits 65 = .ok (.aload_n 0, 1) := by decide +kernel
theorem dX8_sits_66 : decode cX8_sits 66 = .ok (.invokevirtual 114, 3) := by decide +kernel
theorem dX8_sits_69 : decode cX8_sits 69 = .ok (.iload_n 1, 1) := by decide +kernel
theorem dX8_sits_70 : decode cX8_sits 70 = .ok (.iconst 3, 1) := by decide +kernel
theorem dX8_sits_71 : decode cX8_sits 71 = .ok (.if_icmp .ge 31, 3) := by decide +kernel
theorem dX8_sits_74 : decode cX8_sits 74 = .ok (.iload_n 1, 1) := by decide +kernel
theorem dX8_sits_75 : decode cX8_sits 75 = .ok (.ifCond .ne 10, 3) := by decide +kernel
theorem dX8_sits_78 : decode cX8_sits 78 = .ok (.aload_n 0, 1) := by decide +kernel
theorem dX8_sits_79 : decode cX8_sits 79 = .ok (.getfield 97, 3) := by decide +kernel
theorem dX8_sits_82 : decode cX8_sits 82 = .ok (.goto 19, 3) := by decide +kernel
theorem dX8_sits_85 : decode cX8_sits 85 = .ok (.iload_n 1, 1) := by decide +kernel
theorem dX8_sits_86 : decode cX8_sits 86 = .ok (.iconst 1, 1) := by decide +kernel
theorem dX8_sits_87 : decode cX8_sits 87 = .ok (.if_icmp .ne 10, 3) := by decide +kernel
theorem dX8_sits_90 : decode cX8_sits 90 = .ok (.aload_n 0, 1) := by decide +kernel
theorem dX8_sits_91 : decode cX8_sits 91 = .ok (.getfield 100, 3) := by decide +kernel
theorem dX8_sits_94 : decode cX8_sits 94 = .ok (.goto 7, 3) := by decide +kernel
theorem dX8_sits_97 : decode cX8_sits 97 = .ok (.aload_n 0, 1) := by decide +kernel
theorem dX8_sits_98 : decode cX8_sits 98 = .ok (.getfield 94, 3) := by decide +kernel
theorem dX8_sits_101 : decode cX8_sits 101 = .ok (.ireturn, 1) := by decide +kernel
theorem dX8_sits_102 : decode cX8_sits 102 = .ok (.iload_n 1, 1) := by decide +kernel
theorem dX8_sits_103 : decode cX8_sits 103 = .ok (.bipush 10, 2) := by decide +kernel
theorem dX8_sits_105 : decode cX8_sits 105 = .ok (.irem, 1) := by decide +kernel
theorem dX8_sits_106 : decode cX8_sits 106 = .ok (.istore_n 3, 1) := by decide +kernel
theorem dX8_sits_107 : decode cX8_sits 107 = .ok (.iload_n 1, 1) := by decide +kernel
theorem dX8_sits_108 : decode cX8_sits 108 = .ok (.bipush 20, 2) := by decide +kernel
theorem dX8_sits_110 : decode cX8_sits 110 = .ok (.if_icmp .ge 12, 3) := by decide +kernel
theorem dX8_sits_113 : decode cX8_sits 113 = .ok (.aload_n 0, 1) := by decide +kernel
theorem dX8_sits_114 : decode cX8_sits 114 = .ok (.getfield 32, 3) := by decide +kernel
theorem dX8_sits_117 : decode cX8_sits 117 = .ok (.iload_n 3, 1) := by decide +kernel
theorem dX8_sits_118 : decode cX8_sits 118 = .ok (.iaload, 1) := by decide +kernel
theorem dX8_sits_119 : decode cX8_sits 119 = .ok (.goto 30, 3) := by decide +kernel
theorem dX8_sits_122 : decode cX8_sits 122 = .ok (.iload_n 1, 1) := by decide +kernel
theorem dX8_sits_123 : decode cX8_sits 123 = .ok (.bipush 30, 2) := by decide +kernel
theorem dX8_sits_125 : decode cX8_sits 125 = .ok (.if_icmp .ge 14, 3) := by decide +kernel
theorem dX8_sits_128 : decode cX8_sits 128 = .ok (.aload_n 0, 1) := by decide +kernel
theorem dX8_sits_129 : decode cX8_sits 129 = .ok (.getfield 29, 3) := by decide +kernel
theorem dX8_sits_132 : decode cX8_sits 132 = .ok (.iconst 4, 1) := by decide +kernel
theorem dX8_sits_133 : decode cX8_sits 133 = .ok (.iload_n 3, 1) := by decide +kernel
theorem dX8_sits_134 : decode cX8_sits 134 = .ok (.imul, 1) := by decide +kernel
theorem dX8_sits_135 : decode cX8_sits 135 = .ok (.iaload, 1) := by decide +kernel
theorem dX8_sits_136 : decode cX8_sits 136 = .ok (.goto 13, 3) := by decide +kernel
theorem dX8_sits_139 : decode cX8_sits 139 = .ok (.aload_n 0, 1) := by decide +kernel
theorem dX8_sits_140 : decode cX8_sits 140 = .ok (.getfield 29, 3) := by decide +kernel
theorem dX8_sits_143 : decode cX8_sits 143 = .ok (.iconst 4, 1) := by decide +kernel
theorem dX8_sits_144 : decode cX8_sits 144 = .ok (.iload_n 3, 1) := by decide +kernel
theorem dX8_sits_145 : decode cX8_sits 145 = .ok (.imul, 1) := by decide +kernel
theorem dX8_sits_146 : decode cX8_sits 146 = .ok (.iconst 3, 1) := by decide +kernel
theorem dX8_sits_147 : decode cX8_sits 147 = .ok (.iadd, 1) := by decide +kernel
theorem dX8_sits_148 : decode cX8_sits 148 = .ok (.iaload, 1) := by decide +kernel
theorem dX8_sits_149 : decode cX8_sits 149 = .ok (.ireturn, 1) := by decide +kernel
theorem dX8_sit_0 : decode cX8_sit 0 = .ok (.aload_n 0, 1) := by decide +kernel
theorem dX8_sit_1 : decode cX8_sit 1 = .ok (.invokevirtual 84, 3) := by decide +kernel
theorem dX8_sit_4 : decode cX8_sit 4 = .ok (.ifCond .lt 6, 3) := by decide +kernel
theorem dX8_sit_7 : decode cX8_sit 7 = .ok (.bipush (-5), 2) := by decide +kernel
theorem dX8_sit_9 : decode cX8_sit 9 = .ok (.ireturn, 1) := by decide +kernel
theorem dX8_sit_10 : decode cX8_sit 10 = .ok (.aload_n 0, 1) := by decide +kernel
theorem dX8_sit_11 : decode cX8_sit 11 = .ok (.invokevirtual 114, 3) := by decide +kernel
theorem dX8_sit_14 : decode cX8_sit 14 = .ok (.aload_n 0, 1) := by decide +kernel
theorem dX8_sit_15 : decode cX8_sit 15 = .ok (.getfield 94, 3) := by decide +kernel
theorem dX8_sit_18 : decode cX8_sit 18 = .ok (.ifCond .le 6, 3) := by decide +kernel
theorem dX8_sit_21 : decode cX8_sit 21 = .ok (.bipush (-5), 2) := by decide +kernel
theorem dX8_sit_23 : decode cX8_sit 23 = .ok (.ireturn, 1) := by decide +kernel
theorem dX8_sit_24 : decode cX8_sit 24 = .ok (.iconst 0, 1) := by decide +kernel
theorem dX8_sit_25 : decode cX8_sit 25 = .ok (.istore_n 1, 1) := by decide +kernel
theorem dX8_sit_26 : decode cX8_sit 26 = .ok (.iload_n 1, 1) := by decide +kernel
theorem dX8_sit_27 : decode cX8_sit 27 = .ok (.bipush 24, 2) := by decide +kernel
theorem dX8_sit_29 : decode cX8_sit 29 = .ok (.if_icmp .ge 21, 3) := by decide +kernel
theorem dX8_sit_32 : decode cX8_sit 32 = .ok (.aload_n 0, 1) := by decide +kernel
theorem dX8_sit_33 : decode cX8_sit 33 = .ok (.getfield 7, 3) := by decide +kernel
theorem dX8_sit_36 : decode cX8_sit 36 = .ok (.iload_n 1, 1) := by decide +kernel
theorem dX8_sit_37 : decode cX8_sit 37 = .ok (.aload_n 0, 1) := by decide +kernel
theorem dX8_sit_38 : decode cX8_sit 38 = .ok (.getfield 29, 3) := by decide +kernel
theorem dX8_sit_41 : decode cX8_sit 41 = .ok (.iload_n 1, 1) := by decide +kernel
theorem dX8_sit_42 : decode cX8_sit 42 = .ok (.iaload, 1) := by decide +kernel
theorem dX8_sit_43 : decode cX8_sit 43 = .ok (.iastore, 1) := by decide +kernel
theorem dX8_sit_44 : decode cX8_sit 44 = .ok (.iinc 1 1, 3) := by decide +kernel
theorem dX8_sit_47 : decode cX8_sit 47 = .ok (.goto (-21), 3) := by decide +kernel
theorem dX8_sit_50 : decode cX8_sit 50 = .ok (.aload_n 0, 1) := by decide +kernel
theorem dX8_sit_51 : decode cX8_sit 51 = .ok (.iconst 0, 1) := by decide +kernel
theorem dX8_sit_52 : decode cX8_sit 52 = .ok (.putfield 75, 3) := by decide +kernel
theorem dX8_sit_55 : decode cX8_sit 55 = .ok (.aload_n 0, 1) := by decide +kernel
theorem dX8_sit_56 : decode cX8_sit 56 = .ok (.getfield 97, 3) := by decide +kernel
theorem dX8_sit_59 : decode cX8_sit 59 = .ok (.ireturn, 1) := by decide +kernel
theorem dX8_matter_0 : decode cX8_matter 0 = .ok (.iload_n 1, 1) := by decide +kernel
theorem dX8_matter_1 : decode cX8_matter 1 = .ok (.invokestatic 67, 3) := by decide +kernel
theorem dX8_matter_4 : decode cX8_matter 4 = .ok (.ifCond .ne 5, 3) := by decide +kernel
theorem dX8_matter_7 : decode cX8_matter 7 = .ok (.iconst (-1), 1) := by decide +kernel
theorem dX8_matter_8 : decode cX8_matter 8 = .ok (.ireturn, 1) := by decide +kernel
theorem dX8_matter_9 : decode cX8_matter 9 = .ok (.iload_n 2, 1) := by decide +kernel
theorem dX8_matter_10 : decode cX8_matter 10 = .ok (.iconst 1, 1) := by decide +kernel
theorem dX8_matter_11 : decode cX8_matter 11 = .ok (.bipush 60, 2) := by decide +kernel
theorem dX8_matter_13 : decode cX8_matter 13 = .ok (.invokestatic 63, 3) := by decide +kernel
theorem dX8_matter_16 : decode cX8_matter 16 = .ok (.ifCond .eq 19, 3) := by decide +kernel
theorem dX8_matter_19 : decode cX8_matter 19 = .ok (.iload_n 3, 1) := by decide +kernel
theorem dX8_matter_20 : decode cX8_matter 20 = .ok (.iconst 0, 1) := by decide +kernel
theorem dX8_matter_21 : decode cX8_matter 21 = .ok (.iconst 1, 1) := by decide +kernel
theorem dX8_matter_22 : decode cX8_matter 22 = .ok (.aload_n 0, 1) := by decide +kernel
theorem dX8_matter_23 : decode cX8_matter 23 = .ok (.getfield 117, 3) := by decide +kernel
theorem dX8_matter_26 : decode cX8_matter 26 = .ok (.ishl, 1) := by decide +kernel
theorem dX8_matter_27 : decode cX8_matter 27 = .ok (.iconst 1, 1) := by decide +kernel
theorem dX8_matter_28 : decode cX8_matter 28 = .ok (.isub, 1) := by decide +kernel
theorem dX8_matter_29 : decode cX8_matter 29 = .ok (.invokestatic 63, 3) := by decide +kernel
theorem dX8_matter_32 : decode cX8_matter 32 = .ok (.ifCond .ne 6, 3) := by decide +kernel
theorem dX8_matter_35 : decode cX8_matter 35 = .ok (.bipush (-2), 2) := by decide +kernel
theorem dX8_matter_37 : decode cX8_matter 37 = .ok (.ireturn, 1) := by decide +kernel
theorem dX8_matter_38 : decode cX8_matter 38 = .ok (.aload_n 0, 1) := by decide +kernel
theorem dX8_matter_39 : decode cX8_matter 39 = .ok (.getfield 117, 3) := by decide +kernel
theorem dX8_matter_42 : decode cX8_matter 42 = .ok (.bipush 8, 2) := by decide +kernel
theorem dX8_matter_44 : decode cX8_matter 44 = .ok (.if_icmp .ne 6, 3) := by decide +kernel
theorem dX8_matter_47 : decode cX8_matter 47 = .ok (.bipush (-4), 2) := by decide +kernel
theorem dX8_matter_49 : decode cX8_matter 49 = .ok (.ireturn, 1) := by decide +kernel
theorem dX8_matter_50 : decode cX8_matter 50 = .ok (.aload_n 0, 1) := by decide +kernel
theorem dX8_matter_51 : decode cX8_matter 51 = .ok (.getfield 23, 3) := by decide +kernel
theorem dX8_matter_54 : decode cX8_matter 54 = .ok (.iconst 3, 1) := by decide +kernel
theorem dX8_matter_55 : decode cX8_matter 55 = .ok (.aload_n 0, 1) := by decide +kernel
theorem dX8_matter_56 : decode cX8_matter 56 = .ok (.getfield 117, 3) := by decide +kernel
theorem dX8_matter_59 : decode cX8_matter 59 = .ok (.imul, 1) := by decide +kernel
theorem dX8_matter_60 : decode cX8_matter 60 = .ok (.iload_n 1, 1) := by decide +kernel
theorem dX8_matter_61 : decode cX8_matter 61 = .ok (.iastore, 1) := by decide +kernel
theorem dX8_matter_62 : decode cX8_matter 62 = .ok (.aload_n 0, 1) := by decide +kernel
theorem dX8_matter_63 : decode cX8_matter 63 = .ok (.getfield 23, 3) := by decide +kernel
theorem dX8_matter_66 : decode cX8_matter 66 = .ok (.iconst 3, 1) := by decide +kernel
theorem dX8_matter_67 : decode cX8_matter 67 = .ok (.aload_n 0, 1) := by decide +kernel
theorem dX8_matter_68 : decode cX8_matter 68 = .ok (.getfield 117, 3) := by decide +kernel
theorem dX8_matter_71 : decode cX8_matter 71 = .ok (.imul, 1) := by decide +kernel
theorem dX8_matter_72 : decode cX8_matter 72 = .ok (.iconst 1, 1) := by decide +kernel
theorem dX8_matter_73 : decode cX8_matter 73 = .ok (.iadd, 1) := by decide +kernel
theorem dX8_matter_74 : decode cX8_matter 74 = .ok (.iload_n 2, 1) := by decide +kernel
theorem dX8_matter_75 : decode cX8_matter 75 = .ok (.iastore, 1) := by decide +kernel
theorem dX8_matter_76 : decode cX8_matter 76 = .ok (.aload_n 0, 1) := by decide +kernel
theorem dX8_matter_77 : decode cX8_matter 77 = .ok (.getfield 23, 3) := by decide +kernel
theorem dX8_matter_80 : decode cX8_matter 80 = .ok (.iconst 3, 1) := by decide +kernel
theorem dX8_matter_81 : decode cX8_matter 81 = .ok (.aload_n 0, 1) := by decide +kernel
theorem dX8_matter_82 : decode cX8_matter 82 = .ok (.getfield 117, 3) := by decide +kernel
theorem dX8_matter_85 : decode cX8_matter 85 = .ok (.imul, 1) := by decide +kernel
theorem dX8_matter_86 : decode cX8_matter 86 = .ok (.iconst 2, 1) := by decide +kernel
theorem dX8_matter_87 : decode cX8_matter 87 = .ok (.iadd, 1) := by decide +kernel
theorem dX8_matter_88 : decode cX8_matter 88 = .ok (.iload_n 3, 1) := by decide +kernel
theorem dX8_matter_89 : decode cX8_matter 89 = .ok (.iastore, 1) := by decide +kernel
theorem dX8_matter_90 : decode cX8_matter 90 = .ok (.aload_n 0, 1) := by decide +kernel
theorem dX8_matter_91 : decode cX8_matter 91 = .ok (.dup, 1) := by decide +kernel
theorem dX8_matter_92 : decode cX8_matter 92 = .ok (.getfield 117, 3) := by decide +kernel
theorem dX8_matter_95 : decode cX8_matter 95 = .ok (.iconst 1, 1) := by decide +kernel
theorem dX8_matter_96 : decode cX8_matter 96 = .ok (.iadd, 1) := by decide +kernel
theorem dX8_matter_97 : decode cX8_matter 97 = .ok (.putfield 117, 3) := by decide +kernel
theorem dX8_matter_100 : decode cX8_matter 100 = .ok (.aload_n 0, 1) := by decide +kernel
theorem dX8_matter_101 : decode cX8_matter 101 = .ok (.getfield 117, 3) := by decide +kernel
theorem dX8_matter_104 : decode cX8_matter 104 = .ok (.iconst 1, 1) := by decide +kernel
theorem dX8_matter_105 : decode cX8_matter 105 = .ok (.isub, 1) := by decide +kernel
theorem dX8_matter_106 : decode cX8_matter 106 = .ok (.ireturn, 1) := by decide +kernel
theorem dX8_about_0 : decode cX8_about 0 = .ok (.iload_n 1, 1) := by decide +kernel
theorem dX8_about_1 : decode cX8_about 1 = .ok (.iconst 0, 1) := by decide +kernel
theorem dX8_about_2 : decode cX8_about 2 = .ok (.aload_n 0, 1) := by decide +kernel
theorem dX8_about_3 : decode cX8_about 3 = .ok (.getfield 117, 3) := by decide +kernel
theorem dX8_about_6 : decode cX8_about 6 = .ok (.iconst 1, 1) := by decide +kernel
theorem dX8_about_7 : decode cX8_about 7 = .ok (.isub, 1) := by decide +kernel
theorem dX8_about_8 : decode cX8_about 8 = .ok (.invokestatic 63, 3) := by decide +kernel
theorem dX8_about_11 : decode cX8_about 11 = .ok (.ifCond .ne 5, 3) := by decide +kernel
theorem dX8_about_14 : decode cX8_about 14 = .ok (.iconst (-1), 1) := by decide +kernel
theorem dX8_about_15 : decode cX8_about 15 = .ok (.ireturn, 1) := by decide +kernel
theorem dX8_about_16 : decode cX8_about 16 = .ok (.iload_n 2, 1) := by decide +kernel
theorem dX8_about_17 : decode cX8_about 17 = .ok (.iconst 0, 1) := by decide +kernel
theorem dX8_about_18 : decode cX8_about 18 = .ok (.iconst 2, 1) := by decide +kernel
theorem dX8_about_19 : decode cX8_about 19 = .ok (.invokestatic 63, 3) := by decide +kernel
theorem dX8_about_22 : decode cX8_about 22 = .ok (.ifCond .eq 16, 3) := by decide +kernel
theorem dX8_about_25 : decode cX8_about 25 = .ok (.aload_n 0, 1) := by decide +kernel
theorem dX8_about_26 : decode cX8_about 26 = .ok (.getfield 23, 3) := by decide +kernel
theorem dX8_about_29 : decode cX8_about 29 = .ok (.iconst 3, 1) := by decide +kernel
theorem dX8_about_30 : decode cX8_about 30 = .ok (.iload_n 1, 1) := by decide +kernel
theorem dX8_about_31 : decode cX8_about 31 = .ok (.imul, 1) := by decide +kernel
theorem dX8_about_32 : decode cX8_about 32 = .ok (.iload_n 2, 1) := by decide +kernel
theorem dX8_about_33 : decode cX8_about 33 = .ok (.iadd, 1) := by decide +kernel
theorem dX8_about_34 : decode cX8_about 34 = .ok (.iaload, 1) := by decide +kernel
theorem dX8_about_35 : decode cX8_about 35 = .ok (.goto 5, 3) := by decide +kernel
theorem dX8_about_38 : decode cX8_about 38 = .ok (.bipush (-2), 2) := by decide +kernel
theorem dX8_about_40 : decode cX8_about 40 = .ok (.ireturn, 1) := by decide +kernel
theorem dX8_clear_0 : decode cX8_clear 0 = .ok (.aload_n 0, 1) := by decide +kernel
theorem dX8_clear_1 : decode cX8_clear 1 = .ok (.getfield 117, 3) := by decide +kernel
theorem dX8_clear_4 : decode cX8_clear 4 = .ok (.istore_n 1, 1) := by decide +kernel
theorem dX8_clear_5 : decode cX8_clear 5 = .ok (.aload_n 0, 1) := by decide +kernel
theorem dX8_clear_6 : decode cX8_clear 6 = .ok (.iconst 0, 1) := by decide +kernel
theorem dX8_clear_7 : decode cX8_clear 7 = .ok (.putfield 117, 3) := by decide +kernel
theorem dX8_clear_10 : decode cX8_clear 10 = .ok (.iload_n 1, 1) := by decide +kernel
theorem dX8_clear_11 : decode cX8_clear 11 = .ok (.ireturn, 1) := by decide +kernel
theorem dX8_mayBegin_0 : decode cX8_mayBegin 0 = .ok (.iload_n 1, 1) := by decide +kernel
theorem dX8_mayBegin_1 : decode cX8_mayBegin 1 = .ok (.iload_n 2, 1) := by decide +kernel
theorem dX8_mayBegin_2 : decode cX8_mayBegin 2 = .ok (.ishr, 1) := by decide +kernel
theorem dX8_mayBegin_3 : decode cX8_mayBegin 3 = .ok (.iconst 1, 1) := by decide +kernel
theorem dX8_mayBegin_4 : decode cX8_mayBegin 4 = .ok (.iand, 1) := by decide +kernel
theorem dX8_mayBegin_5 : decode cX8_mayBegin 5 = .ok (.ifCond .ne 24, 3) := by decide +kernel
theorem dX8_mayBegin_8 : decode cX8_mayBegin 8 = .ok (.aload_n 0, 1) := by decide +kernel
theorem dX8_mayBegin_9 : decode cX8_mayBegin 9 = .ok (.getfield 23, 3) := by decide +kernel
theorem dX8_mayBegin_12 : decode cX8_mayBegin 12 = .ok (.iconst 3, 1) := by decide +kernel
theorem dX8_mayBegin_13 : decode cX8_mayBegin 13 = .ok (.iload_n 2, 1) := by decide +kernel
theorem dX8_mayBegin_14 : decode cX8_mayBegin 14 = .ok (.imul, 1) := by decide +kernel
theorem dX8_mayBegin_15 : decode cX8_mayBegin 15 = .ok (.iconst 2, 1) := by decide +kernel
end
section
theorem dX8_mayBegin_16 : decode cX8_mayBegin 16 = .ok (.iadd, 1) := by decide +kernel
theorem dX8_mayBegin_17 : decode cX8_mayBegin 17 = .ok (.iaload, 1) := by decide +kernel
theorem dX8_mayBegin_18 : decode cX8_mayBegin 18 = .ok (.iload_n 1, 1) := by decide +kernel
theorem dX8_mayBegin_19 : decode cX8_mayBegin 19 = .ok (.iconst (-1), 1) := by decide +kernel
theorem dX8_mayBegin_20 : decode cX8_mayBegin 20 = .ok (.ixor, 1) := by decide +kernel
theorem dX8_mayBegin_21 : decode cX8_mayBegin 21 = .ok (.iand, 1) := by decide +kernel
theorem dX8_mayBegin_22 : decode cX8_mayBegin 22 = .ok (.ifCond .ne 7, 3) := by decide +kernel
theorem dX8_mayBegin_25 : decode cX8_mayBegin 25 = .ok (.iconst 1, 1) := by decide +kernel
theorem dX8_mayBegin_26 : decode cX8_mayBegin 26 = .ok (.goto 4, 3) := by decide +kernel
theorem dX8_mayBegin_29 : decode cX8_mayBegin 29 = .ok (.iconst 0, 1) := by decide +kernel
theorem dX8_mayBegin_30 : decode cX8_mayBegin 30 = .ok (.ireturn, 1) := by decide +kernel
theorem dX8_spokenBy_0 : decode cX8_spokenBy 0 = .ok (.iconst 0, 1) := by decide +kernel
theorem dX8_spokenBy_1 : decode cX8_spokenBy 1 = .ok (.istore_n 3, 1) := by decide +kernel
theorem dX8_spokenBy_2 : decode cX8_spokenBy 2 = .ok (.iconst 0, 1) := by decide +kernel
theorem dX8_spokenBy_3 : decode cX8_spokenBy 3 = .ok (.istore 4, 2) := by decide +kernel
theorem dX8_spokenBy_5 : decode cX8_spokenBy 5 = .ok (.iload 4, 2) := by decide +kernel
theorem dX8_spokenBy_7 : decode cX8_spokenBy 7 = .ok (.aload_n 0, 1) := by decide +kernel
theorem dX8_spokenBy_8 : decode cX8_spokenBy 8 = .ok (.getfield 117, 3) := by decide +kernel
theorem dX8_spokenBy_11 : decode cX8_spokenBy 11 = .ok (.if_icmp .ge 50, 3) := by decide +kernel
theorem dX8_spokenBy_14 : decode cX8_spokenBy 14 = .ok (.iload_n 3, 1) := by decide +kernel
theorem dX8_spokenBy_15 : decode cX8_spokenBy 15 = .ok (.iload_n 2, 1) := by decide +kernel
theorem dX8_spokenBy_16 : decode cX8_spokenBy 16 = .ok (.iload 4, 2) := by decide +kernel
theorem dX8_spokenBy_18 : decode cX8_spokenBy 18 = .ok (.ishr, 1) := by decide +kernel
theorem dX8_spokenBy_19 : decode cX8_spokenBy 19 = .ok (.iconst 1, 1) := by decide +kernel
theorem dX8_spokenBy_20 : decode cX8_spokenBy 20 = .ok (.iand, 1) := by decide +kernel
theorem dX8_spokenBy_21 : decode cX8_spokenBy 21 = .ok (.iconst 1, 1) := by decide +kernel
theorem dX8_spokenBy_22 : decode cX8_spokenBy 22 = .ok (.if_icmp .ne 30, 3) := by decide +kernel
theorem dX8_spokenBy_25 : decode cX8_spokenBy 25 = .ok (.aload_n 0, 1) := by decide +kernel
theorem dX8_spokenBy_26 : decode cX8_spokenBy 26 = .ok (.getfield 23, 3) := by decide +kernel
theorem dX8_spokenBy_29 : decode cX8_spokenBy 29 = .ok (.iconst 3, 1) := by decide +kernel
theorem dX8_spokenBy_30 : decode cX8_spokenBy 30 = .ok (.iload 4, 2) := by decide +kernel
theorem dX8_spokenBy_32 : decode cX8_spokenBy 32 = .ok (.imul, 1) := by decide +kernel
theorem dX8_spokenBy_33 : decode cX8_spokenBy 33 = .ok (.iaload, 1) := by decide +kernel
theorem dX8_spokenBy_34 : decode cX8_spokenBy 34 = .ok (.iload_n 1, 1) := by decide +kernel
theorem dX8_spokenBy_35 : decode cX8_spokenBy 35 = .ok (.if_icmp .ne 17, 3) := by decide +kernel
theorem dX8_spokenBy_38 : decode cX8_spokenBy 38 = .ok (.aload_n 0, 1) := by decide +kernel
theorem dX8_spokenBy_39 : decode cX8_spokenBy 39 = .ok (.getfield 23, 3) := by decide +kernel
theorem dX8_spokenBy_42 : decode cX8_spokenBy 42 = .ok (.iconst 3, 1) := by decide +kernel
theorem dX8_spokenBy_43 : decode cX8_spokenBy 43 = .ok (.iload 4, 2) := by decide +kernel
theorem dX8_spokenBy_45 : decode cX8_spokenBy 45 = .ok (.imul, 1) := by decide +kernel
theorem dX8_spokenBy_46 : decode cX8_spokenBy 46 = .ok (.iconst 1, 1) := by decide +kernel
theorem dX8_spokenBy_47 : decode cX8_spokenBy 47 = .ok (.iadd, 1) := by decide +kernel
theorem dX8_spokenBy_48 : decode cX8_spokenBy 48 = .ok (.iaload, 1) := by decide +kernel
theorem dX8_spokenBy_49 : decode cX8_spokenBy 49 = .ok (.goto 4, 3) := by decide +kernel
theorem dX8_spokenBy_52 : decode cX8_spokenBy 52 = .ok (.iconst 0, 1) := by decide +kernel
theorem dX8_spokenBy_53 : decode cX8_spokenBy 53 = .ok (.iadd, 1) := by decide +kernel
theorem dX8_spokenBy_54 : decode cX8_spokenBy 54 = .ok (.istore_n 3, 1) := by decide +kernel
theorem dX8_spokenBy_55 : decode cX8_spokenBy 55 = .ok (.iinc 4 1, 3) := by decide +kernel
theorem dX8_spokenBy_58 : decode cX8_spokenBy 58 = .ok (.goto (-53), 3) := by decide +kernel
theorem dX8_spokenBy_61 : decode cX8_spokenBy 61 = .ok (.iload_n 3, 1) := by decide +kernel
theorem dX8_spokenBy_62 : decode cX8_spokenBy 62 = .ok (.ireturn, 1) := by decide +kernel
theorem dX8_endOf_0 : decode cX8_endOf 0 = .ok (.aload_n 0, 1) := by decide +kernel
theorem dX8_endOf_1 : decode cX8_endOf 1 = .ok (.getfield 23, 3) := by decide +kernel
theorem dX8_endOf_4 : decode cX8_endOf 4 = .ok (.iconst 3, 1) := by decide +kernel
theorem dX8_endOf_5 : decode cX8_endOf 5 = .ok (.iload_n 3, 1) := by decide +kernel
theorem dX8_endOf_6 : decode cX8_endOf 6 = .ok (.imul, 1) := by decide +kernel
theorem dX8_endOf_7 : decode cX8_endOf 7 = .ok (.iaload, 1) := by decide +kernel
theorem dX8_endOf_8 : decode cX8_endOf 8 = .ok (.istore 4, 2) := by decide +kernel
theorem dX8_endOf_10 : decode cX8_endOf 10 = .ok (.aload_n 0, 1) := by decide +kernel
theorem dX8_endOf_11 : decode cX8_endOf 11 = .ok (.getfield 23, 3) := by decide +kernel
theorem dX8_endOf_14 : decode cX8_endOf 14 = .ok (.iconst 3, 1) := by decide +kernel
theorem dX8_endOf_15 : decode cX8_endOf 15 = .ok (.iload_n 3, 1) := by decide +kernel
theorem dX8_endOf_16 : decode cX8_endOf 16 = .ok (.imul, 1) := by decide +kernel
theorem dX8_endOf_17 : decode cX8_endOf 17 = .ok (.iconst 1, 1) := by decide +kernel
theorem dX8_endOf_18 : decode cX8_endOf 18 = .ok (.iadd, 1) := by decide +kernel
theorem dX8_endOf_19 : decode cX8_endOf 19 = .ok (.iaload, 1) := by decide +kernel
theorem dX8_endOf_20 : decode cX8_endOf 20 = .ok (.istore 5, 2) := by decide +kernel
theorem dX8_endOf_22 : decode cX8_endOf 22 = .ok (.iload 5, 2) := by decide +kernel
theorem dX8_endOf_24 : decode cX8_endOf 24 = .ok (.aload_n 0, 1) := by decide +kernel
theorem dX8_endOf_25 : decode cX8_endOf 25 = .ok (.getfield 35, 3) := by decide +kernel
theorem dX8_endOf_28 : decode cX8_endOf 28 = .ok (.iload 4, 2) := by decide +kernel
theorem dX8_endOf_30 : decode cX8_endOf 30 = .ok (.iaload, 1) := by decide +kernel
theorem dX8_endOf_31 : decode cX8_endOf 31 = .ok (.isub, 1) := by decide +kernel
theorem dX8_endOf_32 : decode cX8_endOf 32 = .ok (.iconst 2, 1) := by decide +kernel
theorem dX8_endOf_33 : decode cX8_endOf 33 = .ok (.aload_n 0, 1) := by decide +kernel
theorem dX8_endOf_34 : decode cX8_endOf 34 = .ok (.iload 4, 2) := by decide +kernel
theorem dX8_endOf_36 : decode cX8_endOf 36 = .ok (.iload_n 1, 1) := by decide +kernel
theorem dX8_endOf_37 : decode cX8_endOf 37 = .ok (.invokevirtual 120, 3) := by decide +kernel
theorem dX8_endOf_40 : decode cX8_endOf 40 = .ok (.imul, 1) := by decide +kernel
theorem dX8_endOf_41 : decode cX8_endOf 41 = .ok (.iadd, 1) := by decide +kernel
theorem dX8_endOf_42 : decode cX8_endOf 42 = .ok (.istore 6, 2) := by decide +kernel
theorem dX8_endOf_44 : decode cX8_endOf 44 = .ok (.iload 6, 2) := by decide +kernel
theorem dX8_endOf_46 : decode cX8_endOf 46 = .ok (.iload_n 2, 1) := by decide +kernel
theorem dX8_endOf_47 : decode cX8_endOf 47 = .ok (.if_icmp .le 8, 3) := by decide +kernel
theorem dX8_endOf_50 : decode cX8_endOf 50 = .ok (.iload 6, 2) := by decide +kernel
theorem dX8_endOf_52 : decode cX8_endOf 52 = .ok (.goto 4, 3) := by decide +kernel
theorem dX8_endOf_55 : decode cX8_endOf 55 = .ok (.iload_n 2, 1) := by decide +kernel
theorem dX8_endOf_56 : decode cX8_endOf 56 = .ok (.iload 5, 2) := by decide +kernel
theorem dX8_endOf_58 : decode cX8_endOf 58 = .ok (.iadd, 1) := by decide +kernel
theorem dX8_endOf_59 : decode cX8_endOf 59 = .ok (.ireturn, 1) := by decide +kernel
theorem dX8_leastFrom_0 : decode cX8_leastFrom 0 = .ok (.iconst 1, 1) := by decide +kernel
theorem dX8_leastFrom_1 : decode cX8_leastFrom 1 = .ok (.aload_n 0, 1) := by decide +kernel
theorem dX8_leastFrom_2 : decode cX8_leastFrom 2 = .ok (.getfield 117, 3) := by decide +kernel
theorem dX8_leastFrom_5 : decode cX8_leastFrom 5 = .ok (.ishl, 1) := by decide +kernel
theorem dX8_leastFrom_6 : decode cX8_leastFrom 6 = .ok (.iconst 1, 1) := by decide +kernel
theorem dX8_leastFrom_7 : decode cX8_leastFrom 7 = .ok (.isub, 1) := by decide +kernel
theorem dX8_leastFrom_8 : decode cX8_leastFrom 8 = .ok (.istore_n 3, 1) := by decide +kernel
theorem dX8_leastFrom_9 : decode cX8_leastFrom 9 = .ok (.iconst 0, 1) := by decide +kernel
theorem dX8_leastFrom_10 : decode cX8_leastFrom 10 = .ok (.istore 4, 2) := by decide +kernel
theorem dX8_leastFrom_12 : decode cX8_leastFrom 12 = .ok (.iload 4, 2) := by decide +kernel
theorem dX8_leastFrom_14 : decode cX8_leastFrom 14 = .ok (.iload_n 3, 1) := by decide +kernel
theorem dX8_leastFrom_15 : decode cX8_leastFrom 15 = .ok (.if_icmp .gt 28, 3) := by decide +kernel
theorem dX8_leastFrom_18 : decode cX8_leastFrom 18 = .ok (.aload_n 0, 1) := by decide +kernel
theorem dX8_leastFrom_19 : decode cX8_leastFrom 19 = .ok (.getfield 38, 3) := by decide +kernel
theorem dX8_leastFrom_22 : decode cX8_leastFrom 22 = .ok (.iload 4, 2) := by decide +kernel
theorem dX8_leastFrom_24 : decode cX8_leastFrom 24 = .ok (.iload 4, 2) := by decide +kernel
theorem dX8_leastFrom_26 : decode cX8_leastFrom 26 = .ok (.iload_n 1, 1) := by decide +kernel
theorem dX8_leastFrom_27 : decode cX8_leastFrom 27 = .ok (.if_icmp .ne 7, 3) := by decide +kernel
theorem dX8_leastFrom_30 : decode cX8_leastFrom 30 = .ok (.iload_n 2, 1) := by decide +kernel
theorem dX8_leastFrom_31 : decode cX8_leastFrom 31 = .ok (.goto 5, 3) := by decide +kernel
theorem dX8_leastFrom_34 : decode cX8_leastFrom 34 = .ok (.ldc 124, 2) := by decide +kernel
theorem dX8_leastFrom_36 : decode cX8_leastFrom 36 = .ok (.iastore, 1) := by decide +kernel
theorem dX8_leastFrom_37 : decode cX8_leastFrom 37 = .ok (.iinc 4 1, 3) := by decide +kernel
theorem dX8_leastFrom_40 : decode cX8_leastFrom 40 = .ok (.goto (-28), 3) := by decide +kernel
theorem dX8_leastFrom_43 : decode cX8_leastFrom 43 = .ok (.iload_n 1, 1) := by decide +kernel
theorem dX8_leastFrom_44 : decode cX8_leastFrom 44 = .ok (.istore 4, 2) := by decide +kernel
theorem dX8_leastFrom_46 : decode cX8_leastFrom 46 = .ok (.iload 4, 2) := by decide +kernel
theorem dX8_leastFrom_48 : decode cX8_leastFrom 48 = .ok (.iload_n 3, 1) := by decide +kernel
theorem dX8_leastFrom_49 : decode cX8_leastFrom 49 = .ok (.if_icmp .gt 107, 3) := by decide +kernel
theorem dX8_leastFrom_52 : decode cX8_leastFrom 52 = .ok (.iconst 0, 1) := by decide +kernel
theorem dX8_leastFrom_53 : decode cX8_leastFrom 53 = .ok (.istore 5, 2) := by decide +kernel
theorem dX8_leastFrom_55 : decode cX8_leastFrom 55 = .ok (.iload 5, 2) := by decide +kernel
theorem dX8_leastFrom_57 : decode cX8_leastFrom 57 = .ok (.aload_n 0, 1) := by decide +kernel
theorem dX8_leastFrom_58 : decode cX8_leastFrom 58 = .ok (.getfield 117, 3) := by decide +kernel
theorem dX8_leastFrom_61 : decode cX8_leastFrom 61 = .ok (.if_icmp .ge 89, 3) := by decide +kernel
theorem dX8_leastFrom_64 : decode cX8_leastFrom 64 = .ok (.aload_n 0, 1) := by decide +kernel
theorem dX8_leastFrom_65 : decode cX8_leastFrom 65 = .ok (.getfield 38, 3) := by decide +kernel
theorem dX8_leastFrom_68 : decode cX8_leastFrom 68 = .ok (.iload 4, 2) := by decide +kernel
theorem dX8_leastFrom_70 : decode cX8_leastFrom 70 = .ok (.iaload, 1) := by decide +kernel
theorem dX8_leastFrom_71 : decode cX8_leastFrom 71 = .ok (.ldc 124, 2) := by decide +kernel
theorem dX8_leastFrom_73 : decode cX8_leastFrom 73 = .ok (.if_icmp .ge 77, 3) := by decide +kernel
theorem dX8_leastFrom_76 : decode cX8_leastFrom 76 = .ok (.aload_n 0, 1) := by decide +kernel
theorem dX8_leastFrom_77 : decode cX8_leastFrom 77 = .ok (.iload 4, 2) := by decide +kernel
theorem dX8_leastFrom_79 : decode cX8_leastFrom 79 = .ok (.iload 5, 2) := by decide +kernel
theorem dX8_leastFrom_81 : decode cX8_leastFrom 81 = .ok (.invokevirtual 125, 3) := by decide +kernel
theorem dX8_leastFrom_84 : decode cX8_leastFrom 84 = .ok (.ifCond .eq 60, 3) := by decide +kernel
theorem dX8_leastFrom_87 : decode cX8_leastFrom 87 = .ok (.aload_n 0, 1) := by decide +kernel
theorem dX8_leastFrom_88 : decode cX8_leastFrom 88 = .ok (.iload 4, 2) := by decide +kernel
theorem dX8_leastFrom_90 : decode cX8_leastFrom 90 = .ok (.aload_n 0, 1) := by decide +kernel
theorem dX8_leastFrom_91 : decode cX8_leastFrom 91 = .ok (.getfield 38, 3) := by decide +kernel
theorem dX8_leastFrom_94 : decode cX8_leastFrom 94 = .ok (.iload 4, 2) := by decide +kernel
theorem dX8_leastFrom_96 : decode cX8_leastFrom 96 = .ok (.iaload, 1) := by decide +kernel
theorem dX8_leastFrom_97 : decode cX8_leastFrom 97 = .ok (.iload 5, 2) := by decide +kernel
theorem dX8_leastFrom_99 : decode cX8_leastFrom 99 = .ok (.invokevirtual 129, 3) := by decide +kernel
theorem dX8_leastFrom_102 : decode cX8_leastFrom 102 = .ok (.istore 6, 2) := by decide +kernel
theorem dX8_leastFrom_104 : decode cX8_leastFrom 104 = .ok (.iload 4, 2) := by decide +kernel
theorem dX8_leastFrom_106 : decode cX8_leastFrom 106 = .ok (.iconst 1, 1) := by decide +kernel
theorem dX8_leastFrom_107 : decode cX8_leastFrom 107 = .ok (.iload 5, 2) := by decide +kernel
theorem dX8_leastFrom_109 : decode cX8_leastFrom 109 = .ok (.ishl, 1) := by decide +kernel
theorem dX8_leastFrom_110 : decode cX8_leastFrom 110 = .ok (.ior, 1) := by decide +kernel
theorem dX8_leastFrom_111 : decode cX8_leastFrom 111 = .ok (.istore 7, 2) := by decide +kernel
theorem dX8_leastFrom_113 : decode cX8_leastFrom 113 = .ok (.aload_n 0, 1) := by decide +kernel
theorem dX8_leastFrom_114 : decode cX8_leastFrom 114 = .ok (.getfield 38, 3) := by decide +kernel
theorem dX8_leastFrom_117 : decode cX8_leastFrom 117 = .ok (.iload 7, 2) := by decide +kernel
theorem dX8_leastFrom_119 : decode cX8_leastFrom 119 = .ok (.iload 6, 2) := by decide +kernel
theorem dX8_leastFrom_121 : decode cX8_leastFrom 121 = .ok (.aload_n 0, 1) := by decide +kernel
theorem dX8_leastFrom_122 : decode cX8_leastFrom 122 = .ok (.getfield 38, 3) := by decide +kernel
theorem dX8_leastFrom_125 : decode cX8_leastFrom 125 = .ok (.iload 7, 2) := by decide +kernel
theorem dX8_leastFrom_127 : decode cX8_leastFrom 127 = .ok (.iaload, 1) := by decide +kernel
theorem dX8_leastFrom_128 : decode cX8_leastFrom 128 = .ok (.if_icmp .ge 8, 3) := by decide +kernel
theorem dX8_leastFrom_131 : decode cX8_leastFrom 131 = .ok (.iload 6, 2) := by decide +kernel
theorem dX8_leastFrom_133 : decode cX8_leastFrom 133 = .ok (.goto 10, 3) := by decide +kernel
theorem dX8_leastFrom_136 : decode cX8_leastFrom 136 = .ok (.aload_n 0, 1) := by decide +kernel
theorem dX8_leastFrom_137 : decode cX8_leastFrom 137 = .ok (.getfield 38, 3) := by decide +kernel
theorem dX8_leastFrom_140 : decode cX8_leastFrom 140 = .ok (.iload 7, 2) := by decide +kernel
theorem dX8_leastFrom_142 : decode cX8_leastFrom 142 = .ok (.iaload, 1) := by decide +kernel
theorem dX8_leastFrom_143 : decode cX8_leastFrom 143 = .ok (.iastore, 1) := by decide +kernel
theorem dX8_leastFrom_144 : decode cX8_leastFrom 144 = .ok (.iinc 5 1, 3) := by decide +kernel
theorem dX8_leastFrom_147 : decode cX8_leastFrom 147 = .ok (.goto (-92), 3) := by decide +kernel
theorem dX8_leastFrom_150 : decode cX8_leastFrom 150 = .ok (.iinc 4 1, 3) := by decide +kernel
theorem dX8_leastFrom_153 : decode cX8_leastFrom 153 = .ok (.goto (-107), 3) := by decide +kernel
theorem dX8_leastFrom_156 : decode cX8_leastFrom 156 = .ok (.aload_n 0, 1) := by decide +kernel
theorem dX8_leastFrom_157 : decode cX8_leastFrom 157 = .ok (.getfield 38, 3) := by decide +kernel
theorem dX8_leastFrom_160 : decode cX8_leastFrom 160 = .ok (.iload_n 3, 1) := by decide +kernel
theorem dX8_leastFrom_161 : decode cX8_leastFrom 161 = .ok (.iaload, 1) := by decide +kernel
theorem dX8_leastFrom_162 : decode cX8_leastFrom 162 = .ok (.ireturn, 1) := by decide +kernel
theorem dX8_asSaved_0 : decode cX8_asSaved 0 = .ok (.iconst 0, 1) := by decide +kernel
theorem dX8_asSaved_1 : decode cX8_asSaved 1 = .ok (.istore_n 1, 1) := by decide +kernel
theorem dX8_asSaved_2 : decode cX8_asSaved 2 = .ok (.iload_n 1, 1) := by decide +kernel
theorem dX8_asSaved_3 : decode cX8_asSaved 3 = .ok (.bipush 6, 2) := by decide +kernel
theorem dX8_asSaved_5 : decode cX8_asSaved 5 = .ok (.if_icmp .ge 23, 3) := by decide +kernel
theorem dX8_asSaved_8 : decode cX8_asSaved 8 = .ok (.aload_n 0, 1) := by decide +kernel
theorem dX8_asSaved_9 : decode cX8_asSaved 9 = .ok (.getfield 35, 3) := by decide +kernel
theorem dX8_asSaved_12 : decode cX8_asSaved 12 = .ok (.iload_n 1, 1) := by decide +kernel
theorem dX8_asSaved_13 : decode cX8_asSaved 13 = .ok (.aload_n 0, 1) := by decide +kernel
theorem dX8_asSaved_14 : decode cX8_asSaved 14 = .ok (.getfield 7, 3) := by decide +kernel
theorem dX8_asSaved_17 : decode cX8_asSaved 17 = .ok (.iconst 4, 1) := by decide +kernel
theorem dX8_asSaved_18 : decode cX8_asSaved 18 = .ok (.iload_n 1, 1) := by decide +kernel
theorem dX8_asSaved_19 : decode cX8_asSaved 19 = .ok (.imul, 1) := by decide +kernel
theorem dX8_asSaved_20 : decode cX8_asSaved 20 = .ok (.iaload, 1) := by decide +kernel
theorem dX8_asSaved_21 : decode cX8_asSaved 21 = .ok (.iastore, 1) := by decide +kernel
theorem dX8_asSaved_22 : decode cX8_asSaved 22 = .ok (.iinc 1 1, 3) := by decide +kernel
theorem dX8_asSaved_25 : decode cX8_asSaved 25 = .ok (.goto (-23), 3) := by decide +kernel
theorem dX8_asSaved_28 : decode cX8_asSaved 28 = .ok (.return_, 1) := by decide +kernel
theorem dX8_least_0 : decode cX8_least 0 = .ok (.aload_n 0, 1) := by decide +kernel
theorem dX8_least_1 : decode cX8_least 1 = .ok (.invokevirtual 133, 3) := by decide +kernel
theorem dX8_least_4 : decode cX8_least 4 = .ok (.aload_n 0, 1) := by decide +kernel
theorem dX8_least_5 : decode cX8_least 5 = .ok (.iconst 0, 1) := by decide +kernel
theorem dX8_least_6 : decode cX8_least 6 = .ok (.iconst 0, 1) := by decide +kernel
theorem dX8_least_7 : decode cX8_least 7 = .ok (.invokevirtual 136, 3) := by decide +kernel
theorem dX8_least_10 : decode cX8_least 10 = .ok (.istore_n 2, 1) := by decide +kernel
theorem dX8_least_11 : decode cX8_least 11 = .ok (.iload_n 1, 1) := by decide +kernel
theorem dX8_least_12 : decode cX8_least 12 = .ok (.iconst (-1), 1) := by decide +kernel
theorem dX8_least_13 : decode cX8_least 13 = .ok (.if_icmp .ne 5, 3) := by decide +kernel
theorem dX8_least_16 : decode cX8_least 16 = .ok (.iload_n 2, 1) := by decide +kernel
theorem dX8_least_17 : decode cX8_least 17 = .ok (.ireturn, 1) := by decide +kernel
theorem dX8_least_18 : decode cX8_least 18 = .ok (.iload_n 1, 1) := by decide +kernel
theorem dX8_least_19 : decode cX8_least 19 = .ok (.iconst 0, 1) := by decide +kernel
theorem dX8_least_20 : decode cX8_least 20 = .ok (.aload_n 0, 1) := by decide +kernel
theorem dX8_least_21 : decode cX8_least 21 = .ok (.getfield 117, 3) := by decide +kernel
theorem dX8_least_24 : decode cX8_least 24 = .ok (.iconst 1, 1) := by decide +kernel
theorem dX8_least_25 : decode cX8_least 25 = .ok (.isub, 1) := by decide +kernel
theorem dX8_least_26 : decode cX8_least 26 = .ok (.invokestatic 63, 3) := by decide +kernel
theorem dX8_least_29 : decode cX8_least 29 = .ok (.ifCond .ne 6, 3) := by decide +kernel
theorem dX8_least_32 : decode cX8_least 32 = .ok (.bipush (-6), 2) := by decide +kernel
theorem dX8_least_34 : decode cX8_least 34 = .ok (.ireturn, 1) := by decide +kernel
theorem dX8_least_35 : decode cX8_least 35 = .ok (.iconst 0, 1) := by decide +kernel
theorem dX8_least_36 : decode cX8_least 36 = .ok (.istore_n 3, 1) := by decide +kernel
theorem dX8_least_37 : decode cX8_least 37 = .ok (.iconst 0, 1) := by decide +kernel
theorem dX8_least_38 : decode cX8_least 38 = .ok (.istore 4, 2) := by decide +kernel
theorem dX8_least_40 : decode cX8_least 40 = .ok (.bipush (-6), 2) := by decide +kernel
theorem dX8_least_42 : decode cX8_least 42 = .ok (.istore 5, 2) := by decide +kernel
theorem dX8_least_44 : decode cX8_least 44 = .ok (.iconst 0, 1) := by decide +kernel
theorem dX8_least_45 : decode cX8_least 45 = .ok (.istore 6, 2) := by decide +kernel
theorem dX8_least_47 : decode cX8_least 47 = .ok (.iload 6, 2) := by decide +kernel
theorem dX8_least_49 : decode cX8_least 49 = .ok (.iload_n 1, 1) := by decide +kernel
theorem dX8_least_50 : decode cX8_least 50 = .ok (.if_icmp .gt 96, 3) := by decide +kernel
theorem dX8_least_53 : decode cX8_least 53 = .ok (.bipush (-6), 2) := by decide +kernel
theorem dX8_least_55 : decode cX8_least 55 = .ok (.istore 5, 2) := by decide +kernel
theorem dX8_least_57 : decode cX8_least 57 = .ok (.iconst 0, 1) := by decide +kernel
theorem dX8_least_58 : decode cX8_least 58 = .ok (.istore 7, 2) := by decide +kernel
theorem dX8_least_60 : decode cX8_least 60 = .ok (.iconst 0, 1) := by decide +kernel
theorem dX8_least_61 : decode cX8_least 61 = .ok (.istore 8, 2) := by decide +kernel
theorem dX8_least_63 : decode cX8_least 63 = .ok (.iload 8, 2) := by decide +kernel
theorem dX8_least_65 : decode cX8_least 65 = .ok (.aload_n 0, 1) := by decide +kernel
theorem dX8_least_66 : decode cX8_least 66 = .ok (.getfield 117, 3) := by decide +kernel
theorem dX8_least_69 : decode cX8_least 69 = .ok (.if_icmp .ge 60, 3) := by decide +kernel
theorem dX8_least_72 : decode cX8_least 72 = .ok (.iload 5, 2) := by decide +kernel
theorem dX8_least_74 : decode cX8_least 74 = .ok (.ifCond .ge 55, 3) := by decide +kernel
theorem dX8_least_77 : decode cX8_least 77 = .ok (.aload_n 0, 1) := by decide +kernel
theorem dX8_least_78 : decode cX8_least 78 = .ok (.iload_n 3, 1) := by decide +kernel
theorem dX8_least_79 : decode cX8_least 79 = .ok (.iload 8, 2) := by decide +kernel
theorem dX8_least_81 : decode cX8_least 81 = .ok (.invokevirtual 125, 3) := by decide +kernel
theorem dX8_least_84 : decode cX8_least 84 = .ok (.ifCond .eq 39, 3) := by decide +kernel
theorem dX8_least_87 : decode cX8_least 87 = .ok (.aload_n 0, 1) := by decide +kernel
theorem dX8_least_88 : decode cX8_least 88 = .ok (.iload_n 3, 1) := by decide +kernel
theorem dX8_least_89 : decode cX8_least 89 = .ok (.iload 4, 2) := by decide +kernel
theorem dX8_least_91 : decode cX8_least 91 = .ok (.iload 8, 2) := by decide +kernel
theorem dX8_least_93 : decode cX8_least 93 = .ok (.invokevirtual 129, 3) := by decide +kernel
theorem dX8_least_96 : decode cX8_least 96 = .ok (.istore 7, 2) := by decide +kernel
theorem dX8_least_98 : decode cX8_least 98 = .ok (.aload_n 0, 1) := by decide +kernel
theorem dX8_least_99 : decode cX8_least 99 = .ok (.iload_n 3, 1) := by decide +kernel
theorem dX8_least_100 : decode cX8_least 100 = .ok (.iconst 1, 1) := by decide +kernel
theorem dX8_least_101 : decode cX8_least 101 = .ok (.iload 8, 2) := by decide +kernel
theorem dX8_least_103 : decode cX8_least 103 = .ok (.ishl, 1) := by decide +kernel
theorem dX8_least_104 : decode cX8_least 104 = .ok (.ior, 1) := by decide +kernel
theorem dX8_least_105 : decode cX8_least 105 = .ok (.iload 7, 2) := by decide +kernel
theorem dX8_least_107 : decode cX8_least 107 = .ok (.invokevirtual 136, 3) := by decide +kernel
theorem dX8_least_110 : decode cX8_least 110 = .ok (.iload_n 2, 1) := by decide +kernel
theorem dX8_least_111 : decode cX8_least 111 = .ok (.if_icmp .ne 8, 3) := by decide +kernel
theorem dX8_least_114 : decode cX8_least 114 = .ok (.iload 8, 2) := by decide +kernel
theorem dX8_least_116 : decode cX8_least 116 = .ok (.goto 5, 3) := by decide +kernel
theorem dX8_least_119 : decode cX8_least 119 = .ok (.bipush (-6), 2) := by decide +kernel
theorem dX8_least_121 : decode cX8_least 121 = .ok (.istore 5, 2) := by decide +kernel
theorem dX8_least_123 : decode cX8_least 123 = .ok (.iinc 8 1, 3) := by decide +kernel
theorem dX8_least_126 : decode cX8_least 126 = .ok (.goto (-63), 3) := by decide +kernel
theorem dX8_least_129 : decode cX8_least 129 = .ok (.iload_n 3, 1) := by decide +kernel
theorem dX8_least_130 : decode cX8_least 130 = .ok (.iconst 1, 1) := by decide +kernel
theorem dX8_least_131 : decode cX8_least 131 = .ok (.iload 5, 2) := by decide +kernel
theorem dX8_least_133 : decode cX8_least 133 = .ok (.ishl, 1) := by decide +kernel
theorem dX8_least_134 : decode cX8_least 134 = .ok (.ior, 1) := by decide +kernel
theorem dX8_least_135 : decode cX8_least 135 = .ok (.istore_n 3, 1) := by decide +kernel
theorem dX8_least_136 : decode cX8_least 136 = .ok (.iload 7, 2) := by decide +kernel
theorem dX8_least_138 : decode cX8_least 138 = .ok (.istore 4, 2) := by decide +kernel
theorem dX8_least_140 : decode cX8_least 140 = .ok (.iinc 6 1, 3) := by decide +kernel
theorem dX8_least_143 : decode cX8_least 143 = .ok (.goto (-96), 3) := by decide +kernel
theorem dX8_least_146 : decode cX8_least 146 = .ok (.iload 5, 2) := by decide +kernel
theorem dX8_least_148 : decode cX8_least 148 = .ok (.ireturn, 1) := by decide +kernel
theorem dX8_dealt_0 : decode cX8_dealt 0 = .ok (.iload_n 2, 1) := by decide +kernel
theorem dX8_dealt_1 : decode cX8_dealt 1 = .ok (.iconst (-1), 1) := by decide +kernel
theorem dX8_dealt_2 : decode cX8_dealt 2 = .ok (.if_icmp .eq 12, 3) := by decide +kernel
theorem dX8_dealt_5 : decode cX8_dealt 5 = .ok (.iload_n 2, 1) := by decide +kernel
theorem dX8_dealt_6 : decode cX8_dealt 6 = .ok (.invokestatic 67, 3) := by decide +kernel
theorem dX8_dealt_9 : decode cX8_dealt 9 = .ok (.ifCond .ne 5, 3) := by decide +kernel
theorem dX8_dealt_12 : decode cX8_dealt 12 = .ok (.iconst (-1), 1) := by decide +kernel
theorem dX8_dealt_13 : decode cX8_dealt 13 = .ok (.ireturn, 1) := by decide +kernel
theorem dX8_dealt_14 : decode cX8_dealt 14 = .ok (.iload_n 1, 1) := by decide +kernel
theorem dX8_dealt_15 : decode cX8_dealt 15 = .ok (.iconst 0, 1) := by decide +kernel
theorem dX8_dealt_16 : decode cX8_dealt 16 = .ok (.bipush 20, 2) := by decide +kernel
theorem dX8_dealt_18 : decode cX8_dealt 18 = .ok (.invokestatic 63, 3) := by decide +kernel
theorem dX8_dealt_21 : decode cX8_dealt 21 = .ok (.ifCond .ne 6, 3) := by decide +kernel
theorem dX8_dealt_24 : decode cX8_dealt 24 = .ok (.bipush (-2), 2) := by decide +kernel
theorem dX8_dealt_26 : decode cX8_dealt 26 = .ok (.ireturn, 1) := by decide +kernel
theorem dX8_dealt_27 : decode cX8_dealt 27 = .ok (.iconst 0, 1) := by decide +kernel
theorem dX8_dealt_28 : decode cX8_dealt 28 = .ok (.istore_n 3, 1) := by decide +kernel
theorem dX8_dealt_29 : decode cX8_dealt 29 = .ok (.iconst 0, 1) := by decide +kernel
theorem dX8_dealt_30 : decode cX8_dealt 30 = .ok (.istore 4, 2) := by decide +kernel
theorem dX8_dealt_32 : decode cX8_dealt 32 = .ok (.iload 4, 2) := by decide +kernel
theorem dX8_dealt_34 : decode cX8_dealt 34 = .ok (.bipush 6, 2) := by decide +kernel
theorem dX8_dealt_36 : decode cX8_dealt 36 = .ok (.if_icmp .ge 57, 3) := by decide +kernel
theorem dX8_dealt_39 : decode cX8_dealt 39 = .ok (.aload_n 0, 1) := by decide +kernel
theorem dX8_dealt_40 : decode cX8_dealt 40 = .ok (.iload 4, 2) := by decide +kernel
theorem dX8_dealt_42 : decode cX8_dealt 42 = .ok (.sipush 255, 3) := by decide +kernel
theorem dX8_dealt_45 : decode cX8_dealt 45 = .ok (.invokevirtual 120, 3) := by decide +kernel
theorem dX8_dealt_48 : decode cX8_dealt 48 = .ok (.ifCond .le 7, 3) := by decide +kernel
theorem dX8_dealt_51 : decode cX8_dealt 51 = .ok (.iconst 1, 1) := by decide +kernel
theorem dX8_dealt_52 : decode cX8_dealt 52 = .ok (.goto 4, 3) := by decide +kernel
theorem dX8_dealt_55 : decode cX8_dealt 55 = .ok (.iconst 0, 1) := by decide +kernel
theorem dX8_dealt_56 : decode cX8_dealt 56 = .ok (.istore 5, 2) := by decide +kernel
theorem dX8_dealt_58 : decode cX8_dealt 58 = .ok (.iload 5, 2) := by decide +kernel
theorem dX8_dealt_60 : decode cX8_dealt 60 = .ok (.ifCond .eq 11, 3) := by decide +kernel
theorem dX8_dealt_63 : decode cX8_dealt 63 = .ok (.iload_n 3, 1) := by decide +kernel
theorem dX8_dealt_64 : decode cX8_dealt 64 = .ok (.iconst 4, 1) := by decide +kernel
theorem dX8_dealt_65 : decode cX8_dealt 65 = .ok (.if_icmp .ne 6, 3) := by decide +kernel
theorem dX8_dealt_68 : decode cX8_dealt 68 = .ok (.bipush (-5), 2) := by decide +kernel
theorem dX8_dealt_70 : decode cX8_dealt 70 = .ok (.ireturn, 1) := by decide +kernel
theorem dX8_dealt_71 : decode cX8_dealt 71 = .ok (.iload 5, 2) := by decide +kernel
theorem dX8_dealt_73 : decode cX8_dealt 73 = .ok (.ifCond .eq 14, 3) := by decide +kernel
theorem dX8_dealt_76 : decode cX8_dealt 76 = .ok (.aload_n 0, 1) := by decide +kernel
theorem dX8_dealt_77 : decode cX8_dealt 77 = .ok (.getfield 41, 3) := by decide +kernel
theorem dX8_dealt_80 : decode cX8_dealt 80 = .ok (.iload_n 3, 1) := by decide +kernel
theorem dX8_dealt_81 : decode cX8_dealt 81 = .ok (.iload 4, 2) := by decide +kernel
theorem dX8_dealt_83 : decode cX8_dealt 83 = .ok (.iastore, 1) := by decide +kernel
theorem dX8_dealt_84 : decode cX8_dealt 84 = .ok (.iinc 3 1, 3) := by decide +kernel
theorem dX8_dealt_87 : decode cX8_dealt 87 = .ok (.iinc 4 1, 3) := by decide +kernel
theorem dX8_dealt_90 : decode cX8_dealt 90 = .ok (.goto (-58), 3) := by decide +kernel
theorem dX8_dealt_93 : decode cX8_dealt 93 = .ok (.iload_n 3, 1) := by decide +kernel
theorem dX8_dealt_94 : decode cX8_dealt 94 = .ok (.ifCond .ne 6, 3) := by decide +kernel
theorem dX8_dealt_97 : decode cX8_dealt 97 = .ok (.bipush (-5), 2) := by decide +kernel
theorem dX8_dealt_99 : decode cX8_dealt 99 = .ok (.ireturn, 1) := by decide +kernel
theorem dX8_dealt_100 : decode cX8_dealt 100 = .ok (.aload_n 0, 1) := by decide +kernel
theorem dX8_dealt_101 : decode cX8_dealt 101 = .ok (.invokevirtual 133, 3) := by decide +kernel
theorem dX8_dealt_104 : decode cX8_dealt 104 = .ok (.ldc 124, 2) := by decide +kernel
theorem dX8_dealt_106 : decode cX8_dealt 106 = .ok (.istore 4, 2) := by decide +kernel
theorem dX8_dealt_108 : decode cX8_dealt 108 = .ok (.iload_n 1, 1) := by decide +kernel
theorem dX8_dealt_109 : decode cX8_dealt 109 = .ok (.istore 5, 2) := by decide +kernel
theorem dX8_dealt_111 : decode cX8_dealt 111 = .ok (.iload 5, 2) := by decide +kernel
theorem dX8_dealt_113 : decode cX8_dealt 113 = .ok (.ifCond .lt 212, 3) := by decide +kernel
theorem dX8_dealt_116 : decode cX8_dealt 116 = .ok (.iload_n 1, 1) := by decide +kernel
theorem dX8_dealt_117 : decode cX8_dealt 117 = .ok (.iload 5, 2) := by decide +kernel
theorem dX8_dealt_119 : decode cX8_dealt 119 = .ok (.isub, 1) := by decide +kernel
theorem dX8_dealt_120 : decode cX8_dealt 120 = .ok (.istore 6, 2) := by decide +kernel
theorem dX8_dealt_122 : decode cX8_dealt 122 = .ok (.iload 6, 2) := by decide +kernel
theorem dX8_dealt_124 : decode cX8_dealt 124 = .ok (.ifCond .lt 195, 3) := by decide +kernel
theorem dX8_dealt_127 : decode cX8_dealt 127 = .ok (.iload_n 1, 1) := by decide +kernel
theorem dX8_dealt_128 : decode cX8_dealt 128 = .ok (.iload 5, 2) := by decide +kernel
theorem dX8_dealt_130 : decode cX8_dealt 130 = .ok (.isub, 1) := by decide +kernel
theorem dX8_dealt_131 : decode cX8_dealt 131 = .ok (.iload 6, 2) := by decide +kernel
theorem dX8_dealt_133 : decode cX8_dealt 133 = .ok (.isub, 1) := by decide +kernel
theorem dX8_dealt_134 : decode cX8_dealt 134 = .ok (.istore 7, 2) := by decide +kernel
theorem dX8_dealt_136 : decode cX8_dealt 136 = .ok (.iload 7, 2) := by decide +kernel
theorem dX8_dealt_138 : decode cX8_dealt 138 = .ok (.ifCond .lt 175, 3) := by decide +kernel
theorem dX8_dealt_141 : decode cX8_dealt 141 = .ok (.iload_n 1, 1) := by decide +kernel
theorem dX8_dealt_142 : decode cX8_dealt 142 = .ok (.iload 5, 2) := by decide +kernel
theorem dX8_dealt_144 : decode cX8_dealt 144 = .ok (.isub, 1) := by decide +kernel
theorem dX8_dealt_145 : decode cX8_dealt 145 = .ok (.iload 6, 2) := by decide +kernel
theorem dX8_dealt_147 : decode cX8_dealt 147 = .ok (.isub, 1) := by decide +kernel
theorem dX8_dealt_148 : decode cX8_dealt 148 = .ok (.iload 7, 2) := by decide +kernel
theorem dX8_dealt_150 : decode cX8_dealt 150 = .ok (.isub, 1) := by decide +kernel
theorem dX8_dealt_151 : decode cX8_dealt 151 = .ok (.istore 8, 2) := by decide +kernel
theorem dX8_dealt_153 : decode cX8_dealt 153 = .ok (.iload_n 3, 1) := by decide +kernel
theorem dX8_dealt_154 : decode cX8_dealt 154 = .ok (.iconst 1, 1) := by decide +kernel
theorem dX8_dealt_155 : decode cX8_dealt 155 = .ok (.if_icmp .gt 8, 3) := by decide +kernel
theorem dX8_dealt_158 : decode cX8_dealt 158 = .ok (.iload 6, 2) := by decide +kernel
theorem dX8_dealt_160 : decode cX8_dealt 160 = .ok (.ifCond .ne 27, 3) := by decide +kernel
theorem dX8_dealt_163 : decode cX8_dealt 163 = .ok (.iload_n 3, 1) := by decide +kernel
theorem dX8_dealt_164 : decode cX8_dealt 164 = .ok (.iconst 2, 1) := by decide +kernel
theorem dX8_dealt_165 : decode cX8_dealt 165 = .ok (.if_icmp .gt 8, 3) := by decide +kernel
theorem dX8_dealt_168 : decode cX8_dealt 168 = .ok (.iload 7, 2) := by decide +kernel
theorem dX8_dealt_170 : decode cX8_dealt 170 = .ok (.ifCond .ne 17, 3) := by decide +kernel
theorem dX8_dealt_173 : decode cX8_dealt 173 = .ok (.iload_n 3, 1) := by decide +kernel
theorem dX8_dealt_174 : decode cX8_dealt 174 = .ok (.iconst 3, 1) := by decide +kernel
theorem dX8_dealt_175 : decode cX8_dealt 175 = .ok (.if_icmp .gt 8, 3) := by decide +kernel
theorem dX8_dealt_178 : decode cX8_dealt 178 = .ok (.iload 8, 2) := by decide +kernel
theorem dX8_dealt_180 : decode cX8_dealt 180 = .ok (.ifCond .ne 7, 3) := by decide +kernel
theorem dX8_dealt_183 : decode cX8_dealt 183 = .ok (.iconst 1, 1) := by decide +kernel
theorem dX8_dealt_184 : decode cX8_dealt 184 = .ok (.goto 4, 3) := by decide +kernel
theorem dX8_dealt_187 : decode cX8_dealt 187 = .ok (.iconst 0, 1) := by decide +kernel
theorem dX8_dealt_188 : decode cX8_dealt 188 = .ok (.istore 9, 2) := by decide +kernel
theorem dX8_dealt_190 : decode cX8_dealt 190 = .ok (.iload 9, 2) := by decide +kernel
theorem dX8_dealt_192 : decode cX8_dealt 192 = .ok (.ifCond .eq 115, 3) := by decide +kernel
theorem dX8_dealt_195 : decode cX8_dealt 195 = .ok (.iconst 0, 1) := by decide +kernel
theorem dX8_dealt_196 : decode cX8_dealt 196 = .ok (.istore 10, 2) := by decide +kernel
theorem dX8_dealt_198 : decode cX8_dealt 198 = .ok (.iload 10, 2) := by decide +kernel
theorem dX8_dealt_200 : decode cX8_dealt 200 = .ok (.iload_n 3, 1) := by decide +kernel
theorem dX8_dealt_201 : decode cX8_dealt 201 = .ok (.if_icmp .ge 55, 3) := by decide +kernel
theorem dX8_dealt_204 : decode cX8_dealt 204 = .ok (.aload_n 0, 1) := by decide +kernel
theorem dX8_dealt_205 : decode cX8_dealt 205 = .ok (.getfield 35, 3) := by decide +kernel
theorem dX8_dealt_208 : decode cX8_dealt 208 = .ok (.aload_n 0, 1) := by decide +kernel
theorem dX8_dealt_209 : decode cX8_dealt 209 = .ok (.getfield 41, 3) := by decide +kernel
theorem dX8_dealt_212 : decode cX8_dealt 212 = .ok (.iload 10, 2) := by decide +kernel
theorem dX8_dealt_214 : decode cX8_dealt 214 = .ok (.iaload, 1) := by decide +kernel
theorem dX8_dealt_215 : decode cX8_dealt 215 = .ok (.iload 10, 2) := by decide +kernel
theorem dX8_dealt_217 : decode cX8_dealt 217 = .ok (.ifCond .ne 8, 3) := by decide +kernel
theorem dX8_dealt_220 : decode cX8_dealt 220 = .ok (.iload 5, 2) := by decide +kernel
theorem dX8_dealt_222 : decode cX8_dealt 222 = .ok (.goto 27, 3) := by decide +kernel
theorem dX8_dealt_225 : decode cX8_dealt 225 = .ok (.iload 10, 2) := by decide +kernel
theorem dX8_dealt_227 : decode cX8_dealt 227 = .ok (.iconst 1, 1) := by decide +kernel
theorem dX8_dealt_228 : decode cX8_dealt 228 = .ok (.if_icmp .ne 8, 3) := by decide +kernel
theorem dX8_dealt_231 : decode cX8_dealt 231 = .ok (.iload 6, 2) := by decide +kernel
theorem dX8_dealt_233 : decode cX8_dealt 233 = .ok (.goto 16, 3) := by decide +kernel
theorem dX8_dealt_236 : decode cX8_dealt 236 = .ok (.iload 10, 2) := by decide +kernel
theorem dX8_dealt_238 : decode cX8_dealt 238 = .ok (.iconst 2, 1) := by decide +kernel
theorem dX8_dealt_239 : decode cX8_dealt 239 = .ok (.if_icmp .ne 8, 3) := by decide +kernel
theorem dX8_dealt_242 : decode cX8_dealt 242 = .ok (.iload 7, 2) := by decide +kernel
theorem dX8_dealt_244 : decode cX8_dealt 244 = .ok (.goto 5, 3) := by decide +kernel
theorem dX8_dealt_247 : decode cX8_dealt 247 = .ok (.iload 8, 2) := by decide +kernel
theorem dX8_dealt_249 : decode cX8_dealt 249 = .ok (.iastore, 1) := by decide +kernel
theorem dX8_dealt_250 : decode cX8_dealt 250 = .ok (.iinc 10 1, 3) := by decide +kernel
theorem dX8_dealt_253 : decode cX8_dealt 253 = .ok (.goto (-55), 3) := by decide +kernel
theorem dX8_dealt_256 : decode cX8_dealt 256 = .ok (.aload_n 0, 1) := by decide +kernel
theorem dX8_dealt_257 : decode cX8_dealt 257 = .ok (.iconst 0, 1) := by decide +kernel
theorem dX8_dealt_258 : decode cX8_dealt 258 = .ok (.iconst 0, 1) := by decide +kernel
theorem dX8_dealt_259 : decode cX8_dealt 259 = .ok (.invokevirtual 136, 3) := by decide +kernel
theorem dX8_dealt_262 : decode cX8_dealt 262 = .ok (.istore 10, 2) := by decide +kernel
theorem dX8_dealt_264 : decode cX8_dealt 264 = .ok (.iload 10, 2) := by decide +kernel
theorem dX8_dealt_266 : decode cX8_dealt 266 = .ok (.iload 4, 2) := by decide +kernel
theorem dX8_dealt_268 : decode cX8_dealt 268 = .ok (.if_icmp .ge 39, 3) := by decide +kernel
theorem dX8_dealt_271 : decode cX8_dealt 271 = .ok (.iload 10, 2) := by decide +kernel
theorem dX8_dealt_273 : decode cX8_dealt 273 = .ok (.istore 4, 2) := by decide +kernel
theorem dX8_dealt_275 : decode cX8_dealt 275 = .ok (.aload_n 0, 1) := by decide +kernel
theorem dX8_dealt_276 : decode cX8_dealt 276 = .ok (.getfield 44, 3) := by decide +kernel
theorem dX8_dealt_279 : decode cX8_dealt 279 = .ok (.iconst 0, 1) := by decide +kernel
theorem dX8_dealt_280 : decode cX8_dealt 280 = .ok (.iload 5, 2) := by decide +kernel
theorem dX8_dealt_282 : decode cX8_dealt 282 = .ok (.iastore, 1) := by decide +kernel
theorem dX8_dealt_283 : decode cX8_dealt 283 = .ok (.aload_n 0, 1) := by decide +kernel
theorem dX8_dealt_284 : decode cX8_dealt 284 = .ok (.getfield 44, 3) := by decide +kernel
theorem dX8_dealt_287 : decode cX8_dealt 287 = .ok (.iconst 1, 1) := by decide +kernel
theorem dX8_dealt_288 : decode cX8_dealt 288 = .ok (.iload 6, 2) := by decide +kernel
theorem dX8_dealt_290 : decode cX8_dealt 290 = .ok (.iastore, 1) := by decide +kernel
theorem dX8_dealt_291 : decode cX8_dealt 291 = .ok (.aload_n 0, 1) := by decide +kernel
theorem dX8_dealt_292 : decode cX8_dealt 292 = .ok (.getfield 44, 3) := by decide +kernel
theorem dX8_dealt_295 : decode cX8_dealt 295 = .ok (.iconst 2, 1) := by decide +kernel
theorem dX8_dealt_296 : decode cX8_dealt 296 = .ok (.iload 7, 2) := by decide +kernel
theorem dX8_dealt_298 : decode cX8_dealt 298 = .ok (.iastore, 1) := by decide +kernel
theorem dX8_dealt_299 : decode cX8_dealt 299 = .ok (.aload_n 0, 1) := by decide +kernel
theorem dX8_dealt_300 : decode cX8_dealt 300 = .ok (.getfield 44, 3) := by decide +kernel
theorem dX8_dealt_303 : decode cX8_dealt 303 = .ok (.iconst 3, 1) := by decide +kernel
theorem dX8_dealt_304 : decode cX8_dealt 304 = .ok (.iload 8, 2) := by decide +kernel
theorem dX8_dealt_306 : decode cX8_dealt 306 = .ok (.iastore, 1) := by decide +kernel
theorem dX8_dealt_307 : decode cX8_dealt 307 = .ok (.iinc 7 (-1), 3) := by decide +kernel
theorem dX8_dealt_310 : decode cX8_dealt 310 = .ok (.goto (-174), 3) := by decide +kernel
theorem dX8_dealt_313 : decode cX8_dealt 313 = .ok (.iinc 6 (-1), 3) := by decide +kernel
theorem dX8_dealt_316 : decode cX8_dealt 316 = .ok (.goto (-194), 3) := by decide +kernel
theorem dX8_dealt_319 : decode cX8_dealt 319 = .ok (.iinc 5 (-1), 3) := by decide +kernel
theorem dX8_dealt_322 : decode cX8_dealt 322 = .ok (.goto (-211), 3) := by decide +kernel
theorem dX8_dealt_325 : decode cX8_dealt 325 = .ok (.iload_n 2, 1) := by decide +kernel
theorem dX8_dealt_326 : decode cX8_dealt 326 = .ok (.iconst (-1), 1) := by decide +kernel
theorem dX8_dealt_327 : decode cX8_dealt 327 = .ok (.if_icmp .ne 6, 3) := by decide +kernel
theorem dX8_dealt_330 : decode cX8_dealt 330 = .ok (.iload 4, 2) := by decide +kernel
theorem dX8_dealt_332 : decode cX8_dealt 332 = .ok (.ireturn, 1) := by decide +kernel
theorem dX8_dealt_333 : decode cX8_dealt 333 = .ok (.bipush (-6), 2) := by decide +kernel
theorem dX8_dealt_335 : decode cX8_dealt 335 = .ok (.istore 5, 2) := by decide +kernel
theorem dX8_dealt_337 : decode cX8_dealt 337 = .ok (.iconst 0, 1) := by decide +kernel
theorem dX8_dealt_338 : decode cX8_dealt 338 = .ok (.istore 6, 2) := by decide +kernel
theorem dX8_dealt_340 : decode cX8_dealt 340 = .ok (.iload 6, 2) := by decide +kernel
theorem dX8_dealt_342 : decode cX8_dealt 342 = .ok (.iload_n 3, 1) := by decide +kernel
theorem dX8_dealt_343 : decode cX8_dealt 343 = .ok (.if_icmp .ge 34, 3) := by decide +kernel
theorem dX8_dealt_346 : decode cX8_dealt 346 = .ok (.aload_n 0, 1) := by decide +kernel
theorem dX8_dealt_347 : decode cX8_dealt 347 = .ok (.getfield 41, 3) := by decide +kernel
theorem dX8_dealt_350 : decode cX8_dealt 350 = .ok (.iload 6, 2) := by decide +kernel
theorem dX8_dealt_352 : decode cX8_dealt 352 = .ok (.iaload, 1) := by decide +kernel
theorem dX8_dealt_353 : decode cX8_dealt 353 = .ok (.iload_n 2, 1) := by decide +kernel
theorem dX8_dealt_354 : decode cX8_dealt 354 = .ok (.if_icmp .ne 13, 3) := by decide +kernel
theorem dX8_dealt_357 : decode cX8_dealt 357 = .ok (.aload_n 0, 1) := by decide +kernel
theorem dX8_dealt_358 : decode cX8_dealt 358 = .ok (.getfield 44, 3) := by decide +kernel
theorem dX8_dealt_361 : decode cX8_dealt 361 = .ok (.iload 6, 2) := by decide +kernel
theorem dX8_dealt_363 : decode cX8_dealt 363 = .ok (.iaload, 1) := by decide +kernel
theorem dX8_dealt_364 : decode cX8_dealt 364 = .ok (.goto 5, 3) := by decide +kernel
theorem dX8_dealt_367 : decode cX8_dealt 367 = .ok (.iload 5, 2) := by decide +kernel
theorem dX8_dealt_369 : decode cX8_dealt 369 = .ok (.istore 5, 2) := by decide +kernel
theorem dX8_dealt_371 : decode cX8_dealt 371 = .ok (.iinc 6 1, 3) := by decide +kernel
theorem dX8_dealt_374 : decode cX8_dealt 374 = .ok (.goto (-34), 3) := by decide +kernel
theorem dX8_dealt_377 : decode cX8_dealt 377 = .ok (.iload 5, 2) := by decide +kernel
theorem dX8_dealt_379 : decode cX8_dealt 379 = .ok (.ireturn, 1) := by decide +kernel
theorem dX8_lend_0 : decode cX8_lend 0 = .ok (.iload_n 1, 1) := by decide +kernel
theorem dX8_lend_1 : decode cX8_lend 1 = .ok (.invokestatic 67, 3) := by decide +kernel
theorem dX8_lend_4 : decode cX8_lend 4 = .ok (.ifCond .eq 15, 3) := by decide +kernel
theorem dX8_lend_7 : decode cX8_lend 7 = .ok (.iload_n 2, 1) := by decide +kernel
theorem dX8_lend_8 : decode cX8_lend 8 = .ok (.invokestatic 67, 3) := by decide +kernel
theorem dX8_lend_11 : decode cX8_lend 11 = .ok (.ifCond .eq 8, 3) := by decide +kernel
theorem dX8_lend_14 : decode cX8_lend 14 = .ok (.iload_n 1, 1) := by decide +kernel
theorem dX8_lend_15 : decode cX8_lend 15 = .ok (.iload_n 2, 1) := by decide +kernel
theorem dX8_lend_16 : decode cX8_lend 16 = .ok (.if_icmp .ne 5, 3) := by decide +kernel
theorem dX8_lend_19 : decode cX8_lend 19 = .ok (.iconst (-1), 1) := by decide +kernel
theorem dX8_lend_20 : decode cX8_lend 20 = .ok (.ireturn, 1) := by decide +kernel
theorem dX8_lend_21 : decode cX8_lend 21 = .ok (.iload_n 3, 1) := by decide +kernel
theorem dX8_lend_22 : decode cX8_lend 22 = .ok (.iconst 0, 1) := by decide +kernel
theorem dX8_lend_23 : decode cX8_lend 23 = .ok (.bipush 99, 2) := by decide +kernel
theorem dX8_lend_25 : decode cX8_lend 25 = .ok (.invokestatic 63, 3) := by decide +kernel
theorem dX8_lend_28 : decode cX8_lend 28 = .ok (.ifCond .ne 6, 3) := by decide +kernel
theorem dX8_lend_31 : decode cX8_lend 31 = .ok (.bipush (-2), 2) := by decide +kernel
theorem dX8_lend_33 : decode cX8_lend 33 = .ok (.ireturn, 1) := by decide +kernel
theorem dX8_lend_34 : decode cX8_lend 34 = .ok (.aload_n 0, 1) := by decide +kernel
theorem dX8_lend_35 : decode cX8_lend 35 = .ok (.getfield 26, 3) := by decide +kernel
theorem dX8_lend_38 : decode cX8_lend 38 = .ok (.bipush 6, 2) := by decide +kernel
theorem dX8_lend_40 : decode cX8_lend 40 = .ok (.iload_n 1, 1) := by decide +kernel
theorem dX8_lend_41 : decode cX8_lend 41 = .ok (.imul, 1) := by decide +kernel
theorem dX8_lend_42 : decode cX8_lend 42 = .ok (.iload_n 2, 1) := by decide +kernel
theorem dX8_lend_43 : decode cX8_lend 43 = .ok (.iadd, 1) := by decide +kernel
theorem dX8_lend_44 : decode cX8_lend 44 = .ok (.iaload, 1) := by decide +kernel
theorem dX8_lend_45 : decode cX8_lend 45 = .ok (.istore 4, 2) := by decide +kernel
theorem dX8_lend_47 : decode cX8_lend 47 = .ok (.aload_n 0, 1) := by decide +kernel
theorem dX8_lend_48 : decode cX8_lend 48 = .ok (.getfield 26, 3) := by decide +kernel
theorem dX8_lend_51 : decode cX8_lend 51 = .ok (.bipush 6, 2) := by decide +kernel
theorem dX8_lend_53 : decode cX8_lend 53 = .ok (.iload_n 1, 1) := by decide +kernel
theorem dX8_lend_54 : decode cX8_lend 54 = .ok (.imul, 1) := by decide +kernel
theorem dX8_lend_55 : decode cX8_lend 55 = .ok (.iload_n 2, 1) := by decide +kernel
theorem dX8_lend_56 : decode cX8_lend 56 = .ok (.iadd, 1) := by decide +kernel
theorem dX8_lend_57 : decode cX8_lend 57 = .ok (.iload_n 3, 1) := by decide +kernel
theorem dX8_lend_58 : decode cX8_lend 58 = .ok (.iastore, 1) := by decide +kernel
theorem dX8_lend_59 : decode cX8_lend 59 = .ok (.iload 4, 2) := by decide +kernel
theorem dX8_lend_61 : decode cX8_lend 61 = .ok (.ireturn, 1) := by decide +kernel
theorem dX8_netOf_0 : decode cX8_netOf 0 = .ok (.iconst 0, 1) := by decide +kernel
theorem dX8_netOf_1 : decode cX8_netOf 1 = .ok (.istore_n 2, 1) := by decide +kernel
theorem dX8_netOf_2 : decode cX8_netOf 2 = .ok (.iconst 0, 1) := by decide +kernel
theorem dX8_netOf_3 : decode cX8_netOf 3 = .ok (.istore_n 3, 1) := by decide +kernel
theorem dX8_netOf_4 : decode cX8_netOf 4 = .ok (.iload_n 3, 1) := by decide +kernel
theorem dX8_netOf_5 : decode cX8_netOf 5 = .ok (.bipush 6, 2) := by decide +kernel
theorem dX8_netOf_7 : decode cX8_netOf 7 = .ok (.if_icmp .ge 35, 3) := by decide +kernel
theorem dX8_netOf_10 : decode cX8_netOf 10 = .ok (.iload_n 2, 1) := by decide +kernel
theorem dX8_netOf_11 : decode cX8_netOf 11 = .ok (.aload_n 0, 1) := by decide +kernel
theorem dX8_netOf_12 : decode cX8_netOf 12 = .ok (.getfield 26, 3) := by decide +kernel
theorem dX8_netOf_15 : decode cX8_netOf 15 = .ok (.bipush 6, 2) := by decide +kernel
theorem dX8_netOf_17 : decode cX8_netOf 17 = .ok (.iload_n 1, 1) := by decide +kernel
theorem dX8_netOf_18 : decode cX8_netOf 18 = .ok (.imul, 1) := by decide +kernel
theorem dX8_netOf_19 : decode cX8_netOf 19 = .ok (.iload_n 3, 1) := by decide +kernel
theorem dX8_netOf_20 : decode cX8_netOf 20 = .ok (.iadd, 1) := by decide +kernel
theorem dX8_netOf_21 : decode cX8_netOf 21 = .ok (.iaload, 1) := by decide +kernel
theorem dX8_netOf_22 : decode cX8_netOf 22 = .ok (.aload_n 0, 1) := by decide +kernel
theorem dX8_netOf_23 : decode cX8_netOf 23 = .ok (.getfield 26, 3) := by decide +kernel
theorem dX8_netOf_26 : decode cX8_netOf 26 = .ok (.bipush 6, 2) := by decide +kernel
theorem dX8_netOf_28 : decode cX8_netOf 28 = .ok (.iload_n 3, 1) := by decide +kernel
theorem dX8_netOf_29 : decode cX8_netOf 29 = .ok (.imul, 1) := by decide +kernel
theorem dX8_netOf_30 : decode cX8_netOf 30 = .ok (.iload_n 1, 1) := by decide +kernel
theorem dX8_netOf_31 : decode cX8_netOf 31 = .ok (.iadd, 1) := by decide +kernel
theorem dX8_netOf_32 : decode cX8_netOf 32 = .ok (.iaload, 1) := by decide +kernel
theorem dX8_netOf_33 : decode cX8_netOf 33 = .ok (.isub, 1) := by decide +kernel
theorem dX8_netOf_34 : decode cX8_netOf 34 = .ok (.iadd, 1) := by decide +kernel
theorem dX8_netOf_35 : decode cX8_netOf 35 = .ok (.istore_n 2, 1) := by decide +kernel
theorem dX8_netOf_36 : decode cX8_netOf 36 = .ok (.iinc 3 1, 3) := by decide +kernel
theorem dX8_netOf_39 : decode cX8_netOf 39 = .ok (.goto (-35), 3) := by decide +kernel
theorem dX8_netOf_42 : decode cX8_netOf 42 = .ok (.iload_n 2, 1) := by decide +kernel
theorem dX8_netOf_43 : decode cX8_netOf 43 = .ok (.ireturn, 1) := by decide +kernel
theorem dX8_net_0 : decode cX8_net 0 = .ok (.iload_n 1, 1) := by decide +kernel
theorem dX8_net_1 : decode cX8_net 1 = .ok (.invokestatic 67, 3) := by decide +kernel
theorem dX8_net_4 : decode cX8_net 4 = .ok (.ifCond .eq 15, 3) := by decide +kernel
theorem dX8_net_7 : decode cX8_net 7 = .ok (.aload_n 0, 1) := by decide +kernel
theorem dX8_net_8 : decode cX8_net 8 = .ok (.iload_n 1, 1) := by decide +kernel
theorem dX8_net_9 : decode cX8_net 9 = .ok (.invokevirtual 139, 3) := by decide +kernel
theorem dX8_net_12 : decode cX8_net 12 = .ok (.sipush 1000, 3) := by decide +kernel
theorem dX8_net_15 : decode cX8_net 15 = .ok (.iadd, 1) := by decide +kernel
theorem dX8_net_16 : decode cX8_net 16 = .ok (.goto 4, 3) := by decide +kernel
theorem dX8_net_19 : decode cX8_net 19 = .ok (.iconst (-1), 1) := by decide +kernel
theorem dX8_net_20 : decode cX8_net 20 = .ok (.ireturn, 1) := by decide +kernel
theorem dX8_gifts_0 : decode cX8_gifts 0 = .ok (.iconst 0, 1) := by decide +kernel
theorem dX8_gifts_1 : decode cX8_gifts 1 = .ok (.istore_n 1, 1) := by decide +kernel
theorem dX8_gifts_2 : decode cX8_gifts 2 = .ok (.iconst 0, 1) := by decide +kernel
theorem dX8_gifts_3 : decode cX8_gifts 3 = .ok (.istore_n 2, 1) := by decide +kernel
theorem dX8_gifts_4 : decode cX8_gifts 4 = .ok (.iconst 0, 1) := by decide +kernel
theorem dX8_gifts_5 : decode cX8_gifts 5 = .ok (.istore_n 3, 1) := by decide +kernel
theorem dX8_gifts_6 : decode cX8_gifts 6 = .ok (.iload_n 3, 1) := by decide +kernel
theorem dX8_gifts_7 : decode cX8_gifts 7 = .ok (.bipush 6, 2) := by decide +kernel
theorem dX8_gifts_9 : decode cX8_gifts 9 = .ok (.if_icmp .ge 26, 3) := by decide +kernel
theorem dX8_gifts_12 : decode cX8_gifts 12 = .ok (.aload_n 0, 1) := by decide +kernel
theorem dX8_gifts_13 : decode cX8_gifts 13 = .ok (.iload_n 3, 1) := by decide +kernel
theorem dX8_gifts_14 : decode cX8_gifts 14 = .ok (.invokevirtual 139, 3) := by decide +kernel
theorem dX8_gifts_17 : decode cX8_gifts 17 = .ok (.ifCond .eq 12, 3) := by decide +kernel
theorem dX8_gifts_20 : decode cX8_gifts 20 = .ok (.iload_n 1, 1) := by decide +kernel
theorem dX8_gifts_21 : decode cX8_gifts 21 = .ok (.iconst 1, 1) := by decide +kernel
theorem dX8_gifts_22 : decode cX8_gifts 22 = .ok (.iload_n 3, 1) := by decide +kernel
theorem dX8_gifts_23 : decode cX8_gifts 23 = .ok (.ishl, 1) := by decide +kernel
theorem dX8_gifts_24 : decode cX8_gifts 24 = .ok (.ior, 1) := by decide +kernel
theorem dX8_gifts_25 : decode cX8_gifts 25 = .ok (.istore_n 1, 1) := by decide +kernel
theorem dX8_gifts_26 : decode cX8_gifts 26 = .ok (.iinc 2 1, 3) := by decide +kernel
theorem dX8_gifts_29 : decode cX8_gifts 29 = .ok (.iinc 3 1, 3) := by decide +kernel
theorem dX8_gifts_32 : decode cX8_gifts 32 = .ok (.goto (-26), 3) := by decide +kernel
theorem dX8_gifts_35 : decode cX8_gifts 35 = .ok (.iconst 0, 1) := by decide +kernel
theorem dX8_gifts_36 : decode cX8_gifts 36 = .ok (.istore_n 3, 1) := by decide +kernel
theorem dX8_gifts_37 : decode cX8_gifts 37 = .ok (.iload_n 3, 1) := by decide +kernel
theorem dX8_gifts_38 : decode cX8_gifts 38 = .ok (.bipush 64, 2) := by decide +kernel
theorem dX8_gifts_40 : decode cX8_gifts 40 = .ok (.if_icmp .ge 135, 3) := by decide +kernel
theorem dX8_gifts_43 : decode cX8_gifts 43 = .ok (.iconst 0, 1) := by decide +kernel
theorem dX8_gifts_44 : decode cX8_gifts 44 = .ok (.istore 4, 2) := by decide +kernel
theorem dX8_gifts_46 : decode cX8_gifts 46 = .ok (.iconst 0, 1) := by decide +kernel
theorem dX8_gifts_47 : decode cX8_gifts 47 = .ok (.istore 5, 2) := by decide +kernel
theorem dX8_gifts_49 : decode cX8_gifts 49 = .ok (.iconst 0, 1) := by decide +kernel
theorem dX8_gifts_50 : decode cX8_gifts 50 = .ok (.istore 6, 2) := by decide +kernel
theorem dX8_gifts_52 : decode cX8_gifts 52 = .ok (.iload 6, 2) := by decide +kernel
theorem dX8_gifts_54 : decode cX8_gifts 54 = .ok (.bipush 6, 2) := by decide +kernel
theorem dX8_gifts_56 : decode cX8_gifts 56 = .ok (.if_icmp .ge 89, 3) := by decide +kernel
theorem dX8_gifts_59 : decode cX8_gifts 59 = .ok (.iload_n 3, 1) := by decide +kernel
theorem dX8_gifts_60 : decode cX8_gifts 60 = .ok (.iload 6, 2) := by decide +kernel
theorem dX8_gifts_62 : decode cX8_gifts 62 = .ok (.ishr, 1) := by decide +kernel
theorem dX8_gifts_63 : decode cX8_gifts 63 = .ok (.iconst 1, 1) := by decide +kernel
theorem dX8_gifts_64 : decode cX8_gifts 64 = .ok (.iand, 1) := by decide +kernel
theorem dX8_gifts_65 : decode cX8_gifts 65 = .ok (.iconst 1, 1) := by decide +kernel
theorem dX8_gifts_66 : decode cX8_gifts 66 = .ok (.if_icmp .ne 7, 3) := by decide +kernel
theorem dX8_gifts_69 : decode cX8_gifts 69 = .ok (.iconst 1, 1) := by decide +kernel
theorem dX8_gifts_70 : decode cX8_gifts 70 = .ok (.goto 4, 3) := by decide +kernel
theorem dX8_gifts_73 : decode cX8_gifts 73 = .ok (.iconst 0, 1) := by decide +kernel
theorem dX8_gifts_74 : decode cX8_gifts 74 = .ok (.istore 7, 2) := by decide +kernel
theorem dX8_gifts_76 : decode cX8_gifts 76 = .ok (.iload 4, 2) := by decide +kernel
theorem dX8_gifts_78 : decode cX8_gifts 78 = .ok (.iload 7, 2) := by decide +kernel
theorem dX8_gifts_80 : decode cX8_gifts 80 = .ok (.ifCond .eq 12, 3) := by decide +kernel
theorem dX8_gifts_83 : decode cX8_gifts 83 = .ok (.aload_n 0, 1) := by decide +kernel
theorem dX8_gifts_84 : decode cX8_gifts 84 = .ok (.iload 6, 2) := by decide +kernel
theorem dX8_gifts_86 : decode cX8_gifts 86 = .ok (.invokevirtual 139, 3) := by decide +kernel
theorem dX8_gifts_89 : decode cX8_gifts 89 = .ok (.goto 4, 3) := by decide +kernel
theorem dX8_gifts_92 : decode cX8_gifts 92 = .ok (.iconst 0, 1) := by decide +kernel
theorem dX8_gifts_93 : decode cX8_gifts 93 = .ok (.iadd, 1) := by decide +kernel
theorem dX8_gifts_94 : decode cX8_gifts 94 = .ok (.istore 4, 2) := by decide +kernel
theorem dX8_gifts_96 : decode cX8_gifts 96 = .ok (.iload 7, 2) := by decide +kernel
theorem dX8_gifts_98 : decode cX8_gifts 98 = .ok (.ifCond .eq 37, 3) := by decide +kernel
theorem dX8_gifts_101 : decode cX8_gifts 101 = .ok (.aload_n 0, 1) := by decide +kernel
theorem dX8_gifts_102 : decode cX8_gifts 102 = .ok (.getfield 47, 3) := by decide +kernel
theorem dX8_gifts_105 : decode cX8_gifts 105 = .ok (.iload_n 3, 1) := by decide +kernel
theorem dX8_gifts_106 : decode cX8_gifts 106 = .ok (.iconst 1, 1) := by decide +kernel
theorem dX8_gifts_107 : decode cX8_gifts 107 = .ok (.iload 6, 2) := by decide +kernel
theorem dX8_gifts_109 : decode cX8_gifts 109 = .ok (.ishl, 1) := by decide +kernel
theorem dX8_gifts_110 : decode cX8_gifts 110 = .ok (.iconst (-1), 1) := by decide +kernel
theorem dX8_gifts_111 : decode cX8_gifts 111 = .ok (.ixor, 1) := by decide +kernel
theorem dX8_gifts_112 : decode cX8_gifts 112 = .ok (.iand, 1) := by decide +kernel
theorem dX8_gifts_113 : decode cX8_gifts 113 = .ok (.iaload, 1) := by decide +kernel
theorem dX8_gifts_114 : decode cX8_gifts 114 = .ok (.iload 5, 2) := by decide +kernel
theorem dX8_gifts_116 : decode cX8_gifts 116 = .ok (.if_icmp .le 19, 3) := by decide +kernel
theorem dX8_gifts_119 : decode cX8_gifts 119 = .ok (.aload_n 0, 1) := by decide +kernel
theorem dX8_gifts_120 : decode cX8_gifts 120 = .ok (.getfield 47, 3) := by decide +kernel
theorem dX8_gifts_123 : decode cX8_gifts 123 = .ok (.iload_n 3, 1) := by decide +kernel
theorem dX8_gifts_124 : decode cX8_gifts 124 = .ok (.iconst 1, 1) := by decide +kernel
theorem dX8_gifts_125 : decode cX8_gifts 125 = .ok (.iload 6, 2) := by decide +kernel
theorem dX8_gifts_127 : decode cX8_gifts 127 = .ok (.ishl, 1) := by decide +kernel
theorem dX8_gifts_128 : decode cX8_gifts 128 = .ok (.iconst (-1), 1) := by decide +kernel
theorem dX8_gifts_129 : decode cX8_gifts 129 = .ok (.ixor, 1) := by decide +kernel
theorem dX8_gifts_130 : decode cX8_gifts 130 = .ok (.iand, 1) := by decide +kernel
theorem dX8_gifts_131 : decode cX8_gifts 131 = .ok (.iaload, 1) := by decide +kernel
theorem dX8_gifts_132 : decode cX8_gifts 132 = .ok (.goto 5, 3) := by decide +kernel
theorem dX8_gifts_135 : decode cX8_gifts 135 = .ok (.iload 5, 2) := by decide +kernel
theorem dX8_gifts_137 : decode cX8_gifts 137 = .ok (.istore 5, 2) := by decide +kernel
theorem dX8_gifts_139 : decode cX8_gifts 139 = .ok (.iinc 6 1, 3) := by decide +kernel
theorem dX8_gifts_142 : decode cX8_gifts 142 = .ok (.goto (-90), 3) := by decide +kernel
theorem dX8_gifts_145 : decode cX8_gifts 145 = .ok (.aload_n 0, 1) := by decide +kernel
theorem dX8_gifts_146 : decode cX8_gifts 146 = .ok (.getfield 47, 3) := by decide +kernel
theorem dX8_gifts_149 : decode cX8_gifts 149 = .ok (.iload_n 3, 1) := by decide +kernel
theorem dX8_gifts_150 : decode cX8_gifts 150 = .ok (.iload_n 3, 1) := by decide +kernel
theorem dX8_gifts_151 : decode cX8_gifts 151 = .ok (.ifCond .le 15, 3) := by decide +kernel
theorem dX8_gifts_154 : decode cX8_gifts 154 = .ok (.iload 4, 2) := by decide +kernel
theorem dX8_gifts_156 : decode cX8_gifts 156 = .ok (.ifCond .ne 10, 3) := by decide +kernel
theorem dX8_gifts_159 : decode cX8_gifts 159 = .ok (.iload 5, 2) := by decide +kernel
theorem dX8_gifts_161 : decode cX8_gifts 161 = .ok (.iconst 1, 1) := by decide +kernel
theorem dX8_gifts_162 : decode cX8_gifts 162 = .ok (.iadd, 1) := by decide +kernel
theorem dX8_gifts_163 : decode cX8_gifts 163 = .ok (.goto 5, 3) := by decide +kernel
theorem dX8_gifts_166 : decode cX8_gifts 166 = .ok (.iload 5, 2) := by decide +kernel
theorem dX8_gifts_168 : decode cX8_gifts 168 = .ok (.iastore, 1) := by decide +kernel
theorem dX8_gifts_169 : decode cX8_gifts 169 = .ok (.iinc 3 1, 3) := by decide +kernel
theorem dX8_gifts_172 : decode cX8_gifts 172 = .ok (.goto (-135), 3) := by decide +kernel
theorem dX8_gifts_175 : decode cX8_gifts 175 = .ok (.iload_n 2, 1) := by decide +kernel
theorem dX8_gifts_176 : decode cX8_gifts 176 = .ok (.aload_n 0, 1) := by decide +kernel
theorem dX8_gifts_177 : decode cX8_gifts 177 = .ok (.getfield 47, 3) := by decide +kernel
theorem dX8_gifts_180 : decode cX8_gifts 180 = .ok (.iload_n 1, 1) := by decide +kernel
theorem dX8_gifts_181 : decode cX8_gifts 181 = .ok (.iaload, 1) := by decide +kernel
theorem dX8_gifts_182 : decode cX8_gifts 182 = .ok (.isub, 1) := by decide +kernel
theorem dX8_gifts_183 : decode cX8_gifts 183 = .ok (.ireturn, 1) := by decide +kernel
theorem dX8_layLine_0 : decode cX8_layLine 0 = .ok (.iload_n 1, 1) := by decide +kernel
theorem dX8_layLine_1 : decode cX8_layLine 1 = .ok (.istore_n 2, 1) := by decide +kernel
theorem dX8_layLine_2 : decode cX8_layLine 2 = .ok (.aload_n 0, 1) := by decide +kernel
theorem dX8_layLine_3 : decode cX8_layLine 3 = .ok (.getfield 75, 3) := by decide +kernel
theorem dX8_layLine_6 : decode cX8_layLine 6 = .ok (.iconst 1, 1) := by decide +kernel
theorem dX8_layLine_7 : decode cX8_layLine 7 = .ok (.isub, 1) := by decide +kernel
theorem dX8_layLine_8 : decode cX8_layLine 8 = .ok (.istore_n 3, 1) := by decide +kernel
theorem dX8_layLine_9 : decode cX8_layLine 9 = .ok (.iload_n 3, 1) := by decide +kernel
theorem dX8_layLine_10 : decode cX8_layLine 10 = .ok (.ifCond .lt 64, 3) := by decide +kernel
theorem dX8_layLine_13 : decode cX8_layLine 13 = .ok (.aload_n 0, 1) := by decide +kernel
theorem dX8_layLine_14 : decode cX8_layLine 14 = .ok (.getfield 50, 3) := by decide +kernel
theorem dX8_layLine_17 : decode cX8_layLine 17 = .ok (.iload_n 3, 1) := by decide +kernel
theorem dX8_layLine_18 : decode cX8_layLine 18 = .ok (.aload_n 0, 1) := by decide +kernel
theorem dX8_layLine_19 : decode cX8_layLine 19 = .ok (.getfield 20, 3) := by decide +kernel
theorem dX8_layLine_22 : decode cX8_layLine 22 = .ok (.iload_n 3, 1) := by decide +kernel
theorem dX8_layLine_23 : decode cX8_layLine 23 = .ok (.iaload, 1) := by decide +kernel
theorem dX8_layLine_24 : decode cX8_layLine 24 = .ok (.iastore, 1) := by decide +kernel
theorem dX8_layLine_25 : decode cX8_layLine 25 = .ok (.aload_n 0, 1) := by decide +kernel
theorem dX8_layLine_26 : decode cX8_layLine 26 = .ok (.getfield 20, 3) := by decide +kernel
theorem dX8_layLine_29 : decode cX8_layLine 29 = .ok (.iload_n 3, 1) := by decide +kernel
theorem dX8_layLine_30 : decode cX8_layLine 30 = .ok (.iaload, 1) := by decide +kernel
theorem dX8_layLine_31 : decode cX8_layLine 31 = .ok (.bipush 42, 2) := by decide +kernel
theorem dX8_layLine_33 : decode cX8_layLine 33 = .ok (.if_icmp .ne 35, 3) := by decide +kernel
theorem dX8_layLine_36 : decode cX8_layLine 36 = .ok (.aload_n 0, 1) := by decide +kernel
theorem dX8_layLine_37 : decode cX8_layLine 37 = .ok (.getfield 50, 3) := by decide +kernel
theorem dX8_layLine_40 : decode cX8_layLine 40 = .ok (.iload_n 3, 1) := by decide +kernel
theorem dX8_layLine_41 : decode cX8_layLine 41 = .ok (.iload_n 2, 1) := by decide +kernel
theorem dX8_layLine_42 : decode cX8_layLine 42 = .ok (.bipush 7, 2) := by decide +kernel
theorem dX8_layLine_44 : decode cX8_layLine 44 = .ok (.irem, 1) := by decide +kernel
theorem dX8_layLine_45 : decode cX8_layLine 45 = .ok (.bipush 6, 2) := by decide +kernel
theorem dX8_layLine_47 : decode cX8_layLine 47 = .ok (.if_icmp .ne 8, 3) := by decide +kernel
theorem dX8_layLine_50 : decode cX8_layLine 50 = .ok (.bipush 46, 2) := by decide +kernel
theorem dX8_layLine_52 : decode cX8_layLine 52 = .ok (.goto 10, 3) := by decide +kernel
theorem dX8_layLine_55 : decode cX8_layLine 55 = .ok (.bipush 97, 2) := by decide +kernel
theorem dX8_layLine_57 : decode cX8_layLine 57 = .ok (.iload_n 2, 1) := by decide +kernel
theorem dX8_layLine_58 : decode cX8_layLine 58 = .ok (.bipush 7, 2) := by decide +kernel
theorem dX8_layLine_60 : decode cX8_layLine 60 = .ok (.irem, 1) := by decide +kernel
end
section
theorem dX8_layLine_61 : decode cX8_layLine 61 = .ok (.iadd, 1) := by decide +kernel
theorem dX8_layLine_62 : decode cX8_layLine 62 = .ok (.iastore, 1) := by decide +kernel
theorem dX8_layLine_63 : decode cX8_layLine 63 = .ok (.iload_n 2, 1) := by decide +kernel
theorem dX8_layLine_64 : decode cX8_layLine 64 = .ok (.bipush 7, 2) := by decide +kernel
theorem dX8_layLine_66 : decode cX8_layLine 66 = .ok (.idiv, 1) := by decide +kernel
theorem dX8_layLine_67 : decode cX8_layLine 67 = .ok (.istore_n 2, 1) := by decide +kernel
theorem dX8_layLine_68 : decode cX8_layLine 68 = .ok (.iinc 3 (-1), 3) := by decide +kernel
theorem dX8_layLine_71 : decode cX8_layLine 71 = .ok (.goto (-62), 3) := by decide +kernel
theorem dX8_layLine_74 : decode cX8_layLine 74 = .ok (.iload_n 2, 1) := by decide +kernel
theorem dX8_layLine_75 : decode cX8_layLine 75 = .ok (.ireturn, 1) := by decide +kernel
theorem dX8_holds_0 : decode cX8_holds 0 = .ok (.iconst 0, 1) := by decide +kernel
theorem dX8_holds_1 : decode cX8_holds 1 = .ok (.istore_n 1, 1) := by decide +kernel
theorem dX8_holds_2 : decode cX8_holds 2 = .ok (.iload_n 1, 1) := by decide +kernel
theorem dX8_holds_3 : decode cX8_holds 3 = .ok (.bipush 6, 2) := by decide +kernel
theorem dX8_holds_5 : decode cX8_holds 5 = .ok (.if_icmp .ge 23, 3) := by decide +kernel
theorem dX8_holds_8 : decode cX8_holds 8 = .ok (.aload_n 0, 1) := by decide +kernel
theorem dX8_holds_9 : decode cX8_holds 9 = .ok (.getfield 53, 3) := by decide +kernel
theorem dX8_holds_12 : decode cX8_holds 12 = .ok (.iload_n 1, 1) := by decide +kernel
theorem dX8_holds_13 : decode cX8_holds 13 = .ok (.aload_n 0, 1) := by decide +kernel
theorem dX8_holds_14 : decode cX8_holds 14 = .ok (.getfield 7, 3) := by decide +kernel
theorem dX8_holds_17 : decode cX8_holds 17 = .ok (.iconst 4, 1) := by decide +kernel
theorem dX8_holds_18 : decode cX8_holds 18 = .ok (.iload_n 1, 1) := by decide +kernel
theorem dX8_holds_19 : decode cX8_holds 19 = .ok (.imul, 1) := by decide +kernel
theorem dX8_holds_20 : decode cX8_holds 20 = .ok (.iaload, 1) := by decide +kernel
theorem dX8_holds_21 : decode cX8_holds 21 = .ok (.iastore, 1) := by decide +kernel
theorem dX8_holds_22 : decode cX8_holds 22 = .ok (.iinc 1 1, 3) := by decide +kernel
theorem dX8_holds_25 : decode cX8_holds 25 = .ok (.goto (-23), 3) := by decide +kernel
theorem dX8_holds_28 : decode cX8_holds 28 = .ok (.iconst 0, 1) := by decide +kernel
theorem dX8_holds_29 : decode cX8_holds 29 = .ok (.istore_n 1, 1) := by decide +kernel
theorem dX8_holds_30 : decode cX8_holds 30 = .ok (.iload_n 1, 1) := by decide +kernel
theorem dX8_holds_31 : decode cX8_holds 31 = .ok (.aload_n 0, 1) := by decide +kernel
theorem dX8_holds_32 : decode cX8_holds 32 = .ok (.getfield 75, 3) := by decide +kernel
theorem dX8_holds_35 : decode cX8_holds 35 = .ok (.if_icmp .ge 83, 3) := by decide +kernel
theorem dX8_holds_38 : decode cX8_holds 38 = .ok (.aload_n 0, 1) := by decide +kernel
theorem dX8_holds_39 : decode cX8_holds 39 = .ok (.getfield 50, 3) := by decide +kernel
theorem dX8_holds_42 : decode cX8_holds 42 = .ok (.iload_n 1, 1) := by decide +kernel
theorem dX8_holds_43 : decode cX8_holds 43 = .ok (.iaload, 1) := by decide +kernel
theorem dX8_holds_44 : decode cX8_holds 44 = .ok (.bipush 46, 2) := by decide +kernel
theorem dX8_holds_46 : decode cX8_holds 46 = .ok (.if_icmp .ne 8, 3) := by decide +kernel
theorem dX8_holds_49 : decode cX8_holds 49 = .ok (.bipush (-6), 2) := by decide +kernel
theorem dX8_holds_51 : decode cX8_holds 51 = .ok (.goto 12, 3) := by decide +kernel
theorem dX8_holds_54 : decode cX8_holds 54 = .ok (.aload_n 0, 1) := by decide +kernel
theorem dX8_holds_55 : decode cX8_holds 55 = .ok (.getfield 50, 3) := by decide +kernel
theorem dX8_holds_58 : decode cX8_holds 58 = .ok (.iload_n 1, 1) := by decide +kernel
theorem dX8_holds_59 : decode cX8_holds 59 = .ok (.iaload, 1) := by decide +kernel
theorem dX8_holds_60 : decode cX8_holds 60 = .ok (.bipush 97, 2) := by decide +kernel
theorem dX8_holds_62 : decode cX8_holds 62 = .ok (.isub, 1) := by decide +kernel
theorem dX8_holds_63 : decode cX8_holds 63 = .ok (.istore_n 2, 1) := by decide +kernel
theorem dX8_holds_64 : decode cX8_holds 64 = .ok (.iload_n 2, 1) := by decide +kernel
theorem dX8_holds_65 : decode cX8_holds 65 = .ok (.ifCond .lt 14, 3) := by decide +kernel
theorem dX8_holds_68 : decode cX8_holds 68 = .ok (.aload_n 0, 1) := by decide +kernel
theorem dX8_holds_69 : decode cX8_holds 69 = .ok (.getfield 53, 3) := by decide +kernel
theorem dX8_holds_72 : decode cX8_holds 72 = .ok (.iload_n 2, 1) := by decide +kernel
theorem dX8_holds_73 : decode cX8_holds 73 = .ok (.iaload, 1) := by decide +kernel
theorem dX8_holds_74 : decode cX8_holds 74 = .ok (.ifCond .ne 5, 3) := by decide +kernel
theorem dX8_holds_77 : decode cX8_holds 77 = .ok (.iload_n 1, 1) := by decide +kernel
theorem dX8_holds_78 : decode cX8_holds 78 = .ok (.ireturn, 1) := by decide +kernel
theorem dX8_holds_79 : decode cX8_holds 79 = .ok (.iconst 0, 1) := by decide +kernel
theorem dX8_holds_80 : decode cX8_holds 80 = .ok (.istore_n 3, 1) := by decide +kernel
theorem dX8_holds_81 : decode cX8_holds 81 = .ok (.iload_n 3, 1) := by decide +kernel
theorem dX8_holds_82 : decode cX8_holds 82 = .ok (.bipush 6, 2) := by decide +kernel
theorem dX8_holds_84 : decode cX8_holds 84 = .ok (.if_icmp .ge 28, 3) := by decide +kernel
theorem dX8_holds_87 : decode cX8_holds 87 = .ok (.aload_n 0, 1) := by decide +kernel
theorem dX8_holds_88 : decode cX8_holds 88 = .ok (.getfield 53, 3) := by decide +kernel
theorem dX8_holds_91 : decode cX8_holds 91 = .ok (.iload_n 3, 1) := by decide +kernel
theorem dX8_holds_92 : decode cX8_holds 92 = .ok (.dup2, 1) := by decide +kernel
theorem dX8_holds_93 : decode cX8_holds 93 = .ok (.iaload, 1) := by decide +kernel
theorem dX8_holds_94 : decode cX8_holds 94 = .ok (.iload_n 3, 1) := by decide +kernel
theorem dX8_holds_95 : decode cX8_holds 95 = .ok (.iload_n 2, 1) := by decide +kernel
theorem dX8_holds_96 : decode cX8_holds 96 = .ok (.if_icmp .ne 7, 3) := by decide +kernel
theorem dX8_holds_99 : decode cX8_holds 99 = .ok (.iconst (-1), 1) := by decide +kernel
theorem dX8_holds_100 : decode cX8_holds 100 = .ok (.goto 4, 3) := by decide +kernel
theorem dX8_holds_103 : decode cX8_holds 103 = .ok (.iconst 1, 1) := by decide +kernel
theorem dX8_holds_104 : decode cX8_holds 104 = .ok (.iadd, 1) := by decide +kernel
theorem dX8_holds_105 : decode cX8_holds 105 = .ok (.iastore, 1) := by decide +kernel
theorem dX8_holds_106 : decode cX8_holds 106 = .ok (.iinc 3 1, 3) := by decide +kernel
theorem dX8_holds_109 : decode cX8_holds 109 = .ok (.goto (-28), 3) := by decide +kernel
theorem dX8_holds_112 : decode cX8_holds 112 = .ok (.iinc 1 1, 3) := by decide +kernel
theorem dX8_holds_115 : decode cX8_holds 115 = .ok (.goto (-85), 3) := by decide +kernel
theorem dX8_holds_118 : decode cX8_holds 118 = .ok (.aload_n 0, 1) := by decide +kernel
theorem dX8_holds_119 : decode cX8_holds 119 = .ok (.getfield 75, 3) := by decide +kernel
theorem dX8_holds_122 : decode cX8_holds 122 = .ok (.ireturn, 1) := by decide +kernel
theorem dX8_filled_0 : decode cX8_filled 0 = .ok (.aload_n 0, 1) := by decide +kernel
theorem dX8_filled_1 : decode cX8_filled 1 = .ok (.invokevirtual 88, 3) := by decide +kernel
theorem dX8_filled_4 : decode cX8_filled 4 = .ok (.ifCond .lt 6, 3) := by decide +kernel
theorem dX8_filled_7 : decode cX8_filled 7 = .ok (.bipush (-5), 2) := by decide +kernel
theorem dX8_filled_9 : decode cX8_filled 9 = .ok (.ireturn, 1) := by decide +kernel
theorem dX8_filled_10 : decode cX8_filled 10 = .ok (.iconst 0, 1) := by decide +kernel
theorem dX8_filled_11 : decode cX8_filled 11 = .ok (.istore_n 3, 1) := by decide +kernel
theorem dX8_filled_12 : decode cX8_filled 12 = .ok (.iconst 0, 1) := by decide +kernel
theorem dX8_filled_13 : decode cX8_filled 13 = .ok (.istore 4, 2) := by decide +kernel
theorem dX8_filled_15 : decode cX8_filled 15 = .ok (.aload_n 0, 1) := by decide +kernel
theorem dX8_filled_16 : decode cX8_filled 16 = .ok (.iload 4, 2) := by decide +kernel
theorem dX8_filled_18 : decode cX8_filled 18 = .ok (.invokevirtual 142, 3) := by decide +kernel
theorem dX8_filled_21 : decode cX8_filled 21 = .ok (.ifCond .ne 54, 3) := by decide +kernel
theorem dX8_filled_24 : decode cX8_filled 24 = .ok (.aload_n 0, 1) := by decide +kernel
theorem dX8_filled_25 : decode cX8_filled 25 = .ok (.invokevirtual 145, 3) := by decide +kernel
theorem dX8_filled_28 : decode cX8_filled 28 = .ok (.aload_n 0, 1) := by decide +kernel
theorem dX8_filled_29 : decode cX8_filled 29 = .ok (.getfield 75, 3) := by decide +kernel
theorem dX8_filled_32 : decode cX8_filled 32 = .ok (.if_icmp .ne 37, 3) := by decide +kernel
theorem dX8_filled_35 : decode cX8_filled 35 = .ok (.iload_n 3, 1) := by decide +kernel
theorem dX8_filled_36 : decode cX8_filled 36 = .ok (.iload_n 1, 1) := by decide +kernel
theorem dX8_filled_37 : decode cX8_filled 37 = .ok (.if_icmp .ne 29, 3) := by decide +kernel
theorem dX8_filled_40 : decode cX8_filled 40 = .ok (.iload_n 2, 1) := by decide +kernel
theorem dX8_filled_41 : decode cX8_filled 41 = .ok (.iconst 0, 1) := by decide +kernel
theorem dX8_filled_42 : decode cX8_filled 42 = .ok (.aload_n 0, 1) := by decide +kernel
theorem dX8_filled_43 : decode cX8_filled 43 = .ok (.getfield 75, 3) := by decide +kernel
theorem dX8_filled_46 : decode cX8_filled 46 = .ok (.iconst 1, 1) := by decide +kernel
theorem dX8_filled_47 : decode cX8_filled 47 = .ok (.isub, 1) := by decide +kernel
theorem dX8_filled_48 : decode cX8_filled 48 = .ok (.invokestatic 63, 3) := by decide +kernel
theorem dX8_filled_51 : decode cX8_filled 51 = .ok (.ifCond .eq 12, 3) := by decide +kernel
theorem dX8_filled_54 : decode cX8_filled 54 = .ok (.aload_n 0, 1) := by decide +kernel
theorem dX8_filled_55 : decode cX8_filled 55 = .ok (.getfield 50, 3) := by decide +kernel
theorem dX8_filled_58 : decode cX8_filled 58 = .ok (.iload_n 2, 1) := by decide +kernel
theorem dX8_filled_59 : decode cX8_filled 59 = .ok (.iaload, 1) := by decide +kernel
theorem dX8_filled_60 : decode cX8_filled 60 = .ok (.goto 5, 3) := by decide +kernel
theorem dX8_filled_63 : decode cX8_filled 63 = .ok (.bipush (-6), 2) := by decide +kernel
theorem dX8_filled_65 : decode cX8_filled 65 = .ok (.ireturn, 1) := by decide +kernel
theorem dX8_filled_66 : decode cX8_filled 66 = .ok (.iinc 3 1, 3) := by decide +kernel
theorem dX8_filled_69 : decode cX8_filled 69 = .ok (.iinc 4 1, 3) := by decide +kernel
theorem dX8_filled_72 : decode cX8_filled 72 = .ok (.goto (-57), 3) := by decide +kernel
theorem dX8_filled_75 : decode cX8_filled 75 = .ok (.iload_n 1, 1) := by decide +kernel
theorem dX8_filled_76 : decode cX8_filled 76 = .ok (.iconst (-1), 1) := by decide +kernel
theorem dX8_filled_77 : decode cX8_filled 77 = .ok (.if_icmp .ne 7, 3) := by decide +kernel
theorem dX8_filled_80 : decode cX8_filled 80 = .ok (.iload_n 3, 1) := by decide +kernel
theorem dX8_filled_81 : decode cX8_filled 81 = .ok (.goto 5, 3) := by decide +kernel
theorem dX8_filled_84 : decode cX8_filled 84 = .ok (.bipush (-6), 2) := by decide +kernel
theorem dX8_filled_86 : decode cX8_filled 86 = .ok (.ireturn, 1) := by decide +kernel
theorem dX8_lie_0 : decode cX8_lie 0 = .ok (.aload_n 0, 1) := by decide +kernel
theorem dX8_lie_1 : decode cX8_lie 1 = .ok (.invokevirtual 88, 3) := by decide +kernel
theorem dX8_lie_4 : decode cX8_lie 4 = .ok (.ifCond .lt 6, 3) := by decide +kernel
theorem dX8_lie_7 : decode cX8_lie 7 = .ok (.bipush (-5), 2) := by decide +kernel
theorem dX8_lie_9 : decode cX8_lie 9 = .ok (.ireturn, 1) := by decide +kernel
theorem dX8_lie_10 : decode cX8_lie 10 = .ok (.iconst 0, 1) := by decide +kernel
theorem dX8_lie_11 : decode cX8_lie 11 = .ok (.istore_n 1, 1) := by decide +kernel
theorem dX8_lie_12 : decode cX8_lie 12 = .ok (.iconst 0, 1) := by decide +kernel
theorem dX8_lie_13 : decode cX8_lie 13 = .ok (.istore_n 2, 1) := by decide +kernel
theorem dX8_lie_14 : decode cX8_lie 14 = .ok (.aload_n 0, 1) := by decide +kernel
theorem dX8_lie_15 : decode cX8_lie 15 = .ok (.iload_n 2, 1) := by decide +kernel
theorem dX8_lie_16 : decode cX8_lie 16 = .ok (.invokevirtual 142, 3) := by decide +kernel
theorem dX8_lie_19 : decode cX8_lie 19 = .ok (.ifCond .ne 25, 3) := by decide +kernel
theorem dX8_lie_22 : decode cX8_lie 22 = .ok (.aload_n 0, 1) := by decide +kernel
theorem dX8_lie_23 : decode cX8_lie 23 = .ok (.invokevirtual 145, 3) := by decide +kernel
theorem dX8_lie_26 : decode cX8_lie 26 = .ok (.istore_n 3, 1) := by decide +kernel
theorem dX8_lie_27 : decode cX8_lie 27 = .ok (.iload_n 3, 1) := by decide +kernel
theorem dX8_lie_28 : decode cX8_lie 28 = .ok (.iload_n 1, 1) := by decide +kernel
theorem dX8_lie_29 : decode cX8_lie 29 = .ok (.if_icmp .le 7, 3) := by decide +kernel
theorem dX8_lie_32 : decode cX8_lie 32 = .ok (.iload_n 3, 1) := by decide +kernel
theorem dX8_lie_33 : decode cX8_lie 33 = .ok (.goto 4, 3) := by decide +kernel
theorem dX8_lie_36 : decode cX8_lie 36 = .ok (.iload_n 1, 1) := by decide +kernel
theorem dX8_lie_37 : decode cX8_lie 37 = .ok (.istore_n 1, 1) := by decide +kernel
theorem dX8_lie_38 : decode cX8_lie 38 = .ok (.iinc 2 1, 3) := by decide +kernel
theorem dX8_lie_41 : decode cX8_lie 41 = .ok (.goto (-27), 3) := by decide +kernel
theorem dX8_lie_44 : decode cX8_lie 44 = .ok (.iload_n 1, 1) := by decide +kernel
theorem dX8_lie_45 : decode cX8_lie 45 = .ok (.aload_n 0, 1) := by decide +kernel
theorem dX8_lie_46 : decode cX8_lie 46 = .ok (.getfield 75, 3) := by decide +kernel
theorem dX8_lie_49 : decode cX8_lie 49 = .ok (.if_icmp .ne 8, 3) := by decide +kernel
theorem dX8_lie_52 : decode cX8_lie 52 = .ok (.bipush (-6), 2) := by decide +kernel
theorem dX8_lie_54 : decode cX8_lie 54 = .ok (.goto 4, 3) := by decide +kernel
theorem dX8_lie_57 : decode cX8_lie 57 = .ok (.iload_n 1, 1) := by decide +kernel
theorem dX8_lie_58 : decode cX8_lie 58 = .ok (.ireturn, 1) := by decide +kernel
theorem dX8_floorOf_0 : decode cX8_floorOf 0 = .ok (.iconst 0, 1) := by decide +kernel
theorem dX8_floorOf_1 : decode cX8_floorOf 1 = .ok (.istore_n 2, 1) := by decide +kernel
theorem dX8_floorOf_2 : decode cX8_floorOf 2 = .ok (.iconst 0, 1) := by decide +kernel
theorem dX8_floorOf_3 : decode cX8_floorOf 3 = .ok (.istore_n 3, 1) := by decide +kernel
theorem dX8_floorOf_4 : decode cX8_floorOf 4 = .ok (.iconst 0, 1) := by decide +kernel
theorem dX8_floorOf_5 : decode cX8_floorOf 5 = .ok (.istore 4, 2) := by decide +kernel
theorem dX8_floorOf_7 : decode cX8_floorOf 7 = .ok (.iload 4, 2) := by decide +kernel
theorem dX8_floorOf_9 : decode cX8_floorOf 9 = .ok (.bipush 6, 2) := by decide +kernel
theorem dX8_floorOf_11 : decode cX8_floorOf 11 = .ok (.if_icmp .ge 60, 3) := by decide +kernel
theorem dX8_floorOf_14 : decode cX8_floorOf 14 = .ok (.iload_n 1, 1) := by decide +kernel
theorem dX8_floorOf_15 : decode cX8_floorOf 15 = .ok (.iload 4, 2) := by decide +kernel
theorem dX8_floorOf_17 : decode cX8_floorOf 17 = .ok (.ishr, 1) := by decide +kernel
theorem dX8_floorOf_18 : decode cX8_floorOf 18 = .ok (.iconst 1, 1) := by decide +kernel
theorem dX8_floorOf_19 : decode cX8_floorOf 19 = .ok (.iand, 1) := by decide +kernel
theorem dX8_floorOf_20 : decode cX8_floorOf 20 = .ok (.iconst 1, 1) := by decide +kernel
theorem dX8_floorOf_21 : decode cX8_floorOf 21 = .ok (.if_icmp .ne 7, 3) := by decide +kernel
theorem dX8_floorOf_24 : decode cX8_floorOf 24 = .ok (.iconst 1, 1) := by decide +kernel
theorem dX8_floorOf_25 : decode cX8_floorOf 25 = .ok (.goto 4, 3) := by decide +kernel
theorem dX8_floorOf_28 : decode cX8_floorOf 28 = .ok (.iconst 0, 1) := by decide +kernel
theorem dX8_floorOf_29 : decode cX8_floorOf 29 = .ok (.istore 5, 2) := by decide +kernel
theorem dX8_floorOf_31 : decode cX8_floorOf 31 = .ok (.iload_n 2, 1) := by decide +kernel
theorem dX8_floorOf_32 : decode cX8_floorOf 32 = .ok (.iload 5, 2) := by decide +kernel
theorem dX8_floorOf_34 : decode cX8_floorOf 34 = .ok (.ifCond .eq 7, 3) := by decide +kernel
theorem dX8_floorOf_37 : decode cX8_floorOf 37 = .ok (.iconst 1, 1) := by decide +kernel
theorem dX8_floorOf_38 : decode cX8_floorOf 38 = .ok (.goto 4, 3) := by decide +kernel
theorem dX8_floorOf_41 : decode cX8_floorOf 41 = .ok (.iconst 0, 1) := by decide +kernel
theorem dX8_floorOf_42 : decode cX8_floorOf 42 = .ok (.iadd, 1) := by decide +kernel
theorem dX8_floorOf_43 : decode cX8_floorOf 43 = .ok (.istore_n 2, 1) := by decide +kernel
theorem dX8_floorOf_44 : decode cX8_floorOf 44 = .ok (.iload_n 3, 1) := by decide +kernel
theorem dX8_floorOf_45 : decode cX8_floorOf 45 = .ok (.iload 5, 2) := by decide +kernel
theorem dX8_floorOf_47 : decode cX8_floorOf 47 = .ok (.ifCond .eq 15, 3) := by decide +kernel
theorem dX8_floorOf_50 : decode cX8_floorOf 50 = .ok (.aload_n 0, 1) := by decide +kernel
theorem dX8_floorOf_51 : decode cX8_floorOf 51 = .ok (.getfield 7, 3) := by decide +kernel
theorem dX8_floorOf_54 : decode cX8_floorOf 54 = .ok (.iconst 4, 1) := by decide +kernel
theorem dX8_floorOf_55 : decode cX8_floorOf 55 = .ok (.iload 4, 2) := by decide +kernel
theorem dX8_floorOf_57 : decode cX8_floorOf 57 = .ok (.imul, 1) := by decide +kernel
theorem dX8_floorOf_58 : decode cX8_floorOf 58 = .ok (.iaload, 1) := by decide +kernel
theorem dX8_floorOf_59 : decode cX8_floorOf 59 = .ok (.goto 4, 3) := by decide +kernel
theorem dX8_floorOf_62 : decode cX8_floorOf 62 = .ok (.iconst 0, 1) := by decide +kernel
theorem dX8_floorOf_63 : decode cX8_floorOf 63 = .ok (.iadd, 1) := by decide +kernel
theorem dX8_floorOf_64 : decode cX8_floorOf 64 = .ok (.istore_n 3, 1) := by decide +kernel
theorem dX8_floorOf_65 : decode cX8_floorOf 65 = .ok (.iinc 4 1, 3) := by decide +kernel
theorem dX8_floorOf_68 : decode cX8_floorOf 68 = .ok (.goto (-61), 3) := by decide +kernel
theorem dX8_floorOf_71 : decode cX8_floorOf 71 = .ok (.iload_n 2, 1) := by decide +kernel
theorem dX8_floorOf_72 : decode cX8_floorOf 72 = .ok (.iconst 1, 1) := by decide +kernel
theorem dX8_floorOf_73 : decode cX8_floorOf 73 = .ok (.if_icmp .le 12, 3) := by decide +kernel
theorem dX8_floorOf_76 : decode cX8_floorOf 76 = .ok (.iload_n 3, 1) := by decide +kernel
theorem dX8_floorOf_77 : decode cX8_floorOf 77 = .ok (.ifCond .le 8, 3) := by decide +kernel
theorem dX8_floorOf_80 : decode cX8_floorOf 80 = .ok (.ldc 148, 2) := by decide +kernel
theorem dX8_floorOf_82 : decode cX8_floorOf 82 = .ok (.goto 4, 3) := by decide +kernel
theorem dX8_floorOf_85 : decode cX8_floorOf 85 = .ok (.iload_n 3, 1) := by decide +kernel
theorem dX8_floorOf_86 : decode cX8_floorOf 86 = .ok (.ireturn, 1) := by decide +kernel
theorem dX8_floor_0 : decode cX8_floor 0 = .ok (.iload_n 1, 1) := by decide +kernel
theorem dX8_floor_1 : decode cX8_floor 1 = .ok (.iconst 0, 1) := by decide +kernel
theorem dX8_floor_2 : decode cX8_floor 2 = .ok (.bipush 63, 2) := by decide +kernel
theorem dX8_floor_4 : decode cX8_floor 4 = .ok (.invokestatic 63, 3) := by decide +kernel
theorem dX8_floor_7 : decode cX8_floor 7 = .ok (.ifCond .eq 11, 3) := by decide +kernel
theorem dX8_floor_10 : decode cX8_floor 10 = .ok (.aload_n 0, 1) := by decide +kernel
theorem dX8_floor_11 : decode cX8_floor 11 = .ok (.iload_n 1, 1) := by decide +kernel
theorem dX8_floor_12 : decode cX8_floor 12 = .ok (.invokevirtual 149, 3) := by decide +kernel
theorem dX8_floor_15 : decode cX8_floor 15 = .ok (.goto 5, 3) := by decide +kernel
theorem dX8_floor_18 : decode cX8_floor 18 = .ok (.bipush (-2), 2) := by decide +kernel
theorem dX8_floor_20 : decode cX8_floor 20 = .ok (.ireturn, 1) := by decide +kernel
theorem dX8_bits_0 : decode cX8_bits 0 = .ok (.iconst 0, 1) := by decide +kernel
theorem dX8_bits_1 : decode cX8_bits 1 = .ok (.istore_n 1, 1) := by decide +kernel
theorem dX8_bits_2 : decode cX8_bits 2 = .ok (.iconst 0, 1) := by decide +kernel
theorem dX8_bits_3 : decode cX8_bits 3 = .ok (.istore_n 2, 1) := by decide +kernel
theorem dX8_bits_4 : decode cX8_bits 4 = .ok (.iload_n 2, 1) := by decide +kernel
theorem dX8_bits_5 : decode cX8_bits 5 = .ok (.bipush 6, 2) := by decide +kernel
theorem dX8_bits_7 : decode cX8_bits 7 = .ok (.if_icmp .ge 17, 3) := by decide +kernel
theorem dX8_bits_10 : decode cX8_bits 10 = .ok (.iload_n 1, 1) := by decide +kernel
theorem dX8_bits_11 : decode cX8_bits 11 = .ok (.iload_n 0, 1) := by decide +kernel
theorem dX8_bits_12 : decode cX8_bits 12 = .ok (.iload_n 2, 1) := by decide +kernel
theorem dX8_bits_13 : decode cX8_bits 13 = .ok (.ishr, 1) := by decide +kernel
theorem dX8_bits_14 : decode cX8_bits 14 = .ok (.iconst 1, 1) := by decide +kernel
theorem dX8_bits_15 : decode cX8_bits 15 = .ok (.iand, 1) := by decide +kernel
theorem dX8_bits_16 : decode cX8_bits 16 = .ok (.iadd, 1) := by decide +kernel
theorem dX8_bits_17 : decode cX8_bits 17 = .ok (.istore_n 1, 1) := by decide +kernel
theorem dX8_bits_18 : decode cX8_bits 18 = .ok (.iinc 2 1, 3) := by decide +kernel
theorem dX8_bits_21 : decode cX8_bits 21 = .ok (.goto (-17), 3) := by decide +kernel
theorem dX8_bits_24 : decode cX8_bits 24 = .ok (.iload_n 1, 1) := by decide +kernel
theorem dX8_bits_25 : decode cX8_bits 25 = .ok (.ireturn, 1) := by decide +kernel
theorem dX8_friends_0 : decode cX8_friends 0 = .ok (.iload_n 1, 1) := by decide +kernel
theorem dX8_friends_1 : decode cX8_friends 1 = .ok (.invokestatic 67, 3) := by decide +kernel
theorem dX8_friends_4 : decode cX8_friends 4 = .ok (.ifCond .ne 5, 3) := by decide +kernel
theorem dX8_friends_7 : decode cX8_friends 7 = .ok (.iconst (-1), 1) := by decide +kernel
theorem dX8_friends_8 : decode cX8_friends 8 = .ok (.ireturn, 1) := by decide +kernel
theorem dX8_friends_9 : decode cX8_friends 9 = .ok (.iload_n 2, 1) := by decide +kernel
theorem dX8_friends_10 : decode cX8_friends 10 = .ok (.iconst 0, 1) := by decide +kernel
theorem dX8_friends_11 : decode cX8_friends 11 = .ok (.sipush 999, 3) := by decide +kernel
theorem dX8_friends_14 : decode cX8_friends 14 = .ok (.invokestatic 63, 3) := by decide +kernel
theorem dX8_friends_17 : decode cX8_friends 17 = .ok (.ifCond .ne 6, 3) := by decide +kernel
theorem dX8_friends_20 : decode cX8_friends 20 = .ok (.bipush (-2), 2) := by decide +kernel
theorem dX8_friends_22 : decode cX8_friends 22 = .ok (.ireturn, 1) := by decide +kernel
theorem dX8_friends_23 : decode cX8_friends 23 = .ok (.bipush (-6), 2) := by decide +kernel
theorem dX8_friends_25 : decode cX8_friends 25 = .ok (.istore_n 3, 1) := by decide +kernel
theorem dX8_friends_26 : decode cX8_friends 26 = .ok (.iconst 1, 1) := by decide +kernel
theorem dX8_friends_27 : decode cX8_friends 27 = .ok (.istore 4, 2) := by decide +kernel
theorem dX8_friends_29 : decode cX8_friends 29 = .ok (.iload 4, 2) := by decide +kernel
theorem dX8_friends_31 : decode cX8_friends 31 = .ok (.bipush 64, 2) := by decide +kernel
theorem dX8_friends_33 : decode cX8_friends 33 = .ok (.if_icmp .ge 64, 3) := by decide +kernel
theorem dX8_friends_36 : decode cX8_friends 36 = .ok (.iload_n 3, 1) := by decide +kernel
theorem dX8_friends_37 : decode cX8_friends 37 = .ok (.ifCond .lt 15, 3) := by decide +kernel
theorem dX8_friends_40 : decode cX8_friends 40 = .ok (.iload 4, 2) := by decide +kernel
theorem dX8_friends_42 : decode cX8_friends 42 = .ok (.invokestatic 152, 3) := by decide +kernel
theorem dX8_friends_45 : decode cX8_friends 45 = .ok (.iload_n 3, 1) := by decide +kernel
theorem dX8_friends_46 : decode cX8_friends 46 = .ok (.invokestatic 152, 3) := by decide +kernel
theorem dX8_friends_49 : decode cX8_friends 49 = .ok (.if_icmp .ge 7, 3) := by decide +kernel
theorem dX8_friends_52 : decode cX8_friends 52 = .ok (.iconst 1, 1) := by decide +kernel
theorem dX8_friends_53 : decode cX8_friends 53 = .ok (.goto 4, 3) := by decide +kernel
theorem dX8_friends_56 : decode cX8_friends 56 = .ok (.iconst 0, 1) := by decide +kernel
theorem dX8_friends_57 : decode cX8_friends 57 = .ok (.istore 5, 2) := by decide +kernel
theorem dX8_friends_59 : decode cX8_friends 59 = .ok (.iload 4, 2) := by decide +kernel
theorem dX8_friends_61 : decode cX8_friends 61 = .ok (.iload_n 1, 1) := by decide +kernel
theorem dX8_friends_62 : decode cX8_friends 62 = .ok (.ishr, 1) := by decide +kernel
theorem dX8_friends_63 : decode cX8_friends 63 = .ok (.iconst 1, 1) := by decide +kernel
theorem dX8_friends_64 : decode cX8_friends 64 = .ok (.iand, 1) := by decide +kernel
theorem dX8_friends_65 : decode cX8_friends 65 = .ok (.iconst 1, 1) := by decide +kernel
theorem dX8_friends_66 : decode cX8_friends 66 = .ok (.if_icmp .ne 23, 3) := by decide +kernel
theorem dX8_friends_69 : decode cX8_friends 69 = .ok (.iload 5, 2) := by decide +kernel
theorem dX8_friends_71 : decode cX8_friends 71 = .ok (.ifCond .eq 18, 3) := by decide +kernel
theorem dX8_friends_74 : decode cX8_friends 74 = .ok (.aload_n 0, 1) := by decide +kernel
theorem dX8_friends_75 : decode cX8_friends 75 = .ok (.iload 4, 2) := by decide +kernel
theorem dX8_friends_77 : decode cX8_friends 77 = .ok (.invokevirtual 149, 3) := by decide +kernel
theorem dX8_friends_80 : decode cX8_friends 80 = .ok (.iload_n 2, 1) := by decide +kernel
theorem dX8_friends_81 : decode cX8_friends 81 = .ok (.if_icmp .lt 8, 3) := by decide +kernel
theorem dX8_friends_84 : decode cX8_friends 84 = .ok (.iload 4, 2) := by decide +kernel
theorem dX8_friends_86 : decode cX8_friends 86 = .ok (.goto 4, 3) := by decide +kernel
theorem dX8_friends_89 : decode cX8_friends 89 = .ok (.iload_n 3, 1) := by decide +kernel
theorem dX8_friends_90 : decode cX8_friends 90 = .ok (.istore_n 3, 1) := by decide +kernel
theorem dX8_friends_91 : decode cX8_friends 91 = .ok (.iinc 4 1, 3) := by decide +kernel
theorem dX8_friends_94 : decode cX8_friends 94 = .ok (.goto (-65), 3) := by decide +kernel
theorem dX8_friends_97 : decode cX8_friends 97 = .ok (.iload_n 3, 1) := by decide +kernel
theorem dX8_friends_98 : decode cX8_friends 98 = .ok (.ireturn, 1) := by decide +kernel
theorem dX8_image_0 : decode cX8_image 0 = .ok (.iload_n 1, 1) := by decide +kernel
theorem dX8_image_1 : decode cX8_image 1 = .ok (.iconst 0, 1) := by decide +kernel
theorem dX8_image_2 : decode cX8_image 2 = .ok (.iconst 1, 1) := by decide +kernel
theorem dX8_image_3 : decode cX8_image 3 = .ok (.invokestatic 63, 3) := by decide +kernel
theorem dX8_image_6 : decode cX8_image 6 = .ok (.ifCond .ne 6, 3) := by decide +kernel
theorem dX8_image_9 : decode cX8_image 9 = .ok (.bipush (-2), 2) := by decide +kernel
theorem dX8_image_11 : decode cX8_image 11 = .ok (.ireturn, 1) := by decide +kernel
theorem dX8_image_12 : decode cX8_image 12 = .ok (.bipush 88, 2) := by decide +kernel
theorem dX8_image_14 : decode cX8_image 14 = .ok (.iload_n 1, 1) := by decide +kernel
theorem dX8_image_15 : decode cX8_image 15 = .ok (.imul, 1) := by decide +kernel
theorem dX8_image_16 : decode cX8_image 16 = .ok (.istore_n 2, 1) := by decide +kernel
theorem dX8_image_17 : decode cX8_image 17 = .ok (.iconst 0, 1) := by decide +kernel
theorem dX8_image_18 : decode cX8_image 18 = .ok (.istore_n 3, 1) := by decide +kernel
theorem dX8_image_19 : decode cX8_image 19 = .ok (.iload_n 3, 1) := by decide +kernel
theorem dX8_image_20 : decode cX8_image 20 = .ok (.bipush 24, 2) := by decide +kernel
theorem dX8_image_22 : decode cX8_image 22 = .ok (.if_icmp .ge 40, 3) := by decide +kernel
theorem dX8_image_25 : decode cX8_image 25 = .ok (.aload_n 0, 1) := by decide +kernel
theorem dX8_image_26 : decode cX8_image 26 = .ok (.getfield 56, 3) := by decide +kernel
theorem dX8_image_29 : decode cX8_image 29 = .ok (.iload_n 2, 1) := by decide +kernel
theorem dX8_image_30 : decode cX8_image 30 = .ok (.iload_n 3, 1) := by decide +kernel
theorem dX8_image_31 : decode cX8_image 31 = .ok (.iadd, 1) := by decide +kernel
theorem dX8_image_32 : decode cX8_image 32 = .ok (.aload_n 0, 1) := by decide +kernel
theorem dX8_image_33 : decode cX8_image 33 = .ok (.getfield 7, 3) := by decide +kernel
theorem dX8_image_36 : decode cX8_image 36 = .ok (.iload_n 3, 1) := by decide +kernel
theorem dX8_image_37 : decode cX8_image 37 = .ok (.iaload, 1) := by decide +kernel
theorem dX8_image_38 : decode cX8_image 38 = .ok (.iastore, 1) := by decide +kernel
theorem dX8_image_39 : decode cX8_image 39 = .ok (.aload_n 0, 1) := by decide +kernel
theorem dX8_image_40 : decode cX8_image 40 = .ok (.getfield 56, 3) := by decide +kernel
theorem dX8_image_43 : decode cX8_image 43 = .ok (.iload_n 2, 1) := by decide +kernel
theorem dX8_image_44 : decode cX8_image 44 = .ok (.bipush 24, 2) := by decide +kernel
theorem dX8_image_46 : decode cX8_image 46 = .ok (.iadd, 1) := by decide +kernel
theorem dX8_image_47 : decode cX8_image 47 = .ok (.iload_n 3, 1) := by decide +kernel
theorem dX8_image_48 : decode cX8_image 48 = .ok (.iadd, 1) := by decide +kernel
theorem dX8_image_49 : decode cX8_image 49 = .ok (.aload_n 0, 1) := by decide +kernel
theorem dX8_image_50 : decode cX8_image 50 = .ok (.getfield 23, 3) := by decide +kernel
theorem dX8_image_53 : decode cX8_image 53 = .ok (.iload_n 3, 1) := by decide +kernel
theorem dX8_image_54 : decode cX8_image 54 = .ok (.iaload, 1) := by decide +kernel
theorem dX8_image_55 : decode cX8_image 55 = .ok (.iastore, 1) := by decide +kernel
theorem dX8_image_56 : decode cX8_image 56 = .ok (.iinc 3 1, 3) := by decide +kernel
theorem dX8_image_59 : decode cX8_image 59 = .ok (.goto (-40), 3) := by decide +kernel
theorem dX8_image_62 : decode cX8_image 62 = .ok (.iconst 0, 1) := by decide +kernel
theorem dX8_image_63 : decode cX8_image 63 = .ok (.istore_n 3, 1) := by decide +kernel
theorem dX8_image_64 : decode cX8_image 64 = .ok (.iload_n 3, 1) := by decide +kernel
theorem dX8_image_65 : decode cX8_image 65 = .ok (.bipush 36, 2) := by decide +kernel
theorem dX8_image_67 : decode cX8_image 67 = .ok (.if_icmp .ge 26, 3) := by decide +kernel
theorem dX8_image_70 : decode cX8_image 70 = .ok (.aload_n 0, 1) := by decide +kernel
theorem dX8_image_71 : decode cX8_image 71 = .ok (.getfield 56, 3) := by decide +kernel
theorem dX8_image_74 : decode cX8_image 74 = .ok (.iload_n 2, 1) := by decide +kernel
theorem dX8_image_75 : decode cX8_image 75 = .ok (.bipush 48, 2) := by decide +kernel
theorem dX8_image_77 : decode cX8_image 77 = .ok (.iadd, 1) := by decide +kernel
theorem dX8_image_78 : decode cX8_image 78 = .ok (.iload_n 3, 1) := by decide +kernel
theorem dX8_image_79 : decode cX8_image 79 = .ok (.iadd, 1) := by decide +kernel
theorem dX8_image_80 : decode cX8_image 80 = .ok (.aload_n 0, 1) := by decide +kernel
theorem dX8_image_81 : decode cX8_image 81 = .ok (.getfield 26, 3) := by decide +kernel
theorem dX8_image_84 : decode cX8_image 84 = .ok (.iload_n 3, 1) := by decide +kernel
theorem dX8_image_85 : decode cX8_image 85 = .ok (.iaload, 1) := by decide +kernel
theorem dX8_image_86 : decode cX8_image 86 = .ok (.iastore, 1) := by decide +kernel
theorem dX8_image_87 : decode cX8_image 87 = .ok (.iinc 3 1, 3) := by decide +kernel
theorem dX8_image_90 : decode cX8_image 90 = .ok (.goto (-26), 3) := by decide +kernel
theorem dX8_image_93 : decode cX8_image 93 = .ok (.aload_n 0, 1) := by decide +kernel
theorem dX8_image_94 : decode cX8_image 94 = .ok (.getfield 56, 3) := by decide +kernel
theorem dX8_image_97 : decode cX8_image 97 = .ok (.iload_n 2, 1) := by decide +kernel
theorem dX8_image_98 : decode cX8_image 98 = .ok (.bipush 84, 2) := by decide +kernel
theorem dX8_image_100 : decode cX8_image 100 = .ok (.iadd, 1) := by decide +kernel
theorem dX8_image_101 : decode cX8_image 101 = .ok (.aload_n 0, 1) := by decide +kernel
theorem dX8_image_102 : decode cX8_image 102 = .ok (.getfield 117, 3) := by decide +kernel
theorem dX8_image_105 : decode cX8_image 105 = .ok (.iastore, 1) := by decide +kernel
theorem dX8_image_106 : decode cX8_image 106 = .ok (.aload_n 0, 1) := by decide +kernel
theorem dX8_image_107 : decode cX8_image 107 = .ok (.getfield 56, 3) := by decide +kernel
theorem dX8_image_110 : decode cX8_image 110 = .ok (.iload_n 2, 1) := by decide +kernel
theorem dX8_image_111 : decode cX8_image 111 = .ok (.bipush 85, 2) := by decide +kernel
theorem dX8_image_113 : decode cX8_image 113 = .ok (.iadd, 1) := by decide +kernel
theorem dX8_image_114 : decode cX8_image 114 = .ok (.aload_n 0, 1) := by decide +kernel
theorem dX8_image_115 : decode cX8_image 115 = .ok (.getfield 13, 3) := by decide +kernel
theorem dX8_image_118 : decode cX8_image 118 = .ok (.iastore, 1) := by decide +kernel
theorem dX8_image_119 : decode cX8_image 119 = .ok (.aload_n 0, 1) := by decide +kernel
theorem dX8_image_120 : decode cX8_image 120 = .ok (.getfield 56, 3) := by decide +kernel
theorem dX8_image_123 : decode cX8_image 123 = .ok (.iload_n 2, 1) := by decide +kernel
theorem dX8_image_124 : decode cX8_image 124 = .ok (.bipush 86, 2) := by decide +kernel
theorem dX8_image_126 : decode cX8_image 126 = .ok (.iadd, 1) := by decide +kernel
theorem dX8_image_127 : decode cX8_image 127 = .ok (.aload_n 0, 1) := by decide +kernel
theorem dX8_image_128 : decode cX8_image 128 = .ok (.getfield 17, 3) := by decide +kernel
theorem dX8_image_131 : decode cX8_image 131 = .ok (.iastore, 1) := by decide +kernel
theorem dX8_image_132 : decode cX8_image 132 = .ok (.aload_n 0, 1) := by decide +kernel
theorem dX8_image_133 : decode cX8_image 133 = .ok (.getfield 59, 3) := by decide +kernel
theorem dX8_image_136 : decode cX8_image 136 = .ok (.iload_n 1, 1) := by decide +kernel
theorem dX8_image_137 : decode cX8_image 137 = .ok (.iconst 1, 1) := by decide +kernel
theorem dX8_image_138 : decode cX8_image 138 = .ok (.bastore, 1) := by decide +kernel
theorem dX8_image_139 : decode cX8_image 139 = .ok (.iconst 1, 1) := by decide +kernel
theorem dX8_image_140 : decode cX8_image 140 = .ok (.ireturn, 1) := by decide +kernel
theorem dX8_restore_0 : decode cX8_restore 0 = .ok (.iload_n 1, 1) := by decide +kernel
theorem dX8_restore_1 : decode cX8_restore 1 = .ok (.iconst 0, 1) := by decide +kernel
theorem dX8_restore_2 : decode cX8_restore 2 = .ok (.iconst 1, 1) := by decide +kernel
theorem dX8_restore_3 : decode cX8_restore 3 = .ok (.invokestatic 63, 3) := by decide +kernel
theorem dX8_restore_6 : decode cX8_restore 6 = .ok (.ifCond .ne 6, 3) := by decide +kernel
theorem dX8_restore_9 : decode cX8_restore 9 = .ok (.bipush (-2), 2) := by decide +kernel
theorem dX8_restore_11 : decode cX8_restore 11 = .ok (.ireturn, 1) := by decide +kernel
theorem dX8_restore_12 : decode cX8_restore 12 = .ok (.aload_n 0, 1) := by decide +kernel
theorem dX8_restore_13 : decode cX8_restore 13 = .ok (.getfield 59, 3) := by decide +kernel
theorem dX8_restore_16 : decode cX8_restore 16 = .ok (.iload_n 1, 1) := by decide +kernel
theorem dX8_restore_17 : decode cX8_restore 17 = .ok (.baload, 1) := by decide +kernel
theorem dX8_restore_18 : decode cX8_restore 18 = .ok (.ifCond .ne 6, 3) := by decide +kernel
theorem dX8_restore_21 : decode cX8_restore 21 = .ok (.bipush (-3), 2) := by decide +kernel
theorem dX8_restore_23 : decode cX8_restore 23 = .ok (.ireturn, 1) := by decide +kernel
theorem dX8_restore_24 : decode cX8_restore 24 = .ok (.bipush 88, 2) := by decide +kernel
theorem dX8_restore_26 : decode cX8_restore 26 = .ok (.iload_n 1, 1) := by decide +kernel
theorem dX8_restore_27 : decode cX8_restore 27 = .ok (.imul, 1) := by decide +kernel
theorem dX8_restore_28 : decode cX8_restore 28 = .ok (.istore_n 2, 1) := by decide +kernel
theorem dX8_restore_29 : decode cX8_restore 29 = .ok (.iconst 0, 1) := by decide +kernel
theorem dX8_restore_30 : decode cX8_restore 30 = .ok (.istore_n 3, 1) := by decide +kernel
theorem dX8_restore_31 : decode cX8_restore 31 = .ok (.iload_n 3, 1) := by decide +kernel
theorem dX8_restore_32 : decode cX8_restore 32 = .ok (.bipush 24, 2) := by decide +kernel
theorem dX8_restore_34 : decode cX8_restore 34 = .ok (.if_icmp .ge 40, 3) := by decide +kernel
theorem dX8_restore_37 : decode cX8_restore 37 = .ok (.aload_n 0, 1) := by decide +kernel
theorem dX8_restore_38 : decode cX8_restore 38 = .ok (.getfield 7, 3) := by decide +kernel
theorem dX8_restore_41 : decode cX8_restore 41 = .ok (.iload_n 3, 1) := by decide +kernel
theorem dX8_restore_42 : decode cX8_restore 42 = .ok (.aload_n 0, 1) := by decide +kernel
theorem dX8_restore_43 : decode cX8_restore 43 = .ok (.getfield 56, 3) := by decide +kernel
theorem dX8_restore_46 : decode cX8_restore 46 = .ok (.iload_n 2, 1) := by decide +kernel
theorem dX8_restore_47 : decode cX8_restore 47 = .ok (.iload_n 3, 1) := by decide +kernel
theorem dX8_restore_48 : decode cX8_restore 48 = .ok (.iadd, 1) := by decide +kernel
theorem dX8_restore_49 : decode cX8_restore 49 = .ok (.iaload, 1) := by decide +kernel
theorem dX8_restore_50 : decode cX8_restore 50 = .ok (.iastore, 1) := by decide +kernel
theorem dX8_restore_51 : decode cX8_restore 51 = .ok (.aload_n 0, 1) := by decide +kernel
theorem dX8_restore_52 : decode cX8_restore 52 = .ok (.getfield 23, 3) := by decide +kernel
theorem dX8_restore_55 : decode cX8_restore 55 = .ok (.iload_n 3, 1) := by decide +kernel
theorem dX8_restore_56 : decode cX8_restore 56 = .ok (.aload_n 0, 1) := by decide +kernel
theorem dX8_restore_57 : decode cX8_restore 57 = .ok (.getfield 56, 3) := by decide +kernel
theorem dX8_restore_60 : decode cX8_restore 60 = .ok (.iload_n 2, 1) := by decide +kernel
theorem dX8_restore_61 : decode cX8_restore 61 = .ok (.bipush 24, 2) := by decide +kernel
theorem dX8_restore_63 : decode cX8_restore 63 = .ok (.iadd, 1) := by decide +kernel
theorem dX8_restore_64 : decode cX8_restore 64 = .ok (.iload_n 3, 1) := by decide +kernel
theorem dX8_restore_65 : decode cX8_restore 65 = .ok (.iadd, 1) := by decide +kernel
theorem dX8_restore_66 : decode cX8_restore 66 = .ok (.iaload, 1) := by decide +kernel
theorem dX8_restore_67 : decode cX8_restore 67 = .ok (.iastore, 1) := by decide +kernel
theorem dX8_restore_68 : decode cX8_restore 68 = .ok (.iinc 3 1, 3) := by decide +kernel
theorem dX8_restore_71 : decode cX8_restore 71 = .ok (.goto (-40), 3) := by decide +kernel
theorem dX8_restore_74 : decode cX8_restore 74 = .ok (.iconst 0, 1) := by decide +kernel
theorem dX8_restore_75 : decode cX8_restore 75 = .ok (.istore_n 3, 1) := by decide +kernel
theorem dX8_restore_76 : decode cX8_restore 76 = .ok (.iload_n 3, 1) := by decide +kernel
theorem dX8_restore_77 : decode cX8_restore 77 = .ok (.bipush 36, 2) := by decide +kernel
theorem dX8_restore_79 : decode cX8_restore 79 = .ok (.if_icmp .ge 26, 3) := by decide +kernel
theorem dX8_restore_82 : decode cX8_restore 82 = .ok (.aload_n 0, 1) := by decide +kernel
theorem dX8_restore_83 : decode cX8_restore 83 = .ok (.getfield 26, 3) := by decide +kernel
theorem dX8_restore_86 : decode cX8_restore 86 = .ok (.iload_n 3, 1) := by decide +kernel
theorem dX8_restore_87 : decode cX8_restore 87 = .ok (.aload_n 0, 1) := by decide +kernel
theorem dX8_restore_88 : decode cX8_restore 88 = .ok (.getfield 56, 3) := by decide +kernel
theorem dX8_restore_91 : decode cX8_restore 91 = .ok (.iload_n 2, 1) := by decide +kernel
theorem dX8_restore_92 : decode cX8_restore 92 = .ok (.bipush 48, 2) := by decide +kernel
theorem dX8_restore_94 : decode cX8_restore 94 = .ok (.iadd, 1) := by decide +kernel
theorem dX8_restore_95 : decode cX8_restore 95 = .ok (.iload_n 3, 1) := by decide +kernel
theorem dX8_restore_96 : decode cX8_restore 96 = .ok (.iadd, 1) := by decide +kernel
theorem dX8_restore_97 : decode cX8_restore 97 = .ok (.iaload, 1) := by decide +kernel
theorem dX8_restore_98 : decode cX8_restore 98 = .ok (.iastore, 1) := by decide +kernel
theorem dX8_restore_99 : decode cX8_restore 99 = .ok (.iinc 3 1, 3) := by decide +kernel
theorem dX8_restore_102 : decode cX8_restore 102 = .ok (.goto (-26), 3) := by decide +kernel
theorem dX8_restore_105 : decode cX8_restore 105 = .ok (.aload_n 0, 1) := by decide +kernel
theorem dX8_restore_106 : decode cX8_restore 106 = .ok (.aload_n 0, 1) := by decide +kernel
theorem dX8_restore_107 : decode cX8_restore 107 = .ok (.getfield 56, 3) := by decide +kernel
theorem dX8_restore_110 : decode cX8_restore 110 = .ok (.iload_n 2, 1) := by decide +kernel
theorem dX8_restore_111 : decode cX8_restore 111 = .ok (.bipush 84, 2) := by decide +kernel
theorem dX8_restore_113 : decode cX8_restore 113 = .ok (.iadd, 1) := by decide +kernel
theorem dX8_restore_114 : decode cX8_restore 114 = .ok (.iaload, 1) := by decide +kernel
theorem dX8_restore_115 : decode cX8_restore 115 = .ok (.putfield 117, 3) := by decide +kernel
theorem dX8_restore_118 : decode cX8_restore 118 = .ok (.aload_n 0, 1) := by decide +kernel
theorem dX8_restore_119 : decode cX8_restore 119 = .ok (.aload_n 0, 1) := by decide +kernel
theorem dX8_restore_120 : decode cX8_restore 120 = .ok (.getfield 56, 3) := by decide +kernel
theorem dX8_restore_123 : decode cX8_restore 123 = .ok (.iload_n 2, 1) := by decide +kernel
theorem dX8_restore_124 : decode cX8_restore 124 = .ok (.bipush 85, 2) := by decide +kernel
theorem dX8_restore_126 : decode cX8_restore 126 = .ok (.iadd, 1) := by decide +kernel
theorem dX8_restore_127 : decode cX8_restore 127 = .ok (.iaload, 1) := by decide +kernel
theorem dX8_restore_128 : decode cX8_restore 128 = .ok (.putfield 13, 3) := by decide +kernel
theorem dX8_restore_131 : decode cX8_restore 131 = .ok (.aload_n 0, 1) := by decide +kernel
theorem dX8_restore_132 : decode cX8_restore 132 = .ok (.aload_n 0, 1) := by decide +kernel
theorem dX8_restore_133 : decode cX8_restore 133 = .ok (.getfield 56, 3) := by decide +kernel
theorem dX8_restore_136 : decode cX8_restore 136 = .ok (.iload_n 2, 1) := by decide +kernel
theorem dX8_restore_137 : decode cX8_restore 137 = .ok (.bipush 86, 2) := by decide +kernel
theorem dX8_restore_139 : decode cX8_restore 139 = .ok (.iadd, 1) := by decide +kernel
theorem dX8_restore_140 : decode cX8_restore 140 = .ok (.iaload, 1) := by decide +kernel
theorem dX8_restore_141 : decode cX8_restore 141 = .ok (.putfield 17, 3) := by decide +kernel
theorem dX8_restore_144 : decode cX8_restore 144 = .ok (.iconst 1, 1) := by decide +kernel
theorem dX8_restore_145 : decode cX8_restore 145 = .ok (.ireturn, 1) := by decide +kernel
theorem dX8_told_0 : decode cX8_told 0 = .ok (.iload_n 1, 1) := by decide +kernel
theorem dX8_told_1 : decode cX8_told 1 = .ok (.bipush 100, 2) := by decide +kernel
theorem dX8_told_3 : decode cX8_told 3 = .ok (.sipush 135, 3) := by decide +kernel
theorem dX8_told_6 : decode cX8_told 6 = .ok (.invokestatic 63, 3) := by decide +kernel
theorem dX8_told_9 : decode cX8_told 9 = .ok (.ifCond .eq 13, 3) := by decide +kernel
theorem dX8_told_12 : decode cX8_told 12 = .ok (.aload_n 0, 1) := by decide +kernel
theorem dX8_told_13 : decode cX8_told 13 = .ok (.getfield 26, 3) := by decide +kernel
theorem dX8_told_16 : decode cX8_told 16 = .ok (.iload_n 1, 1) := by decide +kernel
theorem dX8_told_17 : decode cX8_told 17 = .ok (.bipush 100, 2) := by decide +kernel
theorem dX8_told_19 : decode cX8_told 19 = .ok (.isub, 1) := by decide +kernel
theorem dX8_told_20 : decode cX8_told 20 = .ok (.iaload, 1) := by decide +kernel
theorem dX8_told_21 : decode cX8_told 21 = .ok (.ireturn, 1) := by decide +kernel
theorem dX8_told_22 : decode cX8_told 22 = .ok (.iload_n 1, 1) := by decide +kernel
theorem dX8_told_23 : decode cX8_told 23 = .ok (.bipush 10, 2) := by decide +kernel
theorem dX8_told_25 : decode cX8_told 25 = .ok (.if_icmp .lt 40, 3) := by decide +kernel
theorem dX8_told_28 : decode cX8_told 28 = .ok (.iload_n 1, 1) := by decide +kernel
theorem dX8_told_29 : decode cX8_told 29 = .ok (.bipush 10, 2) := by decide +kernel
theorem dX8_told_31 : decode cX8_told 31 = .ok (.irem, 1) := by decide +kernel
theorem dX8_told_32 : decode cX8_told 32 = .ok (.iconst 0, 1) := by decide +kernel
theorem dX8_told_33 : decode cX8_told 33 = .ok (.iconst 5, 1) := by decide +kernel
theorem dX8_told_34 : decode cX8_told 34 = .ok (.invokestatic 63, 3) := by decide +kernel
theorem dX8_told_37 : decode cX8_told 37 = .ok (.ifCond .eq 28, 3) := by decide +kernel
theorem dX8_told_40 : decode cX8_told 40 = .ok (.iload_n 1, 1) := by decide +kernel
theorem dX8_told_41 : decode cX8_told 41 = .ok (.bipush 46, 2) := by decide +kernel
theorem dX8_told_43 : decode cX8_told 43 = .ok (.if_icmp .ge 22, 3) := by decide +kernel
theorem dX8_told_46 : decode cX8_told 46 = .ok (.aload_n 0, 1) := by decide +kernel
theorem dX8_told_47 : decode cX8_told 47 = .ok (.getfield 7, 3) := by decide +kernel
theorem dX8_told_50 : decode cX8_told 50 = .ok (.iconst 4, 1) := by decide +kernel
theorem dX8_told_51 : decode cX8_told 51 = .ok (.iload_n 1, 1) := by decide +kernel
theorem dX8_told_52 : decode cX8_told 52 = .ok (.bipush 10, 2) := by decide +kernel
theorem dX8_told_54 : decode cX8_told 54 = .ok (.irem, 1) := by decide +kernel
theorem dX8_told_55 : decode cX8_told 55 = .ok (.imul, 1) := by decide +kernel
theorem dX8_told_56 : decode cX8_told 56 = .ok (.iload_n 1, 1) := by decide +kernel
theorem dX8_told_57 : decode cX8_told 57 = .ok (.bipush 10, 2) := by decide +kernel
theorem dX8_told_59 : decode cX8_told 59 = .ok (.idiv, 1) := by decide +kernel
theorem dX8_told_60 : decode cX8_told 60 = .ok (.iadd, 1) := by decide +kernel
theorem dX8_told_61 : decode cX8_told 61 = .ok (.iconst 1, 1) := by decide +kernel
theorem dX8_told_62 : decode cX8_told 62 = .ok (.isub, 1) := by decide +kernel
theorem dX8_told_63 : decode cX8_told 63 = .ok (.iaload, 1) := by decide +kernel
theorem dX8_told_64 : decode cX8_told 64 = .ok (.ireturn, 1) := by decide +kernel
theorem dX8_told_65 : decode cX8_told 65 = .ok (.iload_n 1, 1) := by decide +kernel
theorem dX8_told_66 : decode cX8_told 66 = .ok (.ifCond .ne 10, 3) := by decide +kernel
theorem dX8_told_69 : decode cX8_told 69 = .ok (.aload_n 0, 1) := by decide +kernel
theorem dX8_told_70 : decode cX8_told 70 = .ok (.getfield 75, 3) := by decide +kernel
theorem dX8_told_73 : decode cX8_told 73 = .ok (.goto 41, 3) := by decide +kernel
theorem dX8_told_76 : decode cX8_told 76 = .ok (.iload_n 1, 1) := by decide +kernel
theorem dX8_told_77 : decode cX8_told 77 = .ok (.iconst 1, 1) := by decide +kernel
theorem dX8_told_78 : decode cX8_told 78 = .ok (.if_icmp .ne 10, 3) := by decide +kernel
theorem dX8_told_81 : decode cX8_told 81 = .ok (.aload_n 0, 1) := by decide +kernel
theorem dX8_told_82 : decode cX8_told 82 = .ok (.getfield 117, 3) := by decide +kernel
theorem dX8_told_85 : decode cX8_told 85 = .ok (.goto 29, 3) := by decide +kernel
theorem dX8_told_88 : decode cX8_told 88 = .ok (.iload_n 1, 1) := by decide +kernel
theorem dX8_told_89 : decode cX8_told 89 = .ok (.iconst 2, 1) := by decide +kernel
theorem dX8_told_90 : decode cX8_told 90 = .ok (.if_icmp .ne 10, 3) := by decide +kernel
theorem dX8_told_93 : decode cX8_told 93 = .ok (.aload_n 0, 1) := by decide +kernel
theorem dX8_told_94 : decode cX8_told 94 = .ok (.getfield 13, 3) := by decide +kernel
theorem dX8_told_97 : decode cX8_told 97 = .ok (.goto 17, 3) := by decide +kernel
theorem dX8_told_100 : decode cX8_told 100 = .ok (.iload_n 1, 1) := by decide +kernel
theorem dX8_told_101 : decode cX8_told 101 = .ok (.iconst 3, 1) := by decide +kernel
theorem dX8_told_102 : decode cX8_told 102 = .ok (.if_icmp .ne 10, 3) := by decide +kernel
theorem dX8_told_105 : decode cX8_told 105 = .ok (.aload_n 0, 1) := by decide +kernel
theorem dX8_told_106 : decode cX8_told 106 = .ok (.getfield 17, 3) := by decide +kernel
theorem dX8_told_109 : decode cX8_told 109 = .ok (.goto 5, 3) := by decide +kernel
theorem dX8_told_112 : decode cX8_told 112 = .ok (.bipush (-2), 2) := by decide +kernel
theorem dX8_told_114 : decode cX8_told 114 = .ok (.ireturn, 1) := by decide +kernel
theorem dJ6_bitCount_0f7a4_0 : decode cJ6_bitCount_0f7a4 0 = .ok (.iload_n 0, 1) := by decide +kernel
theorem dJ6_bitCount_0f7a4_1 : decode cJ6_bitCount_0f7a4 1 = .ok (.iload_n 0, 1) := by decide +kernel
theorem dJ6_bitCount_0f7a4_2 : decode cJ6_bitCount_0f7a4 2 = .ok (.iconst 1, 1) := by decide +kernel
theorem dJ6_bitCount_0f7a4_3 : decode cJ6_bitCount_0f7a4 3 = .ok (.iushr, 1) := by decide +kernel
theorem dJ6_bitCount_0f7a4_4 : decode cJ6_bitCount_0f7a4 4 = .ok (.ldc_w 265, 3) := by decide +kernel
theorem dJ6_bitCount_0f7a4_7 : decode cJ6_bitCount_0f7a4 7 = .ok (.iand, 1) := by decide +kernel
theorem dJ6_bitCount_0f7a4_8 : decode cJ6_bitCount_0f7a4 8 = .ok (.isub, 1) := by decide +kernel
theorem dJ6_bitCount_0f7a4_9 : decode cJ6_bitCount_0f7a4 9 = .ok (.istore_n 0, 1) := by decide +kernel
theorem dJ6_bitCount_0f7a4_10 : decode cJ6_bitCount_0f7a4 10 = .ok (.iload_n 0, 1) := by decide +kernel
theorem dJ6_bitCount_0f7a4_11 : decode cJ6_bitCount_0f7a4 11 = .ok (.ldc_w 266, 3) := by decide +kernel
theorem dJ6_bitCount_0f7a4_14 : decode cJ6_bitCount_0f7a4 14 = .ok (.iand, 1) := by decide +kernel
theorem dJ6_bitCount_0f7a4_15 : decode cJ6_bitCount_0f7a4 15 = .ok (.iload_n 0, 1) := by decide +kernel
theorem dJ6_bitCount_0f7a4_16 : decode cJ6_bitCount_0f7a4 16 = .ok (.iconst 2, 1) := by decide +kernel
theorem dJ6_bitCount_0f7a4_17 : decode cJ6_bitCount_0f7a4 17 = .ok (.iushr, 1) := by decide +kernel
theorem dJ6_bitCount_0f7a4_18 : decode cJ6_bitCount_0f7a4 18 = .ok (.ldc_w 266, 3) := by decide +kernel
theorem dJ6_bitCount_0f7a4_21 : decode cJ6_bitCount_0f7a4 21 = .ok (.iand, 1) := by decide +kernel
theorem dJ6_bitCount_0f7a4_22 : decode cJ6_bitCount_0f7a4 22 = .ok (.iadd, 1) := by decide +kernel
theorem dJ6_bitCount_0f7a4_23 : decode cJ6_bitCount_0f7a4 23 = .ok (.istore_n 0, 1) := by decide +kernel
theorem dJ6_bitCount_0f7a4_24 : decode cJ6_bitCount_0f7a4 24 = .ok (.iload_n 0, 1) := by decide +kernel
theorem dJ6_bitCount_0f7a4_25 : decode cJ6_bitCount_0f7a4 25 = .ok (.iload_n 0, 1) := by decide +kernel
theorem dJ6_bitCount_0f7a4_26 : decode cJ6_bitCount_0f7a4 26 = .ok (.iconst 4, 1) := by decide +kernel
theorem dJ6_bitCount_0f7a4_27 : decode cJ6_bitCount_0f7a4 27 = .ok (.iushr, 1) := by decide +kernel
theorem dJ6_bitCount_0f7a4_28 : decode cJ6_bitCount_0f7a4 28 = .ok (.iadd, 1) := by decide +kernel
theorem dJ6_bitCount_0f7a4_29 : decode cJ6_bitCount_0f7a4 29 = .ok (.ldc_w 267, 3) := by decide +kernel
theorem dJ6_bitCount_0f7a4_32 : decode cJ6_bitCount_0f7a4 32 = .ok (.iand, 1) := by decide +kernel
theorem dJ6_bitCount_0f7a4_33 : decode cJ6_bitCount_0f7a4 33 = .ok (.istore_n 0, 1) := by decide +kernel
theorem dJ6_bitCount_0f7a4_34 : decode cJ6_bitCount_0f7a4 34 = .ok (.iload_n 0, 1) := by decide +kernel
theorem dJ6_bitCount_0f7a4_35 : decode cJ6_bitCount_0f7a4 35 = .ok (.iload_n 0, 1) := by decide +kernel
theorem dJ6_bitCount_0f7a4_36 : decode cJ6_bitCount_0f7a4 36 = .ok (.bipush 8, 2) := by decide +kernel
theorem dJ6_bitCount_0f7a4_38 : decode cJ6_bitCount_0f7a4 38 = .ok (.iushr, 1) := by decide +kernel
theorem dJ6_bitCount_0f7a4_39 : decode cJ6_bitCount_0f7a4 39 = .ok (.iadd, 1) := by decide +kernel
theorem dJ6_bitCount_0f7a4_40 : decode cJ6_bitCount_0f7a4 40 = .ok (.istore_n 0, 1) := by decide +kernel
theorem dJ6_bitCount_0f7a4_41 : decode cJ6_bitCount_0f7a4 41 = .ok (.iload_n 0, 1) := by decide +kernel
theorem dJ6_bitCount_0f7a4_42 : decode cJ6_bitCount_0f7a4 42 = .ok (.iload_n 0, 1) := by decide +kernel
theorem dJ6_bitCount_0f7a4_43 : decode cJ6_bitCount_0f7a4 43 = .ok (.bipush 16, 2) := by decide +kernel
theorem dJ6_bitCount_0f7a4_45 : decode cJ6_bitCount_0f7a4 45 = .ok (.iushr, 1) := by decide +kernel
theorem dJ6_bitCount_0f7a4_46 : decode cJ6_bitCount_0f7a4 46 = .ok (.iadd, 1) := by decide +kernel
theorem dJ6_bitCount_0f7a4_47 : decode cJ6_bitCount_0f7a4 47 = .ok (.istore_n 0, 1) := by decide +kernel
theorem dJ6_bitCount_0f7a4_48 : decode cJ6_bitCount_0f7a4 48 = .ok (.iload_n 0, 1) := by decide +kernel
theorem dJ6_bitCount_0f7a4_49 : decode cJ6_bitCount_0f7a4 49 = .ok (.bipush 63, 2) := by decide +kernel
theorem dJ6_bitCount_0f7a4_51 : decode cJ6_bitCount_0f7a4 51 = .ok (.iand, 1) := by decide +kernel
theorem dJ6_bitCount_0f7a4_52 : decode cJ6_bitCount_0f7a4 52 = .ok (.ireturn, 1) := by decide +kernel
theorem dJ9_max_7cf53_0 : decode cJ9_max_7cf53 0 = .ok (.iload_n 0, 1) := by decide +kernel
theorem dJ9_max_7cf53_1 : decode cJ9_max_7cf53 1 = .ok (.iload_n 1, 1) := by decide +kernel
theorem dJ9_max_7cf53_2 : decode cJ9_max_7cf53 2 = .ok (.if_icmp .lt 7, 3) := by decide +kernel
theorem dJ9_max_7cf53_5 : decode cJ9_max_7cf53 5 = .ok (.iload_n 0, 1) := by decide +kernel
theorem dJ9_max_7cf53_6 : decode cJ9_max_7cf53 6 = .ok (.goto 4, 3) := by decide +kernel
theorem dJ9_max_7cf53_9 : decode cJ9_max_7cf53 9 = .ok (.iload_n 1, 1) := by decide +kernel
theorem dJ9_max_7cf53_10 : decode cJ9_max_7cf53 10 = .ok (.ireturn, 1) := by decide +kernel
theorem dJ9_min_7cf53_0 : decode cJ9_min_7cf53 0 = .ok (.iload_n 0, 1) := by decide +kernel
theorem dJ9_min_7cf53_1 : decode cJ9_min_7cf53 1 = .ok (.iload_n 1, 1) := by decide +kernel
theorem dJ9_min_7cf53_2 : decode cJ9_min_7cf53 2 = .ok (.if_icmp .gt 7, 3) := by decide +kernel
theorem dJ9_min_7cf53_5 : decode cJ9_min_7cf53 5 = .ok (.iload_n 0, 1) := by decide +kernel
theorem dJ9_min_7cf53_6 : decode cJ9_min_7cf53 6 = .ok (.goto 4, 3) := by decide +kernel
theorem dJ9_min_7cf53_9 : decode cJ9_min_7cf53 9 = .ok (.iload_n 1, 1) := by decide +kernel
theorem dJ9_min_7cf53_10 : decode cJ9_min_7cf53 10 = .ok (.ireturn, 1) := by decide +kernel
theorem dL_law_0 : decode cL_law 0 = .ok (.new 7, 3) := by decide +kernel
theorem dL_law_3 : decode cL_law 3 = .ok (.dup, 1) := by decide +kernel
theorem dL_law_4 : decode cL_law 4 = .ok (.invokespecial 9, 3) := by decide +kernel
theorem dL_law_7 : decode cL_law 7 = .ok (.astore_n 1, 1) := by decide +kernel
theorem dL_law_8 : decode cL_law 8 = .ok (.new 10, 3) := by decide +kernel
theorem dL_law_11 : decode cL_law 11 = .ok (.dup, 1) := by decide +kernel
theorem dL_law_12 : decode cL_law 12 = .ok (.invokespecial 12, 3) := by decide +kernel
theorem dL_law_15 : decode cL_law 15 = .ok (.astore_n 2, 1) := by decide +kernel
theorem dL_law_16 : decode cL_law 16 = .ok (.iconst 0, 1) := by decide +kernel
theorem dL_law_17 : decode cL_law 17 = .ok (.istore_n 3, 1) := by decide +kernel
theorem dL_law_18 : decode cL_law 18 = .ok (.iload_n 3, 1) := by decide +kernel
theorem dL_law_19 : decode cL_law 19 = .ok (.aload_n 0, 1) := by decide +kernel
theorem dL_law_20 : decode cL_law 20 = .ok (.arraylength, 1) := by decide +kernel
theorem dL_law_21 : decode cL_law 21 = .ok (.iconst 4, 1) := by decide +kernel
theorem dL_law_22 : decode cL_law 22 = .ok (.isub, 1) := by decide +kernel
theorem dL_law_23 : decode cL_law 23 = .ok (.if_icmp .gt 685, 3) := by decide +kernel
theorem dL_law_26 : decode cL_law 26 = .ok (.aload_n 0, 1) := by decide +kernel
theorem dL_law_27 : decode cL_law 27 = .ok (.iload_n 3, 1) := by decide +kernel
theorem dL_law_28 : decode cL_law 28 = .ok (.iaload, 1) := by decide +kernel
theorem dL_law_29 : decode cL_law 29 = .ok (.bipush 31, 2) := by decide +kernel
theorem dL_law_31 : decode cL_law 31 = .ok (.iand, 1) := by decide +kernel
theorem dL_law_32 : decode cL_law 32 = .ok (.tableswitch 670 0 21 #[104, 147, 180, 203, 216, 239, 262, 275, 318, 351, 364, 387, 420, 463, 486, 499, 532, 545, 568, 601, 624, 647], 104) := by decide +kernel
theorem dL_law_136 : decode cL_law 136 = .ok (.aload_n 1, 1) := by decide +kernel
theorem dL_law_137 : decode cL_law 137 = .ok (.aload_n 0, 1) := by decide +kernel
theorem dL_law_138 : decode cL_law 138 = .ok (.iload_n 3, 1) := by decide +kernel
theorem dL_law_139 : decode cL_law 139 = .ok (.iconst 1, 1) := by decide +kernel
theorem dL_law_140 : decode cL_law 140 = .ok (.iadd, 1) := by decide +kernel
theorem dL_law_141 : decode cL_law 141 = .ok (.iaload, 1) := by decide +kernel
theorem dL_law_142 : decode cL_law 142 = .ok (.aload_n 0, 1) := by decide +kernel
theorem dL_law_143 : decode cL_law 143 = .ok (.iload_n 3, 1) := by decide +kernel
theorem dL_law_144 : decode cL_law 144 = .ok (.iconst 2, 1) := by decide +kernel
theorem dL_law_145 : decode cL_law 145 = .ok (.iadd, 1) := by decide +kernel
theorem dL_law_146 : decode cL_law 146 = .ok (.iaload, 1) := by decide +kernel
theorem dL_law_147 : decode cL_law 147 = .ok (.aload_n 0, 1) := by decide +kernel
theorem dL_law_148 : decode cL_law 148 = .ok (.iload_n 3, 1) := by decide +kernel
theorem dL_law_149 : decode cL_law 149 = .ok (.iconst 3, 1) := by decide +kernel
theorem dL_law_150 : decode cL_law 150 = .ok (.iadd, 1) := by decide +kernel
theorem dL_law_151 : decode cL_law 151 = .ok (.iaload, 1) := by decide +kernel
theorem dL_law_152 : decode cL_law 152 = .ok (.invokevirtual 13, 3) := by decide +kernel
theorem dL_law_155 : decode cL_law 155 = .ok (.aload_n 2, 1) := by decide +kernel
theorem dL_law_156 : decode cL_law 156 = .ok (.aload_n 0, 1) := by decide +kernel
theorem dL_law_157 : decode cL_law 157 = .ok (.iload_n 3, 1) := by decide +kernel
theorem dL_law_158 : decode cL_law 158 = .ok (.iconst 1, 1) := by decide +kernel
theorem dL_law_159 : decode cL_law 159 = .ok (.iadd, 1) := by decide +kernel
theorem dL_law_160 : decode cL_law 160 = .ok (.iaload, 1) := by decide +kernel
theorem dL_law_161 : decode cL_law 161 = .ok (.aload_n 0, 1) := by decide +kernel
theorem dL_law_162 : decode cL_law 162 = .ok (.iload_n 3, 1) := by decide +kernel
theorem dL_law_163 : decode cL_law 163 = .ok (.iconst 2, 1) := by decide +kernel
theorem dL_law_164 : decode cL_law 164 = .ok (.iadd, 1) := by decide +kernel
theorem dL_law_165 : decode cL_law 165 = .ok (.iaload, 1) := by decide +kernel
theorem dL_law_166 : decode cL_law 166 = .ok (.aload_n 0, 1) := by decide +kernel
theorem dL_law_167 : decode cL_law 167 = .ok (.iload_n 3, 1) := by decide +kernel
theorem dL_law_168 : decode cL_law 168 = .ok (.iconst 3, 1) := by decide +kernel
theorem dL_law_169 : decode cL_law 169 = .ok (.iadd, 1) := by decide +kernel
theorem dL_law_170 : decode cL_law 170 = .ok (.iaload, 1) := by decide +kernel
theorem dL_law_171 : decode cL_law 171 = .ok (.invokevirtual 17, 3) := by decide +kernel
theorem dL_law_174 : decode cL_law 174 = .ok (.if_icmp .eq 528, 3) := by decide +kernel
theorem dL_law_177 : decode cL_law 177 = .ok (.iconst 0, 1) := by decide +kernel
theorem dL_law_178 : decode cL_law 178 = .ok (.ireturn, 1) := by decide +kernel
theorem dL_law_179 : decode cL_law 179 = .ok (.aload_n 1, 1) := by decide +kernel
theorem dL_law_180 : decode cL_law 180 = .ok (.aload_n 0, 1) := by decide +kernel
theorem dL_law_181 : decode cL_law 181 = .ok (.iload_n 3, 1) := by decide +kernel
theorem dL_law_182 : decode cL_law 182 = .ok (.iconst 1, 1) := by decide +kernel
theorem dL_law_183 : decode cL_law 183 = .ok (.iadd, 1) := by decide +kernel
theorem dL_law_184 : decode cL_law 184 = .ok (.iaload, 1) := by decide +kernel
theorem dL_law_185 : decode cL_law 185 = .ok (.aload_n 0, 1) := by decide +kernel
theorem dL_law_186 : decode cL_law 186 = .ok (.iload_n 3, 1) := by decide +kernel
theorem dL_law_187 : decode cL_law 187 = .ok (.iconst 2, 1) := by decide +kernel
theorem dL_law_188 : decode cL_law 188 = .ok (.iadd, 1) := by decide +kernel
theorem dL_law_189 : decode cL_law 189 = .ok (.iaload, 1) := by decide +kernel
theorem dL_law_190 : decode cL_law 190 = .ok (.invokevirtual 18, 3) := by decide +kernel
theorem dL_law_193 : decode cL_law 193 = .ok (.aload_n 2, 1) := by decide +kernel
theorem dL_law_194 : decode cL_law 194 = .ok (.aload_n 0, 1) := by decide +kernel
theorem dL_law_195 : decode cL_law 195 = .ok (.iload_n 3, 1) := by decide +kernel
theorem dL_law_196 : decode cL_law 196 = .ok (.iconst 1, 1) := by decide +kernel
theorem dL_law_197 : decode cL_law 197 = .ok (.iadd, 1) := by decide +kernel
theorem dL_law_198 : decode cL_law 198 = .ok (.iaload, 1) := by decide +kernel
theorem dL_law_199 : decode cL_law 199 = .ok (.aload_n 0, 1) := by decide +kernel
theorem dL_law_200 : decode cL_law 200 = .ok (.iload_n 3, 1) := by decide +kernel
theorem dL_law_201 : decode cL_law 201 = .ok (.iconst 2, 1) := by decide +kernel
theorem dL_law_202 : decode cL_law 202 = .ok (.iadd, 1) := by decide +kernel
theorem dL_law_203 : decode cL_law 203 = .ok (.iaload, 1) := by decide +kernel
theorem dL_law_204 : decode cL_law 204 = .ok (.invokevirtual 22, 3) := by decide +kernel
theorem dL_law_207 : decode cL_law 207 = .ok (.if_icmp .eq 495, 3) := by decide +kernel
theorem dL_law_210 : decode cL_law 210 = .ok (.iconst 0, 1) := by decide +kernel
theorem dL_law_211 : decode cL_law 211 = .ok (.ireturn, 1) := by decide +kernel
theorem dL_law_212 : decode cL_law 212 = .ok (.aload_n 1, 1) := by decide +kernel
theorem dL_law_213 : decode cL_law 213 = .ok (.aload_n 0, 1) := by decide +kernel
theorem dL_law_214 : decode cL_law 214 = .ok (.iload_n 3, 1) := by decide +kernel
theorem dL_law_215 : decode cL_law 215 = .ok (.iconst 1, 1) := by decide +kernel
theorem dL_law_216 : decode cL_law 216 = .ok (.iadd, 1) := by decide +kernel
theorem dL_law_217 : decode cL_law 217 = .ok (.iaload, 1) := by decide +kernel
theorem dL_law_218 : decode cL_law 218 = .ok (.invokevirtual 23, 3) := by decide +kernel
theorem dL_law_221 : decode cL_law 221 = .ok (.aload_n 2, 1) := by decide +kernel
theorem dL_law_222 : decode cL_law 222 = .ok (.aload_n 0, 1) := by decide +kernel
theorem dL_law_223 : decode cL_law 223 = .ok (.iload_n 3, 1) := by decide +kernel
theorem dL_law_224 : decode cL_law 224 = .ok (.iconst 1, 1) := by decide +kernel
theorem dL_law_225 : decode cL_law 225 = .ok (.iadd, 1) := by decide +kernel
theorem dL_law_226 : decode cL_law 226 = .ok (.iaload, 1) := by decide +kernel
theorem dL_law_227 : decode cL_law 227 = .ok (.invokevirtual 27, 3) := by decide +kernel
theorem dL_law_230 : decode cL_law 230 = .ok (.if_icmp .eq 472, 3) := by decide +kernel
theorem dL_law_233 : decode cL_law 233 = .ok (.iconst 0, 1) := by decide +kernel
end
section
theorem dL_law_234 : decode cL_law 234 = .ok (.ireturn, 1) := by decide +kernel
theorem dL_law_235 : decode cL_law 235 = .ok (.aload_n 1, 1) := by decide +kernel
theorem dL_law_236 : decode cL_law 236 = .ok (.invokevirtual 28, 3) := by decide +kernel
theorem dL_law_239 : decode cL_law 239 = .ok (.aload_n 2, 1) := by decide +kernel
theorem dL_law_240 : decode cL_law 240 = .ok (.invokevirtual 32, 3) := by decide +kernel
theorem dL_law_243 : decode cL_law 243 = .ok (.if_icmp .eq 459, 3) := by decide +kernel
theorem dL_law_246 : decode cL_law 246 = .ok (.iconst 0, 1) := by decide +kernel
theorem dL_law_247 : decode cL_law 247 = .ok (.ireturn, 1) := by decide +kernel
theorem dL_law_248 : decode cL_law 248 = .ok (.aload_n 1, 1) := by decide +kernel
theorem dL_law_249 : decode cL_law 249 = .ok (.aload_n 0, 1) := by decide +kernel
theorem dL_law_250 : decode cL_law 250 = .ok (.iload_n 3, 1) := by decide +kernel
theorem dL_law_251 : decode cL_law 251 = .ok (.iconst 1, 1) := by decide +kernel
theorem dL_law_252 : decode cL_law 252 = .ok (.iadd, 1) := by decide +kernel
theorem dL_law_253 : decode cL_law 253 = .ok (.iaload, 1) := by decide +kernel
theorem dL_law_254 : decode cL_law 254 = .ok (.invokevirtual 33, 3) := by decide +kernel
theorem dL_law_257 : decode cL_law 257 = .ok (.aload_n 2, 1) := by decide +kernel
theorem dL_law_258 : decode cL_law 258 = .ok (.aload_n 0, 1) := by decide +kernel
theorem dL_law_259 : decode cL_law 259 = .ok (.iload_n 3, 1) := by decide +kernel
theorem dL_law_260 : decode cL_law 260 = .ok (.iconst 1, 1) := by decide +kernel
theorem dL_law_261 : decode cL_law 261 = .ok (.iadd, 1) := by decide +kernel
theorem dL_law_262 : decode cL_law 262 = .ok (.iaload, 1) := by decide +kernel
theorem dL_law_263 : decode cL_law 263 = .ok (.invokevirtual 36, 3) := by decide +kernel
theorem dL_law_266 : decode cL_law 266 = .ok (.if_icmp .eq 436, 3) := by decide +kernel
theorem dL_law_269 : decode cL_law 269 = .ok (.iconst 0, 1) := by decide +kernel
theorem dL_law_270 : decode cL_law 270 = .ok (.ireturn, 1) := by decide +kernel
theorem dL_law_271 : decode cL_law 271 = .ok (.aload_n 1, 1) := by decide +kernel
theorem dL_law_272 : decode cL_law 272 = .ok (.aload_n 0, 1) := by decide +kernel
theorem dL_law_273 : decode cL_law 273 = .ok (.iload_n 3, 1) := by decide +kernel
theorem dL_law_274 : decode cL_law 274 = .ok (.iconst 1, 1) := by decide +kernel
theorem dL_law_275 : decode cL_law 275 = .ok (.iadd, 1) := by decide +kernel
theorem dL_law_276 : decode cL_law 276 = .ok (.iaload, 1) := by decide +kernel
theorem dL_law_277 : decode cL_law 277 = .ok (.invokevirtual 37, 3) := by decide +kernel
theorem dL_law_280 : decode cL_law 280 = .ok (.aload_n 2, 1) := by decide +kernel
theorem dL_law_281 : decode cL_law 281 = .ok (.aload_n 0, 1) := by decide +kernel
theorem dL_law_282 : decode cL_law 282 = .ok (.iload_n 3, 1) := by decide +kernel
theorem dL_law_283 : decode cL_law 283 = .ok (.iconst 1, 1) := by decide +kernel
theorem dL_law_284 : decode cL_law 284 = .ok (.iadd, 1) := by decide +kernel
theorem dL_law_285 : decode cL_law 285 = .ok (.iaload, 1) := by decide +kernel
theorem dL_law_286 : decode cL_law 286 = .ok (.invokevirtual 40, 3) := by decide +kernel
theorem dL_law_289 : decode cL_law 289 = .ok (.if_icmp .eq 413, 3) := by decide +kernel
theorem dL_law_292 : decode cL_law 292 = .ok (.iconst 0, 1) := by decide +kernel
theorem dL_law_293 : decode cL_law 293 = .ok (.ireturn, 1) := by decide +kernel
theorem dL_law_294 : decode cL_law 294 = .ok (.aload_n 1, 1) := by decide +kernel
theorem dL_law_295 : decode cL_law 295 = .ok (.invokevirtual 41, 3) := by decide +kernel
theorem dL_law_298 : decode cL_law 298 = .ok (.aload_n 2, 1) := by decide +kernel
theorem dL_law_299 : decode cL_law 299 = .ok (.invokevirtual 44, 3) := by decide +kernel
theorem dL_law_302 : decode cL_law 302 = .ok (.if_icmp .eq 400, 3) := by decide +kernel
theorem dL_law_305 : decode cL_law 305 = .ok (.iconst 0, 1) := by decide +kernel
theorem dL_law_306 : decode cL_law 306 = .ok (.ireturn, 1) := by decide +kernel
theorem dL_law_307 : decode cL_law 307 = .ok (.aload_n 1, 1) := by decide +kernel
theorem dL_law_308 : decode cL_law 308 = .ok (.aload_n 0, 1) := by decide +kernel
theorem dL_law_309 : decode cL_law 309 = .ok (.iload_n 3, 1) := by decide +kernel
theorem dL_law_310 : decode cL_law 310 = .ok (.iconst 1, 1) := by decide +kernel
theorem dL_law_311 : decode cL_law 311 = .ok (.iadd, 1) := by decide +kernel
theorem dL_law_312 : decode cL_law 312 = .ok (.iaload, 1) := by decide +kernel
theorem dL_law_313 : decode cL_law 313 = .ok (.aload_n 0, 1) := by decide +kernel
theorem dL_law_314 : decode cL_law 314 = .ok (.iload_n 3, 1) := by decide +kernel
theorem dL_law_315 : decode cL_law 315 = .ok (.iconst 2, 1) := by decide +kernel
theorem dL_law_316 : decode cL_law 316 = .ok (.iadd, 1) := by decide +kernel
theorem dL_law_317 : decode cL_law 317 = .ok (.iaload, 1) := by decide +kernel
theorem dL_law_318 : decode cL_law 318 = .ok (.aload_n 0, 1) := by decide +kernel
theorem dL_law_319 : decode cL_law 319 = .ok (.iload_n 3, 1) := by decide +kernel
theorem dL_law_320 : decode cL_law 320 = .ok (.iconst 3, 1) := by decide +kernel
theorem dL_law_321 : decode cL_law 321 = .ok (.iadd, 1) := by decide +kernel
theorem dL_law_322 : decode cL_law 322 = .ok (.iaload, 1) := by decide +kernel
theorem dL_law_323 : decode cL_law 323 = .ok (.invokevirtual 45, 3) := by decide +kernel
theorem dL_law_326 : decode cL_law 326 = .ok (.aload_n 2, 1) := by decide +kernel
theorem dL_law_327 : decode cL_law 327 = .ok (.aload_n 0, 1) := by decide +kernel
theorem dL_law_328 : decode cL_law 328 = .ok (.iload_n 3, 1) := by decide +kernel
theorem dL_law_329 : decode cL_law 329 = .ok (.iconst 1, 1) := by decide +kernel
theorem dL_law_330 : decode cL_law 330 = .ok (.iadd, 1) := by decide +kernel
theorem dL_law_331 : decode cL_law 331 = .ok (.iaload, 1) := by decide +kernel
theorem dL_law_332 : decode cL_law 332 = .ok (.aload_n 0, 1) := by decide +kernel
theorem dL_law_333 : decode cL_law 333 = .ok (.iload_n 3, 1) := by decide +kernel
theorem dL_law_334 : decode cL_law 334 = .ok (.iconst 2, 1) := by decide +kernel
theorem dL_law_335 : decode cL_law 335 = .ok (.iadd, 1) := by decide +kernel
theorem dL_law_336 : decode cL_law 336 = .ok (.iaload, 1) := by decide +kernel
theorem dL_law_337 : decode cL_law 337 = .ok (.aload_n 0, 1) := by decide +kernel
theorem dL_law_338 : decode cL_law 338 = .ok (.iload_n 3, 1) := by decide +kernel
theorem dL_law_339 : decode cL_law 339 = .ok (.iconst 3, 1) := by decide +kernel
theorem dL_law_340 : decode cL_law 340 = .ok (.iadd, 1) := by decide +kernel
theorem dL_law_341 : decode cL_law 341 = .ok (.iaload, 1) := by decide +kernel
theorem dL_law_342 : decode cL_law 342 = .ok (.invokevirtual 48, 3) := by decide +kernel
theorem dL_law_345 : decode cL_law 345 = .ok (.if_icmp .eq 357, 3) := by decide +kernel
theorem dL_law_348 : decode cL_law 348 = .ok (.iconst 0, 1) := by decide +kernel
theorem dL_law_349 : decode cL_law 349 = .ok (.ireturn, 1) := by decide +kernel
theorem dL_law_350 : decode cL_law 350 = .ok (.aload_n 1, 1) := by decide +kernel
theorem dL_law_351 : decode cL_law 351 = .ok (.aload_n 0, 1) := by decide +kernel
theorem dL_law_352 : decode cL_law 352 = .ok (.iload_n 3, 1) := by decide +kernel
theorem dL_law_353 : decode cL_law 353 = .ok (.iconst 1, 1) := by decide +kernel
theorem dL_law_354 : decode cL_law 354 = .ok (.iadd, 1) := by decide +kernel
theorem dL_law_355 : decode cL_law 355 = .ok (.iaload, 1) := by decide +kernel
theorem dL_law_356 : decode cL_law 356 = .ok (.aload_n 0, 1) := by decide +kernel
theorem dL_law_357 : decode cL_law 357 = .ok (.iload_n 3, 1) := by decide +kernel
theorem dL_law_358 : decode cL_law 358 = .ok (.iconst 2, 1) := by decide +kernel
theorem dL_law_359 : decode cL_law 359 = .ok (.iadd, 1) := by decide +kernel
theorem dL_law_360 : decode cL_law 360 = .ok (.iaload, 1) := by decide +kernel
theorem dL_law_361 : decode cL_law 361 = .ok (.invokevirtual 49, 3) := by decide +kernel
theorem dL_law_364 : decode cL_law 364 = .ok (.aload_n 2, 1) := by decide +kernel
theorem dL_law_365 : decode cL_law 365 = .ok (.aload_n 0, 1) := by decide +kernel
theorem dL_law_366 : decode cL_law 366 = .ok (.iload_n 3, 1) := by decide +kernel
theorem dL_law_367 : decode cL_law 367 = .ok (.iconst 1, 1) := by decide +kernel
theorem dL_law_368 : decode cL_law 368 = .ok (.iadd, 1) := by decide +kernel
theorem dL_law_369 : decode cL_law 369 = .ok (.iaload, 1) := by decide +kernel
theorem dL_law_370 : decode cL_law 370 = .ok (.aload_n 0, 1) := by decide +kernel
theorem dL_law_371 : decode cL_law 371 = .ok (.iload_n 3, 1) := by decide +kernel
theorem dL_law_372 : decode cL_law 372 = .ok (.iconst 2, 1) := by decide +kernel
theorem dL_law_373 : decode cL_law 373 = .ok (.iadd, 1) := by decide +kernel
theorem dL_law_374 : decode cL_law 374 = .ok (.iaload, 1) := by decide +kernel
theorem dL_law_375 : decode cL_law 375 = .ok (.invokevirtual 52, 3) := by decide +kernel
theorem dL_law_378 : decode cL_law 378 = .ok (.if_icmp .eq 324, 3) := by decide +kernel
theorem dL_law_381 : decode cL_law 381 = .ok (.iconst 0, 1) := by decide +kernel
theorem dL_law_382 : decode cL_law 382 = .ok (.ireturn, 1) := by decide +kernel
theorem dL_law_383 : decode cL_law 383 = .ok (.aload_n 1, 1) := by decide +kernel
theorem dL_law_384 : decode cL_law 384 = .ok (.invokevirtual 53, 3) := by decide +kernel
theorem dL_law_387 : decode cL_law 387 = .ok (.aload_n 2, 1) := by decide +kernel
theorem dL_law_388 : decode cL_law 388 = .ok (.invokevirtual 56, 3) := by decide +kernel
theorem dL_law_391 : decode cL_law 391 = .ok (.if_icmp .eq 311, 3) := by decide +kernel
theorem dL_law_394 : decode cL_law 394 = .ok (.iconst 0, 1) := by decide +kernel
theorem dL_law_395 : decode cL_law 395 = .ok (.ireturn, 1) := by decide +kernel
theorem dL_law_396 : decode cL_law 396 = .ok (.aload_n 1, 1) := by decide +kernel
theorem dL_law_397 : decode cL_law 397 = .ok (.aload_n 0, 1) := by decide +kernel
theorem dL_law_398 : decode cL_law 398 = .ok (.iload_n 3, 1) := by decide +kernel
theorem dL_law_399 : decode cL_law 399 = .ok (.iconst 1, 1) := by decide +kernel
theorem dL_law_400 : decode cL_law 400 = .ok (.iadd, 1) := by decide +kernel
theorem dL_law_401 : decode cL_law 401 = .ok (.iaload, 1) := by decide +kernel
theorem dL_law_402 : decode cL_law 402 = .ok (.invokevirtual 57, 3) := by decide +kernel
theorem dL_law_405 : decode cL_law 405 = .ok (.aload_n 2, 1) := by decide +kernel
theorem dL_law_406 : decode cL_law 406 = .ok (.aload_n 0, 1) := by decide +kernel
theorem dL_law_407 : decode cL_law 407 = .ok (.iload_n 3, 1) := by decide +kernel
theorem dL_law_408 : decode cL_law 408 = .ok (.iconst 1, 1) := by decide +kernel
theorem dL_law_409 : decode cL_law 409 = .ok (.iadd, 1) := by decide +kernel
theorem dL_law_410 : decode cL_law 410 = .ok (.iaload, 1) := by decide +kernel
theorem dL_law_411 : decode cL_law 411 = .ok (.invokevirtual 60, 3) := by decide +kernel
theorem dL_law_414 : decode cL_law 414 = .ok (.if_icmp .eq 288, 3) := by decide +kernel
theorem dL_law_417 : decode cL_law 417 = .ok (.iconst 0, 1) := by decide +kernel
theorem dL_law_418 : decode cL_law 418 = .ok (.ireturn, 1) := by decide +kernel
theorem dL_law_419 : decode cL_law 419 = .ok (.aload_n 1, 1) := by decide +kernel
theorem dL_law_420 : decode cL_law 420 = .ok (.aload_n 0, 1) := by decide +kernel
theorem dL_law_421 : decode cL_law 421 = .ok (.iload_n 3, 1) := by decide +kernel
theorem dL_law_422 : decode cL_law 422 = .ok (.iconst 1, 1) := by decide +kernel
theorem dL_law_423 : decode cL_law 423 = .ok (.iadd, 1) := by decide +kernel
theorem dL_law_424 : decode cL_law 424 = .ok (.iaload, 1) := by decide +kernel
theorem dL_law_425 : decode cL_law 425 = .ok (.aload_n 0, 1) := by decide +kernel
theorem dL_law_426 : decode cL_law 426 = .ok (.iload_n 3, 1) := by decide +kernel
theorem dL_law_427 : decode cL_law 427 = .ok (.iconst 2, 1) := by decide +kernel
theorem dL_law_428 : decode cL_law 428 = .ok (.iadd, 1) := by decide +kernel
theorem dL_law_429 : decode cL_law 429 = .ok (.iaload, 1) := by decide +kernel
theorem dL_law_430 : decode cL_law 430 = .ok (.invokevirtual 61, 3) := by decide +kernel
theorem dL_law_433 : decode cL_law 433 = .ok (.aload_n 2, 1) := by decide +kernel
theorem dL_law_434 : decode cL_law 434 = .ok (.aload_n 0, 1) := by decide +kernel
theorem dL_law_435 : decode cL_law 435 = .ok (.iload_n 3, 1) := by decide +kernel
theorem dL_law_436 : decode cL_law 436 = .ok (.iconst 1, 1) := by decide +kernel
theorem dL_law_437 : decode cL_law 437 = .ok (.iadd, 1) := by decide +kernel
theorem dL_law_438 : decode cL_law 438 = .ok (.iaload, 1) := by decide +kernel
theorem dL_law_439 : decode cL_law 439 = .ok (.aload_n 0, 1) := by decide +kernel
theorem dL_law_440 : decode cL_law 440 = .ok (.iload_n 3, 1) := by decide +kernel
theorem dL_law_441 : decode cL_law 441 = .ok (.iconst 2, 1) := by decide +kernel
theorem dL_law_442 : decode cL_law 442 = .ok (.iadd, 1) := by decide +kernel
theorem dL_law_443 : decode cL_law 443 = .ok (.iaload, 1) := by decide +kernel
theorem dL_law_444 : decode cL_law 444 = .ok (.invokevirtual 64, 3) := by decide +kernel
theorem dL_law_447 : decode cL_law 447 = .ok (.if_icmp .eq 255, 3) := by decide +kernel
theorem dL_law_450 : decode cL_law 450 = .ok (.iconst 0, 1) := by decide +kernel
theorem dL_law_451 : decode cL_law 451 = .ok (.ireturn, 1) := by decide +kernel
theorem dL_law_452 : decode cL_law 452 = .ok (.aload_n 1, 1) := by decide +kernel
theorem dL_law_453 : decode cL_law 453 = .ok (.aload_n 0, 1) := by decide +kernel
theorem dL_law_454 : decode cL_law 454 = .ok (.iload_n 3, 1) := by decide +kernel
theorem dL_law_455 : decode cL_law 455 = .ok (.iconst 1, 1) := by decide +kernel
theorem dL_law_456 : decode cL_law 456 = .ok (.iadd, 1) := by decide +kernel
theorem dL_law_457 : decode cL_law 457 = .ok (.iaload, 1) := by decide +kernel
theorem dL_law_458 : decode cL_law 458 = .ok (.aload_n 0, 1) := by decide +kernel
theorem dL_law_459 : decode cL_law 459 = .ok (.iload_n 3, 1) := by decide +kernel
theorem dL_law_460 : decode cL_law 460 = .ok (.iconst 2, 1) := by decide +kernel
theorem dL_law_461 : decode cL_law 461 = .ok (.iadd, 1) := by decide +kernel
theorem dL_law_462 : decode cL_law 462 = .ok (.iaload, 1) := by decide +kernel
theorem dL_law_463 : decode cL_law 463 = .ok (.aload_n 0, 1) := by decide +kernel
theorem dL_law_464 : decode cL_law 464 = .ok (.iload_n 3, 1) := by decide +kernel
theorem dL_law_465 : decode cL_law 465 = .ok (.iconst 3, 1) := by decide +kernel
theorem dL_law_466 : decode cL_law 466 = .ok (.iadd, 1) := by decide +kernel
theorem dL_law_467 : decode cL_law 467 = .ok (.iaload, 1) := by decide +kernel
theorem dL_law_468 : decode cL_law 468 = .ok (.invokevirtual 65, 3) := by decide +kernel
theorem dL_law_471 : decode cL_law 471 = .ok (.aload_n 2, 1) := by decide +kernel
theorem dL_law_472 : decode cL_law 472 = .ok (.aload_n 0, 1) := by decide +kernel
theorem dL_law_473 : decode cL_law 473 = .ok (.iload_n 3, 1) := by decide +kernel
theorem dL_law_474 : decode cL_law 474 = .ok (.iconst 1, 1) := by decide +kernel
theorem dL_law_475 : decode cL_law 475 = .ok (.iadd, 1) := by decide +kernel
theorem dL_law_476 : decode cL_law 476 = .ok (.iaload, 1) := by decide +kernel
theorem dL_law_477 : decode cL_law 477 = .ok (.aload_n 0, 1) := by decide +kernel
theorem dL_law_478 : decode cL_law 478 = .ok (.iload_n 3, 1) := by decide +kernel
theorem dL_law_479 : decode cL_law 479 = .ok (.iconst 2, 1) := by decide +kernel
theorem dL_law_480 : decode cL_law 480 = .ok (.iadd, 1) := by decide +kernel
theorem dL_law_481 : decode cL_law 481 = .ok (.iaload, 1) := by decide +kernel
theorem dL_law_482 : decode cL_law 482 = .ok (.aload_n 0, 1) := by decide +kernel
theorem dL_law_483 : decode cL_law 483 = .ok (.iload_n 3, 1) := by decide +kernel
theorem dL_law_484 : decode cL_law 484 = .ok (.iconst 3, 1) := by decide +kernel
theorem dL_law_485 : decode cL_law 485 = .ok (.iadd, 1) := by decide +kernel
theorem dL_law_486 : decode cL_law 486 = .ok (.iaload, 1) := by decide +kernel
theorem dL_law_487 : decode cL_law 487 = .ok (.invokevirtual 68, 3) := by decide +kernel
theorem dL_law_490 : decode cL_law 490 = .ok (.if_icmp .eq 212, 3) := by decide +kernel
theorem dL_law_493 : decode cL_law 493 = .ok (.iconst 0, 1) := by decide +kernel
theorem dL_law_494 : decode cL_law 494 = .ok (.ireturn, 1) := by decide +kernel
theorem dL_law_495 : decode cL_law 495 = .ok (.aload_n 1, 1) := by decide +kernel
theorem dL_law_496 : decode cL_law 496 = .ok (.aload_n 0, 1) := by decide +kernel
theorem dL_law_497 : decode cL_law 497 = .ok (.iload_n 3, 1) := by decide +kernel
theorem dL_law_498 : decode cL_law 498 = .ok (.iconst 1, 1) := by decide +kernel
theorem dL_law_499 : decode cL_law 499 = .ok (.iadd, 1) := by decide +kernel
theorem dL_law_500 : decode cL_law 500 = .ok (.iaload, 1) := by decide +kernel
theorem dL_law_501 : decode cL_law 501 = .ok (.invokevirtual 69, 3) := by decide +kernel
theorem dL_law_504 : decode cL_law 504 = .ok (.aload_n 2, 1) := by decide +kernel
theorem dL_law_505 : decode cL_law 505 = .ok (.aload_n 0, 1) := by decide +kernel
theorem dL_law_506 : decode cL_law 506 = .ok (.iload_n 3, 1) := by decide +kernel
theorem dL_law_507 : decode cL_law 507 = .ok (.iconst 1, 1) := by decide +kernel
theorem dL_law_508 : decode cL_law 508 = .ok (.iadd, 1) := by decide +kernel
theorem dL_law_509 : decode cL_law 509 = .ok (.iaload, 1) := by decide +kernel
theorem dL_law_510 : decode cL_law 510 = .ok (.invokevirtual 72, 3) := by decide +kernel
theorem dL_law_513 : decode cL_law 513 = .ok (.if_icmp .eq 189, 3) := by decide +kernel
theorem dL_law_516 : decode cL_law 516 = .ok (.iconst 0, 1) := by decide +kernel
theorem dL_law_517 : decode cL_law 517 = .ok (.ireturn, 1) := by decide +kernel
theorem dL_law_518 : decode cL_law 518 = .ok (.aload_n 1, 1) := by decide +kernel
theorem dL_law_519 : decode cL_law 519 = .ok (.invokevirtual 73, 3) := by decide +kernel
theorem dL_law_522 : decode cL_law 522 = .ok (.aload_n 2, 1) := by decide +kernel
theorem dL_law_523 : decode cL_law 523 = .ok (.invokevirtual 76, 3) := by decide +kernel
theorem dL_law_526 : decode cL_law 526 = .ok (.if_icmp .eq 176, 3) := by decide +kernel
theorem dL_law_529 : decode cL_law 529 = .ok (.iconst 0, 1) := by decide +kernel
theorem dL_law_530 : decode cL_law 530 = .ok (.ireturn, 1) := by decide +kernel
theorem dL_law_531 : decode cL_law 531 = .ok (.aload_n 1, 1) := by decide +kernel
theorem dL_law_532 : decode cL_law 532 = .ok (.aload_n 0, 1) := by decide +kernel
theorem dL_law_533 : decode cL_law 533 = .ok (.iload_n 3, 1) := by decide +kernel
theorem dL_law_534 : decode cL_law 534 = .ok (.iconst 1, 1) := by decide +kernel
theorem dL_law_535 : decode cL_law 535 = .ok (.iadd, 1) := by decide +kernel
theorem dL_law_536 : decode cL_law 536 = .ok (.iaload, 1) := by decide +kernel
theorem dL_law_537 : decode cL_law 537 = .ok (.aload_n 0, 1) := by decide +kernel
theorem dL_law_538 : decode cL_law 538 = .ok (.iload_n 3, 1) := by decide +kernel
theorem dL_law_539 : decode cL_law 539 = .ok (.iconst 2, 1) := by decide +kernel
theorem dL_law_540 : decode cL_law 540 = .ok (.iadd, 1) := by decide +kernel
theorem dL_law_541 : decode cL_law 541 = .ok (.iaload, 1) := by decide +kernel
theorem dL_law_542 : decode cL_law 542 = .ok (.invokevirtual 77, 3) := by decide +kernel
theorem dL_law_545 : decode cL_law 545 = .ok (.aload_n 2, 1) := by decide +kernel
theorem dL_law_546 : decode cL_law 546 = .ok (.aload_n 0, 1) := by decide +kernel
theorem dL_law_547 : decode cL_law 547 = .ok (.iload_n 3, 1) := by decide +kernel
theorem dL_law_548 : decode cL_law 548 = .ok (.iconst 1, 1) := by decide +kernel
theorem dL_law_549 : decode cL_law 549 = .ok (.iadd, 1) := by decide +kernel
theorem dL_law_550 : decode cL_law 550 = .ok (.iaload, 1) := by decide +kernel
theorem dL_law_551 : decode cL_law 551 = .ok (.aload_n 0, 1) := by decide +kernel
theorem dL_law_552 : decode cL_law 552 = .ok (.iload_n 3, 1) := by decide +kernel
theorem dL_law_553 : decode cL_law 553 = .ok (.iconst 2, 1) := by decide +kernel
theorem dL_law_554 : decode cL_law 554 = .ok (.iadd, 1) := by decide +kernel
theorem dL_law_555 : decode cL_law 555 = .ok (.iaload, 1) := by decide +kernel
theorem dL_law_556 : decode cL_law 556 = .ok (.invokevirtual 80, 3) := by decide +kernel
theorem dL_law_559 : decode cL_law 559 = .ok (.if_icmp .eq 143, 3) := by decide +kernel
theorem dL_law_562 : decode cL_law 562 = .ok (.iconst 0, 1) := by decide +kernel
theorem dL_law_563 : decode cL_law 563 = .ok (.ireturn, 1) := by decide +kernel
theorem dL_law_564 : decode cL_law 564 = .ok (.aload_n 1, 1) := by decide +kernel
theorem dL_law_565 : decode cL_law 565 = .ok (.invokevirtual 81, 3) := by decide +kernel
theorem dL_law_568 : decode cL_law 568 = .ok (.aload_n 2, 1) := by decide +kernel
theorem dL_law_569 : decode cL_law 569 = .ok (.invokevirtual 84, 3) := by decide +kernel
theorem dL_law_572 : decode cL_law 572 = .ok (.if_icmp .eq 130, 3) := by decide +kernel
theorem dL_law_575 : decode cL_law 575 = .ok (.iconst 0, 1) := by decide +kernel
theorem dL_law_576 : decode cL_law 576 = .ok (.ireturn, 1) := by decide +kernel
theorem dL_law_577 : decode cL_law 577 = .ok (.aload_n 1, 1) := by decide +kernel
theorem dL_law_578 : decode cL_law 578 = .ok (.aload_n 0, 1) := by decide +kernel
theorem dL_law_579 : decode cL_law 579 = .ok (.iload_n 3, 1) := by decide +kernel
theorem dL_law_580 : decode cL_law 580 = .ok (.iconst 1, 1) := by decide +kernel
theorem dL_law_581 : decode cL_law 581 = .ok (.iadd, 1) := by decide +kernel
theorem dL_law_582 : decode cL_law 582 = .ok (.iaload, 1) := by decide +kernel
theorem dL_law_583 : decode cL_law 583 = .ok (.invokevirtual 85, 3) := by decide +kernel
theorem dL_law_586 : decode cL_law 586 = .ok (.aload_n 2, 1) := by decide +kernel
theorem dL_law_587 : decode cL_law 587 = .ok (.aload_n 0, 1) := by decide +kernel
theorem dL_law_588 : decode cL_law 588 = .ok (.iload_n 3, 1) := by decide +kernel
theorem dL_law_589 : decode cL_law 589 = .ok (.iconst 1, 1) := by decide +kernel
theorem dL_law_590 : decode cL_law 590 = .ok (.iadd, 1) := by decide +kernel
theorem dL_law_591 : decode cL_law 591 = .ok (.iaload, 1) := by decide +kernel
theorem dL_law_592 : decode cL_law 592 = .ok (.invokevirtual 88, 3) := by decide +kernel
theorem dL_law_595 : decode cL_law 595 = .ok (.if_icmp .eq 107, 3) := by decide +kernel
theorem dL_law_598 : decode cL_law 598 = .ok (.iconst 0, 1) := by decide +kernel
theorem dL_law_599 : decode cL_law 599 = .ok (.ireturn, 1) := by decide +kernel
theorem dL_law_600 : decode cL_law 600 = .ok (.aload_n 1, 1) := by decide +kernel
theorem dL_law_601 : decode cL_law 601 = .ok (.aload_n 0, 1) := by decide +kernel
theorem dL_law_602 : decode cL_law 602 = .ok (.iload_n 3, 1) := by decide +kernel
theorem dL_law_603 : decode cL_law 603 = .ok (.iconst 1, 1) := by decide +kernel
theorem dL_law_604 : decode cL_law 604 = .ok (.iadd, 1) := by decide +kernel
theorem dL_law_605 : decode cL_law 605 = .ok (.iaload, 1) := by decide +kernel
theorem dL_law_606 : decode cL_law 606 = .ok (.aload_n 0, 1) := by decide +kernel
theorem dL_law_607 : decode cL_law 607 = .ok (.iload_n 3, 1) := by decide +kernel
theorem dL_law_608 : decode cL_law 608 = .ok (.iconst 2, 1) := by decide +kernel
theorem dL_law_609 : decode cL_law 609 = .ok (.iadd, 1) := by decide +kernel
theorem dL_law_610 : decode cL_law 610 = .ok (.iaload, 1) := by decide +kernel
theorem dL_law_611 : decode cL_law 611 = .ok (.invokevirtual 89, 3) := by decide +kernel
theorem dL_law_614 : decode cL_law 614 = .ok (.aload_n 2, 1) := by decide +kernel
theorem dL_law_615 : decode cL_law 615 = .ok (.aload_n 0, 1) := by decide +kernel
theorem dL_law_616 : decode cL_law 616 = .ok (.iload_n 3, 1) := by decide +kernel
theorem dL_law_617 : decode cL_law 617 = .ok (.iconst 1, 1) := by decide +kernel
theorem dL_law_618 : decode cL_law 618 = .ok (.iadd, 1) := by decide +kernel
theorem dL_law_619 : decode cL_law 619 = .ok (.iaload, 1) := by decide +kernel
theorem dL_law_620 : decode cL_law 620 = .ok (.aload_n 0, 1) := by decide +kernel
theorem dL_law_621 : decode cL_law 621 = .ok (.iload_n 3, 1) := by decide +kernel
theorem dL_law_622 : decode cL_law 622 = .ok (.iconst 2, 1) := by decide +kernel
theorem dL_law_623 : decode cL_law 623 = .ok (.iadd, 1) := by decide +kernel
theorem dL_law_624 : decode cL_law 624 = .ok (.iaload, 1) := by decide +kernel
theorem dL_law_625 : decode cL_law 625 = .ok (.invokevirtual 92, 3) := by decide +kernel
theorem dL_law_628 : decode cL_law 628 = .ok (.if_icmp .eq 74, 3) := by decide +kernel
theorem dL_law_631 : decode cL_law 631 = .ok (.iconst 0, 1) := by decide +kernel
theorem dL_law_632 : decode cL_law 632 = .ok (.ireturn, 1) := by decide +kernel
theorem dL_law_633 : decode cL_law 633 = .ok (.aload_n 1, 1) := by decide +kernel
theorem dL_law_634 : decode cL_law 634 = .ok (.aload_n 0, 1) := by decide +kernel
theorem dL_law_635 : decode cL_law 635 = .ok (.iload_n 3, 1) := by decide +kernel
theorem dL_law_636 : decode cL_law 636 = .ok (.iconst 1, 1) := by decide +kernel
theorem dL_law_637 : decode cL_law 637 = .ok (.iadd, 1) := by decide +kernel
theorem dL_law_638 : decode cL_law 638 = .ok (.iaload, 1) := by decide +kernel
theorem dL_law_639 : decode cL_law 639 = .ok (.invokevirtual 93, 3) := by decide +kernel
theorem dL_law_642 : decode cL_law 642 = .ok (.aload_n 2, 1) := by decide +kernel
theorem dL_law_643 : decode cL_law 643 = .ok (.aload_n 0, 1) := by decide +kernel
theorem dL_law_644 : decode cL_law 644 = .ok (.iload_n 3, 1) := by decide +kernel
theorem dL_law_645 : decode cL_law 645 = .ok (.iconst 1, 1) := by decide +kernel
theorem dL_law_646 : decode cL_law 646 = .ok (.iadd, 1) := by decide +kernel
theorem dL_law_647 : decode cL_law 647 = .ok (.iaload, 1) := by decide +kernel
theorem dL_law_648 : decode cL_law 648 = .ok (.invokevirtual 96, 3) := by decide +kernel
theorem dL_law_651 : decode cL_law 651 = .ok (.if_icmp .eq 51, 3) := by decide +kernel
theorem dL_law_654 : decode cL_law 654 = .ok (.iconst 0, 1) := by decide +kernel
theorem dL_law_655 : decode cL_law 655 = .ok (.ireturn, 1) := by decide +kernel
theorem dL_law_656 : decode cL_law 656 = .ok (.aload_n 1, 1) := by decide +kernel
theorem dL_law_657 : decode cL_law 657 = .ok (.aload_n 0, 1) := by decide +kernel
theorem dL_law_658 : decode cL_law 658 = .ok (.iload_n 3, 1) := by decide +kernel
theorem dL_law_659 : decode cL_law 659 = .ok (.iconst 1, 1) := by decide +kernel
theorem dL_law_660 : decode cL_law 660 = .ok (.iadd, 1) := by decide +kernel
theorem dL_law_661 : decode cL_law 661 = .ok (.iaload, 1) := by decide +kernel
theorem dL_law_662 : decode cL_law 662 = .ok (.invokevirtual 97, 3) := by decide +kernel
theorem dL_law_665 : decode cL_law 665 = .ok (.aload_n 2, 1) := by decide +kernel
theorem dL_law_666 : decode cL_law 666 = .ok (.aload_n 0, 1) := by decide +kernel
theorem dL_law_667 : decode cL_law 667 = .ok (.iload_n 3, 1) := by decide +kernel
theorem dL_law_668 : decode cL_law 668 = .ok (.iconst 1, 1) := by decide +kernel
theorem dL_law_669 : decode cL_law 669 = .ok (.iadd, 1) := by decide +kernel
theorem dL_law_670 : decode cL_law 670 = .ok (.iaload, 1) := by decide +kernel
theorem dL_law_671 : decode cL_law 671 = .ok (.invokevirtual 100, 3) := by decide +kernel
theorem dL_law_674 : decode cL_law 674 = .ok (.if_icmp .eq 28, 3) := by decide +kernel
theorem dL_law_677 : decode cL_law 677 = .ok (.iconst 0, 1) := by decide +kernel
theorem dL_law_678 : decode cL_law 678 = .ok (.ireturn, 1) := by decide +kernel
theorem dL_law_679 : decode cL_law 679 = .ok (.aload_n 1, 1) := by decide +kernel
theorem dL_law_680 : decode cL_law 680 = .ok (.aload_n 0, 1) := by decide +kernel
theorem dL_law_681 : decode cL_law 681 = .ok (.iload_n 3, 1) := by decide +kernel
theorem dL_law_682 : decode cL_law 682 = .ok (.iconst 1, 1) := by decide +kernel
theorem dL_law_683 : decode cL_law 683 = .ok (.iadd, 1) := by decide +kernel
theorem dL_law_684 : decode cL_law 684 = .ok (.iaload, 1) := by decide +kernel
theorem dL_law_685 : decode cL_law 685 = .ok (.invokevirtual 101, 3) := by decide +kernel
theorem dL_law_688 : decode cL_law 688 = .ok (.aload_n 2, 1) := by decide +kernel
theorem dL_law_689 : decode cL_law 689 = .ok (.aload_n 0, 1) := by decide +kernel
theorem dL_law_690 : decode cL_law 690 = .ok (.iload_n 3, 1) := by decide +kernel
theorem dL_law_691 : decode cL_law 691 = .ok (.iconst 1, 1) := by decide +kernel
theorem dL_law_692 : decode cL_law 692 = .ok (.iadd, 1) := by decide +kernel
theorem dL_law_693 : decode cL_law 693 = .ok (.iaload, 1) := by decide +kernel
theorem dL_law_694 : decode cL_law 694 = .ok (.invokevirtual 104, 3) := by decide +kernel
theorem dL_law_697 : decode cL_law 697 = .ok (.if_icmp .eq 5, 3) := by decide +kernel
theorem dL_law_700 : decode cL_law 700 = .ok (.iconst 0, 1) := by decide +kernel
theorem dL_law_701 : decode cL_law 701 = .ok (.ireturn, 1) := by decide +kernel
theorem dL_law_702 : decode cL_law 702 = .ok (.iinc 3 4, 3) := by decide +kernel
theorem dL_law_705 : decode cL_law 705 = .ok (.goto (-687), 3) := by decide +kernel
theorem dL_law_708 : decode cL_law 708 = .ok (.iconst 1, 1) := by decide +kernel
theorem dL_law_709 : decode cL_law 709 = .ok (.ireturn, 1) := by decide +kernel
end
section
/-! ===== THE LAYER: memory as a function, one world for every method, contracts over it ===== -/
abbrev Vv : Type := Int ⊕ Int
abbrev Mm : Type := Int → Int → Int
abbrev Sh : Type := (Nat × List (Option (Option Int))) ⊕ (Nat × Nat × List (Option Int))
abbrev iv (z : Int) : Vv := Sum.inl z
abbrev rv (k : Int) : Vv := Sum.inr k
abbrev inI (z : Int) : Prop := -2147483648 ≤ z ∧ z ≤ 2147483647
def upm (M : Mm) (a b v : Int) : Mm := fun k j => if k = a ∧ j = b then v else M k j
theorem upm_eq (M : Mm) (a b v : Int) : upm M a b v a b = v := if_pos ⟨rfl, rfl⟩
theorem upm_ne {M : Mm} {a b v k j : Int} (h : k ≠ a ∨ j ≠ b) : upm M a b v k j = M k j := if_neg (fun q => h.elim (fun z => z q.1) (fun z => z q.2))
theorem upm_row {M : Mm} {a b v k : Int} (h : k ≠ a) : upm M a b v k = M k := funext fun _ => upm_ne (Or.inl h)
def adr (x : Nat) (as : List Nat) (k : Int) : Nat := if k < 0 then x else as.getD k.toNat 0
def enc (x : Nat) (as : List Nat) : Vv → Value
  | .inl z => .int (Int32.ofInt z)
  | .inr k => .ref (adr x as k)
def fval (x : Nat) (as : List Nat) (M : Mm) (k : Int) (j : Nat) : Option (Option Int) → Value
  | none => .int (Int32.ofInt (M k j))
  | some none => .null
  | some (some r) => .ref (adr x as r)
def ecell (cA : Nat → ClassId) (x : Nat) (as : List Nat) (M : Mm) (k : Int) : Sh → va_E
  | .inl (ci, fs) => .inr (ci, fs.mapIdx (fun j f => fval x as M k j f))
  | .inr (kd, n, es) => .inl (cA kd, n, if kd ≤ 1 then .inl (fun j => Int32.ofInt (M k j)) else .inr (.inr (.inr (.inr (fun j => (es.getD j none).map (adr x as))))))
def wld (cA : Nat → ClassId) (x : Nat) (as : List Nat) (sh : List Sh) (M : Mm) : va_W := (as.zip sh).mapIdx (fun k p => (p.1, ecell cA x as M (k : Int) p.2))
def tyK (kd : Nat) : FieldType := match kd with
  | 0 => .int
  | 1 => .boolean
  | 2 => .array .int
  | _ => .object "SilentCouncil$Kept"
def kndOK (cA : Nat → ClassId) (sh : List Sh) (s : State) : Prop := ∀ kd n es, (Sum.inr (kd, n, es) : Sh) ∈ sh → ArrOfT s (cA kd) (tyK kd) ∧ va_RA s (cA kd) (tyK kd)
def WP (D : va_G) (cA : Nat → ClassId) (x : Nat) (as : List Nat) (sh : List Sh) (M : Mm) (A : Nat → Prop) (s : State) (H : Heap) : Prop :=
  as.length = sh.length ∧ va_P D vwCl (wld cA x as sh M) H ∧ va_D A (wld cA x as sh M) ∧ kndOK cA sh s
def hasL (x : Nat) (as : List Nat) (lsA : Array Slot) (nL : Nat) (ls : List (Option Vv)) : Prop :=
  lsA.size = nL ∧ lv_wf lsA ∧ ls.length ≤ nL ∧ ∀ (i : Nat) (v : Vv), ls[i]? = some (some v) → lsA[i]? = some (Slot.val (enc x as v))
def BIG : List Cond := lw_tbl.filter goodWord
def NsOK (U : State) : Prop := ∀ (o : String) (i : Nat) (y : MethodName) (h : String), Cond.methodLinkNest o i y h ∈ lw_tbl → va_Nw (.methodLinkNest o i y h) U
theorem NsOK.warm {s U : State} (hW : s.WarmedH U.vm) (h : NsOK s) : NsOK U := fun o i y hh q => va_Nw.warmM hW (h o i y hh q)
abbrev Ev : Type := Program × Launch × Env × Room × State × MethodId × Array Value × List Frame × Method × Code × (State → Prop) × (Nat → Prop) × va_G × (Nat → ClassId) × Nat
def Ws (v : Ev) (as : List Nat) (sh : List Sh) (mc ms : Nat) (pc : Nat) (ls : List (Option Vv)) (st : List Vv) (M : Mm) : Prop :=
  match v with
  | (p, l, e, R, s, m, args, below, meth, c, Q, A, D, cA, x) =>
    ∀ (H : Heap) (locs : List Loc) (lsA : Array Slot), WP D cA x as sh M A s H → va_S A s.heap H locs → hasL x as lsA c.maxLocals ls →
      W p l e R s m args below meth c H locs mc ms Q (F0 m pc lsA (st.map (enc x as)))
def Cx (v : Ev) (cc : ByteArray) (nL : Nat) (own : String) (d : Nat) : Prop :=
  match v with
  | (p, _, _, R, s, m, args, _, _, c, _, A, D, _, _) =>
    p.tables.exec = Jvm.exec ∧ c.code = cc ∧ c.maxLocals = nL ∧ s.vm.findClass own = some m.cls ∧ (∀ w ∈ BIG, w.before args s = true) ∧ va_K D vwCl [] s ∧ (∀ q : Nat, s.heap.size ≤ q → A q) ∧ d ≤ R.frames ∧ 40 * d ≤ R.locals ∧ NsOK s
-- ints
theorem i_toInt {z : Int} (h : inI z) : (Int32.ofInt z).toInt = z := Int32.toInt_ofInt_of_le (by have := h.1; omega) (by have := h.2; omega)
theorem i_lt {x y : Int} (hx : inI x) (hy : inI y) : Int32.ofInt x < Int32.ofInt y ↔ x < y := by rw [Int32.lt_iff_toInt_lt, i_toInt hx, i_toInt hy]
theorem i_le {x y : Int} (hx : inI x) (hy : inI y) : Int32.ofInt x ≤ Int32.ofInt y ↔ x ≤ y := by rw [Int32.le_iff_toInt_le, i_toInt hx, i_toInt hy]
theorem i_eq {x y : Int} (hx : inI x) (hy : inI y) : Int32.ofInt x = Int32.ofInt y ↔ x = y := by rw [← Int32.toInt_inj, i_toInt hx, i_toInt hy]
theorem i_nat {z : Int} (h : inI z) : (Int32.ofInt z).toNatClampNeg = z.toNat := Int32.toNatClampNeg_ofInt_of_le (by have := h.1; omega) (by have := h.2; omega)
theorem i_0 : Int32.ofInt 0 = 0 := by decide
theorem inI0 : inI 0 := by decide
theorem i_lt0 {x : Int} (hx : inI x) : Int32.ofInt x < 0 ↔ x < 0 := by rw [← i_0, i_lt hx inI0]
theorem i_eq0 {x : Int} (hx : inI x) : Int32.ofInt x = 0 ↔ x = 0 := by rw [← i_0, i_eq hx inI0]
theorem i_le0 {x : Int} (hx : inI x) : Int32.ofInt x ≤ 0 ↔ x ≤ 0 := by rw [← i_0, i_le hx inI0]
theorem i_ge0 {x : Int} (hx : inI x) : 0 ≤ Int32.ofInt x ↔ 0 ≤ x := by rw [← i_0, i_le inI0 hx]
theorem i_gt0 {x : Int} (hx : inI x) : 0 < Int32.ofInt x ↔ 0 < x := by rw [← i_0, i_lt inI0 hx]
theorem i_in {x : Int} {n : Nat} (hx : inI x) (h : 0 ≤ x ∧ x < n) : vp_in (Int32.ofInt x) n := by
  unfold vp_in
  rw [i_lt0 hx, i_nat hx]
  omega
def iAnd (x y : Int) : Int := (Int32.ofInt x &&& Int32.ofInt y).toInt
def iOr (x y : Int) : Int := (Int32.ofInt x ||| Int32.ofInt y).toInt
def iXor (x y : Int) : Int := (Int32.ofInt x ^^^ Int32.ofInt y).toInt
def iShl (x y : Int) : Int := (Int32.ofInt x <<< (Int32.ofInt y &&& 31)).toInt
def iShr (x y : Int) : Int := (Int32.ofInt x >>> (Int32.ofInt y &&& 31)).toInt
theorem inI_toInt (x : Int32) : inI x.toInt := ⟨Int32.le_toInt x, by have := Int32.toInt_lt x; omega⟩
theorem inI_and (x y : Int) : inI (iAnd x y) := inI_toInt _
theorem inI_or (x y : Int) : inI (iOr x y) := inI_toInt _
theorem inI_xor (x y : Int) : inI (iXor x y) := inI_toInt _
theorem inI_shl (x y : Int) : inI (iShl x y) := inI_toInt _
theorem inI_shr (x y : Int) : inI (iShr x y) := inI_toInt _
-- the world's cells
theorem wld_get {cA : Nat → ClassId} {x : Nat} {as : List Nat} {sh : List Sh} {M : Mm} (hl : as.length = sh.length) {k : Nat} {S : Sh} (h : sh[k]? = some S) : (wld cA x as sh M)[k]? = some (as.getD k 0, ecell cA x as M (k : Int) S) := by
  have hk : k < sh.length := (List.getElem?_eq_some_iff.mp h).1
  have hk2 : k < as.length := by omega
  unfold wld
  have hz : (as.zip sh)[k]? = some (as[k], S) := List.getElem?_zip_eq_some.mpr ⟨List.getElem?_eq_getElem hk2, h⟩
  rw [List.getElem?_mapIdx, hz]
  simp [List.getD, hk2]
theorem adr_nat {x : Nat} {as : List Nat} {k : Int} (h : 0 ≤ k) : adr x as k = as.getD k.toNat 0 := if_neg (by omega)
theorem wld_at {cA : Nat → ClassId} {x : Nat} {as : List Nat} {sh : List Sh} {M : Mm} (hl : as.length = sh.length) {k : Int} (hk : 0 ≤ k) {S : Sh} (h : sh[k.toNat]? = some S) : (wld cA x as sh M)[k.toNat]? = some (adr x as k, ecell cA x as M k S) := by
  rw [adr_nat hk, wld_get hl h, Int.toNat_of_nonneg hk]
theorem ecell_ne {cA : Nat → ClassId} {x : Nat} {as : List Nat} {M M' : Mm} {k : Int} {S : Sh} (hr : M' k = M k) : ecell cA x as M' k S = ecell cA x as M k S := by
  rcases S with ⟨ci, fs⟩ | ⟨kd, n, es⟩
  · simp only [ecell]
    have : (fun j f => fval x as M' k j f) = (fun j f => fval x as M k j f) := by
      funext j f
      rcases f with _ | _ | r <;> simp [fval, hr]
    rw [this]
  · simp only [ecell, hr]
theorem wld_set' {cA : Nat → ClassId} {x : Nat} {as : List Nat} {sh : List Sh} {M M' : Mm} (hl : as.length = sh.length) {k : Int} (hk : 0 ≤ k) {S : Sh} (h : sh[k.toNat]? = some S) (hne : ∀ i : Int, i ≠ k → M' i = M i) :
    (wld cA x as sh M).set k.toNat (adr x as k, ecell cA x as M' k S) = wld cA x as sh M' := by
  apply List.ext_getElem?
  intro i
  by_cases hi : i = k.toNat
  · subst hi
    rw [List.getElem?_set_self (List.getElem?_eq_some_iff.mp (wld_at (M := M) (cA := cA) (x := x) hl hk h)).1, wld_at hl hk h]
  · rw [List.getElem?_set_ne (Ne.symm hi)]
    unfold wld
    rw [List.getElem?_mapIdx, List.getElem?_mapIdx]
    cases (as.zip sh)[i]? with
    | none => rfl
    | some q =>
      have : ((i : Nat) : Int) ≠ k := by omega
      simp [ecell_ne (hne _ this)]
theorem wld_set {cA : Nat → ClassId} {x : Nat} {as : List Nat} {sh : List Sh} {M : Mm} (hl : as.length = sh.length) {k b v : Int} (hk : 0 ≤ k) {S : Sh} (h : sh[k.toNat]? = some S) :
    (wld cA x as sh M).set k.toNat (adr x as k, ecell cA x as (upm M k b v) k S) = wld cA x as sh (upm M k b v) := wld_set' hl hk h (fun _ hi => upm_row hi)
theorem upd_upm {M : Mm} {o j z : Int} (hj : 0 ≤ j) : upd (fun q : Nat => Int32.ofInt (M o q)) j.toNat (Int32.ofInt z) = fun q : Nat => Int32.ofInt (upm M o j z o q) := by
  funext q
  by_cases hq : q = j.toNat
  · subst hq
    rw [Int.toNat_of_nonneg hj, upm_eq]
    simp [upd]
  · have : ((q : Nat) : Int) ≠ j := by omega
    rw [upm_ne (Or.inr this)]
    simp [upd, hq]
def cp0 (M : Mm) (src dst n : Int) : Mm := fun k j => if k = dst ∧ 0 ≤ j ∧ j < n then M src j else M k j
theorem cp0_row {M : Mm} {src dst n k : Int} (h : k ≠ dst) : cp0 M src dst n k = M k := funext fun _ => if_neg (fun q => h q.1)
theorem cp0_in {M : Mm} {src dst n j : Int} (h : 0 ≤ j ∧ j < n) : cp0 M src dst n dst j = M src j := if_pos ⟨rfl, h⟩
theorem cp0_out {M : Mm} {src dst n k j : Int} (h : ¬ (0 ≤ j ∧ j < n)) : cp0 M src dst n k j = M k j := if_neg (fun q => h q.2)
theorem i_div {a b : Int} (ha : 0 ≤ a ∧ a ≤ 2147483647) (hb : 0 < b ∧ b ≤ 2147483647) : Int32.ofInt (a / b) = Int32.ofInt a / Int32.ofInt b := by
  rw [← Int32.toInt_inj]
  have hia : inI a := ⟨by omega, ha.2⟩
  have hib : inI b := ⟨by omega, hb.2⟩
  have hq : 0 ≤ a / b := Int.ediv_nonneg ha.1 (by omega)
  have hq2 : a / b ≤ a := Int.ediv_le_self b ha.1
  rw [Int32.toInt_div_of_ne_right _ _ (by
    intro h
    have := congrArg Int32.toInt h
    rw [i_toInt hib] at this
    have h2 : (-1 : Int32).toInt = -1 := by decide
    omega), i_toInt hia, i_toInt hib, i_toInt ⟨by omega, by omega⟩, Int.tdiv_eq_ediv_of_nonneg ha.1]
theorem i_max {a b : Int} (ha : inI a) (hb : inI b) : (if Int32.ofInt a < Int32.ofInt b then Int32.ofInt b else Int32.ofInt a) = Int32.ofInt (max a b) := by
  by_cases h : a < b
  · rw [if_pos ((i_lt ha hb).mpr h), Int.max_eq_right (by omega)]
  · rw [if_neg (fun q => h ((i_lt ha hb).mp q)), Int.max_eq_left (by omega)]
theorem i_min {a b : Int} (ha : inI a) (hb : inI b) : (if Int32.ofInt b < Int32.ofInt a then Int32.ofInt b else Int32.ofInt a) = Int32.ofInt (min a b) := by
  by_cases h : b < a
  · rw [if_pos ((i_lt hb ha).mpr h), Int.min_eq_right (by omega)]
  · rw [if_neg (fun q => h ((i_lt hb ha).mp q)), Int.min_eq_left (by omega)]
theorem enc_cat (x : Nat) (as : List Nat) (v : Vv) : (enc x as v).category = 1 := by cases v <;> rfl
theorem cat_sum (x : Nat) (as : List Nat) (st : List Vv) : ((st.map (enc x as)).map fun v => v.category).sum = st.length := by
  induction st with
  | nil => rfl
  | cons v t ih =>
    rw [List.map_cons, List.map_cons, List.sum_cons, ih, enc_cat, List.length_cons, Nat.add_comm]
theorem WP.moved {D : va_G} {cA : Nat → ClassId} {x : Nat} {as : List Nat} {sh : List Sh} {M : Mm} {A : Nat → Prop} {u U : State} {H : Heap} (hvm : u.vm.Alike U.vm) (h : WP D cA x as sh M A u H) : WP D cA x as sh M A U H :=
  ⟨h.1, h.2.1, h.2.2.1, fun kd n es q => ⟨arrOfT_moved hvm (h.2.2.2 kd n es q).1, (h.2.2.2 kd n es q).2.moved hvm⟩⟩
theorem WP.tys {D : va_G} {cA : Nat → ClassId} {x : Nat} {as : List Nat} {sh : List Sh} {M : Mm} {A : Nat → Prop} {s : State} {H : Heap} (h : WP D cA x as sh M A s H) (hK : va_K D vwCl [] s) {kd n k : Nat} {es : List (Option Int)} (hs : sh[k]? = some (.inr (kd, n, es))) : va_K D vwCl [(cA kd, tyK kd)] s :=
  ⟨hK.1, fun j q hj => by
    have h0 : j < 1 := (List.getElem?_eq_some_iff.mp hj).1
    rw [show j = 0 by omega] at hj
    cases hj
    exact h.2.2.2 kd n es (List.mem_of_getElem? hs)⟩
-- the locals
def encL (x : Nat) (as : List Nat) (ls : List (Option Vv)) : List (Nat × Value) := ls.zipIdx.filterMap (fun q => q.1.map (fun v => (q.2, enc x as v)))
theorem mem_encL {x : Nat} {as : List Nat} {ls : List (Option Vv)} {i : Nat} {v : Vv} (h : ls[i]? = some (some v)) : (i, enc x as v) ∈ encL x as ls := by
  refine List.mem_filterMap.mpr ⟨(some v, i), ?_, rfl⟩
  exact List.mem_zipIdx_iff_getElem?.mpr h
theorem encL_mem {x : Nat} {as : List Nat} {ls : List (Option Vv)} {i : Nat} {w : Value} (h : (i, w) ∈ encL x as ls) : ∃ v, ls[i]? = some (some v) ∧ w = enc x as v := by
  obtain ⟨⟨o, j⟩, h1, h2⟩ := List.mem_filterMap.mp h
  have h3 := List.mem_zipIdx_iff_getElem?.mp h1
  cases o with
  | none => cases h2
  | some v =>
    cases h2
    exact ⟨v, h3, rfl⟩
theorem hasL.lv {x : Nat} {as : List Nat} {lsA : Array Slot} {nL : Nat} {ls : List (Option Vv)} (h : hasL x as lsA nL ls) : lv_has lsA nL (encL x as ls) :=
  ⟨h.1, h.2.1, fun q hq => by
    obtain ⟨i, w⟩ := q
    obtain ⟨v, h1, rfl⟩ := encL_mem hq
    exact h.2.2.2 i v h1⟩
theorem hasL.set {x : Nat} {as : List Nat} {lsA lsB : Array Slot} {nL : Nat} {ls : List (Option Vv)} {i : Nat} {v : Vv} (hA : hasL x as lsA nL ls) (hi : i < ls.length)
    (h : lv_has lsB nL ((i, enc x as v) :: (encL x as ls).filter (fun q => !(q.1 == i) && !(q.1 + 1 == i && q.2.category == 2)))) : hasL x as lsB nL (ls.set i (some v)) := by
  refine ⟨h.1, h.2.1, by rw [List.length_set]; exact hA.2.2.1, fun j w hj => ?_⟩
  by_cases hji : j = i
  · subst hji
    rw [List.getElem?_set_self hi] at hj
    cases hj
    exact h.2.2 (j, enc x as v) List.mem_cons_self
  · rw [List.getElem?_set_ne (Ne.symm hji)] at hj
    refine h.2.2 (j, enc x as w) (List.mem_cons_of_mem _ (List.mem_filter.mpr ⟨mem_encL hj, ?_⟩))
    simp [hji, enc_cat]
theorem hasL.sub {x : Nat} {as : List Nat} {lsA : Array Slot} {nL : Nat} {ls ls' : List (Option Vv)} (h : hasL x as lsA nL ls) (hn : ls'.length ≤ ls.length) (hs : ∀ (i : Nat) (v : Vv), ls'[i]? = some (some v) → ls[i]? = some (some v)) : hasL x as lsA nL ls' := ⟨h.1, h.2.1, Nat.le_trans hn h.2.2.1, fun i v q => h.2.2.2 i v (hs i v q)⟩
theorem hasL.entry {x : Nat} {as : List Nat} {av : List Vv} {nL : Nat} (h : av.length ≤ nL) (k : Nat) (hk : av.length + k ≤ nL) : hasL x as (lg_sl (av.map (enc x as)) ++ List.replicate (nL - (lg_sl (av.map (enc x as))).length) Slot.unset).toArray nL (av.map some ++ List.replicate k none) := by
  have hsl : ∀ av : List Vv, lg_sl (av.map (enc x as)) = av.map (fun v => Slot.val (enc x as v)) := by
    intro av
    induction av with
    | nil => rfl
    | cons v t ih =>
      have : lg_sl ((v :: t).map (enc x as)) = [Slot.val (enc x as v)] ++ lg_sl (t.map (enc x as)) := by
        simp [lg_sl, enc_cat]
      rw [this, ih]
      rfl
  have hg := lv_entry (av.map (enc x as)) (n := nL) (by rw [hsl]; simpa using h)
  refine ⟨hg.1, hg.2.1, by simpa using hk, fun i v hi => ?_⟩
  have hil : i < av.length := by
    rcases Nat.lt_or_ge i av.length with q | q
    · exact q
    · rw [List.getElem?_append_right (by simpa using q)] at hi
      have := List.mem_of_getElem? hi
      simp at this
  rw [List.getElem?_append_left (by simpa using hil), List.getElem?_map] at hi
  have hv : av[i]? = some v := by
    cases ha : av[i]? with
    | none => rw [ha] at hi; cases hi
    | some w => rw [ha] at hi; simpa using hi
  rw [hsl, List.getElem?_toArray, List.getElem?_append_left (by simpa using hil), List.getElem?_map, hv]
  rfl
theorem big_at (i : Nat) {w : Cond} (h : lw_tbl[i]? = some w) (g : goodWord w = true) : w ∈ BIG := List.mem_filter.mpr ⟨List.mem_of_getElem? h, g⟩
def MfS (y : MethodName) (bytes : ByteArray) (maxL : Nat) (rt : Option FieldType) (n : Nat) : Prop := Cond.static y ∈ BIG ∧ Cond.initialized y.cls ∈ BIG ∧ Cond.code y bytes maxL rt ∈ BIG ∧ (y.cls ≠ "java/lang/invoke/MethodHandle" ∧ y.cls ≠ "java/lang/invoke/VarHandle" ∧ (parseMethodDescriptor y.desc).map (fun d => d.parameters.length) = some n) ∧ maxL ≤ 21
def MfV (y : MethodName) (bytes : ByteArray) (maxL : Nat) (rt : Option FieldType) (n : Nat) : Prop := (Cond.instanceMethod y ∈ BIG ∧ Cond.selects y.cls y y ∈ BIG) ∧ Cond.initialized y.cls ∈ BIG ∧ Cond.code y bytes maxL rt ∈ BIG ∧ (y.cls ≠ "java/lang/invoke/MethodHandle" ∧ y.cls ≠ "java/lang/invoke/VarHandle" ∧ (parseMethodDescriptor y.desc).map (fun d => d.parameters.length) = some n) ∧ maxL ≤ 21
end
section
theorem ul_X0_0 : u_lay RX0 TX0 0 ∈ BIG := big_at 176 (by decide +kernel) (by decide +kernel)
theorem ul_X0_1 : u_lay RX0 TX0 1 ∈ BIG := big_at 178 (by decide +kernel) (by decide +kernel)
theorem ul_X0_2 : u_lay RX0 TX0 2 ∈ BIG := big_at 180 (by decide +kernel) (by decide +kernel)
theorem ul_X0_3 : u_lay RX0 TX0 3 ∈ BIG := big_at 182 (by decide +kernel) (by decide +kernel)
theorem ul_X0_4 : u_lay RX0 TX0 4 ∈ BIG := big_at 184 (by decide +kernel) (by decide +kernel)
theorem ul_X0_5 : u_lay RX0 TX0 5 ∈ BIG := big_at 186 (by decide +kernel) (by decide +kernel)
theorem ul_X0_6 : u_lay RX0 TX0 6 ∈ BIG := big_at 188 (by decide +kernel) (by decide +kernel)
theorem ul_X0_7 : u_lay RX0 TX0 7 ∈ BIG := big_at 190 (by decide +kernel) (by decide +kernel)
theorem ul_X0_8 : u_lay RX0 TX0 8 ∈ BIG := big_at 192 (by decide +kernel) (by decide +kernel)
theorem ul_X0_9 : u_lay RX0 TX0 9 ∈ BIG := big_at 194 (by decide +kernel) (by decide +kernel)
theorem inb_X0 : ∀ w ∈ u_ws RX0 TX0 10, w ∈ BIG := fun w hw => by
  obtain ⟨k, hk, rfl⟩ := List.mem_map.mp hw
  have hk := List.mem_range.mp hk
  match k, hk with
  | 0, _ => exact ul_X0_0
  | 1, _ => exact ul_X0_1
  | 2, _ => exact ul_X0_2
  | 3, _ => exact ul_X0_3
  | 4, _ => exact ul_X0_4
  | 5, _ => exact ul_X0_5
  | 6, _ => exact ul_X0_6
  | 7, _ => exact ul_X0_7
  | 8, _ => exact ul_X0_8
  | 9, _ => exact ul_X0_9
  | q + 10, h => exact absurd h (by omega)
theorem ul_X1_0 : u_lay RX1 TX1 0 ∈ BIG := big_at 222 (by decide +kernel) (by decide +kernel)
theorem ul_X1_1 : u_lay RX1 TX1 1 ∈ BIG := big_at 224 (by decide +kernel) (by decide +kernel)
theorem ul_X1_2 : u_lay RX1 TX1 2 ∈ BIG := big_at 226 (by decide +kernel) (by decide +kernel)
theorem ul_X1_3 : u_lay RX1 TX1 3 ∈ BIG := big_at 228 (by decide +kernel) (by decide +kernel)
theorem ul_X1_4 : u_lay RX1 TX1 4 ∈ BIG := big_at 230 (by decide +kernel) (by decide +kernel)
theorem inb_X1 : ∀ w ∈ u_ws RX1 TX1 5, w ∈ BIG := fun w hw => by
  obtain ⟨k, hk, rfl⟩ := List.mem_map.mp hw
  have hk := List.mem_range.mp hk
  match k, hk with
  | 0, _ => exact ul_X1_0
  | 1, _ => exact ul_X1_1
  | 2, _ => exact ul_X1_2
  | 3, _ => exact ul_X1_3
  | 4, _ => exact ul_X1_4
  | q + 5, h => exact absurd h (by omega)
theorem ul_X2_0 : u_lay RX2 TX2 0 ∈ BIG := big_at 100 (by decide +kernel) (by decide +kernel)
theorem ul_X2_1 : u_lay RX2 TX2 1 ∈ BIG := big_at 102 (by decide +kernel) (by decide +kernel)
theorem ul_X2_2 : u_lay RX2 TX2 2 ∈ BIG := big_at 104 (by decide +kernel) (by decide +kernel)
theorem ul_X2_3 : u_lay RX2 TX2 3 ∈ BIG := big_at 106 (by decide +kernel) (by decide +kernel)
theorem ul_X2_4 : u_lay RX2 TX2 4 ∈ BIG := big_at 108 (by decide +kernel) (by decide +kernel)
theorem inb_X2 : ∀ w ∈ u_ws RX2 TX2 5, w ∈ BIG := fun w hw => by
  obtain ⟨k, hk, rfl⟩ := List.mem_map.mp hw
  have hk := List.mem_range.mp hk
  match k, hk with
  | 0, _ => exact ul_X2_0
  | 1, _ => exact ul_X2_1
  | 2, _ => exact ul_X2_2
  | 3, _ => exact ul_X2_3
  | 4, _ => exact ul_X2_4
  | q + 5, h => exact absurd h (by omega)
theorem ul_X3_0 : u_lay RX3 TX3 0 ∈ BIG := big_at 205 (by decide +kernel) (by decide +kernel)
theorem ul_X3_1 : u_lay RX3 TX3 1 ∈ BIG := big_at 207 (by decide +kernel) (by decide +kernel)
theorem inb_X3 : ∀ w ∈ u_ws RX3 TX3 2, w ∈ BIG := fun w hw => by
  obtain ⟨k, hk, rfl⟩ := List.mem_map.mp hw
  have hk := List.mem_range.mp hk
  match k, hk with
  | 0, _ => exact ul_X3_0
  | 1, _ => exact ul_X3_1
  | q + 2, h => exact absurd h (by omega)
theorem ul_X4_0 : u_lay RX4 TX4 0 ∈ BIG := big_at 77 (by decide +kernel) (by decide +kernel)
theorem ul_X4_1 : u_lay RX4 TX4 1 ∈ BIG := big_at 79 (by decide +kernel) (by decide +kernel)
theorem ul_X4_2 : u_lay RX4 TX4 2 ∈ BIG := big_at 81 (by decide +kernel) (by decide +kernel)
theorem ul_X4_3 : u_lay RX4 TX4 3 ∈ BIG := big_at 83 (by decide +kernel) (by decide +kernel)
theorem inb_X4 : ∀ w ∈ u_ws RX4 TX4 4, w ∈ BIG := fun w hw => by
  obtain ⟨k, hk, rfl⟩ := List.mem_map.mp hw
  have hk := List.mem_range.mp hk
  match k, hk with
  | 0, _ => exact ul_X4_0
  | 1, _ => exact ul_X4_1
  | 2, _ => exact ul_X4_2
  | 3, _ => exact ul_X4_3
  | q + 4, h => exact absurd h (by omega)
theorem ul_X5_0 : u_lay RX5 TX5 0 ∈ BIG := big_at 123 (by decide +kernel) (by decide +kernel)
theorem ul_X5_1 : u_lay RX5 TX5 1 ∈ BIG := big_at 125 (by decide +kernel) (by decide +kernel)
theorem inb_X5 : ∀ w ∈ u_ws RX5 TX5 2, w ∈ BIG := fun w hw => by
  obtain ⟨k, hk, rfl⟩ := List.mem_map.mp hw
  have hk := List.mem_range.mp hk
  match k, hk with
  | 0, _ => exact ul_X5_0
  | 1, _ => exact ul_X5_1
  | q + 2, h => exact absurd h (by omega)
theorem ul_X6_0 : u_lay RX6 TX6 0 ∈ BIG := big_at 144 (by decide +kernel) (by decide +kernel)
theorem ul_X6_1 : u_lay RX6 TX6 1 ∈ BIG := big_at 146 (by decide +kernel) (by decide +kernel)
theorem ul_X6_2 : u_lay RX6 TX6 2 ∈ BIG := big_at 148 (by decide +kernel) (by decide +kernel)
theorem ul_X6_3 : u_lay RX6 TX6 3 ∈ BIG := big_at 150 (by decide +kernel) (by decide +kernel)
theorem ul_X6_4 : u_lay RX6 TX6 4 ∈ BIG := big_at 152 (by decide +kernel) (by decide +kernel)
theorem inb_X6 : ∀ w ∈ u_ws RX6 TX6 5, w ∈ BIG := fun w hw => by
  obtain ⟨k, hk, rfl⟩ := List.mem_map.mp hw
  have hk := List.mem_range.mp hk
  match k, hk with
  | 0, _ => exact ul_X6_0
  | 1, _ => exact ul_X6_1
  | 2, _ => exact ul_X6_2
  | 3, _ => exact ul_X6_3
  | 4, _ => exact ul_X6_4
  | q + 5, h => exact absurd h (by omega)
theorem ul_X7_0 : u_lay RX7 TX7 0 ∈ BIG := big_at 241 (by decide +kernel) (by decide +kernel)
theorem ul_X7_1 : u_lay RX7 TX7 1 ∈ BIG := big_at 243 (by decide +kernel) (by decide +kernel)
theorem ul_X7_2 : u_lay RX7 TX7 2 ∈ BIG := big_at 245 (by decide +kernel) (by decide +kernel)
theorem ul_X7_3 : u_lay RX7 TX7 3 ∈ BIG := big_at 247 (by decide +kernel) (by decide +kernel)
theorem ul_X7_4 : u_lay RX7 TX7 4 ∈ BIG := big_at 249 (by decide +kernel) (by decide +kernel)
theorem ul_X7_5 : u_lay RX7 TX7 5 ∈ BIG := big_at 251 (by decide +kernel) (by decide +kernel)
theorem ul_X7_6 : u_lay RX7 TX7 6 ∈ BIG := big_at 253 (by decide +kernel) (by decide +kernel)
theorem ul_X7_7 : u_lay RX7 TX7 7 ∈ BIG := big_at 255 (by decide +kernel) (by decide +kernel)
theorem inb_X7 : ∀ w ∈ u_ws RX7 TX7 8, w ∈ BIG := fun w hw => by
  obtain ⟨k, hk, rfl⟩ := List.mem_map.mp hw
  have hk := List.mem_range.mp hk
  match k, hk with
  | 0, _ => exact ul_X7_0
  | 1, _ => exact ul_X7_1
  | 2, _ => exact ul_X7_2
  | 3, _ => exact ul_X7_3
  | 4, _ => exact ul_X7_4
  | 5, _ => exact ul_X7_5
  | 6, _ => exact ul_X7_6
  | 7, _ => exact ul_X7_7
  | q + 8, h => exact absurd h (by omega)
theorem ul_X8_0 : u_lay RX8 TX8 0 ∈ BIG := big_at 595 (by decide +kernel) (by decide +kernel)
theorem ul_X8_1 : u_lay RX8 TX8 1 ∈ BIG := big_at 597 (by decide +kernel) (by decide +kernel)
theorem ul_X8_2 : u_lay RX8 TX8 2 ∈ BIG := big_at 599 (by decide +kernel) (by decide +kernel)
theorem ul_X8_3 : u_lay RX8 TX8 3 ∈ BIG := big_at 601 (by decide +kernel) (by decide +kernel)
theorem ul_X8_4 : u_lay RX8 TX8 4 ∈ BIG := big_at 603 (by decide +kernel) (by decide +kernel)
theorem ul_X8_5 : u_lay RX8 TX8 5 ∈ BIG := big_at 605 (by decide +kernel) (by decide +kernel)
theorem ul_X8_6 : u_lay RX8 TX8 6 ∈ BIG := big_at 607 (by decide +kernel) (by decide +kernel)
theorem ul_X8_7 : u_lay RX8 TX8 7 ∈ BIG := big_at 609 (by decide +kernel) (by decide +kernel)
theorem ul_X8_8 : u_lay RX8 TX8 8 ∈ BIG := big_at 611 (by decide +kernel) (by decide +kernel)
theorem ul_X8_9 : u_lay RX8 TX8 9 ∈ BIG := big_at 613 (by decide +kernel) (by decide +kernel)
theorem ul_X8_10 : u_lay RX8 TX8 10 ∈ BIG := big_at 615 (by decide +kernel) (by decide +kernel)
theorem ul_X8_11 : u_lay RX8 TX8 11 ∈ BIG := big_at 617 (by decide +kernel) (by decide +kernel)
theorem ul_X8_12 : u_lay RX8 TX8 12 ∈ BIG := big_at 619 (by decide +kernel) (by decide +kernel)
theorem ul_X8_13 : u_lay RX8 TX8 13 ∈ BIG := big_at 621 (by decide +kernel) (by decide +kernel)
theorem ul_X8_14 : u_lay RX8 TX8 14 ∈ BIG := big_at 623 (by decide +kernel) (by decide +kernel)
theorem ul_X8_15 : u_lay RX8 TX8 15 ∈ BIG := big_at 625 (by decide +kernel) (by decide +kernel)
theorem ul_X8_16 : u_lay RX8 TX8 16 ∈ BIG := big_at 627 (by decide +kernel) (by decide +kernel)
theorem ul_X8_17 : u_lay RX8 TX8 17 ∈ BIG := big_at 629 (by decide +kernel) (by decide +kernel)
theorem ul_X8_18 : u_lay RX8 TX8 18 ∈ BIG := big_at 631 (by decide +kernel) (by decide +kernel)
theorem ul_X8_19 : u_lay RX8 TX8 19 ∈ BIG := big_at 633 (by decide +kernel) (by decide +kernel)
theorem ul_X8_20 : u_lay RX8 TX8 20 ∈ BIG := big_at 635 (by decide +kernel) (by decide +kernel)
theorem ul_X8_21 : u_lay RX8 TX8 21 ∈ BIG := big_at 637 (by decide +kernel) (by decide +kernel)
theorem inb_X8 : ∀ w ∈ u_ws RX8 TX8 22, w ∈ BIG := fun w hw => by
  obtain ⟨k, hk, rfl⟩ := List.mem_map.mp hw
  have hk := List.mem_range.mp hk
  match k, hk with
  | 0, _ => exact ul_X8_0
  | 1, _ => exact ul_X8_1
  | 2, _ => exact ul_X8_2
  | 3, _ => exact ul_X8_3
  | 4, _ => exact ul_X8_4
  | 5, _ => exact ul_X8_5
  | 6, _ => exact ul_X8_6
  | 7, _ => exact ul_X8_7
  | 8, _ => exact ul_X8_8
  | 9, _ => exact ul_X8_9
  | 10, _ => exact ul_X8_10
  | 11, _ => exact ul_X8_11
  | 12, _ => exact ul_X8_12
  | 13, _ => exact ul_X8_13
  | 14, _ => exact ul_X8_14
  | 15, _ => exact ul_X8_15
  | 16, _ => exact ul_X8_16
  | 17, _ => exact ul_X8_17
  | 18, _ => exact ul_X8_18
  | 19, _ => exact ul_X8_19
  | 20, _ => exact ul_X8_20
  | 21, _ => exact ul_X8_21
  | q + 22, h => exact absurd h (by omega)
theorem mf_J6_bitCount_0f7a4 : MfS yJ6_bitCount_0f7a4 cJ6_bitCount_0f7a4 1 (some .int) 1 := ⟨big_at 536 (by decide +kernel) (by decide +kernel), big_at 43 (by decide +kernel) (by decide +kernel), big_at 537 (by decide +kernel) (by decide +kernel), ⟨by decide +kernel, by decide +kernel, by decide +kernel⟩, by decide⟩
theorem mf_X0_deal : MfS yX0_deal cX0_deal 7 none 4 := ⟨big_at 457 (by decide +kernel) (by decide +kernel), big_at 37 (by decide +kernel) (by decide +kernel), big_at 458 (by decide +kernel) (by decide +kernel), ⟨by decide +kernel, by decide +kernel, by decide +kernel⟩, by decide⟩
theorem mf_X0_findBestDeal : MfV yX0_findBestDeal cX0_findBestDeal 3 none 2 := ⟨⟨big_at 453 (by decide +kernel) (by decide +kernel), big_at 454 (by decide +kernel) (by decide +kernel)⟩, big_at 37 (by decide +kernel) (by decide +kernel), big_at 455 (by decide +kernel) (by decide +kernel), ⟨by decide +kernel, by decide +kernel, by decide +kernel⟩, by decide⟩
theorem mf_X0_findHolders : MfV yX0_findHolders cX0_findHolders 3 none 1 := ⟨⟨big_at 444 (by decide +kernel) (by decide +kernel), big_at 445 (by decide +kernel) (by decide +kernel)⟩, big_at 37 (by decide +kernel) (by decide +kernel), big_at 446 (by decide +kernel) (by decide +kernel), ⟨by decide +kernel, by decide +kernel, by decide +kernel⟩, by decide⟩
theorem mf_X0_findNext : MfV yX0_findNext cX0_findNext 5 (some .int) 3 := ⟨⟨big_at 437 (by decide +kernel) (by decide +kernel), big_at 10 (by decide +kernel) (by decide +kernel)⟩, big_at 37 (by decide +kernel) (by decide +kernel), big_at 438 (by decide +kernel) (by decide +kernel), ⟨by decide +kernel, by decide +kernel, by decide +kernel⟩, by decide⟩
theorem mf_X0_findOrder : MfV yX0_findOrder cX0_findOrder 6 none 2 := ⟨⟨big_at 432 (by decide +kernel) (by decide +kernel), big_at 433 (by decide +kernel) (by decide +kernel)⟩, big_at 37 (by decide +kernel) (by decide +kernel), big_at 434 (by decide +kernel) (by decide +kernel), ⟨by decide +kernel, by decide +kernel, by decide +kernel⟩, by decide⟩
theorem mf_X0_lack : MfV yX0_lack cX0_lack 4 (some .int) 3 := ⟨⟨big_at 423 (by decide +kernel) (by decide +kernel), big_at 9 (by decide +kernel) (by decide +kernel)⟩, big_at 37 (by decide +kernel) (by decide +kernel), big_at 424 (by decide +kernel) (by decide +kernel), ⟨by decide +kernel, by decide +kernel, by decide +kernel⟩, by decide⟩
theorem mf_X0_leastPause : MfV yX0_leastPause cX0_leastPause 4 (some .int) 2 := ⟨⟨big_at 407 (by decide +kernel) (by decide +kernel), big_at 408 (by decide +kernel) (by decide +kernel)⟩, big_at 37 (by decide +kernel) (by decide +kernel), big_at 409 (by decide +kernel) (by decide +kernel), ⟨by decide +kernel, by decide +kernel, by decide +kernel⟩, by decide⟩
theorem mf_X0_lengthen : MfV yX0_lengthen cX0_lengthen 6 none 2 := ⟨⟨big_at 412 (by decide +kernel) (by decide +kernel), big_at 8 (by decide +kernel) (by decide +kernel)⟩, big_at 37 (by decide +kernel) (by decide +kernel), big_at 413 (by decide +kernel) (by decide +kernel), ⟨by decide +kernel, by decide +kernel, by decide +kernel⟩, by decide⟩
theorem mf_X0_needBehind : MfV yX0_needBehind cX0_needBehind 8 none 3 := ⟨⟨big_at 399 (by decide +kernel) (by decide +kernel), big_at 7 (by decide +kernel) (by decide +kernel)⟩, big_at 37 (by decide +kernel) (by decide +kernel), big_at 400 (by decide +kernel) (by decide +kernel), ⟨by decide +kernel, by decide +kernel, by decide +kernel⟩, by decide⟩
theorem mf_X0_prepare : MfV yX0_prepare cX0_prepare 4 none 1 := ⟨⟨big_at 393 (by decide +kernel) (by decide +kernel), big_at 394 (by decide +kernel) (by decide +kernel)⟩, big_at 37 (by decide +kernel) (by decide +kernel), big_at 395 (by decide +kernel) (by decide +kernel), ⟨by decide +kernel, by decide +kernel, by decide +kernel⟩, by decide⟩
theorem mf_X0_takeShares : MfV yX0_takeShares cX0_takeShares 2 none 1 := ⟨⟨big_at 402 (by decide +kernel) (by decide +kernel), big_at 403 (by decide +kernel) (by decide +kernel)⟩, big_at 37 (by decide +kernel) (by decide +kernel), big_at 404 (by decide +kernel) (by decide +kernel), ⟨by decide +kernel, by decide +kernel, by decide +kernel⟩, by decide⟩
theorem mf_X1_canSpeak : MfV yX1_canSpeak cX1_canSpeak 3 (some .boolean) 2 := ⟨⟨big_at 506 (by decide +kernel) (by decide +kernel), big_at 12 (by decide +kernel) (by decide +kernel)⟩, big_at 39 (by decide +kernel) (by decide +kernel), big_at 507 (by decide +kernel) (by decide +kernel), ⟨by decide +kernel, by decide +kernel, by decide +kernel⟩, by decide⟩
theorem mf_X1_count : MfV yX1_count cX1_count 3 none 2 := ⟨⟨big_at 511 (by decide +kernel) (by decide +kernel), big_at 13 (by decide +kernel) (by decide +kernel)⟩, big_at 39 (by decide +kernel) (by decide +kernel), big_at 512 (by decide +kernel) (by decide +kernel), ⟨by decide +kernel, by decide +kernel, by decide +kernel⟩, by decide⟩
theorem mf_X1_firstFalse : MfV yX1_firstFalse cX1_firstFalse 2 (some .int) 0 := ⟨⟨big_at 523 (by decide +kernel) (by decide +kernel), big_at 524 (by decide +kernel) (by decide +kernel)⟩, big_at 39 (by decide +kernel) (by decide +kernel), big_at 525 (by decide +kernel) (by decide +kernel), ⟨by decide +kernel, by decide +kernel, by decide +kernel⟩, by decide⟩
theorem mf_X1_line : MfS yX1_line cX1_line 1 (some .int) 1 := ⟨big_at 497 (by decide +kernel) (by decide +kernel), big_at 39 (by decide +kernel) (by decide +kernel), big_at 498 (by decide +kernel) (by decide +kernel), ⟨by decide +kernel, by decide +kernel, by decide +kernel⟩, by decide⟩
theorem mf_X1_open : MfV yX1_open cX1_open 4 none 2 := ⟨⟨big_at 491 (by decide +kernel) (by decide +kernel), big_at 492 (by decide +kernel) (by decide +kernel)⟩, big_at 39 (by decide +kernel) (by decide +kernel), big_at 493 (by decide +kernel) (by decide +kernel), ⟨by decide +kernel, by decide +kernel, by decide +kernel⟩, by decide⟩
theorem mf_X1_sign : MfV yX1_sign cX1_sign 3 (some .int) 1 := ⟨⟨big_at 515 (by decide +kernel) (by decide +kernel), big_at 516 (by decide +kernel) (by decide +kernel)⟩, big_at 39 (by decide +kernel) (by decide +kernel), big_at 517 (by decide +kernel) (by decide +kernel), ⟨by decide +kernel, by decide +kernel, by decide +kernel⟩, by decide⟩
theorem mf_X1_ways : MfS yX1_ways cX1_ways 8 (some .int) 3 := ⟨big_at 502 (by decide +kernel) (by decide +kernel), big_at 39 (by decide +kernel) (by decide +kernel), big_at 503 (by decide +kernel) (by decide +kernel), ⟨by decide +kernel, by decide +kernel, by decide +kernel⟩, by decide⟩
theorem mf_X2_take : MfV yX2_take cX2_take 2 none 1 := ⟨⟨big_at 550 (by decide +kernel) (by decide +kernel), big_at 551 (by decide +kernel) (by decide +kernel)⟩, big_at 33 (by decide +kernel) (by decide +kernel), big_at 552 (by decide +kernel) (by decide +kernel), ⟨by decide +kernel, by decide +kernel, by decide +kernel⟩, by decide⟩
theorem mf_X3_fewestGifts : MfV yX3_fewestGifts cX3_fewestGifts 6 (some .int) 1 := ⟨⟨big_at 476 (by decide +kernel) (by decide +kernel), big_at 477 (by decide +kernel) (by decide +kernel)⟩, big_at 38 (by decide +kernel) (by decide +kernel), big_at 478 (by decide +kernel) (by decide +kernel), ⟨by decide +kernel, by decide +kernel, by decide +kernel⟩, by decide⟩
theorem mf_X3_mostGroups : MfV yX3_mostGroups cX3_mostGroups 4 (some .int) 1 := ⟨⟨big_at 482 (by decide +kernel) (by decide +kernel), big_at 11 (by decide +kernel) (by decide +kernel)⟩, big_at 38 (by decide +kernel) (by decide +kernel), big_at 483 (by decide +kernel) (by decide +kernel), ⟨by decide +kernel, by decide +kernel, by decide +kernel⟩, by decide⟩
theorem mf_X4_add : MfV yX4_add cX4_add 4 (some .boolean) 3 := ⟨⟨big_at 377 (by decide +kernel) (by decide +kernel), big_at 378 (by decide +kernel) (by decide +kernel)⟩, big_at 34 (by decide +kernel) (by decide +kernel), big_at 379 (by decide +kernel) (by decide +kernel), ⟨by decide +kernel, by decide +kernel, by decide +kernel⟩, by decide⟩
theorem mf_X4_allMinutes : MfV yX4_allMinutes cX4_allMinutes 3 (some .int) 0 := ⟨⟨big_at 428 (by decide +kernel) (by decide +kernel), big_at 429 (by decide +kernel) (by decide +kernel)⟩, big_at 34 (by decide +kernel) (by decide +kernel), big_at 430 (by decide +kernel) (by decide +kernel), ⟨by decide +kernel, by decide +kernel, by decide +kernel⟩, by decide⟩
theorem mf_X4_has : MfV yX4_has cX4_has 3 (some .boolean) 1 := ⟨⟨big_at 448 (by decide +kernel) (by decide +kernel), big_at 449 (by decide +kernel) (by decide +kernel)⟩, big_at 34 (by decide +kernel) (by decide +kernel), big_at 450 (by decide +kernel) (by decide +kernel), ⟨by decide +kernel, by decide +kernel, by decide +kernel⟩, by decide⟩
theorem mf_X4_isNext : MfV yX4_isNext cX4_isNext 3 (some .boolean) 2 := ⟨⟨big_at 415 (by decide +kernel) (by decide +kernel), big_at 416 (by decide +kernel) (by decide +kernel)⟩, big_at 34 (by decide +kernel) (by decide +kernel), big_at 417 (by decide +kernel) (by decide +kernel), ⟨by decide +kernel, by decide +kernel, by decide +kernel⟩, by decide⟩
theorem mf_X4_take : MfV yX4_take cX4_take 2 none 1 := ⟨⟨big_at 555 (by decide +kernel) (by decide +kernel), big_at 556 (by decide +kernel) (by decide +kernel)⟩, big_at 34 (by decide +kernel) (by decide +kernel), big_at 557 (by decide +kernel) (by decide +kernel), ⟨by decide +kernel, by decide +kernel, by decide +kernel⟩, by decide⟩
theorem mf_X5_add : MfV yX5_add cX5_add 2 (some .boolean) 1 := ⟨⟨big_at 276 (by decide +kernel) (by decide +kernel), big_at 277 (by decide +kernel) (by decide +kernel)⟩, big_at 35 (by decide +kernel) (by decide +kernel), big_at 278 (by decide +kernel) (by decide +kernel), ⟨by decide +kernel, by decide +kernel, by decide +kernel⟩, by decide⟩
theorem mf_X5_bookFault : MfV yX5_bookFault cX5_bookFault 5 (some .int) 0 := ⟨⟨big_at 305 (by decide +kernel) (by decide +kernel), big_at 306 (by decide +kernel) (by decide +kernel)⟩, big_at 35 (by decide +kernel) (by decide +kernel), big_at 307 (by decide +kernel) (by decide +kernel), ⟨by decide +kernel, by decide +kernel, by decide +kernel⟩, by decide⟩
theorem mf_X5_sign : MfV yX5_sign cX5_sign 2 (some .int) 1 := ⟨⟨big_at 292 (by decide +kernel) (by decide +kernel), big_at 293 (by decide +kernel) (by decide +kernel)⟩, big_at 35 (by decide +kernel) (by decide +kernel), big_at 294 (by decide +kernel) (by decide +kernel), ⟨by decide +kernel, by decide +kernel, by decide +kernel⟩, by decide⟩
theorem mf_X5_sittingFault : MfV yX5_sittingFault cX5_sittingFault 3 (some .int) 0 := ⟨⟨big_at 288 (by decide +kernel) (by decide +kernel), big_at 289 (by decide +kernel) (by decide +kernel)⟩, big_at 35 (by decide +kernel) (by decide +kernel), big_at 290 (by decide +kernel) (by decide +kernel), ⟨by decide +kernel, by decide +kernel, by decide +kernel⟩, by decide⟩
theorem mf_X5_wantedBehind : MfS yX5_wantedBehind cX5_wantedBehind 3 (some .int) 3 := ⟨big_at 296 (by decide +kernel) (by decide +kernel), big_at 35 (by decide +kernel) (by decide +kernel), big_at 297 (by decide +kernel) (by decide +kernel), ⟨by decide +kernel, by decide +kernel, by decide +kernel⟩, by decide⟩
theorem mf_X5_wantedBehindHead : MfS yX5_wantedBehindHead cX5_wantedBehindHead 1 (some .int) 1 := ⟨big_at 299 (by decide +kernel) (by decide +kernel), big_at 35 (by decide +kernel) (by decide +kernel), big_at 300 (by decide +kernel) (by decide +kernel), ⟨by decide +kernel, by decide +kernel, by decide +kernel⟩, by decide⟩
theorem mf_X6_ask : MfV yX6_ask cX6_ask 4 none 3 := ⟨⟨big_at 353 (by decide +kernel) (by decide +kernel), big_at 5 (by decide +kernel) (by decide +kernel)⟩, big_at 36 (by decide +kernel) (by decide +kernel), big_at 354 (by decide +kernel) (by decide +kernel), ⟨by decide +kernel, by decide +kernel, by decide +kernel⟩, by decide⟩
theorem mf_X6_begin : MfV yX6_begin cX6_begin 3 none 1 := ⟨⟨big_at 318 (by decide +kernel) (by decide +kernel), big_at 0 (by decide +kernel) (by decide +kernel)⟩, big_at 36 (by decide +kernel) (by decide +kernel), big_at 319 (by decide +kernel) (by decide +kernel), ⟨by decide +kernel, by decide +kernel, by decide +kernel⟩, by decide⟩
theorem mf_X6_last : MfV yX6_last cX6_last 5 none 2 := ⟨⟨big_at 329 (by decide +kernel) (by decide +kernel), big_at 1 (by decide +kernel) (by decide +kernel)⟩, big_at 36 (by decide +kernel) (by decide +kernel), big_at 330 (by decide +kernel) (by decide +kernel), ⟨by decide +kernel, by decide +kernel, by decide +kernel⟩, by decide⟩
theorem mf_X6_listens : MfV yX6_listens cX6_listens 2 (some .boolean) 1 := ⟨⟨big_at 342 (by decide +kernel) (by decide +kernel), big_at 4 (by decide +kernel) (by decide +kernel)⟩, big_at 36 (by decide +kernel) (by decide +kernel), big_at 343 (by decide +kernel) (by decide +kernel), ⟨by decide +kernel, by decide +kernel, by decide +kernel⟩, by decide⟩
theorem mf_X6_ofAll : MfV yX6_ofAll cX6_ofAll 2 (some .int) 1 := ⟨⟨big_at 360 (by decide +kernel) (by decide +kernel), big_at 361 (by decide +kernel) (by decide +kernel)⟩, big_at 36 (by decide +kernel) (by decide +kernel), big_at 362 (by decide +kernel) (by decide +kernel), ⟨by decide +kernel, by decide +kernel, by decide +kernel⟩, by decide⟩
theorem mf_X6_ofOne : MfV yX6_ofOne cX6_ofOne 3 (some .int) 2 := ⟨⟨big_at 364 (by decide +kernel) (by decide +kernel), big_at 365 (by decide +kernel) (by decide +kernel)⟩, big_at 36 (by decide +kernel) (by decide +kernel), big_at 366 (by decide +kernel) (by decide +kernel), ⟨by decide +kernel, by decide +kernel, by decide +kernel⟩, by decide⟩
theorem mf_X6_pay : MfV yX6_pay cX6_pay 4 (some .boolean) 1 := ⟨⟨big_at 338 (by decide +kernel) (by decide +kernel), big_at 3 (by decide +kernel) (by decide +kernel)⟩, big_at 36 (by decide +kernel) (by decide +kernel), big_at 339 (by decide +kernel) (by decide +kernel), ⟨by decide +kernel, by decide +kernel, by decide +kernel⟩, by decide⟩
theorem mf_X6_run : MfV yX6_run cX6_run 6 none 2 := ⟨⟨big_at 313 (by decide +kernel) (by decide +kernel), big_at 314 (by decide +kernel) (by decide +kernel)⟩, big_at 36 (by decide +kernel) (by decide +kernel), big_at 315 (by decide +kernel) (by decide +kernel), ⟨by decide +kernel, by decide +kernel, by decide +kernel⟩, by decide⟩
theorem mf_X6_speak : MfV yX6_speak cX6_speak 2 none 1 := ⟨⟨big_at 333 (by decide +kernel) (by decide +kernel), big_at 2 (by decide +kernel) (by decide +kernel)⟩, big_at 36 (by decide +kernel) (by decide +kernel), big_at 334 (by decide +kernel) (by decide +kernel), ⟨by decide +kernel, by decide +kernel, by decide +kernel⟩, by decide⟩
theorem mf_X6_stir : MfV yX6_stir cX6_stir 4 none 3 := ⟨⟨big_at 357 (by decide +kernel) (by decide +kernel), big_at 6 (by decide +kernel) (by decide +kernel)⟩, big_at 36 (by decide +kernel) (by decide +kernel), big_at 358 (by decide +kernel) (by decide +kernel), ⟨by decide +kernel, by decide +kernel, by decide +kernel⟩, by decide⟩
theorem mf_X7_about : MfV yX7_about cX7_about 4 (some .int) 2 := ⟨⟨big_at 381 (by decide +kernel) (by decide +kernel), big_at 382 (by decide +kernel) (by decide +kernel)⟩, big_at 32 (by decide +kernel) (by decide +kernel), big_at 383 (by decide +kernel) (by decide +kernel), ⟨by decide +kernel, by decide +kernel, by decide +kernel⟩, by decide⟩
theorem mf_X7_clear : MfV yX7_clear cX7_clear 2 (some .int) 0 := ⟨⟨big_at 385 (by decide +kernel) (by decide +kernel), big_at 386 (by decide +kernel) (by decide +kernel)⟩, big_at 32 (by decide +kernel) (by decide +kernel), big_at 387 (by decide +kernel) (by decide +kernel), ⟨by decide +kernel, by decide +kernel, by decide +kernel⟩, by decide⟩
theorem mf_X7_copyRows : MfS yX7_copyRows cX7_copyRows 4 none 3 := ⟨big_at 321 (by decide +kernel) (by decide +kernel), big_at 32 (by decide +kernel) (by decide +kernel), big_at 322 (by decide +kernel) (by decide +kernel), ⟨by decide +kernel, by decide +kernel, by decide +kernel⟩, by decide⟩
theorem mf_X7_dealt : MfV yX7_dealt cX7_dealt 4 (some .int) 2 := ⟨⟨big_at 440 (by decide +kernel) (by decide +kernel), big_at 441 (by decide +kernel) (by decide +kernel)⟩, big_at 32 (by decide +kernel) (by decide +kernel), big_at 442 (by decide +kernel) (by decide +kernel), ⟨by decide +kernel, by decide +kernel, by decide +kernel⟩, by decide⟩
theorem mf_X7_fault : MfV yX7_fault cX7_fault 2 (some .int) 1 := ⟨⟨big_at 284 (by decide +kernel) (by decide +kernel), big_at 285 (by decide +kernel) (by decide +kernel)⟩, big_at 32 (by decide +kernel) (by decide +kernel), big_at 286 (by decide +kernel) (by decide +kernel), ⟨by decide +kernel, by decide +kernel, by decide +kernel⟩, by decide⟩
theorem mf_X7_filled : MfV yX7_filled cX7_filled 3 (some .int) 2 := ⟨⟨big_at 487 (by decide +kernel) (by decide +kernel), big_at 488 (by decide +kernel) (by decide +kernel)⟩, big_at 32 (by decide +kernel) (by decide +kernel), big_at 489 (by decide +kernel) (by decide +kernel), ⟨by decide +kernel, by decide +kernel, by decide +kernel⟩, by decide⟩
theorem mf_X7_floor : MfV yX7_floor cX7_floor 2 (some .int) 1 := ⟨⟨big_at 527 (by decide +kernel) (by decide +kernel), big_at 528 (by decide +kernel) (by decide +kernel)⟩, big_at 32 (by decide +kernel) (by decide +kernel), big_at 529 (by decide +kernel) (by decide +kernel), ⟨by decide +kernel, by decide +kernel, by decide +kernel⟩, by decide⟩
theorem mf_X7_floorOf : MfV yX7_floorOf cX7_floorOf 4 (some .int) 1 := ⟨⟨big_at 532 (by decide +kernel) (by decide +kernel), big_at 14 (by decide +kernel) (by decide +kernel)⟩, big_at 32 (by decide +kernel) (by decide +kernel), big_at 533 (by decide +kernel) (by decide +kernel), ⟨by decide +kernel, by decide +kernel, by decide +kernel⟩, by decide⟩
theorem mf_X7_friends : MfV yX7_friends cX7_friends 6 (some .int) 2 := ⟨⟨big_at 542 (by decide +kernel) (by decide +kernel), big_at 543 (by decide +kernel) (by decide +kernel)⟩, big_at 32 (by decide +kernel) (by decide +kernel), big_at 544 (by decide +kernel) (by decide +kernel), ⟨by decide +kernel, by decide +kernel, by decide +kernel⟩, by decide⟩
theorem mf_X7_gifts : MfV yX7_gifts cX7_gifts 1 (some .int) 0 := ⟨⟨big_at 472 (by decide +kernel) (by decide +kernel), big_at 473 (by decide +kernel) (by decide +kernel)⟩, big_at 32 (by decide +kernel) (by decide +kernel), big_at 474 (by decide +kernel) (by decide +kernel), ⟨by decide +kernel, by decide +kernel, by decide +kernel⟩, by decide⟩
theorem mf_X7_holds : MfS yX7_holds cX7_holds 2 (some .boolean) 2 := ⟨big_at 419 (by decide +kernel) (by decide +kernel), big_at 32 (by decide +kernel) (by decide +kernel), big_at 420 (by decide +kernel) (by decide +kernel), ⟨by decide +kernel, by decide +kernel, by decide +kernel⟩, by decide⟩
theorem mf_X7_image : MfV yX7_image cX7_image 2 (some .int) 1 := ⟨⟨big_at 546 (by decide +kernel) (by decide +kernel), big_at 547 (by decide +kernel) (by decide +kernel)⟩, big_at 32 (by decide +kernel) (by decide +kernel), big_at 548 (by decide +kernel) (by decide +kernel), ⟨by decide +kernel, by decide +kernel, by decide +kernel⟩, by decide⟩
theorem mf_X7_isOne : MfS yX7_isOne cX7_isOne 1 (some .boolean) 1 := ⟨big_at 263 (by decide +kernel) (by decide +kernel), big_at 32 (by decide +kernel) (by decide +kernel), big_at 264 (by decide +kernel) (by decide +kernel), ⟨by decide +kernel, by decide +kernel, by decide +kernel⟩, by decide⟩
theorem mf_X7_isOneSign : MfS yX7_isOneSign cX7_isOneSign 1 (some .boolean) 1 := ⟨big_at 302 (by decide +kernel) (by decide +kernel), big_at 32 (by decide +kernel) (by decide +kernel), big_at 303 (by decide +kernel) (by decide +kernel), ⟨by decide +kernel, by decide +kernel, by decide +kernel⟩, by decide⟩
theorem mf_X7_law : MfV yX7_law cX7_law 4 (some .int) 2 := ⟨⟨big_at 268 (by decide +kernel) (by decide +kernel), big_at 269 (by decide +kernel) (by decide +kernel)⟩, big_at 32 (by decide +kernel) (by decide +kernel), big_at 270 (by decide +kernel) (by decide +kernel), ⟨by decide +kernel, by decide +kernel, by decide +kernel⟩, by decide⟩
theorem mf_X7_least : MfV yX7_least cX7_least 4 (some .int) 1 := ⟨⟨big_at 389 (by decide +kernel) (by decide +kernel), big_at 390 (by decide +kernel) (by decide +kernel)⟩, big_at 32 (by decide +kernel) (by decide +kernel), big_at 391 (by decide +kernel) (by decide +kernel), ⟨by decide +kernel, by decide +kernel, by decide +kernel⟩, by decide⟩
theorem mf_X7_lend : MfV yX7_lend cX7_lend 5 (some .int) 3 := ⟨⟨big_at 461 (by decide +kernel) (by decide +kernel), big_at 462 (by decide +kernel) (by decide +kernel)⟩, big_at 32 (by decide +kernel) (by decide +kernel), big_at 463 (by decide +kernel) (by decide +kernel), ⟨by decide +kernel, by decide +kernel, by decide +kernel⟩, by decide⟩
theorem mf_X7_lie : MfV yX7_lie cX7_lie 1 (some .int) 0 := ⟨⟨big_at 519 (by decide +kernel) (by decide +kernel), big_at 520 (by decide +kernel) (by decide +kernel)⟩, big_at 32 (by decide +kernel) (by decide +kernel), big_at 521 (by decide +kernel) (by decide +kernel), ⟨by decide +kernel, by decide +kernel, by decide +kernel⟩, by decide⟩
theorem mf_X7_matter : MfV yX7_matter cX7_matter 5 (some .int) 3 := ⟨⟨big_at 373 (by decide +kernel) (by decide +kernel), big_at 374 (by decide +kernel) (by decide +kernel)⟩, big_at 32 (by decide +kernel) (by decide +kernel), big_at 375 (by decide +kernel) (by decide +kernel), ⟨by decide +kernel, by decide +kernel, by decide +kernel⟩, by decide⟩
theorem mf_X7_net : MfV yX7_net cX7_net 2 (some .int) 1 := ⟨⟨big_at 465 (by decide +kernel) (by decide +kernel), big_at 466 (by decide +kernel) (by decide +kernel)⟩, big_at 32 (by decide +kernel) (by decide +kernel), big_at 467 (by decide +kernel) (by decide +kernel), ⟨by decide +kernel, by decide +kernel, by decide +kernel⟩, by decide⟩
theorem mf_X7_netOf : MfS yX7_netOf cX7_netOf 4 (some .int) 2 := ⟨big_at 469 (by decide +kernel) (by decide +kernel), big_at 32 (by decide +kernel) (by decide +kernel), big_at 470 (by decide +kernel) (by decide +kernel), ⟨by decide +kernel, by decide +kernel, by decide +kernel⟩, by decide⟩
theorem mf_X7_restore : MfV yX7_restore cX7_restore 2 (some .int) 1 := ⟨⟨big_at 560 (by decide +kernel) (by decide +kernel), big_at 561 (by decide +kernel) (by decide +kernel)⟩, big_at 32 (by decide +kernel) (by decide +kernel), big_at 562 (by decide +kernel) (by decide +kernel), ⟨by decide +kernel, by decide +kernel, by decide +kernel⟩, by decide⟩
theorem mf_X7_say : MfV yX7_say cX7_say 2 (some .int) 1 := ⟨⟨big_at 272 (by decide +kernel) (by decide +kernel), big_at 273 (by decide +kernel) (by decide +kernel)⟩, big_at 32 (by decide +kernel) (by decide +kernel), big_at 274 (by decide +kernel) (by decide +kernel), ⟨by decide +kernel, by decide +kernel, by decide +kernel⟩, by decide⟩
theorem mf_X7_set : MfV yX7_set cX7_set 5 (some .int) 3 := ⟨⟨big_at 259 (by decide +kernel) (by decide +kernel), big_at 260 (by decide +kernel) (by decide +kernel)⟩, big_at 32 (by decide +kernel) (by decide +kernel), big_at 261 (by decide +kernel) (by decide +kernel), ⟨by decide +kernel, by decide +kernel, by decide +kernel⟩, by decide⟩
theorem mf_X7_sit : MfV yX7_sit cX7_sit 1 (some .int) 0 := ⟨⟨big_at 368 (by decide +kernel) (by decide +kernel), big_at 369 (by decide +kernel) (by decide +kernel)⟩, big_at 32 (by decide +kernel) (by decide +kernel), big_at 370 (by decide +kernel) (by decide +kernel), ⟨by decide +kernel, by decide +kernel, by decide +kernel⟩, by decide⟩
theorem mf_X7_sits : MfV yX7_sits cX7_sits 4 (some .int) 1 := ⟨⟨big_at 309 (by decide +kernel) (by decide +kernel), big_at 310 (by decide +kernel) (by decide +kernel)⟩, big_at 32 (by decide +kernel) (by decide +kernel), big_at 311 (by decide +kernel) (by decide +kernel), ⟨by decide +kernel, by decide +kernel, by decide +kernel⟩, by decide⟩
theorem mf_X7_told : MfV yX7_told cX7_told 2 (some .int) 1 := ⟨⟨big_at 564 (by decide +kernel) (by decide +kernel), big_at 565 (by decide +kernel) (by decide +kernel)⟩, big_at 32 (by decide +kernel) (by decide +kernel), big_at 566 (by decide +kernel) (by decide +kernel), ⟨by decide +kernel, by decide +kernel, by decide +kernel⟩, by decide⟩
theorem mf_X7_wipe : MfV yX7_wipe cX7_wipe 2 (some .int) 0 := ⟨⟨big_at 280 (by decide +kernel) (by decide +kernel), big_at 281 (by decide +kernel) (by decide +kernel)⟩, big_at 32 (by decide +kernel) (by decide +kernel), big_at 282 (by decide +kernel) (by decide +kernel), ⟨by decide +kernel, by decide +kernel, by decide +kernel⟩, by decide⟩
theorem mf_X8_about : MfV yX8_about cX8_about 3 (some .int) 2 := ⟨⟨big_at 716 (by decide +kernel) (by decide +kernel), big_at 717 (by decide +kernel) (by decide +kernel)⟩, big_at 40 (by decide +kernel) (by decide +kernel), big_at 718 (by decide +kernel) (by decide +kernel), ⟨by decide +kernel, by decide +kernel, by decide +kernel⟩, by decide⟩
theorem mf_X8_act : MfV yX8_act cX8_act 4 none 2 := ⟨⟨big_at 697 (by decide +kernel) (by decide +kernel), big_at 19 (by decide +kernel) (by decide +kernel)⟩, big_at 40 (by decide +kernel) (by decide +kernel), big_at 698 (by decide +kernel) (by decide +kernel), ⟨by decide +kernel, by decide +kernel, by decide +kernel⟩, by decide⟩
theorem mf_X8_asSaved : MfV yX8_asSaved cX8_asSaved 2 none 0 := ⟨⟨big_at 729 (by decide +kernel) (by decide +kernel), big_at 22 (by decide +kernel) (by decide +kernel)⟩, big_at 40 (by decide +kernel) (by decide +kernel), big_at 730 (by decide +kernel) (by decide +kernel), ⟨by decide +kernel, by decide +kernel, by decide +kernel⟩, by decide⟩
theorem mf_X8_bits : MfS yX8_bits cX8_bits 3 (some .int) 1 := ⟨big_at 798 (by decide +kernel) (by decide +kernel), big_at 40 (by decide +kernel) (by decide +kernel), big_at 799 (by decide +kernel) (by decide +kernel), ⟨by decide +kernel, by decide +kernel, by decide +kernel⟩, by decide⟩
theorem mf_X8_bookFault : MfV yX8_bookFault cX8_bookFault 3 (some .int) 0 := ⟨⟨big_at 681 (by decide +kernel) (by decide +kernel), big_at 16 (by decide +kernel) (by decide +kernel)⟩, big_at 40 (by decide +kernel) (by decide +kernel), big_at 682 (by decide +kernel) (by decide +kernel), ⟨by decide +kernel, by decide +kernel, by decide +kernel⟩, by decide⟩
theorem mf_X8_clear : MfV yX8_clear cX8_clear 2 (some .int) 0 := ⟨⟨big_at 720 (by decide +kernel) (by decide +kernel), big_at 721 (by decide +kernel) (by decide +kernel)⟩, big_at 40 (by decide +kernel) (by decide +kernel), big_at 722 (by decide +kernel) (by decide +kernel), ⟨by decide +kernel, by decide +kernel, by decide +kernel⟩, by decide⟩
theorem mf_X8_dealt : MfV yX8_dealt cX8_dealt 11 (some .int) 2 := ⟨⟨big_at 749 (by decide +kernel) (by decide +kernel), big_at 750 (by decide +kernel) (by decide +kernel)⟩, big_at 40 (by decide +kernel) (by decide +kernel), big_at 751 (by decide +kernel) (by decide +kernel), ⟨by decide +kernel, by decide +kernel, by decide +kernel⟩, by decide⟩
theorem mf_X8_endOf : MfV yX8_endOf cX8_endOf 7 (some .int) 3 := ⟨⟨big_at 742 (by decide +kernel) (by decide +kernel), big_at 25 (by decide +kernel) (by decide +kernel)⟩, big_at 40 (by decide +kernel) (by decide +kernel), big_at 743 (by decide +kernel) (by decide +kernel), ⟨by decide +kernel, by decide +kernel, by decide +kernel⟩, by decide⟩
theorem mf_X8_fault : MfV yX8_fault cX8_fault 2 (some .int) 1 := ⟨⟨big_at 666 (by decide +kernel) (by decide +kernel), big_at 667 (by decide +kernel) (by decide +kernel)⟩, big_at 40 (by decide +kernel) (by decide +kernel), big_at 668 (by decide +kernel) (by decide +kernel), ⟨by decide +kernel, by decide +kernel, by decide +kernel⟩, by decide⟩
theorem mf_X8_filled : MfV yX8_filled cX8_filled 5 (some .int) 2 := ⟨⟨big_at 769 (by decide +kernel) (by decide +kernel), big_at 770 (by decide +kernel) (by decide +kernel)⟩, big_at 40 (by decide +kernel) (by decide +kernel), big_at 771 (by decide +kernel) (by decide +kernel), ⟨by decide +kernel, by decide +kernel, by decide +kernel⟩, by decide⟩
theorem mf_X8_floor : MfV yX8_floor cX8_floor 2 (some .int) 1 := ⟨⟨big_at 785 (by decide +kernel) (by decide +kernel), big_at 786 (by decide +kernel) (by decide +kernel)⟩, big_at 40 (by decide +kernel) (by decide +kernel), big_at 787 (by decide +kernel) (by decide +kernel), ⟨by decide +kernel, by decide +kernel, by decide +kernel⟩, by decide⟩
theorem mf_X8_floorOf : MfV yX8_floorOf cX8_floorOf 6 (some .int) 1 := ⟨⟨big_at 790 (by decide +kernel) (by decide +kernel), big_at 30 (by decide +kernel) (by decide +kernel)⟩, big_at 40 (by decide +kernel) (by decide +kernel), big_at 791 (by decide +kernel) (by decide +kernel), ⟨by decide +kernel, by decide +kernel, by decide +kernel⟩, by decide⟩
theorem mf_X8_friends : MfV yX8_friends cX8_friends 6 (some .int) 2 := ⟨⟨big_at 794 (by decide +kernel) (by decide +kernel), big_at 795 (by decide +kernel) (by decide +kernel)⟩, big_at 40 (by decide +kernel) (by decide +kernel), big_at 796 (by decide +kernel) (by decide +kernel), ⟨by decide +kernel, by decide +kernel, by decide +kernel⟩, by decide⟩
theorem mf_X8_gifts : MfV yX8_gifts cX8_gifts 8 (some .int) 0 := ⟨⟨big_at 765 (by decide +kernel) (by decide +kernel), big_at 766 (by decide +kernel) (by decide +kernel)⟩, big_at 40 (by decide +kernel) (by decide +kernel), big_at 767 (by decide +kernel) (by decide +kernel), ⟨by decide +kernel, by decide +kernel, by decide +kernel⟩, by decide⟩
theorem mf_X8_holds : MfV yX8_holds cX8_holds 4 (some .int) 0 := ⟨⟨big_at 778 (by decide +kernel) (by decide +kernel), big_at 29 (by decide +kernel) (by decide +kernel)⟩, big_at 40 (by decide +kernel) (by decide +kernel), big_at 779 (by decide +kernel) (by decide +kernel), ⟨by decide +kernel, by decide +kernel, by decide +kernel⟩, by decide⟩
theorem mf_X8_image : MfV yX8_image cX8_image 4 (some .int) 1 := ⟨⟨big_at 801 (by decide +kernel) (by decide +kernel), big_at 802 (by decide +kernel) (by decide +kernel)⟩, big_at 40 (by decide +kernel) (by decide +kernel), big_at 803 (by decide +kernel) (by decide +kernel), ⟨by decide +kernel, by decide +kernel, by decide +kernel⟩, by decide⟩
theorem mf_X8_in : MfS yX8_in cX8_in 3 (some .boolean) 3 := ⟨big_at 648 (by decide +kernel) (by decide +kernel), big_at 40 (by decide +kernel) (by decide +kernel), big_at 649 (by decide +kernel) (by decide +kernel), ⟨by decide +kernel, by decide +kernel, by decide +kernel⟩, by decide⟩
theorem mf_X8_isAct : MfS yX8_isAct cX8_isAct 1 (some .boolean) 1 := ⟨big_at 677 (by decide +kernel) (by decide +kernel), big_at 40 (by decide +kernel) (by decide +kernel), big_at 678 (by decide +kernel) (by decide +kernel), ⟨by decide +kernel, by decide +kernel, by decide +kernel⟩, by decide⟩
theorem mf_X8_isName : MfS yX8_isName cX8_isName 1 (some .boolean) 1 := ⟨big_at 674 (by decide +kernel) (by decide +kernel), big_at 40 (by decide +kernel) (by decide +kernel), big_at 675 (by decide +kernel) (by decide +kernel), ⟨by decide +kernel, by decide +kernel, by decide +kernel⟩, by decide⟩
theorem mf_X8_isOne : MfS yX8_isOne cX8_isOne 1 (some .boolean) 1 := ⟨big_at 645 (by decide +kernel) (by decide +kernel), big_at 40 (by decide +kernel) (by decide +kernel), big_at 646 (by decide +kernel) (by decide +kernel), ⟨by decide +kernel, by decide +kernel, by decide +kernel⟩, by decide⟩
theorem mf_X8_law : MfV yX8_law cX8_law 4 (some .int) 2 := ⟨⟨big_at 654 (by decide +kernel) (by decide +kernel), big_at 655 (by decide +kernel) (by decide +kernel)⟩, big_at 40 (by decide +kernel) (by decide +kernel), big_at 656 (by decide +kernel) (by decide +kernel), ⟨by decide +kernel, by decide +kernel, by decide +kernel⟩, by decide⟩
theorem mf_X8_layLine : MfV yX8_layLine cX8_layLine 4 (some .int) 1 := ⟨⟨big_at 774 (by decide +kernel) (by decide +kernel), big_at 28 (by decide +kernel) (by decide +kernel)⟩, big_at 40 (by decide +kernel) (by decide +kernel), big_at 775 (by decide +kernel) (by decide +kernel), ⟨by decide +kernel, by decide +kernel, by decide +kernel⟩, by decide⟩
theorem mf_X8_least : MfV yX8_least cX8_least 9 (some .int) 1 := ⟨⟨big_at 724 (by decide +kernel) (by decide +kernel), big_at 725 (by decide +kernel) (by decide +kernel)⟩, big_at 40 (by decide +kernel) (by decide +kernel), big_at 726 (by decide +kernel) (by decide +kernel), ⟨by decide +kernel, by decide +kernel, by decide +kernel⟩, by decide⟩
theorem mf_X8_leastFrom : MfV yX8_leastFrom cX8_leastFrom 8 (some .int) 2 := ⟨⟨big_at 733 (by decide +kernel) (by decide +kernel), big_at 23 (by decide +kernel) (by decide +kernel)⟩, big_at 40 (by decide +kernel) (by decide +kernel), big_at 734 (by decide +kernel) (by decide +kernel), ⟨by decide +kernel, by decide +kernel, by decide +kernel⟩, by decide⟩
theorem mf_X8_lend : MfV yX8_lend cX8_lend 5 (some .int) 3 := ⟨⟨big_at 753 (by decide +kernel) (by decide +kernel), big_at 754 (by decide +kernel) (by decide +kernel)⟩, big_at 40 (by decide +kernel) (by decide +kernel), big_at 755 (by decide +kernel) (by decide +kernel), ⟨by decide +kernel, by decide +kernel, by decide +kernel⟩, by decide⟩
theorem mf_X8_lie : MfV yX8_lie cX8_lie 4 (some .int) 0 := ⟨⟨big_at 781 (by decide +kernel) (by decide +kernel), big_at 782 (by decide +kernel) (by decide +kernel)⟩, big_at 40 (by decide +kernel) (by decide +kernel), big_at 783 (by decide +kernel) (by decide +kernel), ⟨by decide +kernel, by decide +kernel, by decide +kernel⟩, by decide⟩
theorem mf_X8_listens : MfV yX8_listens cX8_listens 2 (some .boolean) 1 := ⟨⟨big_at 693 (by decide +kernel) (by decide +kernel), big_at 18 (by decide +kernel) (by decide +kernel)⟩, big_at 40 (by decide +kernel) (by decide +kernel), big_at 694 (by decide +kernel) (by decide +kernel), ⟨by decide +kernel, by decide +kernel, by decide +kernel⟩, by decide⟩
theorem mf_X8_matter : MfV yX8_matter cX8_matter 4 (some .int) 3 := ⟨⟨big_at 712 (by decide +kernel) (by decide +kernel), big_at 713 (by decide +kernel) (by decide +kernel)⟩, big_at 40 (by decide +kernel) (by decide +kernel), big_at 714 (by decide +kernel) (by decide +kernel), ⟨by decide +kernel, by decide +kernel, by decide +kernel⟩, by decide⟩
theorem mf_X8_mayBegin : MfV yX8_mayBegin cX8_mayBegin 3 (some .boolean) 2 := ⟨⟨big_at 738 (by decide +kernel) (by decide +kernel), big_at 24 (by decide +kernel) (by decide +kernel)⟩, big_at 40 (by decide +kernel) (by decide +kernel), big_at 739 (by decide +kernel) (by decide +kernel), ⟨by decide +kernel, by decide +kernel, by decide +kernel⟩, by decide⟩
theorem mf_X8_mostOf : MfS yX8_mostOf cX8_mostOf 1 (some .int) 1 := ⟨big_at 651 (by decide +kernel) (by decide +kernel), big_at 40 (by decide +kernel) (by decide +kernel), big_at 652 (by decide +kernel) (by decide +kernel), ⟨by decide +kernel, by decide +kernel, by decide +kernel⟩, by decide⟩
theorem mf_X8_net : MfV yX8_net cX8_net 2 (some .int) 1 := ⟨⟨big_at 757 (by decide +kernel) (by decide +kernel), big_at 758 (by decide +kernel) (by decide +kernel)⟩, big_at 40 (by decide +kernel) (by decide +kernel), big_at 759 (by decide +kernel) (by decide +kernel), ⟨by decide +kernel, by decide +kernel, by decide +kernel⟩, by decide⟩
theorem mf_X8_netOf : MfV yX8_netOf cX8_netOf 4 (some .int) 1 := ⟨⟨big_at 762 (by decide +kernel) (by decide +kernel), big_at 27 (by decide +kernel) (by decide +kernel)⟩, big_at 40 (by decide +kernel) (by decide +kernel), big_at 763 (by decide +kernel) (by decide +kernel), ⟨by decide +kernel, by decide +kernel, by decide +kernel⟩, by decide⟩
theorem mf_X8_restore : MfV yX8_restore cX8_restore 4 (some .int) 1 := ⟨⟨big_at 805 (by decide +kernel) (by decide +kernel), big_at 806 (by decide +kernel) (by decide +kernel)⟩, big_at 40 (by decide +kernel) (by decide +kernel), big_at 807 (by decide +kernel) (by decide +kernel), ⟨by decide +kernel, by decide +kernel, by decide +kernel⟩, by decide⟩
theorem mf_X8_save : MfV yX8_save cX8_save 3 none 1 := ⟨⟨big_at 701 (by decide +kernel) (by decide +kernel), big_at 20 (by decide +kernel) (by decide +kernel)⟩, big_at 40 (by decide +kernel) (by decide +kernel), big_at 702 (by decide +kernel) (by decide +kernel), ⟨by decide +kernel, by decide +kernel, by decide +kernel⟩, by decide⟩
theorem mf_X8_say : MfV yX8_say cX8_say 2 (some .int) 1 := ⟨⟨big_at 658 (by decide +kernel) (by decide +kernel), big_at 659 (by decide +kernel) (by decide +kernel)⟩, big_at 40 (by decide +kernel) (by decide +kernel), big_at 660 (by decide +kernel) (by decide +kernel), ⟨by decide +kernel, by decide +kernel, by decide +kernel⟩, by decide⟩
theorem mf_X8_set : MfV yX8_set cX8_set 5 (some .int) 3 := ⟨⟨big_at 641 (by decide +kernel) (by decide +kernel), big_at 642 (by decide +kernel) (by decide +kernel)⟩, big_at 40 (by decide +kernel) (by decide +kernel), big_at 643 (by decide +kernel) (by decide +kernel), ⟨by decide +kernel, by decide +kernel, by decide +kernel⟩, by decide⟩
theorem mf_X8_sit : MfV yX8_sit cX8_sit 2 (some .int) 0 := ⟨⟨big_at 708 (by decide +kernel) (by decide +kernel), big_at 709 (by decide +kernel) (by decide +kernel)⟩, big_at 40 (by decide +kernel) (by decide +kernel), big_at 710 (by decide +kernel) (by decide +kernel), ⟨by decide +kernel, by decide +kernel, by decide +kernel⟩, by decide⟩
theorem mf_X8_sitThrough : MfV yX8_sitThrough cX8_sitThrough 5 none 0 := ⟨⟨big_at 689 (by decide +kernel) (by decide +kernel), big_at 17 (by decide +kernel) (by decide +kernel)⟩, big_at 40 (by decide +kernel) (by decide +kernel), big_at 690 (by decide +kernel) (by decide +kernel), ⟨by decide +kernel, by decide +kernel, by decide +kernel⟩, by decide⟩
theorem mf_X8_sits : MfV yX8_sits cX8_sits 4 (some .int) 1 := ⟨⟨big_at 684 (by decide +kernel) (by decide +kernel), big_at 685 (by decide +kernel) (by decide +kernel)⟩, big_at 40 (by decide +kernel) (by decide +kernel), big_at 686 (by decide +kernel) (by decide +kernel), ⟨by decide +kernel, by decide +kernel, by decide +kernel⟩, by decide⟩
theorem mf_X8_sittingFault : MfV yX8_sittingFault cX8_sittingFault 5 (some .int) 0 := ⟨⟨big_at 671 (by decide +kernel) (by decide +kernel), big_at 15 (by decide +kernel) (by decide +kernel)⟩, big_at 40 (by decide +kernel) (by decide +kernel), big_at 672 (by decide +kernel) (by decide +kernel), ⟨by decide +kernel, by decide +kernel, by decide +kernel⟩, by decide⟩
theorem mf_X8_speak : MfV yX8_speak cX8_speak 4 none 1 := ⟨⟨big_at 705 (by decide +kernel) (by decide +kernel), big_at 21 (by decide +kernel) (by decide +kernel)⟩, big_at 40 (by decide +kernel) (by decide +kernel), big_at 706 (by decide +kernel) (by decide +kernel), ⟨by decide +kernel, by decide +kernel, by decide +kernel⟩, by decide⟩
theorem mf_X8_spokenBy : MfV yX8_spokenBy cX8_spokenBy 5 (some .int) 2 := ⟨⟨big_at 746 (by decide +kernel) (by decide +kernel), big_at 26 (by decide +kernel) (by decide +kernel)⟩, big_at 40 (by decide +kernel) (by decide +kernel), big_at 747 (by decide +kernel) (by decide +kernel), ⟨by decide +kernel, by decide +kernel, by decide +kernel⟩, by decide⟩
theorem mf_X8_told : MfV yX8_told cX8_told 2 (some .int) 1 := ⟨⟨big_at 809 (by decide +kernel) (by decide +kernel), big_at 810 (by decide +kernel) (by decide +kernel)⟩, big_at 40 (by decide +kernel) (by decide +kernel), big_at 811 (by decide +kernel) (by decide +kernel), ⟨by decide +kernel, by decide +kernel, by decide +kernel⟩, by decide⟩
theorem mf_X8_wipe : MfV yX8_wipe cX8_wipe 2 (some .int) 0 := ⟨⟨big_at 662 (by decide +kernel) (by decide +kernel), big_at 663 (by decide +kernel) (by decide +kernel)⟩, big_at 40 (by decide +kernel) (by decide +kernel), big_at 664 (by decide +kernel) (by decide +kernel), ⟨by decide +kernel, by decide +kernel, by decide +kernel⟩, by decide⟩
theorem ml_X0_3 : Cond.methodLink RX0 3 objectInit ∈ BIG := big_at 160 (by decide +kernel) (by decide +kernel)
theorem fl_X0_9 : Cond.fieldLink RX0 9 (TX0 0).1 (TX0 0).2.1 (TX0 0).2.2.1 ∈ BIG := big_at 162 (by decide +kernel) (by decide +kernel)
theorem fl_X0_15 : Cond.fieldLink RX0 15 (TX0 1).1 (TX0 1).2.1 (TX0 1).2.2.1 ∈ BIG := big_at 164 (by decide +kernel) (by decide +kernel)
theorem cst_X0_18 : Cond.constant RX0 18 (Int32.ofInt 1000000) ∈ BIG := big_at 161 (by decide +kernel) (by decide +kernel)
theorem fl_X0_19 : Cond.fieldLink RX0 19 (TX0 2).1 (TX0 2).2.1 (TX0 2).2.2.1 ∈ BIG := big_at 166 (by decide +kernel) (by decide +kernel)
theorem fl_X0_23 : Cond.fieldLink RX0 23 (TX0 3).1 (TX0 3).2.1 (TX0 3).2.2.1 ∈ BIG := big_at 168 (by decide +kernel) (by decide +kernel)
theorem fl_X0_26 : Cond.fieldLink RX0 26 (TX0 4).1 (TX0 4).2.1 (TX0 4).2.2.1 ∈ BIG := big_at 170 (by decide +kernel) (by decide +kernel)
theorem fl_X0_29 : Cond.fieldLink RX0 29 (TX0 5).1 (TX0 5).2.1 (TX0 5).2.2.1 ∈ BIG := big_at 171 (by decide +kernel) (by decide +kernel)
theorem fl_X0_32 : Cond.fieldLink RX0 32 (TX0 6).1 (TX0 6).2.1 (TX0 6).2.2.1 ∈ BIG := big_at 172 (by decide +kernel) (by decide +kernel)
theorem fl_X0_35 : Cond.fieldLink RX0 35 (TX0 7).1 (TX0 7).2.1 (TX0 7).2.2.1 ∈ BIG := big_at 173 (by decide +kernel) (by decide +kernel)
theorem fl_X0_38 : Cond.fieldLink RX0 38 (TX0 8).1 (TX0 8).2.1 (TX0 8).2.2.1 ∈ BIG := big_at 174 (by decide +kernel) (by decide +kernel)
theorem fl_X0_42 : Cond.fieldLink RX0 42 (TX0 9).1 (TX0 9).2.1 (TX0 9).2.2.1 ∈ BIG := big_at 175 (by decide +kernel) (by decide +kernel)
theorem fl_X0_45 : Cond.fieldLink RX0 45 (TX4 3).1 (TX4 3).2.1 (TX4 3).2.2.1 ∈ BIG := big_at 75 (by decide +kernel) (by decide +kernel)
theorem fl_X0_50 : Cond.fieldLink RX0 50 (TX4 1).1 (TX4 1).2.1 (TX4 1).2.2.1 ∈ BIG := big_at 70 (by decide +kernel) (by decide +kernel)
theorem ml_X0_53 : Cond.methodLink RX0 53 arraycopyName ∈ BIG := big_at 396 (by decide +kernel) (by decide +kernel)
theorem ml_X0_59 : Cond.methodLink RX0 59 yX0_needBehind ∈ BIG := big_at 397 (by decide +kernel) (by decide +kernel)
theorem fl_X0_63 : Cond.fieldLink RX0 63 (TX4 0).1 (TX4 0).2.1 (TX4 0).2.2.1 ∈ BIG := big_at 67 (by decide +kernel) (by decide +kernel)
theorem ml_X0_66 : Cond.methodLink RX0 66 yX4_has ∈ BIG := big_at 447 (by decide +kernel) (by decide +kernel)
theorem ml_X0_70 : Cond.methodLink RX0 70 yX0_lengthen ∈ BIG := big_at 410 (by decide +kernel) (by decide +kernel)
theorem ml_X0_74 : Cond.methodLink RX0 74 yX4_isNext ∈ BIG := big_at 414 (by decide +kernel) (by decide +kernel)
theorem ml_X0_78 : Cond.methodLink RX0 78 yX0_lack ∈ BIG := big_at 421 (by decide +kernel) (by decide +kernel)
theorem ml_X0_82 : Cond.methodLink RX0 82 Lib.Math.max.name ∈ BIG := big_at 425 (by decide +kernel) (by decide +kernel)
theorem ml_X0_88 : Cond.methodLink RX0 88 Lib.Math.min.name ∈ BIG := big_at 426 (by decide +kernel) (by decide +kernel)
theorem ml_X0_91 : Cond.methodLink RX0 91 yX0_findNext ∈ BIG := big_at 435 (by decide +kernel) (by decide +kernel)
theorem ml_X0_94 : Cond.methodLink RX0 94 yX0_deal ∈ BIG := big_at 456 (by decide +kernel) (by decide +kernel)
theorem ml_X0_98 : Cond.methodLink RX0 98 yX0_leastPause ∈ BIG := big_at 459 (by decide +kernel) (by decide +kernel)
theorem ml_X1_3 : Cond.methodLink RX1 3 objectInit ∈ BIG := big_at 215 (by decide +kernel) (by decide +kernel)
theorem fl_X1_9 : Cond.fieldLink RX1 9 (TX1 0).1 (TX1 0).2.1 (TX1 0).2.2.1 ∈ BIG := big_at 216 (by decide +kernel) (by decide +kernel)
theorem fl_X1_15 : Cond.fieldLink RX1 15 (TX1 1).1 (TX1 1).2.1 (TX1 1).2.2.1 ∈ BIG := big_at 217 (by decide +kernel) (by decide +kernel)
theorem fl_X1_19 : Cond.fieldLink RX1 19 (TX1 2).1 (TX1 2).2.1 (TX1 2).2.2.1 ∈ BIG := big_at 219 (by decide +kernel) (by decide +kernel)
theorem fl_X1_22 : Cond.fieldLink RX1 22 (TX1 3).1 (TX1 3).2.1 (TX1 3).2.2.1 ∈ BIG := big_at 220 (by decide +kernel) (by decide +kernel)
theorem fl_X1_25 : Cond.fieldLink RX1 25 (TX1 4).1 (TX1 4).2.1 (TX1 4).2.2.1 ∈ BIG := big_at 221 (by decide +kernel) (by decide +kernel)
theorem fl_X1_28 : Cond.fieldLink RX1 28 (TX5 1).1 (TX5 1).2.1 (TX5 1).2.2.1 ∈ BIG := big_at 120 (by decide +kernel) (by decide +kernel)
theorem ml_X1_33 : Cond.methodLink RX1 33 Lib.Math.min.name ∈ BIG := big_at 494 (by decide +kernel) (by decide +kernel)
theorem ml_X1_39 : Cond.methodLink RX1 39 yX5_sign ∈ BIG := big_at 495 (by decide +kernel) (by decide +kernel)
theorem ml_X1_43 : Cond.methodLink RX1 43 yX1_line ∈ BIG := big_at 496 (by decide +kernel) (by decide +kernel)
theorem ml_X1_46 : Cond.methodLink RX1 46 arraycopyName ∈ BIG := big_at 500 (by decide +kernel) (by decide +kernel)
theorem ml_X1_52 : Cond.methodLinkNest RX1 52 yX7_isOne "SilentCouncil" ∈ lw_tbl := List.mem_of_getElem? (i := 508) (by decide +kernel)
theorem ml_X1_56 : Cond.methodLink RX1 56 yX1_canSpeak ∈ BIG := big_at 504 (by decide +kernel) (by decide +kernel)
theorem ml_X1_60 : Cond.methodLink RX1 60 yX1_count ∈ BIG := big_at 509 (by decide +kernel) (by decide +kernel)
theorem ml_X1_63 : Cond.methodLink RX1 63 yX1_ways ∈ BIG := big_at 513 (by decide +kernel) (by decide +kernel)
theorem ml_X1_67 : Cond.methodLinkNest RX1 67 yX7_isOneSign "SilentCouncil" ∈ lw_tbl := List.mem_of_getElem? (i := 499) (by decide +kernel)
theorem ml_X2_3 : Cond.methodLink RX2 3 objectInit ∈ BIG := big_at 57 (by decide +kernel) (by decide +kernel)
theorem fl_X2_11 : Cond.fieldLink RX2 11 (TX2 0).1 (TX2 0).2.1 (TX2 0).2.2.1 ∈ BIG := big_at 87 (by decide +kernel) (by decide +kernel)
theorem fl_X2_16 : Cond.fieldLink RX2 16 (TX2 1).1 (TX2 1).2.1 (TX2 1).2.2.1 ∈ BIG := big_at 90 (by decide +kernel) (by decide +kernel)
theorem ml_X2_21 : Cond.methodLinkNest RX2 21 yX4_init "SilentCouncil" ∈ lw_tbl := List.mem_of_getElem? (i := 62) (by decide +kernel)
theorem fl_X2_22 : Cond.fieldLink RX2 22 (TX2 2).1 (TX2 2).2.1 (TX2 2).2.2.1 ∈ BIG := big_at 92 (by decide +kernel) (by decide +kernel)
theorem fl_X2_26 : Cond.fieldLink RX2 26 (TX2 3).1 (TX2 3).2.1 (TX2 3).2.2.1 ∈ BIG := big_at 94 (by decide +kernel) (by decide +kernel)
theorem fl_X2_30 : Cond.fieldLink RX2 30 (TX2 4).1 (TX2 4).2.1 (TX2 4).2.2.1 ∈ BIG := big_at 97 (by decide +kernel) (by decide +kernel)
theorem ml_X2_33 : Cond.methodLinkNest RX2 33 yX7_copyRows "SilentCouncil" ∈ lw_tbl := List.mem_of_getElem? (i := 553) (by decide +kernel)
theorem ml_X2_37 : Cond.methodLink RX2 37 yX4_take ∈ BIG := big_at 554 (by decide +kernel) (by decide +kernel)
theorem ml_X3_3 : Cond.methodLink RX3 3 objectInit ∈ BIG := big_at 202 (by decide +kernel) (by decide +kernel)
theorem fl_X3_9 : Cond.fieldLink RX3 9 (TX3 0).1 (TX3 0).2.1 (TX3 0).2.2.1 ∈ BIG := big_at 203 (by decide +kernel) (by decide +kernel)
theorem fl_X3_15 : Cond.fieldLink RX3 15 (TX3 1).1 (TX3 1).2.1 (TX3 1).2.2.1 ∈ BIG := big_at 204 (by decide +kernel) (by decide +kernel)
theorem ml_X3_18 : Cond.methodLinkNest RX3 18 yX7_netOf "SilentCouncil" ∈ lw_tbl := List.mem_of_getElem? (i := 479) (by decide +kernel)
theorem ml_X3_22 : Cond.methodLink RX3 22 yX3_mostGroups ∈ BIG := big_at 480 (by decide +kernel) (by decide +kernel)
theorem ml_X3_26 : Cond.methodLinkNest RX3 26 yX7_holds "SilentCouncil" ∈ lw_tbl := List.mem_of_getElem? (i := 484) (by decide +kernel)
theorem ml_X3_30 : Cond.methodLink RX3 30 Lib.Math.max.name ∈ BIG := big_at 485 (by decide +kernel) (by decide +kernel)
theorem ml_X4_3 : Cond.methodLink RX4 3 objectInit ∈ BIG := big_at 65 (by decide +kernel) (by decide +kernel)
theorem fl_X4_9 : Cond.fieldLink RX4 9 (TX4 0).1 (TX4 0).2.1 (TX4 0).2.2.1 ∈ BIG := big_at 66 (by decide +kernel) (by decide +kernel)
theorem fl_X4_15 : Cond.fieldLink RX4 15 (TX4 1).1 (TX4 1).2.1 (TX4 1).2.2.1 ∈ BIG := big_at 69 (by decide +kernel) (by decide +kernel)
theorem fl_X4_18 : Cond.fieldLink RX4 18 (TX4 2).1 (TX4 2).2.1 (TX4 2).2.2.1 ∈ BIG := big_at 72 (by decide +kernel) (by decide +kernel)
theorem fl_X4_21 : Cond.fieldLink RX4 21 (TX4 3).1 (TX4 3).2.1 (TX4 3).2.2.1 ∈ BIG := big_at 74 (by decide +kernel) (by decide +kernel)
theorem ml_X4_25 : Cond.methodLinkNest RX4 25 yX7_holds "SilentCouncil" ∈ lw_tbl := List.mem_of_getElem? (i := 418) (by decide +kernel)
theorem ml_X4_29 : Cond.methodLink RX4 29 arraycopyName ∈ BIG := big_at 558 (by decide +kernel) (by decide +kernel)
theorem ml_X5_3 : Cond.methodLink RX5 3 objectInit ∈ BIG := big_at 117 (by decide +kernel) (by decide +kernel)
theorem fl_X5_9 : Cond.fieldLink RX5 9 (TX5 0).1 (TX5 0).2.1 (TX5 0).2.2.1 ∈ BIG := big_at 118 (by decide +kernel) (by decide +kernel)
theorem fl_X5_15 : Cond.fieldLink RX5 15 (TX5 1).1 (TX5 1).2.1 (TX5 1).2.2.1 ∈ BIG := big_at 119 (by decide +kernel) (by decide +kernel)
theorem ml_X5_19 : Cond.methodLink RX5 19 yX5_sign ∈ BIG := big_at 291 (by decide +kernel) (by decide +kernel)
theorem ml_X5_23 : Cond.methodLink RX5 23 yX5_wantedBehind ∈ BIG := big_at 295 (by decide +kernel) (by decide +kernel)
theorem ml_X5_27 : Cond.methodLinkNest RX5 27 yX7_isOneSign "SilentCouncil" ∈ lw_tbl := List.mem_of_getElem? (i := 301) (by decide +kernel)
theorem ml_X5_31 : Cond.methodLink RX5 31 yX5_wantedBehindHead ∈ BIG := big_at 298 (by decide +kernel) (by decide +kernel)
theorem ml_X6_3 : Cond.methodLink RX6 3 objectInit ∈ BIG := big_at 134 (by decide +kernel) (by decide +kernel)
theorem fl_X6_11 : Cond.fieldLink RX6 11 (TX6 0).1 (TX6 0).2.1 (TX6 0).2.2.1 ∈ BIG := big_at 136 (by decide +kernel) (by decide +kernel)
theorem fl_X6_16 : Cond.fieldLink RX6 16 (TX6 1).1 (TX6 1).2.1 (TX6 1).2.2.1 ∈ BIG := big_at 138 (by decide +kernel) (by decide +kernel)
theorem fl_X6_20 : Cond.fieldLink RX6 20 (TX6 2).1 (TX6 2).2.1 (TX6 2).2.2.1 ∈ BIG := big_at 139 (by decide +kernel) (by decide +kernel)
theorem fl_X6_24 : Cond.fieldLink RX6 24 (TX6 3).1 (TX6 3).2.1 (TX6 3).2.2.1 ∈ BIG := big_at 141 (by decide +kernel) (by decide +kernel)
theorem fl_X6_27 : Cond.fieldLink RX6 27 (TX6 4).1 (TX6 4).2.1 (TX6 4).2.2.1 ∈ BIG := big_at 143 (by decide +kernel) (by decide +kernel)
theorem ml_X6_30 : Cond.methodLink RX6 30 yX6_begin ∈ BIG := big_at 316 (by decide +kernel) (by decide +kernel)
theorem fl_X6_34 : Cond.fieldLink RX6 34 (TX5 1).1 (TX5 1).2.1 (TX5 1).2.2.1 ∈ BIG := big_at 121 (by decide +kernel) (by decide +kernel)
theorem ml_X6_39 : Cond.methodLink RX6 39 yX5_sign ∈ BIG := big_at 326 (by decide +kernel) (by decide +kernel)
theorem ml_X6_43 : Cond.methodLink RX6 43 yX6_last ∈ BIG := big_at 327 (by decide +kernel) (by decide +kernel)
theorem ml_X6_47 : Cond.methodLinkNest RX6 47 yX7_isOneSign "SilentCouncil" ∈ lw_tbl := List.mem_of_getElem? (i := 350) (by decide +kernel)
theorem fl_X6_51 : Cond.fieldLink RX6 51 (TX2 4).1 (TX2 4).2.1 (TX2 4).2.2.1 ∈ BIG := big_at 98 (by decide +kernel) (by decide +kernel)
theorem ml_X6_56 : Cond.methodLink RX6 56 yX6_ask ∈ BIG := big_at 351 (by decide +kernel) (by decide +kernel)
theorem fl_X6_60 : Cond.fieldLink RX6 60 (TX2 3).1 (TX2 3).2.1 (TX2 3).2.2.1 ∈ BIG := big_at 95 (by decide +kernel) (by decide +kernel)
theorem ml_X6_63 : Cond.methodLink RX6 63 yX6_stir ∈ BIG := big_at 355 (by decide +kernel) (by decide +kernel)
theorem ml_X6_66 : Cond.methodLinkNest RX6 66 yX7_isOne "SilentCouncil" ∈ lw_tbl := List.mem_of_getElem? (i := 335) (by decide +kernel)
theorem fl_X6_69 : Cond.fieldLink RX6 69 (TX2 0).1 (TX2 0).2.1 (TX2 0).2.2.1 ∈ BIG := big_at 89 (by decide +kernel) (by decide +kernel)
theorem ml_X6_70 : Cond.methodLinkNest RX6 70 yX7_copyRows "SilentCouncil" ∈ lw_tbl := List.mem_of_getElem? (i := 320) (by decide +kernel)
theorem ml_X6_74 : Cond.methodLink RX6 74 yX6_listens ∈ BIG := big_at 340 (by decide +kernel) (by decide +kernel)
theorem ml_X6_77 : Cond.methodLink RX6 77 Lib.Math.max.name ∈ BIG := big_at 344 (by decide +kernel) (by decide +kernel)
theorem ml_X6_83 : Cond.methodLink RX6 83 yX6_speak ∈ BIG := big_at 331 (by decide +kernel) (by decide +kernel)
theorem ml_X6_87 : Cond.methodLink RX6 87 Lib.Math.min.name ∈ BIG := big_at 347 (by decide +kernel) (by decide +kernel)
theorem ml_X6_90 : Cond.methodLink RX6 90 yX6_pay ∈ BIG := big_at 336 (by decide +kernel) (by decide +kernel)
theorem ml_X7_1 : Cond.methodLink RX7 1 objectInit ∈ BIG := big_at 49 (by decide +kernel) (by decide +kernel)
theorem ml_X7_9 : Cond.methodLink RX7 9 yX2_init ∈ BIG := big_at 54 (by decide +kernel) (by decide +kernel)
theorem fl_X7_10 : Cond.fieldLink RX7 10 (TX7 0).1 (TX7 0).2.1 (TX7 0).2.2.1 ∈ BIG := big_at 233 (by decide +kernel) (by decide +kernel)
theorem fl_X7_16 : Cond.fieldLink RX7 16 (TX7 1).1 (TX7 1).2.1 (TX7 1).2.2.1 ∈ BIG := big_at 234 (by decide +kernel) (by decide +kernel)
theorem fl_X7_20 : Cond.fieldLink RX7 20 (TX7 2).1 (TX7 2).2.1 (TX7 2).2.2.1 ∈ BIG := big_at 235 (by decide +kernel) (by decide +kernel)
theorem ml_X7_26 : Cond.methodLinkNest RX7 26 yX5_init "SilentCouncil" ∈ lw_tbl := List.mem_of_getElem? (i := 114) (by decide +kernel)
theorem fl_X7_27 : Cond.fieldLink RX7 27 (TX7 3).1 (TX7 3).2.1 (TX7 3).2.2.1 ∈ BIG := big_at 236 (by decide +kernel) (by decide +kernel)
theorem ml_X7_33 : Cond.methodLinkNest RX7 33 yX6_init "SilentCouncil" ∈ lw_tbl := List.mem_of_getElem? (i := 131) (by decide +kernel)
theorem fl_X7_34 : Cond.fieldLink RX7 34 (TX7 4).1 (TX7 4).2.1 (TX7 4).2.2.1 ∈ BIG := big_at 237 (by decide +kernel) (by decide +kernel)
theorem ml_X7_40 : Cond.methodLinkNest RX7 40 yX0_init "SilentCouncil" ∈ lw_tbl := List.mem_of_getElem? (i := 157) (by decide +kernel)
theorem fl_X7_41 : Cond.fieldLink RX7 41 (TX7 5).1 (TX7 5).2.1 (TX7 5).2.2.1 ∈ BIG := big_at 238 (by decide +kernel) (by decide +kernel)
theorem ml_X7_47 : Cond.methodLinkNest RX7 47 yX3_init "SilentCouncil" ∈ lw_tbl := List.mem_of_getElem? (i := 199) (by decide +kernel)
theorem fl_X7_48 : Cond.fieldLink RX7 48 (TX7 6).1 (TX7 6).2.1 (TX7 6).2.2.1 ∈ BIG := big_at 239 (by decide +kernel) (by decide +kernel)
theorem ml_X7_54 : Cond.methodLinkNest RX7 54 yX1_init "SilentCouncil" ∈ lw_tbl := List.mem_of_getElem? (i := 212) (by decide +kernel)
theorem fl_X7_55 : Cond.fieldLink RX7 55 (TX7 7).1 (TX7 7).2.1 (TX7 7).2.2.1 ∈ BIG := big_at 240 (by decide +kernel) (by decide +kernel)
theorem ml_X7_59 : Cond.methodLink RX7 59 yX7_isOne ∈ BIG := big_at 262 (by decide +kernel) (by decide +kernel)
theorem fl_X7_67 : Cond.fieldLink RX7 67 (TX2 0).1 (TX2 0).2.1 (TX2 0).2.2.1 ∈ BIG := big_at 88 (by decide +kernel) (by decide +kernel)
theorem fl_X7_71 : Cond.fieldLink RX7 71 (TX2 3).1 (TX2 3).2.1 (TX2 3).2.2.1 ∈ BIG := big_at 96 (by decide +kernel) (by decide +kernel)
theorem fl_X7_75 : Cond.fieldLink RX7 75 (TX2 4).1 (TX2 4).2.1 (TX2 4).2.2.1 ∈ BIG := big_at 99 (by decide +kernel) (by decide +kernel)
theorem ml_X7_78 : Cond.methodLink RX7 78 yX5_add ∈ BIG := big_at 275 (by decide +kernel) (by decide +kernel)
theorem fl_X7_81 : Cond.fieldLink RX7 81 (TX5 1).1 (TX5 1).2.1 (TX5 1).2.2.1 ∈ BIG := big_at 122 (by decide +kernel) (by decide +kernel)
theorem ml_X7_84 : Cond.methodLink RX7 84 yX5_sittingFault ∈ BIG := big_at 287 (by decide +kernel) (by decide +kernel)
theorem ml_X7_88 : Cond.methodLink RX7 88 yX5_bookFault ∈ BIG := big_at 304 (by decide +kernel) (by decide +kernel)
theorem ml_X7_91 : Cond.methodLink RX7 91 yX6_run ∈ BIG := big_at 312 (by decide +kernel) (by decide +kernel)
theorem ml_X7_95 : Cond.methodLink RX7 95 yX6_ofAll ∈ BIG := big_at 359 (by decide +kernel) (by decide +kernel)
theorem ml_X7_99 : Cond.methodLink RX7 99 yX6_ofOne ∈ BIG := big_at 363 (by decide +kernel) (by decide +kernel)
theorem fl_X7_103 : Cond.fieldLink RX7 103 (TX6 3).1 (TX6 3).2.1 (TX6 3).2.2.1 ∈ BIG := big_at 142 (by decide +kernel) (by decide +kernel)
theorem fl_X7_106 : Cond.fieldLink RX7 106 (TX6 0).1 (TX6 0).2.1 (TX6 0).2.2.1 ∈ BIG := big_at 137 (by decide +kernel) (by decide +kernel)
theorem ml_X7_107 : Cond.methodLink RX7 107 yX7_copyRows ∈ BIG := big_at 371 (by decide +kernel) (by decide +kernel)
theorem fl_X7_111 : Cond.fieldLink RX7 111 (TX6 2).1 (TX6 2).2.1 (TX6 2).2.2.1 ∈ BIG := big_at 140 (by decide +kernel) (by decide +kernel)
theorem fl_X7_114 : Cond.fieldLink RX7 114 (TX2 2).1 (TX2 2).2.1 (TX2 2).2.2.1 ∈ BIG := big_at 93 (by decide +kernel) (by decide +kernel)
theorem fl_X7_118 : Cond.fieldLink RX7 118 (TX4 3).1 (TX4 3).2.1 (TX4 3).2.2.1 ∈ BIG := big_at 76 (by decide +kernel) (by decide +kernel)
theorem ml_X7_121 : Cond.methodLink RX7 121 yX4_add ∈ BIG := big_at 376 (by decide +kernel) (by decide +kernel)
theorem fl_X7_124 : Cond.fieldLink RX7 124 (TX4 0).1 (TX4 0).2.1 (TX4 0).2.2.1 ∈ BIG := big_at 68 (by decide +kernel) (by decide +kernel)
theorem fl_X7_127 : Cond.fieldLink RX7 127 (TX4 1).1 (TX4 1).2.1 (TX4 1).2.2.1 ∈ BIG := big_at 71 (by decide +kernel) (by decide +kernel)
theorem fl_X7_129 : Cond.fieldLink RX7 129 (TX4 2).1 (TX4 2).2.1 (TX4 2).2.2.1 ∈ BIG := big_at 73 (by decide +kernel) (by decide +kernel)
theorem ml_X7_132 : Cond.methodLink RX7 132 yX0_prepare ∈ BIG := big_at 392 (by decide +kernel) (by decide +kernel)
theorem ml_X7_136 : Cond.methodLink RX7 136 yX0_takeShares ∈ BIG := big_at 401 (by decide +kernel) (by decide +kernel)
theorem cst_X7_140 : Cond.constant RX7 140 (Int32.ofInt 1000000) ∈ BIG := big_at 405 (by decide +kernel) (by decide +kernel)
theorem ml_X7_141 : Cond.methodLink RX7 141 yX0_leastPause ∈ BIG := big_at 406 (by decide +kernel) (by decide +kernel)
theorem ml_X7_145 : Cond.methodLink RX7 145 yX4_allMinutes ∈ BIG := big_at 427 (by decide +kernel) (by decide +kernel)
theorem ml_X7_148 : Cond.methodLink RX7 148 yX0_findOrder ∈ BIG := big_at 431 (by decide +kernel) (by decide +kernel)
theorem fl_X7_152 : Cond.fieldLink RX7 152 (TX0 0).1 (TX0 0).2.1 (TX0 0).2.2.1 ∈ BIG := big_at 163 (by decide +kernel) (by decide +kernel)
theorem ml_X7_155 : Cond.methodLink RX7 155 yX0_findHolders ∈ BIG := big_at 443 (by decide +kernel) (by decide +kernel)
theorem fl_X7_158 : Cond.fieldLink RX7 158 (TX0 3).1 (TX0 3).2.1 (TX0 3).2.2.1 ∈ BIG := big_at 169 (by decide +kernel) (by decide +kernel)
theorem ml_X7_161 : Cond.methodLink RX7 161 yX4_has ∈ BIG := big_at 451 (by decide +kernel) (by decide +kernel)
theorem ml_X7_164 : Cond.methodLink RX7 164 yX0_findBestDeal ∈ BIG := big_at 452 (by decide +kernel) (by decide +kernel)
theorem fl_X7_167 : Cond.fieldLink RX7 167 (TX0 2).1 (TX0 2).2.1 (TX0 2).2.2.1 ∈ BIG := big_at 167 (by decide +kernel) (by decide +kernel)
theorem fl_X7_170 : Cond.fieldLink RX7 170 (TX0 1).1 (TX0 1).2.1 (TX0 1).2.2.1 ∈ BIG := big_at 165 (by decide +kernel) (by decide +kernel)
theorem fl_X7_173 : Cond.fieldLink RX7 173 (TX2 1).1 (TX2 1).2.1 (TX2 1).2.2.1 ∈ BIG := big_at 91 (by decide +kernel) (by decide +kernel)
theorem ml_X7_176 : Cond.methodLink RX7 176 yX7_netOf ∈ BIG := big_at 468 (by decide +kernel) (by decide +kernel)
theorem ml_X7_180 : Cond.methodLink RX7 180 yX3_fewestGifts ∈ BIG := big_at 475 (by decide +kernel) (by decide +kernel)
theorem ml_X7_184 : Cond.methodLink RX7 184 yX1_open ∈ BIG := big_at 490 (by decide +kernel) (by decide +kernel)
theorem ml_X7_188 : Cond.methodLinkNest RX7 188 yX1_ways "SilentCouncil" ∈ lw_tbl := List.mem_of_getElem? (i := 501) (by decide +kernel)
theorem fl_X7_192 : Cond.fieldLink RX7 192 (TX1 1).1 (TX1 1).2.1 (TX1 1).2.2.1 ∈ BIG := big_at 218 (by decide +kernel) (by decide +kernel)
theorem ml_X7_195 : Cond.methodLink RX7 195 yX1_sign ∈ BIG := big_at 514 (by decide +kernel) (by decide +kernel)
theorem ml_X7_198 : Cond.methodLink RX7 198 yX1_firstFalse ∈ BIG := big_at 522 (by decide +kernel) (by decide +kernel)
theorem ml_X7_201 : Cond.methodLink RX7 201 yX7_floorOf ∈ BIG := big_at 530 (by decide +kernel) (by decide +kernel)
theorem ml_X7_204 : Cond.methodLink RX7 204 yJ6_bitCount_0f7a4 ∈ BIG := big_at 535 (by decide +kernel) (by decide +kernel)
theorem ml_X7_209 : Cond.methodLink RX7 209 yX7_holds ∈ BIG := big_at 534 (by decide +kernel) (by decide +kernel)
theorem ml_X7_213 : Cond.methodLink RX7 213 yX2_take ∈ BIG := big_at 549 (by decide +kernel) (by decide +kernel)
theorem ml_X7_217 : Cond.methodLink RX7 217 arraycopyName ∈ BIG := big_at 323 (by decide +kernel) (by decide +kernel)
theorem ml_X8_1 : Cond.methodLink RX8 1 objectInit ∈ BIG := big_at 572 (by decide +kernel) (by decide +kernel)
theorem fl_X8_7 : Cond.fieldLink RX8 7 (TX8 0).1 (TX8 0).2.1 (TX8 0).2.2.1 ∈ BIG := big_at 573 (by decide +kernel) (by decide +kernel)
theorem fl_X8_13 : Cond.fieldLink RX8 13 (TX8 1).1 (TX8 1).2.1 (TX8 1).2.2.1 ∈ BIG := big_at 574 (by decide +kernel) (by decide +kernel)
theorem fl_X8_17 : Cond.fieldLink RX8 17 (TX8 2).1 (TX8 2).2.1 (TX8 2).2.2.1 ∈ BIG := big_at 575 (by decide +kernel) (by decide +kernel)
theorem fl_X8_20 : Cond.fieldLink RX8 20 (TX8 4).1 (TX8 4).2.1 (TX8 4).2.2.1 ∈ BIG := big_at 577 (by decide +kernel) (by decide +kernel)
theorem fl_X8_23 : Cond.fieldLink RX8 23 (TX8 6).1 (TX8 6).2.1 (TX8 6).2.2.1 ∈ BIG := big_at 579 (by decide +kernel) (by decide +kernel)
theorem fl_X8_26 : Cond.fieldLink RX8 26 (TX8 7).1 (TX8 7).2.1 (TX8 7).2.2.1 ∈ BIG := big_at 580 (by decide +kernel) (by decide +kernel)
theorem fl_X8_29 : Cond.fieldLink RX8 29 (TX8 8).1 (TX8 8).2.1 (TX8 8).2.2.1 ∈ BIG := big_at 581 (by decide +kernel) (by decide +kernel)
theorem fl_X8_32 : Cond.fieldLink RX8 32 (TX8 9).1 (TX8 9).2.1 (TX8 9).2.2.1 ∈ BIG := big_at 582 (by decide +kernel) (by decide +kernel)
theorem fl_X8_35 : Cond.fieldLink RX8 35 (TX8 13).1 (TX8 13).2.1 (TX8 13).2.2.1 ∈ BIG := big_at 586 (by decide +kernel) (by decide +kernel)
theorem fl_X8_38 : Cond.fieldLink RX8 38 (TX8 14).1 (TX8 14).2.1 (TX8 14).2.2.1 ∈ BIG := big_at 587 (by decide +kernel) (by decide +kernel)
theorem fl_X8_41 : Cond.fieldLink RX8 41 (TX8 15).1 (TX8 15).2.1 (TX8 15).2.2.1 ∈ BIG := big_at 588 (by decide +kernel) (by decide +kernel)
theorem fl_X8_44 : Cond.fieldLink RX8 44 (TX8 16).1 (TX8 16).2.1 (TX8 16).2.2.1 ∈ BIG := big_at 589 (by decide +kernel) (by decide +kernel)
theorem fl_X8_47 : Cond.fieldLink RX8 47 (TX8 17).1 (TX8 17).2.1 (TX8 17).2.2.1 ∈ BIG := big_at 590 (by decide +kernel) (by decide +kernel)
theorem fl_X8_50 : Cond.fieldLink RX8 50 (TX8 18).1 (TX8 18).2.1 (TX8 18).2.2.1 ∈ BIG := big_at 591 (by decide +kernel) (by decide +kernel)
theorem fl_X8_53 : Cond.fieldLink RX8 53 (TX8 19).1 (TX8 19).2.1 (TX8 19).2.2.1 ∈ BIG := big_at 592 (by decide +kernel) (by decide +kernel)
theorem fl_X8_56 : Cond.fieldLink RX8 56 (TX8 20).1 (TX8 20).2.1 (TX8 20).2.2.1 ∈ BIG := big_at 593 (by decide +kernel) (by decide +kernel)
theorem fl_X8_59 : Cond.fieldLink RX8 59 (TX8 21).1 (TX8 21).2.1 (TX8 21).2.2.1 ∈ BIG := big_at 594 (by decide +kernel) (by decide +kernel)
theorem ml_X8_63 : Cond.methodLink RX8 63 yX8_in ∈ BIG := big_at 647 (by decide +kernel) (by decide +kernel)
theorem ml_X8_67 : Cond.methodLink RX8 67 yX8_isOne ∈ BIG := big_at 644 (by decide +kernel) (by decide +kernel)
theorem ml_X8_71 : Cond.methodLink RX8 71 yX8_mostOf ∈ BIG := big_at 650 (by decide +kernel) (by decide +kernel)
theorem fl_X8_75 : Cond.fieldLink RX8 75 (TX8 3).1 (TX8 3).2.1 (TX8 3).2.2.1 ∈ BIG := big_at 576 (by decide +kernel) (by decide +kernel)
theorem ml_X8_78 : Cond.methodLink RX8 78 yX8_isName ∈ BIG := big_at 673 (by decide +kernel) (by decide +kernel)
theorem ml_X8_81 : Cond.methodLink RX8 81 yX8_isAct ∈ BIG := big_at 676 (by decide +kernel) (by decide +kernel)
theorem ml_X8_84 : Cond.methodLink RX8 84 yX8_sittingFault ∈ BIG := big_at 669 (by decide +kernel) (by decide +kernel)
theorem ml_X8_88 : Cond.methodLink RX8 88 yX8_bookFault ∈ BIG := big_at 679 (by decide +kernel) (by decide +kernel)
theorem ml_X8_91 : Cond.methodLink RX8 91 yX8_listens ∈ BIG := big_at 691 (by decide +kernel) (by decide +kernel)
theorem fl_X8_94 : Cond.fieldLink RX8 94 (TX8 11).1 (TX8 11).2.1 (TX8 11).2.2.1 ∈ BIG := big_at 584 (by decide +kernel) (by decide +kernel)
theorem fl_X8_97 : Cond.fieldLink RX8 97 (TX8 10).1 (TX8 10).2.1 (TX8 10).2.2.1 ∈ BIG := big_at 583 (by decide +kernel) (by decide +kernel)
theorem fl_X8_100 : Cond.fieldLink RX8 100 (TX8 12).1 (TX8 12).2.1 (TX8 12).2.2.1 ∈ BIG := big_at 585 (by decide +kernel) (by decide +kernel)
theorem ml_X8_103 : Cond.methodLink RX8 103 yX8_save ∈ BIG := big_at 699 (by decide +kernel) (by decide +kernel)
theorem ml_X8_107 : Cond.methodLink RX8 107 yX8_act ∈ BIG := big_at 695 (by decide +kernel) (by decide +kernel)
theorem ml_X8_111 : Cond.methodLink RX8 111 yX8_speak ∈ BIG := big_at 703 (by decide +kernel) (by decide +kernel)
theorem ml_X8_114 : Cond.methodLink RX8 114 yX8_sitThrough ∈ BIG := big_at 687 (by decide +kernel) (by decide +kernel)
theorem fl_X8_117 : Cond.fieldLink RX8 117 (TX8 5).1 (TX8 5).2.1 (TX8 5).2.2.1 ∈ BIG := big_at 578 (by decide +kernel) (by decide +kernel)
theorem ml_X8_120 : Cond.methodLink RX8 120 yX8_spokenBy ∈ BIG := big_at 744 (by decide +kernel) (by decide +kernel)
theorem cst_X8_124 : Cond.constant RX8 124 (Int32.ofInt 100000000) ∈ BIG := big_at 735 (by decide +kernel) (by decide +kernel)
theorem ml_X8_125 : Cond.methodLink RX8 125 yX8_mayBegin ∈ BIG := big_at 736 (by decide +kernel) (by decide +kernel)
theorem ml_X8_129 : Cond.methodLink RX8 129 yX8_endOf ∈ BIG := big_at 740 (by decide +kernel) (by decide +kernel)
theorem ml_X8_133 : Cond.methodLink RX8 133 yX8_asSaved ∈ BIG := big_at 727 (by decide +kernel) (by decide +kernel)
theorem ml_X8_136 : Cond.methodLink RX8 136 yX8_leastFrom ∈ BIG := big_at 731 (by decide +kernel) (by decide +kernel)
theorem ml_X8_139 : Cond.methodLink RX8 139 yX8_netOf ∈ BIG := big_at 760 (by decide +kernel) (by decide +kernel)
theorem ml_X8_142 : Cond.methodLink RX8 142 yX8_layLine ∈ BIG := big_at 772 (by decide +kernel) (by decide +kernel)
theorem ml_X8_145 : Cond.methodLink RX8 145 yX8_holds ∈ BIG := big_at 776 (by decide +kernel) (by decide +kernel)
theorem cst_X8_148 : Cond.constant RX8 148 (Int32.ofInt 1000000) ∈ BIG := big_at 792 (by decide +kernel) (by decide +kernel)
theorem ml_X8_149 : Cond.methodLink RX8 149 yX8_floorOf ∈ BIG := big_at 788 (by decide +kernel) (by decide +kernel)
theorem ml_X8_152 : Cond.methodLink RX8 152 yX8_bits ∈ BIG := big_at 797 (by decide +kernel) (by decide +kernel)
theorem ml_L_9 : Cond.methodLink RL 9 yX7_init ∈ BIG := big_at 46 (by decide +kernel) (by decide +kernel)
theorem ml_L_12 : Cond.methodLink RL 12 yX8_init ∈ BIG := big_at 569 (by decide +kernel) (by decide +kernel)
theorem ml_L_13 : Cond.methodLink RL 13 yX7_set ∈ BIG := big_at 258 (by decide +kernel) (by decide +kernel)
theorem ml_L_17 : Cond.methodLink RL 17 yX8_set ∈ BIG := big_at 640 (by decide +kernel) (by decide +kernel)
theorem ml_L_18 : Cond.methodLink RL 18 yX7_law ∈ BIG := big_at 267 (by decide +kernel) (by decide +kernel)
theorem ml_L_22 : Cond.methodLink RL 22 yX8_law ∈ BIG := big_at 653 (by decide +kernel) (by decide +kernel)
theorem ml_L_23 : Cond.methodLink RL 23 yX7_say ∈ BIG := big_at 271 (by decide +kernel) (by decide +kernel)
theorem ml_L_27 : Cond.methodLink RL 27 yX8_say ∈ BIG := big_at 657 (by decide +kernel) (by decide +kernel)
theorem ml_L_28 : Cond.methodLink RL 28 yX7_wipe ∈ BIG := big_at 279 (by decide +kernel) (by decide +kernel)
theorem ml_L_32 : Cond.methodLink RL 32 yX8_wipe ∈ BIG := big_at 661 (by decide +kernel) (by decide +kernel)
theorem ml_L_33 : Cond.methodLink RL 33 yX7_fault ∈ BIG := big_at 283 (by decide +kernel) (by decide +kernel)
theorem ml_L_36 : Cond.methodLink RL 36 yX8_fault ∈ BIG := big_at 665 (by decide +kernel) (by decide +kernel)
theorem ml_L_37 : Cond.methodLink RL 37 yX7_sits ∈ BIG := big_at 308 (by decide +kernel) (by decide +kernel)
theorem ml_L_40 : Cond.methodLink RL 40 yX8_sits ∈ BIG := big_at 683 (by decide +kernel) (by decide +kernel)
theorem ml_L_41 : Cond.methodLink RL 41 yX7_sit ∈ BIG := big_at 367 (by decide +kernel) (by decide +kernel)
theorem ml_L_44 : Cond.methodLink RL 44 yX8_sit ∈ BIG := big_at 707 (by decide +kernel) (by decide +kernel)
theorem ml_L_45 : Cond.methodLink RL 45 yX7_matter ∈ BIG := big_at 372 (by decide +kernel) (by decide +kernel)
theorem ml_L_48 : Cond.methodLink RL 48 yX8_matter ∈ BIG := big_at 711 (by decide +kernel) (by decide +kernel)
theorem ml_L_49 : Cond.methodLink RL 49 yX7_about ∈ BIG := big_at 380 (by decide +kernel) (by decide +kernel)
theorem ml_L_52 : Cond.methodLink RL 52 yX8_about ∈ BIG := big_at 715 (by decide +kernel) (by decide +kernel)
theorem ml_L_53 : Cond.methodLink RL 53 yX7_clear ∈ BIG := big_at 384 (by decide +kernel) (by decide +kernel)
theorem ml_L_56 : Cond.methodLink RL 56 yX8_clear ∈ BIG := big_at 719 (by decide +kernel) (by decide +kernel)
theorem ml_L_57 : Cond.methodLink RL 57 yX7_least ∈ BIG := big_at 388 (by decide +kernel) (by decide +kernel)
theorem ml_L_60 : Cond.methodLink RL 60 yX8_least ∈ BIG := big_at 723 (by decide +kernel) (by decide +kernel)
theorem ml_L_61 : Cond.methodLink RL 61 yX7_dealt ∈ BIG := big_at 439 (by decide +kernel) (by decide +kernel)
theorem ml_L_64 : Cond.methodLink RL 64 yX8_dealt ∈ BIG := big_at 748 (by decide +kernel) (by decide +kernel)
theorem ml_L_65 : Cond.methodLink RL 65 yX7_lend ∈ BIG := big_at 460 (by decide +kernel) (by decide +kernel)
theorem ml_L_68 : Cond.methodLink RL 68 yX8_lend ∈ BIG := big_at 752 (by decide +kernel) (by decide +kernel)
theorem ml_L_69 : Cond.methodLink RL 69 yX7_net ∈ BIG := big_at 464 (by decide +kernel) (by decide +kernel)
theorem ml_L_72 : Cond.methodLink RL 72 yX8_net ∈ BIG := big_at 756 (by decide +kernel) (by decide +kernel)
theorem ml_L_73 : Cond.methodLink RL 73 yX7_gifts ∈ BIG := big_at 471 (by decide +kernel) (by decide +kernel)
theorem ml_L_76 : Cond.methodLink RL 76 yX8_gifts ∈ BIG := big_at 764 (by decide +kernel) (by decide +kernel)
theorem ml_L_77 : Cond.methodLink RL 77 yX7_filled ∈ BIG := big_at 486 (by decide +kernel) (by decide +kernel)
theorem ml_L_80 : Cond.methodLink RL 80 yX8_filled ∈ BIG := big_at 768 (by decide +kernel) (by decide +kernel)
theorem ml_L_81 : Cond.methodLink RL 81 yX7_lie ∈ BIG := big_at 518 (by decide +kernel) (by decide +kernel)
theorem ml_L_84 : Cond.methodLink RL 84 yX8_lie ∈ BIG := big_at 780 (by decide +kernel) (by decide +kernel)
theorem ml_L_85 : Cond.methodLink RL 85 yX7_floor ∈ BIG := big_at 526 (by decide +kernel) (by decide +kernel)
theorem ml_L_88 : Cond.methodLink RL 88 yX8_floor ∈ BIG := big_at 784 (by decide +kernel) (by decide +kernel)
theorem ml_L_89 : Cond.methodLink RL 89 yX7_friends ∈ BIG := big_at 541 (by decide +kernel) (by decide +kernel)
theorem ml_L_92 : Cond.methodLink RL 92 yX8_friends ∈ BIG := big_at 793 (by decide +kernel) (by decide +kernel)
theorem ml_L_93 : Cond.methodLink RL 93 yX7_image ∈ BIG := big_at 545 (by decide +kernel) (by decide +kernel)
theorem ml_L_96 : Cond.methodLink RL 96 yX8_image ∈ BIG := big_at 800 (by decide +kernel) (by decide +kernel)
theorem ml_L_97 : Cond.methodLink RL 97 yX7_restore ∈ BIG := big_at 559 (by decide +kernel) (by decide +kernel)
theorem ml_L_100 : Cond.methodLink RL 100 yX8_restore ∈ BIG := big_at 804 (by decide +kernel) (by decide +kernel)
theorem ml_L_101 : Cond.methodLink RL 101 yX7_told ∈ BIG := big_at 563 (by decide +kernel) (by decide +kernel)
theorem ml_L_104 : Cond.methodLink RL 104 yX8_told ∈ BIG := big_at 808 (by decide +kernel) (by decide +kernel)
theorem cst_J6_265 : Cond.constant RJ6 265 (Int32.ofInt 1431655765) ∈ BIG := big_at 538 (by decide +kernel) (by decide +kernel)
theorem cst_J6_266 : Cond.constant RJ6 266 (Int32.ofInt 858993459) ∈ BIG := big_at 539 (by decide +kernel) (by decide +kernel)
theorem cst_J6_267 : Cond.constant RJ6 267 (Int32.ofInt 252645135) ∈ BIG := big_at 540 (by decide +kernel) (by decide +kernel)
theorem mw_max : Cond.static Lib.Math.max.name ∈ BIG ∧ Cond.initialized "java/lang/Math" ∈ BIG ∧ Cond.code Lib.Math.max.name Lib.Math.max.code 2 (some .int) ∈ BIG := ⟨big_at 345 (by decide +kernel) (by decide +kernel), big_at 42 (by decide +kernel) (by decide +kernel), big_at 346 (by decide +kernel) (by decide +kernel)⟩
theorem mw_min : Cond.static Lib.Math.min.name ∈ BIG ∧ Cond.initialized "java/lang/Math" ∈ BIG ∧ Cond.code Lib.Math.min.name Lib.Math.min.code 2 (some .int) ∈ BIG := ⟨big_at 348 (by decide +kernel) (by decide +kernel), big_at 42 (by decide +kernel) (by decide +kernel), big_at 349 (by decide +kernel) (by decide +kernel)⟩
theorem mw_copy : Cond.native arraycopyName ∈ BIG ∧ Cond.static arraycopyName ∈ BIG ∧ Cond.initialized "java/lang/System" ∈ BIG := ⟨big_at 325 (by decide +kernel) (by decide +kernel), big_at 324 (by decide +kernel) (by decide +kernel), big_at 41 (by decide +kernel) (by decide +kernel)⟩
end
section
/-! ===== one-instruction rows over Ws ===== -/
section ROWS
variable {v : Ev} {cc : ByteArray} {nL d pc mc ms : Nat} {own : String} {as : List Nat} {sh : List Sh} {ls : List (Option Vv)} {st : List Vv} {M : Mm}
theorem s_iconst (E : Cx v cc nL own d) {n : Int} (hd : decode cc pc = .ok (.iconst n, 1))
    (k : Ws v as sh mc ms (pc + 1) ls (iv n :: st) M) : Ws v as sh mc ms pc ls st M := by
  obtain ⟨p, l, e, R, s, m, args, below, meth, c, Q, A, D, cA, x⟩ := v
  obtain ⟨hx, hb, hml, hown, hts, hK, hA, hfr, hlo, hNs⟩ := E
  intro H locs lsA hW hS hl
  exact lv_iconst hx hb hd rfl (k H locs lsA hW hS hl)
theorem s_bipush (E : Cx v cc nL own d) {n : Int} (hd : decode cc pc = .ok (.bipush n, 2)) (hn : (Int8.ofInt n).toInt32 = Int32.ofInt n)
    (k : Ws v as sh mc ms (pc + 2) ls (iv n :: st) M) : Ws v as sh mc ms pc ls st M := by
  obtain ⟨p, l, e, R, s, m, args, below, meth, c, Q, A, D, cA, x⟩ := v
  obtain ⟨hx, hb, hml, hown, hts, hK, hA, hfr, hlo, hNs⟩ := E
  intro H locs lsA hW hS hl
  exact lv_bipush hx hb hd hn (k H locs lsA hW hS hl)
theorem s_sipush (E : Cx v cc nL own d) {n : Int} (hd : decode cc pc = .ok (.sipush n, 3)) (hn : (Int16.ofInt n).toInt32 = Int32.ofInt n)
    (k : Ws v as sh mc ms (pc + 3) ls (iv n :: st) M) : Ws v as sh mc ms pc ls st M := by
  obtain ⟨p, l, e, R, s, m, args, below, meth, c, Q, A, D, cA, x⟩ := v
  obtain ⟨hx, hb, hml, hown, hts, hK, hA, hfr, hlo, hNs⟩ := E
  intro H locs lsA hW hS hl
  exact lv_sipush hx hb hd hn (k H locs lsA hW hS hl)
theorem s_ldc (E : Cx v cc nL own d) {n : Int} {idx : Nat} (hd : decode cc pc = .ok (.ldc idx, 2)) (hw : Cond.constant own idx (Int32.ofInt n) ∈ BIG)
    (k : Ws v as sh mc ms (pc + 2) ls (iv n :: st) M) : Ws v as sh mc ms pc ls st M := by
  obtain ⟨p, l, e, R, s, m, args, below, meth, c, Q, A, D, cA, x⟩ := v
  obtain ⟨hx, hb, hml, hown, hts, hK, hA, hfr, hlo, hNs⟩ := E
  intro H locs lsA hW hS hl
  exact lv_ldc hx hb hown (hts _ hw) hd (k H locs lsA hW hS hl)
theorem s_iload_n (E : Cx v cc nL own d) {i : Fin 4} {z : Int} (hd : decode cc pc = .ok (.iload_n i, 1)) (hz : ls[(i : Nat)]? = some (some (iv z)))
    (k : Ws v as sh mc ms (pc + 1) ls (iv z :: st) M) : Ws v as sh mc ms pc ls st M := by
  obtain ⟨p, l, e, R, s, m, args, below, meth, c, Q, A, D, cA, x⟩ := v
  obtain ⟨hx, hb, hml, hown, hts, hK, hA, hfr, hlo, hNs⟩ := E
  intro H locs lsA hW hS hl
  exact lv_iload_n hx hb hd rfl (hl.2.2.2 _ _ hz) (k H locs lsA hW hS hl)
theorem s_iload (E : Cx v cc nL own d) {i : Nat} {z : Int} (hd : decode cc pc = .ok (.iload i, 2)) (hz : ls[i]? = some (some (iv z)))
    (k : Ws v as sh mc ms (pc + 2) ls (iv z :: st) M) : Ws v as sh mc ms pc ls st M := by
  obtain ⟨p, l, e, R, s, m, args, below, meth, c, Q, A, D, cA, x⟩ := v
  obtain ⟨hx, hb, hml, hown, hts, hK, hA, hfr, hlo, hNs⟩ := E
  intro H locs lsA hW hS hl
  exact lv_iload hx hb hd (hl.2.2.2 _ _ hz) (k H locs lsA hW hS hl)
theorem s_aload_n (E : Cx v cc nL own d) {i : Fin 4} {z : Int} (hd : decode cc pc = .ok (.aload_n i, 1)) (hz : ls[(i : Nat)]? = some (some (rv z)))
    (k : Ws v as sh mc ms (pc + 1) ls (rv z :: st) M) : Ws v as sh mc ms pc ls st M := by
  obtain ⟨p, l, e, R, s, m, args, below, meth, c, Q, A, D, cA, x⟩ := v
  obtain ⟨hx, hb, hml, hown, hts, hK, hA, hfr, hlo, hNs⟩ := E
  intro H locs lsA hW hS hl
  exact lv_aload_n hx hb hd rfl (hl.2.2.2 _ _ hz) (k H locs lsA hW hS hl)
theorem s_aload (E : Cx v cc nL own d) {i : Nat} {z : Int} (hd : decode cc pc = .ok (.aload i, 2)) (hz : ls[i]? = some (some (rv z)))
    (k : Ws v as sh mc ms (pc + 2) ls (rv z :: st) M) : Ws v as sh mc ms pc ls st M := by
  obtain ⟨p, l, e, R, s, m, args, below, meth, c, Q, A, D, cA, x⟩ := v
  obtain ⟨hx, hb, hml, hown, hts, hK, hA, hfr, hlo, hNs⟩ := E
  intro H locs lsA hW hS hl
  exact lv_aload hx hb hd (hl.2.2.2 _ _ hz) (k H locs lsA hW hS hl)
theorem s_istore_n (E : Cx v cc nL own d) {i : Fin 4} {z : Int} {ls' : List (Option Vv)} (hd : decode cc pc = .ok (.istore_n i, 1)) (hi : (i : Nat) < ls.length) (hs : ls.set (i : Nat) (some (iv z)) = ls')
    (k : Ws v as sh mc ms (pc + 1) ls' st M) : Ws v as sh mc ms pc ls (iv z :: st) M := by
  obtain ⟨p, l, e, R, s, m, args, below, meth, c, Q, A, D, cA, x⟩ := v
  obtain ⟨hx, hb, hml, hown, hts, hK, hA, hfr, hlo, hNs⟩ := E
  intro H locs lsA hW hS hl
  subst hs
  exact lv_istore_n hx hb hd rfl hl.lv (Nat.lt_of_lt_of_le hi hl.2.2.1) rfl (fun lsB h => k H locs lsB hW hS (hasL.set hl hi h))
theorem s_istore (E : Cx v cc nL own d) {i : Nat} {z : Int} {ls' : List (Option Vv)} (hd : decode cc pc = .ok (.istore i, 2)) (hi : i < ls.length) (hs : ls.set i (some (iv z)) = ls')
    (k : Ws v as sh mc ms (pc + 2) ls' st M) : Ws v as sh mc ms pc ls (iv z :: st) M := by
  obtain ⟨p, l, e, R, s, m, args, below, meth, c, Q, A, D, cA, x⟩ := v
  obtain ⟨hx, hb, hml, hown, hts, hK, hA, hfr, hlo, hNs⟩ := E
  intro H locs lsA hW hS hl
  subst hs
  exact lv_istore hx hb hd hl.lv (Nat.lt_of_lt_of_le hi hl.2.2.1) rfl (fun lsB h => k H locs lsB hW hS (hasL.set hl hi h))
theorem s_astore_n (E : Cx v cc nL own d) {i : Fin 4} {z : Int} {ls' : List (Option Vv)} (hd : decode cc pc = .ok (.astore_n i, 1)) (hi : (i : Nat) < ls.length) (hs : ls.set (i : Nat) (some (rv z)) = ls')
    (k : Ws v as sh mc ms (pc + 1) ls' st M) : Ws v as sh mc ms pc ls (rv z :: st) M := by
  obtain ⟨p, l, e, R, s, m, args, below, meth, c, Q, A, D, cA, x⟩ := v
  obtain ⟨hx, hb, hml, hown, hts, hK, hA, hfr, hlo, hNs⟩ := E
  intro H locs lsA hW hS hl
  subst hs
  exact lv_astore_n hx hb hd rfl hl.lv (Nat.lt_of_lt_of_le hi hl.2.2.1) rfl (fun lsB h => k H locs lsB hW hS (hasL.set hl hi h))
theorem s_astore (E : Cx v cc nL own d) {i : Nat} {z : Int} {ls' : List (Option Vv)} (hd : decode cc pc = .ok (.astore i, 2)) (hi : i < ls.length) (hs : ls.set i (some (rv z)) = ls')
    (k : Ws v as sh mc ms (pc + 2) ls' st M) : Ws v as sh mc ms pc ls (rv z :: st) M := by
  obtain ⟨p, l, e, R, s, m, args, below, meth, c, Q, A, D, cA, x⟩ := v
  obtain ⟨hx, hb, hml, hown, hts, hK, hA, hfr, hlo, hNs⟩ := E
  intro H locs lsA hW hS hl
  subst hs
  exact lv_astore hx hb hd hl.lv (Nat.lt_of_lt_of_le hi hl.2.2.1) rfl (fun lsB h => k H locs lsB hW hS (hasL.set hl hi h))
theorem s_iinc (E : Cx v cc nL own d) {i : Nat} {n z : Int} {ls' : List (Option Vv)} (hd : decode cc pc = .ok (.iinc i n, 3)) (hz : ls[i]? = some (some (iv z))) (hs : ls.set i (some (iv (z + n))) = ls')
    (k : Ws v as sh mc ms (pc + 3) ls' st M) : Ws v as sh mc ms pc ls st M := by
  obtain ⟨p, l, e, R, s, m, args, below, meth, c, Q, A, D, cA, x⟩ := v
  obtain ⟨hx, hb, hml, hown, hts, hK, hA, hfr, hlo, hNs⟩ := E
  intro H locs lsA hW hS hl
  subst hs
  have hi : i < ls.length := (List.getElem?_eq_some_iff.mp hz).1
  obtain ⟨q, hq⟩ := List.getElem?_of_mem (mem_encL (x := x) (as := as) hz)
  exact lv_iinc (v := Int32.ofInt (z + n)) hx hb hd hl.lv (k := q) hq (Int32.ofInt_add z n).symm (Nat.lt_of_lt_of_le hi hl.2.2.1) rfl (fun lsB h => k H locs lsB hW hS (hasL.set (v := iv (z + n)) hl hi h))
theorem s_dup (E : Cx v cc nL own d) {w : Vv} (hd : decode cc pc = .ok (.dup, 1))
    (k : Ws v as sh mc ms (pc + 1) ls (w :: w :: st) M) : Ws v as sh mc ms pc ls (w :: st) M := by
  obtain ⟨p, l, e, R, s, m, args, below, meth, c, Q, A, D, cA, x⟩ := v
  obtain ⟨hx, hb, hml, hown, hts, hK, hA, hfr, hlo, hNs⟩ := E
  intro H locs lsA hW hS hl
  exact lv_dup hx hb hd (enc_cat x as w) (k H locs lsA hW hS hl)
theorem s_dup2 (E : Cx v cc nL own d) {w u : Vv} (hd : decode cc pc = .ok (.dup2, 1))
    (k : Ws v as sh mc ms (pc + 1) ls (w :: u :: w :: u :: st) M) : Ws v as sh mc ms pc ls (w :: u :: st) M := by
  obtain ⟨p, l, e, R, s, m, args, below, meth, c, Q, A, D, cA, x⟩ := v
  obtain ⟨hx, hb, hml, hown, hts, hK, hA, hfr, hlo, hNs⟩ := E
  intro H locs lsA hW hS hl
  exact lv_dup2_11 hx hb hd (enc_cat x as w) (enc_cat x as u) (k H locs lsA hW hS hl)
theorem s_iadd (E : Cx v cc nL own d) {a b : Int} (hd : decode cc pc = .ok (.iadd, 1))
    (k : Ws v as sh mc ms (pc + 1) ls (iv (a + b) :: st) M) : Ws v as sh mc ms pc ls (iv b :: iv a :: st) M := by
  obtain ⟨p, l, e, R, s, m, args, below, meth, c, Q, A, D, cA, x⟩ := v
  obtain ⟨hx, hb, hml, hown, hts, hK, hA, hfr, hlo, hNs⟩ := E
  intro H locs lsA hW hS hl
  have h := k H locs lsA hW hS hl
  simp only [List.map_cons, enc] at h ⊢
  rw [Int32.ofInt_add a b] at h
  exact lv_iadd hx hb hd h
theorem s_isub (E : Cx v cc nL own d) {a b : Int} (hd : decode cc pc = .ok (.isub, 1))
    (k : Ws v as sh mc ms (pc + 1) ls (iv (a - b) :: st) M) : Ws v as sh mc ms pc ls (iv b :: iv a :: st) M := by
  obtain ⟨p, l, e, R, s, m, args, below, meth, c, Q, A, D, cA, x⟩ := v
  obtain ⟨hx, hb, hml, hown, hts, hK, hA, hfr, hlo, hNs⟩ := E
  intro H locs lsA hW hS hl
  have h := k H locs lsA hW hS hl
  simp only [List.map_cons, enc] at h ⊢
  rw [Int32.ofInt_sub a b] at h
  exact lv_isub hx hb hd h
theorem s_imul (E : Cx v cc nL own d) {a b : Int} (hd : decode cc pc = .ok (.imul, 1))
    (k : Ws v as sh mc ms (pc + 1) ls (iv (a * b) :: st) M) : Ws v as sh mc ms pc ls (iv b :: iv a :: st) M := by
  obtain ⟨p, l, e, R, s, m, args, below, meth, c, Q, A, D, cA, x⟩ := v
  obtain ⟨hx, hb, hml, hown, hts, hK, hA, hfr, hlo, hNs⟩ := E
  intro H locs lsA hW hS hl
  have h := k H locs lsA hW hS hl
  simp only [List.map_cons, enc] at h ⊢
  rw [Int32.ofInt_mul a b] at h
  exact lv_imul hx hb hd h
theorem s_ineg (E : Cx v cc nL own d) {a : Int} (hd : decode cc pc = .ok (.ineg, 1))
    (k : Ws v as sh mc ms (pc + 1) ls (iv (-a) :: st) M) : Ws v as sh mc ms pc ls (iv a :: st) M := by
  obtain ⟨p, l, e, R, s, m, args, below, meth, c, Q, A, D, cA, x⟩ := v
  obtain ⟨hx, hb, hml, hown, hts, hK, hA, hfr, hlo, hNs⟩ := E
  intro H locs lsA hW hS hl
  have h := k H locs lsA hW hS hl
  simp only [List.map_cons, enc] at h ⊢
  rw [Int32.ofInt_neg a] at h
  exact lv_ineg hx hb hd h
theorem s_iand (E : Cx v cc nL own d) {a b : Int} (hd : decode cc pc = .ok (.iand, 1))
    (k : Ws v as sh mc ms (pc + 1) ls (iv (iAnd a b) :: st) M) : Ws v as sh mc ms pc ls (iv b :: iv a :: st) M := by
  obtain ⟨p, l, e, R, s, m, args, below, meth, c, Q, A, D, cA, x⟩ := v
  obtain ⟨hx, hb, hml, hown, hts, hK, hA, hfr, hlo, hNs⟩ := E
  intro H locs lsA hW hS hl
  have h := k H locs lsA hW hS hl
  simp only [List.map_cons, enc, iAnd, Int32.ofInt_toInt] at h ⊢
  exact lv_iand hx hb hd h
theorem s_ior (E : Cx v cc nL own d) {a b : Int} (hd : decode cc pc = .ok (.ior, 1))
    (k : Ws v as sh mc ms (pc + 1) ls (iv (iOr a b) :: st) M) : Ws v as sh mc ms pc ls (iv b :: iv a :: st) M := by
  obtain ⟨p, l, e, R, s, m, args, below, meth, c, Q, A, D, cA, x⟩ := v
  obtain ⟨hx, hb, hml, hown, hts, hK, hA, hfr, hlo, hNs⟩ := E
  intro H locs lsA hW hS hl
  have h := k H locs lsA hW hS hl
  simp only [List.map_cons, enc, iOr, Int32.ofInt_toInt] at h ⊢
  exact lv_ior hx hb hd h
theorem s_ixor (E : Cx v cc nL own d) {a b : Int} (hd : decode cc pc = .ok (.ixor, 1))
    (k : Ws v as sh mc ms (pc + 1) ls (iv (iXor a b) :: st) M) : Ws v as sh mc ms pc ls (iv b :: iv a :: st) M := by
  obtain ⟨p, l, e, R, s, m, args, below, meth, c, Q, A, D, cA, x⟩ := v
  obtain ⟨hx, hb, hml, hown, hts, hK, hA, hfr, hlo, hNs⟩ := E
  intro H locs lsA hW hS hl
  have h := k H locs lsA hW hS hl
  simp only [List.map_cons, enc, iXor, Int32.ofInt_toInt] at h ⊢
  exact lv_ixor hx hb hd h
theorem s_ishl (E : Cx v cc nL own d) {a b : Int} (hd : decode cc pc = .ok (.ishl, 1))
    (k : Ws v as sh mc ms (pc + 1) ls (iv (iShl a b) :: st) M) : Ws v as sh mc ms pc ls (iv b :: iv a :: st) M := by
  obtain ⟨p, l, e, R, s, m, args, below, meth, c, Q, A, D, cA, x⟩ := v
  obtain ⟨hx, hb, hml, hown, hts, hK, hA, hfr, hlo, hNs⟩ := E
  intro H locs lsA hW hS hl
  have h := k H locs lsA hW hS hl
  simp only [List.map_cons, enc, iShl, Int32.ofInt_toInt] at h ⊢
  exact lv_ishl hx hb hd h
theorem s_ishr (E : Cx v cc nL own d) {a b : Int} (hd : decode cc pc = .ok (.ishr, 1))
    (k : Ws v as sh mc ms (pc + 1) ls (iv (iShr a b) :: st) M) : Ws v as sh mc ms pc ls (iv b :: iv a :: st) M := by
  obtain ⟨p, l, e, R, s, m, args, below, meth, c, Q, A, D, cA, x⟩ := v
  obtain ⟨hx, hb, hml, hown, hts, hK, hA, hfr, hlo, hNs⟩ := E
  intro H locs lsA hW hS hl
  have h := k H locs lsA hW hS hl
  simp only [List.map_cons, enc, iShr, Int32.ofInt_toInt] at h ⊢
  exact lv_ishr hx hb hd h
theorem s_idiv (E : Cx v cc nL own d) {a b : Int} (hd : decode cc pc = .ok (.idiv, 1)) (ha : 0 ≤ a ∧ a ≤ 2147483647) (hp : 0 < b ∧ b ≤ 2147483647)
    (k : Ws v as sh mc ms (pc + 1) ls (iv (a / b) :: st) M) : Ws v as sh mc ms pc ls (iv b :: iv a :: st) M := by
  obtain ⟨p, l, e, R, s, m, args, below, meth, c, Q, A, D, cA, x⟩ := v
  obtain ⟨hx, hb, hml, hown, hts, hK, hA, hfr, hlo, hNs⟩ := E
  intro H locs lsA hW hS hl
  have h := k H locs lsA hW hS hl
  simp only [List.map_cons, enc] at h ⊢
  have hia : inI a := ⟨by omega, ha.2⟩
  have hib : inI b := ⟨by omega, hp.2⟩
  refine lv_idiv hx hb hd (by rw [i_eq0 hib]; omega) ?_
  rw [i_div ha hp] at h
  exact h
theorem s_irem (E : Cx v cc nL own d) {a b : Int} (hd : decode cc pc = .ok (.irem, 1)) (ha : 0 ≤ a ∧ a ≤ 2147483647) (hp : 0 < b ∧ b ≤ 2147483647)
    (k : Ws v as sh mc ms (pc + 1) ls (iv (a % b) :: st) M) : Ws v as sh mc ms pc ls (iv b :: iv a :: st) M := by
  obtain ⟨p, l, e, R, s, m, args, below, meth, c, Q, A, D, cA, x⟩ := v
  obtain ⟨hx, hb, hml, hown, hts, hK, hA, hfr, hlo, hNs⟩ := E
  intro H locs lsA hW hS hl
  have h := k H locs lsA hW hS hl
  simp only [List.map_cons, enc] at h ⊢
  have hib : inI b := ⟨by omega, hp.2⟩
  refine lv_irem hx hb hd (by rw [i_eq0 hib]; omega) ?_
  rw [← i_div ha hp, ← Int32.ofInt_mul, ← Int32.ofInt_sub]
  have e : a - a / b * b = a % b := by
    have := Int.emod_add_mul_ediv a b
    rw [Int.mul_comm] at this
    omega
  rw [e]
  exact h
theorem s_goto (E : Cx v cc nL own d) {off : Int} (tgt : Nat) (hd : decode cc pc = .ok (.goto off, 3)) (ht : (pc : Int) + off = (tgt : Int))
    (k : Ws v as sh mc ms tgt ls st M) : Ws v as sh mc ms pc ls st M := by
  obtain ⟨p, l, e, R, s, m, args, below, meth, c, Q, A, D, cA, x⟩ := v
  obtain ⟨hx, hb, hml, hown, hts, hK, hA, hfr, hlo, hNs⟩ := E
  intro H locs lsA hW hS hl
  exact lv_goto hx hb hd ht (k H locs lsA hW hS hl)
theorem s_icmp_eq (E : Cx v cc nL own d) {a b off : Int} (tgt : Nat) (hd : decode cc pc = .ok (.if_icmp .eq off, 3)) (ht : (pc : Int) + off = (tgt : Int)) (ha : inI a) (hbb : inI b)
    (kt : a = b → Ws v as sh mc ms tgt ls st M) (kf : ¬ (a = b) → Ws v as sh mc ms (pc + 3) ls st M) : Ws v as sh mc ms pc ls (iv b :: iv a :: st) M := by
  obtain ⟨p, l, e, R, s, m, args, below, meth, c, Q, A, D, cA, x⟩ := v
  obtain ⟨hx, hb, hml, hown, hts, hK, hA, hfr, hlo, hNs⟩ := E
  intro H locs lsA hW hS hl
  exact lv_icmp_eq hx hb hd ht (fun q => kt ((i_eq ha hbb).mp q) H locs lsA hW hS hl) (fun q => kf (fun z => q ((i_eq ha hbb).mpr z)) H locs lsA hW hS hl)
theorem s_if_eq (E : Cx v cc nL own d) {a off : Int} (tgt : Nat) (hd : decode cc pc = .ok (.ifCond .eq off, 3)) (ht : (pc : Int) + off = (tgt : Int)) (ha : inI a)
    (kt : a = 0 → Ws v as sh mc ms tgt ls st M) (kf : ¬ (a = 0) → Ws v as sh mc ms (pc + 3) ls st M) : Ws v as sh mc ms pc ls (iv a :: st) M := by
  obtain ⟨p, l, e, R, s, m, args, below, meth, c, Q, A, D, cA, x⟩ := v
  obtain ⟨hx, hb, hml, hown, hts, hK, hA, hfr, hlo, hNs⟩ := E
  intro H locs lsA hW hS hl
  exact lv_if_eq hx hb hd ht (fun q => kt ((i_eq0 ha).mp q) H locs lsA hW hS hl) (fun q => kf (fun z => q ((i_eq0 ha).mpr z)) H locs lsA hW hS hl)
theorem s_icmp_ne (E : Cx v cc nL own d) {a b off : Int} (tgt : Nat) (hd : decode cc pc = .ok (.if_icmp .ne off, 3)) (ht : (pc : Int) + off = (tgt : Int)) (ha : inI a) (hbb : inI b)
    (kt : a ≠ b → Ws v as sh mc ms tgt ls st M) (kf : ¬ (a ≠ b) → Ws v as sh mc ms (pc + 3) ls st M) : Ws v as sh mc ms pc ls (iv b :: iv a :: st) M := by
  obtain ⟨p, l, e, R, s, m, args, below, meth, c, Q, A, D, cA, x⟩ := v
  obtain ⟨hx, hb, hml, hown, hts, hK, hA, hfr, hlo, hNs⟩ := E
  intro H locs lsA hW hS hl
  exact lv_icmp_ne hx hb hd ht (fun q => kt (fun z => q ((i_eq ha hbb).mpr z)) H locs lsA hW hS hl) (fun q => kf (fun z => z ((i_eq ha hbb).mp q)) H locs lsA hW hS hl)
theorem s_if_ne (E : Cx v cc nL own d) {a off : Int} (tgt : Nat) (hd : decode cc pc = .ok (.ifCond .ne off, 3)) (ht : (pc : Int) + off = (tgt : Int)) (ha : inI a)
    (kt : a ≠ 0 → Ws v as sh mc ms tgt ls st M) (kf : ¬ (a ≠ 0) → Ws v as sh mc ms (pc + 3) ls st M) : Ws v as sh mc ms pc ls (iv a :: st) M := by
  obtain ⟨p, l, e, R, s, m, args, below, meth, c, Q, A, D, cA, x⟩ := v
  obtain ⟨hx, hb, hml, hown, hts, hK, hA, hfr, hlo, hNs⟩ := E
  intro H locs lsA hW hS hl
  exact lv_if_ne hx hb hd ht (fun q => kt (fun z => q ((i_eq0 ha).mpr z)) H locs lsA hW hS hl) (fun q => kf (fun z => z ((i_eq0 ha).mp q)) H locs lsA hW hS hl)
theorem s_icmp_lt (E : Cx v cc nL own d) {a b off : Int} (tgt : Nat) (hd : decode cc pc = .ok (.if_icmp .lt off, 3)) (ht : (pc : Int) + off = (tgt : Int)) (ha : inI a) (hbb : inI b)
    (kt : a < b → Ws v as sh mc ms tgt ls st M) (kf : ¬ (a < b) → Ws v as sh mc ms (pc + 3) ls st M) : Ws v as sh mc ms pc ls (iv b :: iv a :: st) M := by
  obtain ⟨p, l, e, R, s, m, args, below, meth, c, Q, A, D, cA, x⟩ := v
  obtain ⟨hx, hb, hml, hown, hts, hK, hA, hfr, hlo, hNs⟩ := E
  intro H locs lsA hW hS hl
  exact lv_icmp_lt hx hb hd ht (fun q => kt ((i_lt ha hbb).mp q) H locs lsA hW hS hl) (fun q => kf (fun z => q ((i_lt ha hbb).mpr z)) H locs lsA hW hS hl)
theorem s_if_lt (E : Cx v cc nL own d) {a off : Int} (tgt : Nat) (hd : decode cc pc = .ok (.ifCond .lt off, 3)) (ht : (pc : Int) + off = (tgt : Int)) (ha : inI a)
    (kt : a < 0 → Ws v as sh mc ms tgt ls st M) (kf : ¬ (a < 0) → Ws v as sh mc ms (pc + 3) ls st M) : Ws v as sh mc ms pc ls (iv a :: st) M := by
  obtain ⟨p, l, e, R, s, m, args, below, meth, c, Q, A, D, cA, x⟩ := v
  obtain ⟨hx, hb, hml, hown, hts, hK, hA, hfr, hlo, hNs⟩ := E
  intro H locs lsA hW hS hl
  exact lv_if_lt hx hb hd ht (fun q => kt ((i_lt0 ha).mp q) H locs lsA hW hS hl) (fun q => kf (fun z => q ((i_lt0 ha).mpr z)) H locs lsA hW hS hl)
theorem s_icmp_ge (E : Cx v cc nL own d) {a b off : Int} (tgt : Nat) (hd : decode cc pc = .ok (.if_icmp .ge off, 3)) (ht : (pc : Int) + off = (tgt : Int)) (ha : inI a) (hbb : inI b)
    (kt : a ≥ b → Ws v as sh mc ms tgt ls st M) (kf : ¬ (a ≥ b) → Ws v as sh mc ms (pc + 3) ls st M) : Ws v as sh mc ms pc ls (iv b :: iv a :: st) M := by
  obtain ⟨p, l, e, R, s, m, args, below, meth, c, Q, A, D, cA, x⟩ := v
  obtain ⟨hx, hb, hml, hown, hts, hK, hA, hfr, hlo, hNs⟩ := E
  intro H locs lsA hW hS hl
  exact lv_icmp_ge hx hb hd ht (fun q => kt ((i_le hbb ha).mp q) H locs lsA hW hS hl) (fun q => kf (fun z => q ((i_le hbb ha).mpr z)) H locs lsA hW hS hl)
theorem s_if_ge (E : Cx v cc nL own d) {a off : Int} (tgt : Nat) (hd : decode cc pc = .ok (.ifCond .ge off, 3)) (ht : (pc : Int) + off = (tgt : Int)) (ha : inI a)
    (kt : a ≥ 0 → Ws v as sh mc ms tgt ls st M) (kf : ¬ (a ≥ 0) → Ws v as sh mc ms (pc + 3) ls st M) : Ws v as sh mc ms pc ls (iv a :: st) M := by
  obtain ⟨p, l, e, R, s, m, args, below, meth, c, Q, A, D, cA, x⟩ := v
  obtain ⟨hx, hb, hml, hown, hts, hK, hA, hfr, hlo, hNs⟩ := E
  intro H locs lsA hW hS hl
  exact lv_if_ge hx hb hd ht (fun q => kt ((i_ge0 ha).mp q) H locs lsA hW hS hl) (fun q => kf (fun z => q ((i_ge0 ha).mpr z)) H locs lsA hW hS hl)
theorem s_icmp_gt (E : Cx v cc nL own d) {a b off : Int} (tgt : Nat) (hd : decode cc pc = .ok (.if_icmp .gt off, 3)) (ht : (pc : Int) + off = (tgt : Int)) (ha : inI a) (hbb : inI b)
    (kt : a > b → Ws v as sh mc ms tgt ls st M) (kf : ¬ (a > b) → Ws v as sh mc ms (pc + 3) ls st M) : Ws v as sh mc ms pc ls (iv b :: iv a :: st) M := by
  obtain ⟨p, l, e, R, s, m, args, below, meth, c, Q, A, D, cA, x⟩ := v
  obtain ⟨hx, hb, hml, hown, hts, hK, hA, hfr, hlo, hNs⟩ := E
  intro H locs lsA hW hS hl
  exact lv_icmp_gt hx hb hd ht (fun q => kt ((i_lt hbb ha).mp q) H locs lsA hW hS hl) (fun q => kf (fun z => q ((i_lt hbb ha).mpr z)) H locs lsA hW hS hl)
theorem s_if_gt (E : Cx v cc nL own d) {a off : Int} (tgt : Nat) (hd : decode cc pc = .ok (.ifCond .gt off, 3)) (ht : (pc : Int) + off = (tgt : Int)) (ha : inI a)
    (kt : a > 0 → Ws v as sh mc ms tgt ls st M) (kf : ¬ (a > 0) → Ws v as sh mc ms (pc + 3) ls st M) : Ws v as sh mc ms pc ls (iv a :: st) M := by
  obtain ⟨p, l, e, R, s, m, args, below, meth, c, Q, A, D, cA, x⟩ := v
  obtain ⟨hx, hb, hml, hown, hts, hK, hA, hfr, hlo, hNs⟩ := E
  intro H locs lsA hW hS hl
  exact lv_if_gt hx hb hd ht (fun q => kt ((i_gt0 ha).mp q) H locs lsA hW hS hl) (fun q => kf (fun z => q ((i_gt0 ha).mpr z)) H locs lsA hW hS hl)
theorem s_icmp_le (E : Cx v cc nL own d) {a b off : Int} (tgt : Nat) (hd : decode cc pc = .ok (.if_icmp .le off, 3)) (ht : (pc : Int) + off = (tgt : Int)) (ha : inI a) (hbb : inI b)
    (kt : a ≤ b → Ws v as sh mc ms tgt ls st M) (kf : ¬ (a ≤ b) → Ws v as sh mc ms (pc + 3) ls st M) : Ws v as sh mc ms pc ls (iv b :: iv a :: st) M := by
  obtain ⟨p, l, e, R, s, m, args, below, meth, c, Q, A, D, cA, x⟩ := v
  obtain ⟨hx, hb, hml, hown, hts, hK, hA, hfr, hlo, hNs⟩ := E
  intro H locs lsA hW hS hl
  exact lv_icmp_le hx hb hd ht (fun q => kt ((i_le ha hbb).mp q) H locs lsA hW hS hl) (fun q => kf (fun z => q ((i_le ha hbb).mpr z)) H locs lsA hW hS hl)
theorem s_if_le (E : Cx v cc nL own d) {a off : Int} (tgt : Nat) (hd : decode cc pc = .ok (.ifCond .le off, 3)) (ht : (pc : Int) + off = (tgt : Int)) (ha : inI a)
    (kt : a ≤ 0 → Ws v as sh mc ms tgt ls st M) (kf : ¬ (a ≤ 0) → Ws v as sh mc ms (pc + 3) ls st M) : Ws v as sh mc ms pc ls (iv a :: st) M := by
  obtain ⟨p, l, e, R, s, m, args, below, meth, c, Q, A, D, cA, x⟩ := v
  obtain ⟨hx, hb, hml, hown, hts, hK, hA, hfr, hlo, hNs⟩ := E
  intro H locs lsA hW hS hl
  exact lv_if_le hx hb hd ht (fun q => kt ((i_le0 ha).mp q) H locs lsA hW hS hl) (fun q => kf (fun z => q ((i_le0 ha).mpr z)) H locs lsA hW hS hl)
theorem s_tin (E : Cx v cc nL own d) {dflt lo hi off : Int} {offs : Array Int} {len : Nat} {a : Int} (tgt : Nat) (kk : Int) (hd : decode cc pc = .ok (.tableswitch dflt lo hi offs, len)) (ha : a = kk) (hk : inI kk ∧ ¬ kk < lo ∧ ¬ hi < kk) (ho : offs[(kk - lo).toNat]? = some off) (ht : (pc : Int) + off = (tgt : Int))
    (k : Ws v as sh mc ms tgt ls st M) : Ws v as sh mc ms pc ls (iv a :: st) M := by
  obtain ⟨p, l, e, R, s, m, args, below, meth, c, Q, A, D, cA, x⟩ := v
  obtain ⟨hx, hb, hml, hown, hts, hK, hA, hfr, hlo, hNs⟩ := E
  intro H locs lsA hW hS hl
  subst ha
  exact lv_tableIn hx hb hd (by rw [i_toInt hk.1]; exact hk.2.1) (by rw [i_toInt hk.1]; exact hk.2.2) (by rw [i_toInt hk.1]; exact ho) ht (k H locs lsA hW hS hl)
theorem s_tout (E : Cx v cc nL own d) {dflt lo hi : Int} {offs : Array Int} {len : Nat} {a : Int} (tgt : Nat) (hd : decode cc pc = .ok (.tableswitch dflt lo hi offs, len)) (ha : inI a) (hk : a < lo ∨ hi < a) (ht : (pc : Int) + dflt = (tgt : Int))
    (k : Ws v as sh mc ms tgt ls st M) : Ws v as sh mc ms pc ls (iv a :: st) M := by
  obtain ⟨p, l, e, R, s, m, args, below, meth, c, Q, A, D, cA, x⟩ := v
  obtain ⟨hx, hb, hml, hown, hts, hK, hA, hfr, hlo, hNs⟩ := E
  intro H locs lsA hW hS hl
  exact lv_tableOut hx hb hd (by rw [i_toInt ha]; exact hk) ht (k H locs lsA hW hS hl)
theorem s_lsw (E : Cx v cc nL own d) {dflt off : Int} {ps : Array (Int × Int)} {len : Nat} {a : Int} (tgt : Nat) (hd : decode cc pc = .ok (.lookupswitch dflt ps, len)) (ha : inI a) (hp : (ps.toList.zip (ps.toList.drop 1)).all (fun (a, next) => a.1 < next.1) = true) (ho : Op.lookupswitch.offset ps.toList dflt a = off) (ht : (pc : Int) + off = (tgt : Int))
    (k : Ws v as sh mc ms tgt ls st M) : Ws v as sh mc ms pc ls (iv a :: st) M := by
  obtain ⟨p, l, e, R, s, m, args, below, meth, c, Q, A, D, cA, x⟩ := v
  obtain ⟨hx, hb, hml, hown, hts, hK, hA, hfr, hlo, hNs⟩ := E
  intro H locs lsA hW hS hl
  exact lv_lookup hx hb hd hp (by rw [i_toInt ha]; exact ho) ht (k H locs lsA hW hS hl)
theorem s_getI (E : Cx v cc nL own d) {ci kf N idx : Nat} (kfi : Int) {C : String} {T : u_T} {fs : List (Option (Option Int))} {o : Int} (he : (kf : Int) = kfi) (hd : decode cc pc = .ok (.getfield idx, 3)) (hc : vwCl[ci]? = some (C, T, N)) (hin : ∀ w ∈ u_ws C T N, w ∈ BIG) (hk : kf < N) (hlink : Cond.fieldLink own idx (T kf).1 (T kf).2.1 (T kf).2.2.1 ∈ BIG) (ho : 0 ≤ o) (hs : sh[o.toNat]? = some (.inl (ci, fs))) (hf : fs[kf]? = some none)
    (k : Ws v as sh mc ms (pc + 3) ls (iv (M o kfi) :: st) M) : Ws v as sh mc ms pc ls (rv o :: st) M := by
  subst he
  obtain ⟨p, l, e, R, s, m, args, below, meth, c, Q, A, D, cA, x⟩ := v
  obtain ⟨hx, hb, hml, hown, hts, hK, hA, hfr, hlo, hNs⟩ := E
  intro H locs lsA hW hS hl
  refine va_get (D := D) hx hb hts hin hown hK hW.2.1 o.toNat (wld_at hW.1 ho hs) hc kf hk (hts _ hlink) (fun _ h9 => h9) (v := .int (Int32.ofInt (M o kf))) ?_ hd (k H locs lsA hW hS hl)
  rw [List.getElem?_mapIdx, hf]
  rfl
theorem s_getR (E : Cx v cc nL own d) {ci kf N idx : Nat} {C : String} {T : u_T} {fs : List (Option (Option Int))} {o r : Int} (hd : decode cc pc = .ok (.getfield idx, 3)) (hc : vwCl[ci]? = some (C, T, N)) (hin : ∀ w ∈ u_ws C T N, w ∈ BIG) (hk : kf < N) (hlink : Cond.fieldLink own idx (T kf).1 (T kf).2.1 (T kf).2.2.1 ∈ BIG) (ho : 0 ≤ o) (hs : sh[o.toNat]? = some (.inl (ci, fs))) (hf : fs[kf]? = some (some (some r)))
    (k : Ws v as sh mc ms (pc + 3) ls (rv r :: st) M) : Ws v as sh mc ms pc ls (rv o :: st) M := by
  obtain ⟨p, l, e, R, s, m, args, below, meth, c, Q, A, D, cA, x⟩ := v
  obtain ⟨hx, hb, hml, hown, hts, hK, hA, hfr, hlo, hNs⟩ := E
  intro H locs lsA hW hS hl
  refine va_get (D := D) hx hb hts hin hown hK hW.2.1 o.toNat (wld_at hW.1 ho hs) hc kf hk (hts _ hlink) (fun _ h9 => h9) (v := .ref (adr x as r)) ?_ hd (k H locs lsA hW hS hl)
  rw [List.getElem?_mapIdx, hf]
  rfl
theorem s_putI (E : Cx v cc nL own d) {ci kf N idx : Nat} (kfi : Int) {C : String} {T : u_T} {ty0 : Nat → FieldType} {fs : List (Option (Option Int))} {o z : Int} (he : (kf : Int) = kfi) (hd : decode cc pc = .ok (.putfield idx, 3)) (hc : vwCl[ci]? = some (C, T, N)) (hin : ∀ w ∈ u_ws C T N, w ∈ BIG) (hty : ∀ k, k < N → parseFieldDescriptor (T k).2.2.1 = some (ty0 k)) (hnm : ∀ a, a < N → ∀ b, b < N → a ≠ b → (T a).2.1 ≠ (T b).2.1) (hk : kf < N) (hint : (T kf).2.2.1 = "I" ∧ (T kf).2.2.2 = false) (hlink : Cond.fieldLink own idx (T kf).1 (T kf).2.1 (T kf).2.2.1 ∈ BIG) (ho : 0 ≤ o) (hs : sh[o.toNat]? = some (.inl (ci, fs))) (hf : fs[kf]? = some none)
    (k : Ws v as sh mc ms (pc + 3) ls st (upm M o kfi z)) : Ws v as sh mc ms pc ls (iv z :: rv o :: st) M := by
  subst he
  obtain ⟨p, l, e, R, s, m, args, below, meth, c, Q, A, D, cA, x⟩ := v
  obtain ⟨hx, hb, hml, hown, hts, hK, hA, hfr, hlo, hNs⟩ := E
  intro H locs lsA hW hS hl
  have hlen : kf < fs.length := (List.getElem?_eq_some_iff.mp hf).1
  refine va_put (D := D) hx hb hts hin ty0 hty hnm hown hK hW.2.1 hW.2.2.1 hS o.toNat (wld_at hW.1 ho hs) hc kf hk (hts _ hlink) (fun _ h9 => h9) hint.2 (ty := .int) (by rw [hint.1]; decide +kernel) rfl rfl (by rw [List.length_mapIdx]; exact hlen) hd (fun H1 locs1 hP1 hD1 hS1 => ?_)
  have e : (fs.mapIdx (fun j f => fval x as M o j f)).set kf (Value.int (Int32.ofInt z)) = fs.mapIdx (fun j f => fval x as (upm M o kf z) o j f) := by
    apply List.ext_getElem?
    intro i
    by_cases hi : i = kf
    · subst hi
      rw [List.getElem?_set_self (by rw [List.length_mapIdx]; exact hlen), List.getElem?_mapIdx, hf]
      simp [fval, upm_eq]
    · rw [List.getElem?_set_ne (Ne.symm hi), List.getElem?_mapIdx, List.getElem?_mapIdx]
      cases fs[i]? with
      | none => rfl
      | some f =>
        have hne : ((i : Nat) : Int) ≠ (kf : Int) := by omega
        rcases f with _ | _ | r <;> simp [fval, upm_ne (Or.inr hne)]
  have e2 : (wld cA x as sh M).set o.toNat (adr x as o, .inr (ci, (fs.mapIdx (fun j f => fval x as M o j f)).set kf (Value.int (Int32.ofInt z)))) = wld cA x as sh (upm M o kf z) := by
    rw [e]
    exact wld_set hW.1 ho hs
  have hP2 : va_P D vwCl ((wld cA x as sh M).set o.toNat (adr x as o, .inr (ci, (fs.mapIdx (fun j f => fval x as M o j f)).set kf (Value.int (Int32.ofInt z))))) H1 := hP1
  have hD2 : va_D A ((wld cA x as sh M).set o.toNat (adr x as o, .inr (ci, (fs.mapIdx (fun j f => fval x as M o j f)).set kf (Value.int (Int32.ofInt z))))) := hD1
  rw [e2] at hP2 hD2
  exact k H1 locs1 lsA ⟨hW.1, hP2, hD2, hW.2.2.2⟩ hS1 hl
theorem s_iald (E : Cx v cc nL own d) {n : Nat} {es : List (Option Int)} {o j : Int} (hd : decode cc pc = .ok (.iaload, 1)) (ho : 0 ≤ o) (hs : sh[o.toNat]? = some (.inr (0, n, es))) (hn : n ≤ 65536) (hj : 0 ≤ j ∧ j < (n : Int))
    (k : Ws v as sh mc ms (pc + 1) ls (iv (M o j) :: st) M) : Ws v as sh mc ms pc ls (iv j :: rv o :: st) M := by
  obtain ⟨p, l, e, R, s, m, args, below, meth, c, Q, A, D, cA, x⟩ := v
  obtain ⟨hx, hb, hml, hown, hts, hK, hA, hfr, hlo, hNs⟩ := E
  intro H locs lsA hW hS hl
  have hji : inI j := ⟨by omega, by omega⟩
  have h := k H locs lsA hW hS hl
  have e : (wld cA x as sh M)[o.toNat]? = some (adr x as o, .inl (cA 0, n, .inl (fun j => Int32.ofInt (M o j)))) := wld_at hW.1 ho hs
  refine va_iald (D := D) hx hb (hW.tys hK hs) hW.2.1 o.toNat 0 e rfl (i_in hji hj) hd ?_
  rw [i_nat hji, Int.toNat_of_nonneg hj.1]
  exact h
theorem s_bald (E : Cx v cc nL own d) {n : Nat} {es : List (Option Int)} {o j : Int} (hd : decode cc pc = .ok (.baload, 1)) (ho : 0 ≤ o) (hs : sh[o.toNat]? = some (.inr (1, n, es))) (hn : n ≤ 65536) (hj : 0 ≤ j ∧ j < (n : Int))
    (k : Ws v as sh mc ms (pc + 1) ls (iv (M o j) :: st) M) : Ws v as sh mc ms pc ls (iv j :: rv o :: st) M := by
  obtain ⟨p, l, e, R, s, m, args, below, meth, c, Q, A, D, cA, x⟩ := v
  obtain ⟨hx, hb, hml, hown, hts, hK, hA, hfr, hlo, hNs⟩ := E
  intro H locs lsA hW hS hl
  have hji : inI j := ⟨by omega, by omega⟩
  have h := k H locs lsA hW hS hl
  have e : (wld cA x as sh M)[o.toNat]? = some (adr x as o, .inl (cA 1, n, .inl (fun j => Int32.ofInt (M o j)))) := wld_at hW.1 ho hs
  refine va_zald (D := D) hx hb (hW.tys hK hs) hW.2.1 o.toNat 0 e rfl (i_in hji hj) hd ?_
  rw [i_nat hji, Int.toNat_of_nonneg hj.1]
  exact h
theorem s_aald (E : Cx v cc nL own d) {kd n : Nat} {es : List (Option Int)} {o j r : Int} (hd : decode cc pc = .ok (.aaload, 1)) (ho : 0 ≤ o) (hs : sh[o.toNat]? = some (.inr (kd + 2, n, es))) (hn : n ≤ 65536) (hj : 0 ≤ j ∧ j < (n : Int)) (hr : es[j.toNat]? = some (some r))
    (k : Ws v as sh mc ms (pc + 1) ls (rv r :: st) M) : Ws v as sh mc ms pc ls (iv j :: rv o :: st) M := by
  obtain ⟨p, l, e, R, s, m, args, below, meth, c, Q, A, D, cA, x⟩ := v
  obtain ⟨hx, hb, hml, hown, hts, hK, hA, hfr, hlo, hNs⟩ := E
  intro H locs lsA hW hS hl
  have hji : inI j := ⟨by omega, by omega⟩
  have h := k H locs lsA hW hS hl
  have hlt : j.toNat < n := by omega
  have e : (wld cA x as sh M)[o.toNat]? = some (adr x as o, .inl (cA (kd + 2), n, .inr (.inr (.inr (.inr (fun j => (es.getD j none).map (adr x as))))))) := by
    rw [wld_at hW.1 ho hs]
    simp [ecell]
  have hty := hW.2.2.2 _ _ _ (List.mem_of_getElem? hs)
  refine W.aald (v := .ref (adr x as r)) (ty := tyK (kd + 2)) hx hb (hW.2.1 _ _ e) (hty.1 n (fun j => va_rf ((es.getD j none).map (adr x as)))) (by rcases kd with _ | kd <;> rfl) (fun q => by cases q) (by rw [show vp_cell (cA (kd + 2)) (n, .inr (.inr (.inr (.inr (fun j => (es.getD j none).map (adr x as)))))) = arrV (cA (kd + 2)) n (fun j => va_rf ((es.getD j none).map (adr x as))) from rfl, arrV_size]; exact i_in hji hj) (by
      show (arrV _ _ _).slots[_]? = _
      rw [i_nat hji, arrV_read _ _ hlt]
      simp [List.getD, hr, va_rf]) rfl rfl hd h
theorem s_iast (E : Cx v cc nL own d) {n : Nat} {es : List (Option Int)} {o j z : Int} (hd : decode cc pc = .ok (.iastore, 1)) (ho : 0 ≤ o) (hs : sh[o.toNat]? = some (.inr (0, n, es))) (hn : n ≤ 65536) (hj : 0 ≤ j ∧ j < (n : Int))
    (k : Ws v as sh mc ms (pc + 1) ls st (upm M o j z)) : Ws v as sh mc ms pc ls (iv z :: iv j :: rv o :: st) M := by
  obtain ⟨p, l, e, R, s, m, args, below, meth, c, Q, A, D, cA, x⟩ := v
  obtain ⟨hx, hb, hml, hown, hts, hK, hA, hfr, hlo, hNs⟩ := E
  intro H locs lsA hW hS hl
  have hji : inI j := ⟨by omega, by omega⟩
  have e : (wld cA x as sh M)[o.toNat]? = some (adr x as o, .inl (cA 0, n, .inl (fun j => Int32.ofInt (M o j)))) := wld_at hW.1 ho hs
  refine va_iast (D := D) hx hb (hW.tys hK hs) hW.2.1 hW.2.2.1 hS o.toNat 0 e rfl (i_in hji hj) hd (fun H1 locs1 hP1 hD1 hS1 => ?_)
  rw [i_nat hji, upd_upm hj.1] at hP1 hD1
  have e2 : (wld cA x as sh M).set o.toNat (adr x as o, .inl (cA 0, n, .inl (fun q : Nat => Int32.ofInt (upm M o j z o q)))) = wld cA x as sh (upm M o j z) := wld_set hW.1 ho hs
  rw [e2] at hP1 hD1
  exact k H1 locs1 lsA ⟨hW.1, hP1, hD1, hW.2.2.2⟩ hS1 hl
theorem s_bast (E : Cx v cc nL own d) {n : Nat} {es : List (Option Int)} {o j z : Int} (hd : decode cc pc = .ok (.bastore, 1)) (ho : 0 ≤ o) (hs : sh[o.toNat]? = some (.inr (1, n, es))) (hn : n ≤ 65536) (hj : 0 ≤ j ∧ j < (n : Int)) (hz : z = 0 ∨ z = 1)
    (k : Ws v as sh mc ms (pc + 1) ls st (upm M o j z)) : Ws v as sh mc ms pc ls (iv z :: iv j :: rv o :: st) M := by
  obtain ⟨p, l, e, R, s, m, args, below, meth, c, Q, A, D, cA, x⟩ := v
  obtain ⟨hx, hb, hml, hown, hts, hK, hA, hfr, hlo, hNs⟩ := E
  intro H locs lsA hW hS hl
  have hji : inI j := ⟨by omega, by omega⟩
  have e : (wld cA x as sh M)[o.toNat]? = some (adr x as o, .inl (cA 1, n, .inl (fun j => Int32.ofInt (M o j)))) := wld_at hW.1 ho hs
  refine va_zast (D := D) hx hb (hW.tys hK hs) hW.2.1 hW.2.2.1 hS o.toNat 0 e rfl (i_in hji hj) hd (fun H1 locs1 hP1 hD1 hS1 => ?_)
  have hnar : vp_nar .boolean (Int32.ofInt z) = Int32.ofInt z := by rcases hz with rfl | rfl <;> rfl
  rw [hnar, i_nat hji, upd_upm hj.1] at hP1 hD1
  have e2 : (wld cA x as sh M).set o.toNat (adr x as o, .inl (cA 1, n, .inl (fun q : Nat => Int32.ofInt (upm M o j z o q)))) = wld cA x as sh (upm M o j z) := wld_set hW.1 ho hs
  rw [e2] at hP1 hD1
  exact k H1 locs1 lsA ⟨hW.1, hP1, hD1, hW.2.2.2⟩ hS1 hl
theorem s_mmax (E : Cx v cc nL own d) {idx : Nat} {a b : Int} (hd : decode cc pc = .ok (.invokestatic idx, 3)) (hlk : Cond.methodLink own idx Lib.Math.max.name ∈ BIG) (hw : Cond.static Lib.Math.max.name ∈ BIG ∧ Cond.initialized "java/lang/Math" ∈ BIG ∧ Cond.code Lib.Math.max.name Lib.Math.max.code 2 (some .int) ∈ BIG) (h1 : 1 ≤ d) (hst : st.length ≤ 20) (ha : inI a) (hbb : inI b)
    (k : Ws v as sh 0 0 (pc + 3) ls (iv (max a b) :: st) M) : Ws v as sh 0 0 pc ls (iv b :: iv a :: st) M := by
  obtain ⟨p, l, e, R, s, m, args, below, meth, c, Q, A, D, cA, x⟩ := v
  obtain ⟨hx, hb, hml, hown, hts, hK, hA, hfr, hlo, hNs⟩ := E
  intro H locs lsA hW hS hl
  have h := k H locs lsA hW hS hl
  simp only [List.map_cons, enc] at h ⊢
  rw [← i_max ha hbb] at h
  exact va_mmax hx hb hl.1.symm hown (hts _ hlk) (hts _ hw.1) (hts _ hw.2.1) (hts _ hw.2.2) (by omega) (by rw [cat_sum]; omega) (Nat.zero_le _) (Nat.zero_le _) hd h
theorem s_mmin (E : Cx v cc nL own d) {idx : Nat} {a b : Int} (hd : decode cc pc = .ok (.invokestatic idx, 3)) (hlk : Cond.methodLink own idx Lib.Math.min.name ∈ BIG) (hw : Cond.static Lib.Math.min.name ∈ BIG ∧ Cond.initialized "java/lang/Math" ∈ BIG ∧ Cond.code Lib.Math.min.name Lib.Math.min.code 2 (some .int) ∈ BIG) (h1 : 1 ≤ d) (hst : st.length ≤ 20) (ha : inI a) (hbb : inI b)
    (k : Ws v as sh 0 0 (pc + 3) ls (iv (min a b) :: st) M) : Ws v as sh 0 0 pc ls (iv b :: iv a :: st) M := by
  obtain ⟨p, l, e, R, s, m, args, below, meth, c, Q, A, D, cA, x⟩ := v
  obtain ⟨hx, hb, hml, hown, hts, hK, hA, hfr, hlo, hNs⟩ := E
  intro H locs lsA hW hS hl
  have h := k H locs lsA hW hS hl
  simp only [List.map_cons, enc] at h ⊢
  rw [← i_min ha hbb] at h
  exact va_mmin hx hb hl.1.symm hown (hts _ hlk) (hts _ hw.1) (hts _ hw.2.1) (hts _ hw.2.2) (by omega) (by rw [cat_sum]; omega) (Nat.zero_le _) (Nat.zero_le _) hd h
theorem s_copy (E : Cx v cc nL own d) {idx n0 n1 kd : Nat} {e0 e1 : List (Option Int)} {o0 o1 z : Int} (hd : decode cc pc = .ok (.invokestatic idx, 3)) (hlk : Cond.methodLink own idx arraycopyName ∈ BIG) (hw : Cond.native arraycopyName ∈ BIG ∧ Cond.static arraycopyName ∈ BIG ∧ Cond.initialized "java/lang/System" ∈ BIG) (h1 : 1 ≤ d) (hst : st.length ≤ 15) (ho0 : 0 ≤ o0) (ho1 : 0 ≤ o1) (hs0 : sh[o0.toNat]? = some (.inr (0, n0, e0))) (hs1 : sh[o1.toNat]? = some (.inr (0, n1, e1))) (hz : 0 ≤ z ∧ z ≤ n0 ∧ z ≤ n1 ∧ z ≤ 65536)
    (k : Ws v as sh mc ms (pc + 3) ls st (cp0 M o0 o1 z)) : Ws v as sh mc ms pc ls (iv z :: iv 0 :: rv o1 :: iv 0 :: rv o0 :: st) M := by
  obtain ⟨p, l, e, R, s, m, args, below, meth, c, Q, A, D, cA, x⟩ := v
  obtain ⟨hx, hb, hml, hown, hts, hK, hA, hfr, hlo, hNs⟩ := E
  intro H locs lsA hW hS hl
  have hzi : inI z := ⟨by omega, by omega⟩
  have a0 : (wld cA x as sh M)[o0.toNat]? = some (adr x as o0, .inl (cA 0, n0, .inl (fun j => Int32.ofInt (M o0 j)))) := wld_at hW.1 ho0 hs0
  have a1 : (wld cA x as sh M)[o1.toNat]? = some (adr x as o1, .inl (cA 0, n1, .inl (fun j => Int32.ofInt (M o1 j)))) := wld_at hW.1 ho1 hs1
  have z0 : (Int32.ofInt 0).toNatClampNeg = 0 := by decide
  have zn : (Int32.ofInt z).toNatClampNeg = z.toNat := i_nat hzi
  have hnw : nativeFrameWords "java/lang/System" "arraycopy" 5 + 11 ≤ 25 := by decide +kernel
  have hloc : ((st.map (enc x as)).map fun v => v.category).sum + (nativeFrameWords "java/lang/System" "arraycopy" 5 + 11) ≤ R.locals := by
    rw [cat_sum]
    omega
  have z00 : ¬ Int32.ofInt 0 < 0 := by decide
  refine va_copyi (D := D) hx hb hl.1.symm hown (hts _ hlk) (hts _ hw.1) (hts _ hw.2.1) (hts _ hw.2.2) (hW.tys hK hs0) hW.2.1 hW.2.2.1 hS o0.toNat o1.toNat 0 0 a0 a1 rfl rfl rfl (sp := Int32.ofInt 0) (dp := Int32.ofInt 0) (n := Int32.ofInt z) z00 z00 (by rw [i_lt0 hzi]; omega) (by rw [z0, zn]; omega) (by rw [z0, zn]; omega) (fun i _ => rfl) (by omega) hloc hd (fun H1 locs1 hP1 hD1 hS1 => ?_)
  have ef : va_cpy (fun j : Nat => Int32.ofInt (M o0 j)) (fun j : Nat => Int32.ofInt (M o1 j)) (Int32.ofInt 0).toNatClampNeg (Int32.ofInt 0).toNatClampNeg (Int32.ofInt z).toNatClampNeg = fun j : Nat => Int32.ofInt (cp0 M o0 o1 z o1 j) := by
    rw [z0, zn]
    funext q
    unfold va_cpy
    by_cases hq : q < z.toNat
    · rw [if_pos ⟨Nat.zero_le _, by omega⟩, cp0_in ⟨by omega, by omega⟩]
      simp
    · rw [if_neg (fun w => hq (by omega)), cp0_out (fun w => hq (by omega))]
  rw [ef] at hP1 hD1
  have e2 : (wld cA x as sh M).set o1.toNat (adr x as o1, .inl (cA 0, n1, .inl (fun q : Nat => Int32.ofInt (cp0 M o0 o1 z o1 q)))) = wld cA x as sh (cp0 M o0 o1 z) := wld_set' hW.1 ho1 hs1 (fun i hi => cp0_row hi)
  rw [e2] at hP1 hD1
  exact k H1 locs1 lsA ⟨hW.1, hP1, hD1, hW.2.2.2⟩ hS1 hl
end ROWS
-- words
theorem good_BIG : ∀ w ∈ BIG, (w.onTables && w.keeps) = true ∨ ∃ ty, w = .arrayClass ty := fun _ h => good_of_word (List.mem_filter.mp h).2
def wsB (y : MethodName) (bytes : ByteArray) (maxL : Nat) (rt : Option FieldType) : List Cond := .code y bytes maxL rt :: BIG
theorem good_wsB {y : MethodName} {bytes : ByteArray} {maxL : Nat} {rt : Option FieldType} (h : Cond.code y bytes maxL rt ∈ BIG) : GoodIn BIG (wsB y bytes maxL rt) := by
  intro w hw
  rcases List.mem_cons.mp hw with rfl | hw
  · exact ⟨h, good_BIG _ h⟩
  · exact ⟨hw, good_BIG _ hw⟩
-- contracts
def rmd (d : Nat) : Room := { frames := d, cells := 0, slots := 0, locals := 40 * d }
def PcB (D : va_G) (cA : Nat → ClassId) (x : Nat) (as : List Nat) (sh : List Sh) (M : Mm) (sz : Nat) (U : State) : Prop := U.heap.size = sz ∧ WP D cA x as sh M (fun _ => True) U U.heap ∧ va_K D vwCl [] U ∧ NsOK U
def QcB (D : va_G) (cA : Nat → ClassId) (x : Nat) (as : List Nat) (sh : List Sh) (A : Nat → Prop) (M' : Mm) (t : State) : Prop := WP D cA x as sh M' A t t.heap ∧ va_K D vwCl [] t
def CtI (y : MethodName) (bytes : ByteArray) (maxL : Nat) (rt : FieldType) (d : Nat) (sh : List Sh) (av : List Vv) (M : Mm) (post : Int → Mm → Prop) : Prop :=
  ∀ (l : Launch) (D : va_G) (cA : Nat → ClassId) (x : Nat) (as : List Nat) (sz : Nat), Met l y (wsB y bytes maxL (some rt)) (rmd d) (va_Pc (av.map (enc x as)) (PcB D cA x as sh M sz))
    (va_Qi (fun r M' => ∃ z, r = Int32.ofInt z ∧ post z M') (QcB D cA x as sh (va_A (wld cA x as sh M) sz)) (va_A (wld cA x as sh M) sz)) 0 0 (va_A (wld cA x as sh M) sz)
def CtV (y : MethodName) (bytes : ByteArray) (maxL : Nat) (d : Nat) (sh : List Sh) (av : List Vv) (M : Mm) (post : Mm → Prop) : Prop :=
  ∀ (l : Launch) (D : va_G) (cA : Nat → ClassId) (x : Nat) (as : List Nat) (sz : Nat), Met l y (wsB y bytes maxL none) (rmd d) (va_Pc (av.map (enc x as)) (PcB D cA x as sh M sz))
    (va_Qv (fun M' => post M') (QcB D cA x as sh (va_A (wld cA x as sh M) sz)) (va_A (wld cA x as sh M) sz)) 0 0 (va_A (wld cA x as sh M) sz)
theorem PcB_blind {D : va_G} {cA : Nat → ClassId} {x : Nat} {as : List Nat} {sh : List Sh} {M : Mm} {sz : Nat} {av : List Value} : FrameBlind (va_Pc av (PcB D cA x as sh M sz)) := by
  intro a U g mk q
  obtain ⟨q0, q1, qW, qK, qN⟩ := q
  exact ⟨q0, q1, WP.moved (u := U) (U := U.calling g mk a) (Vm.Alike.refl U.vm) qW, va_K.moved (u := U) (U := U.calling g mk a) (Vm.Alike.refl U.vm) qK, fun o i y h w => va_Nw.same rfl (u := U) (U := U.calling g mk a) rfl (qN o i y h w)⟩
theorem WP.weaken {D : va_G} {cA : Nat → ClassId} {x : Nat} {as : List Nat} {sh : List Sh} {M : Mm} {A A' : Nat → Prop} {s : State} {H : Heap} (h : WP D cA x as sh M A s H) (hA : ∀ q, A q → A' q) : WP D cA x as sh M A' s H :=
  ⟨h.1, h.2.1, h.2.2.1.weaken (fun _ q _ h => hA q.1 h), h.2.2.2⟩
theorem WP.free {D : va_G} {cA : Nat → ClassId} {x : Nat} {as : List Nat} {sh : List Sh} {M : Mm} {A : Nat → Prop} {s : State} {H H0 : Heap} {locs : List Loc} (h : WP D cA x as sh M A s H) (hS : va_S A H0 H locs) (hA : ∀ q : Nat, H0.size ≤ q → A q) : ∀ q, va_A (wld cA x as sh M) H.size q → A q := by
  intro q hq
  rcases hq with ⟨k, e, hk⟩ | hq
  · exact h.2.2.1.2 k (q, e) hk
  · exact hA q (Nat.le_trans hS.1 hq)
theorem WP.self {D : va_G} {cA : Nat → ClassId} {x : Nat} {as : List Nat} {sh : List Sh} {M : Mm} {A : Nat → Prop} {s : State} {H : Heap} {sz : Nat} (h : WP D cA x as sh M A s H) : WP D cA x as sh M (va_A (wld cA x as sh M) sz) s H :=
  ⟨h.1, h.2.1, h.2.2.1.self, h.2.2.2⟩
theorem CtI.of {y : MethodName} {bytes : ByteArray} {maxL : Nat} {rt : FieldType} {d : Nat} {sh : List Sh} {av : List Vv} {M : Mm} {post : Int → Mm → Prop} (hy : plainName y.cls = true) (hav : av.length ≤ maxL) (hrt : rt = .int ∨ rt = .boolean)
    (body : ∀ (v : Ev) (as : List Nat), Cx v bytes maxL y.cls d → (∀ r M', post r M' → (rt = .boolean → r = 0 ∨ r = 1) → ∀ pc ls, decode bytes pc = .ok (.ireturn, 1) → Ws v as sh 0 0 pc ls [iv r] M') → Ws v as sh 0 0 0 (av.map some ++ List.replicate (maxL - av.length) none) [] M) :
    CtI y bytes maxL rt d sh av M post := by
  intro l D cA x as sz
  refine Met.ofW (cc := bytes) (maxL := maxL) (ret := some rt) hy rfl ?_
  intro p e s m args below meth c s₁ B hml hv
  obtain ⟨rfl, hsz, hWP, hK, hNs⟩ := hv
  subst hsz
  have hts := atoms_spec (ws := wsB y bytes maxL (some rt)) B.pre
  have hown : s.vm.findClass y.cls = some m.cls := findClass_of_methodNamed B.named
  have hlocks := B.notSynchronized
  have hW : WP D cA x as sh M (va_A (wld cA x as sh M) s.heap.size) s s.heap := hWP.self
  have key := body (p, l, e, (headSpec (wsB y bytes maxL (some rt)) (rmd d)).room, s, m, (av.map (enc x as)).toArray, below, meth, c, MQ below (va_Qi (fun r M' => ∃ z, r = Int32.ofInt z ∧ post z M') (QcB D cA x as sh (va_A (wld cA x as sh M) s.heap.size)) (va_A (wld cA x as sh M) s.heap.size)) (av.map (enc x as)).toArray s 0 0 (va_A (wld cA x as sh M) s.heap.size), va_A (wld cA x as sh M) s.heap.size, D, cA, x) as
    ⟨B.exec, B.bytes, hml, hown, fun w hw => hts w (List.mem_cons_of_mem _ hw), hK, fun q h => Or.inr h, Nat.le_refl _, Nat.le_refl _, hNs⟩ ?_
  · rw [lg_entry_eq]
    exact key s.heap [] _ hW va_S.rf (by rw [hml]; exact hasL.entry hav _ (by omega))
  · intro r M' hp hbool pc ls hd H locs lsA hW' hS hl
    have hn : narrow rt (.int (Int32.ofInt r)) = .int (Int32.ofInt r) := by
      rcases hrt with rfl | rfl
      · rfl
      · rcases hbool rfl with rfl | rfl <;> rfl
    exact W.zret B.exec B.bytes B.returns hn (fun t ht hWm => ⟨⟨Int32.ofInt r, M', rfl, ⟨r, rfl, hp⟩, ⟨by rw [ht]; exact WP.moved hWm.alike hW', va_K.moved hWm.alike hK⟩⟩, hS.F ht⟩) hS.2.2 hd
theorem CtV.of {y : MethodName} {bytes : ByteArray} {maxL : Nat} {d : Nat} {sh : List Sh} {av : List Vv} {M : Mm} {post : Mm → Prop} (hy : plainName y.cls = true) (hav : av.length ≤ maxL)
    (body : ∀ (v : Ev) (as : List Nat), Cx v bytes maxL y.cls d → (∀ M', post M' → ∀ pc ls, decode bytes pc = .ok (.return_, 1) → Ws v as sh 0 0 pc ls [] M') → Ws v as sh 0 0 0 (av.map some ++ List.replicate (maxL - av.length) none) [] M) :
    CtV y bytes maxL d sh av M post := by
  intro l D cA x as sz
  refine Met.ofW (cc := bytes) (maxL := maxL) (ret := none) hy rfl ?_
  intro p e s m args below meth c s₁ B hml hv
  obtain ⟨rfl, hsz, hWP, hK, hNs⟩ := hv
  subst hsz
  have hts := atoms_spec (ws := wsB y bytes maxL none) B.pre
  have hown : s.vm.findClass y.cls = some m.cls := findClass_of_methodNamed B.named
  have hlocks := B.notSynchronized
  have hW : WP D cA x as sh M (va_A (wld cA x as sh M) s.heap.size) s s.heap := hWP.self
  have key := body (p, l, e, (headSpec (wsB y bytes maxL none) (rmd d)).room, s, m, (av.map (enc x as)).toArray, below, meth, c, MQ below (va_Qv (fun M' => post M') (QcB D cA x as sh (va_A (wld cA x as sh M) s.heap.size)) (va_A (wld cA x as sh M) s.heap.size)) (av.map (enc x as)).toArray s 0 0 (va_A (wld cA x as sh M) s.heap.size), va_A (wld cA x as sh M) s.heap.size, D, cA, x) as
    ⟨B.exec, B.bytes, hml, hown, fun w hw => hts w (List.mem_cons_of_mem _ hw), hK, fun q h => Or.inr h, Nat.le_refl _, Nat.le_refl _, hNs⟩ ?_
  · rw [lg_entry_eq]
    exact key s.heap [] _ hW va_S.rf (by rw [hml]; exact hasL.entry hav _ (by omega))
  · intro M' hp pc ls hd H locs lsA hW' hS hl
    exact W.vret B.exec B.bytes B.returns (fun t ht hWm => ⟨⟨M', rfl, hp, ⟨by rw [ht]; exact WP.moved hWm.alike hW', va_K.moved hWm.alike hK⟩⟩, hS.F ht⟩) hS.2.2 hd
-- what a program knows of a method: static, or not
section CALLS
variable {v : Ev} {cc : ByteArray} {nL d pc : Nat} {own host : String} {as : List Nat} {sh : List Sh} {ls : List (Option Vv)} {rest : List Vv} {M : Mm} {y : MethodName} {bytes : ByteArray} {maxL dd idx n : Nat} {rt : FieldType} {av : List Vv}
theorem rev_enc (x : Nat) (as : List Nat) (av rest : List Vv) : (av.reverse ++ rest).map (enc x as) = (av.map (enc x as)).reverse ++ rest.map (enc x as) := by simp
theorem s_callSi (E : Cx v cc nL own d) {st : List Vv} {post : Int → Mm → Prop} (hC : CtI y bytes maxL rt dd sh av M post) (hd : decode cc pc = .ok (.invokestatic idx, 3)) (hm : MfS y bytes maxL (some rt) n) (hlk : Cond.methodLink own idx y ∈ BIG) (hn : av.length = n) (hdd : dd + 1 ≤ d) (hrest : rest.length ≤ 8)
    (hst : st = (av.reverse ++ rest))
    (k : ∀ r M', post r M' → Ws v as sh 0 0 (pc + 3) ls (iv r :: rest) M') : Ws v as sh 0 0 pc ls st M := by
  subst hst
  obtain ⟨p, l, e, R, s, m, args, below, meth, c, Q, A, D, cA, x⟩ := v
  obtain ⟨hx, hb, hml, hown, hts, hK, hA, hfr, hlo, hNs⟩ := E
  intro H locs lsA hW hS hl
  obtain ⟨hm1, hini, hcode, ⟨hy1, hy2, hy3⟩, hmx⟩ := hm
  have hG := good_wsB hcode
  have hroom : (rmd dd).frames + 1 ≤ R.frames ∧ 8 + (maxL + 11) + (rmd dd).locals ≤ R.locals := ⟨Nat.le_trans hdd hfr, by show 8 + (maxL + 11) + 40 * dd ≤ R.locals; omega⟩
  have hsz : lsA.size = nL := hl.1.trans hml
  have hrs : 2 * (F0 m pc lsA (List.map (enc x as) (av.reverse ++ rest))).monitorRoom + ((rest.map (enc x as)).map fun v => v.category).sum ≤ 8 := lv_room (by rw [cat_sum]; exact hrest)
  have hWt : WP D cA x as sh M (fun _ => True) s H := hW.weaken (fun _ _ => trivial)
  have hr : va_Run p l e R s m args below meth c H locs 0 0 0 0 (F0 m pc lsA (List.map (enc x as) (av.reverse ++ rest))) (rest.map (enc x as)) ((va_Qi (fun r M' => ∃ z, r = Int32.ofInt z ∧ post z M') (QcB D cA x as sh (va_A (wld cA x as sh M) H.size)) (va_A (wld cA x as sh M) H.size)) (av.map (enc x as)).toArray) (va_A (wld cA x as sh M) H.size) := va_runS (As := av.map (enc x as)) (rest := rest.map (enc x as)) ⟨hx, hb, hml, hown, hts⟩ (hC l D cA x as H.size) ⟨callB_of n hts hG rfl rfl rfl (hts _ hini) (hts _ hlk) ⟨hy1, hy2, hy3⟩ hroom, hts _ hm1⟩ ⟨PcB_blind, fun U hU hWm => ⟨rfl, by rw [hU], WP.moved hWm.alike (by rw [hU]; exact hWt), va_K.moved hWm.alike hK, NsOK.warm hWm hNs⟩⟩ rfl (by rw [List.length_map]; exact hn) hsz (rev_enc x as av rest) hrs hd ⟨Nat.zero_le _, Nat.zero_le _⟩
  refine va_calli hr hS (fun q _ h => hW.free hS hA q h) (hW.free hS hA) (fun r u t H1 locs1 ht hvm hp hB hsz1 hk1 hS1 => ?_)
  subst ht
  obtain ⟨z, rfl, hp⟩ := hp
  exact k z u hp t.heap locs1 lsA (WP.moved hvm.symm (hB.1.weaken (hW.free hS hA))) hS1 hl
theorem s_callSv (E : Cx v cc nL own d) {st : List Vv} {post : Mm → Prop} (hC : CtV y bytes maxL dd sh av M post) (hd : decode cc pc = .ok (.invokestatic idx, 3)) (hm : MfS y bytes maxL none n) (hlk : Cond.methodLink own idx y ∈ BIG) (hn : av.length = n) (hdd : dd + 1 ≤ d) (hrest : rest.length ≤ 8)
    (hst : st = (av.reverse ++ rest))
    (k : ∀ M', post M' → Ws v as sh 0 0 (pc + 3) ls rest M') : Ws v as sh 0 0 pc ls st M := by
  subst hst
  obtain ⟨p, l, e, R, s, m, args, below, meth, c, Q, A, D, cA, x⟩ := v
  obtain ⟨hx, hb, hml, hown, hts, hK, hA, hfr, hlo, hNs⟩ := E
  intro H locs lsA hW hS hl
  obtain ⟨hm1, hini, hcode, ⟨hy1, hy2, hy3⟩, hmx⟩ := hm
  have hG := good_wsB hcode
  have hroom : (rmd dd).frames + 1 ≤ R.frames ∧ 8 + (maxL + 11) + (rmd dd).locals ≤ R.locals := ⟨Nat.le_trans hdd hfr, by show 8 + (maxL + 11) + 40 * dd ≤ R.locals; omega⟩
  have hsz : lsA.size = nL := hl.1.trans hml
  have hrs : 2 * (F0 m pc lsA (List.map (enc x as) (av.reverse ++ rest))).monitorRoom + ((rest.map (enc x as)).map fun v => v.category).sum ≤ 8 := lv_room (by rw [cat_sum]; exact hrest)
  have hWt : WP D cA x as sh M (fun _ => True) s H := hW.weaken (fun _ _ => trivial)
  have hr : va_Run p l e R s m args below meth c H locs 0 0 0 0 (F0 m pc lsA (List.map (enc x as) (av.reverse ++ rest))) (rest.map (enc x as)) ((va_Qv (fun M' => post M') (QcB D cA x as sh (va_A (wld cA x as sh M) H.size)) (va_A (wld cA x as sh M) H.size)) (av.map (enc x as)).toArray) (va_A (wld cA x as sh M) H.size) := va_runS (As := av.map (enc x as)) (rest := rest.map (enc x as)) ⟨hx, hb, hml, hown, hts⟩ (hC l D cA x as H.size) ⟨callB_of n hts hG rfl rfl rfl (hts _ hini) (hts _ hlk) ⟨hy1, hy2, hy3⟩ hroom, hts _ hm1⟩ ⟨PcB_blind, fun U hU hWm => ⟨rfl, by rw [hU], WP.moved hWm.alike (by rw [hU]; exact hWt), va_K.moved hWm.alike hK, NsOK.warm hWm hNs⟩⟩ rfl (by rw [List.length_map]; exact hn) hsz (rev_enc x as av rest) hrs hd ⟨Nat.zero_le _, Nat.zero_le _⟩
  refine va_callv hr hS (fun q _ h => hW.free hS hA q h) (hW.free hS hA) (fun u t H1 locs1 ht hvm hp hB hsz1 hk1 hS1 => ?_)
  subst ht
  exact k u hp t.heap locs1 lsA (WP.moved hvm.symm (hB.1.weaken (hW.free hS hA))) hS1 hl
theorem s_callVi (E : Cx v cc nL own d) {st : List Vv} {post : Int → Mm → Prop} {o : Int} {ci : Nat} {fs : List (Option (Option Int))} (hC : CtI y bytes maxL rt dd sh (rv o :: av) M post) (hd : decode cc pc = .ok (.invokevirtual idx, 3)) (hm : MfV y bytes maxL (some rt) n) (hlk : Cond.methodLink own idx y ∈ BIG) (hn : av.length = n) (hdd : dd + 1 ≤ d) (hrest : rest.length ≤ 8) (ho : 0 ≤ o) (hs : sh[o.toNat]? = some (.inl (ci, fs))) (hci : (vwCl[ci]?).map (fun q => q.1) = some y.cls)
    (hst : st = (av.reverse ++ rv o :: rest))
    (k : ∀ r M', post r M' → Ws v as sh 0 0 (pc + 3) ls (iv r :: rest) M') : Ws v as sh 0 0 pc ls st M := by
  subst hst
  obtain ⟨p, l, e, R, s, m, args, below, meth, c, Q, A, D, cA, x⟩ := v
  obtain ⟨hx, hb, hml, hown, hts, hK, hA, hfr, hlo, hNs⟩ := E
  intro H locs lsA hW hS hl
  obtain ⟨hm1, hini, hcode, ⟨hy1, hy2, hy3⟩, hmx⟩ := hm
  have hG := good_wsB hcode
  have hroom : (rmd dd).frames + 1 ≤ R.frames ∧ 8 + (maxL + 11) + (rmd dd).locals ≤ R.locals := ⟨Nat.le_trans hdd hfr, by show 8 + (maxL + 11) + 40 * dd ≤ R.locals; omega⟩
  have hsz : lsA.size = nL := hl.1.trans hml
  have hrs : 2 * (F0 m pc lsA (List.map (enc x as) (av.reverse ++ rv o :: rest))).monitorRoom + ((rest.map (enc x as)).map fun v => v.category).sum ≤ 8 := lv_room (by rw [cat_sum]; exact hrest)
  have hWt : WP D cA x as sh M (fun _ => True) s H := hW.weaken (fun _ _ => trivial)
  obtain ⟨q, hq1, hq2⟩ := Option.map_eq_some_iff.mp hci
  have hrecv : ∃ cell : Cell, H[adr x as o]? = some cell ∧ cell.vm.isStatics = false ∧ s.vm.findClass y.cls = some cell.cls := by rw [← hq2]; exact va_recv hK hW.2.1 hq1 (wld_at hW.1 ho hs)
  have hr : va_Run p l e R s m args below meth c H locs 0 0 0 0 (F0 m pc lsA (List.map (enc x as) (av.reverse ++ rv o :: rest))) (rest.map (enc x as)) ((va_Qi (fun r M' => ∃ z, r = Int32.ofInt z ∧ post z M') (QcB D cA x as sh (va_A (wld cA x as sh M) H.size)) (va_A (wld cA x as sh M) H.size)) (Value.ref (adr x as o) :: av.map (enc x as)).toArray) (va_A (wld cA x as sh M) H.size) := va_runV (As := av.map (enc x as)) (rest := rest.map (enc x as)) ⟨hx, hb, hml, hown, hts⟩ (hC l D cA x as H.size) ⟨callB_of n hts hG rfl rfl rfl (hts _ hini) (hts _ hlk) ⟨hy1, hy2, hy3⟩ hroom, hts _ hm1.1, hts _ hm1.2⟩ ⟨PcB_blind, hrecv, fun U hU hWm => ⟨rfl, by rw [hU], WP.moved hWm.alike (by rw [hU]; exact hWt), va_K.moved hWm.alike hK, NsOK.warm hWm hNs⟩⟩ rfl (by rw [List.length_map]; exact hn) hsz (by rw [List.map_append, List.map_reverse]; rfl) hrs hd ⟨Nat.zero_le _, Nat.zero_le _⟩
  refine va_calli hr hS (fun q _ h => hW.free hS hA q h) (hW.free hS hA) (fun r u t H1 locs1 ht hvm hp hB hsz1 hk1 hS1 => ?_)
  subst ht
  obtain ⟨z, rfl, hp⟩ := hp
  exact k z u hp t.heap locs1 lsA (WP.moved hvm.symm (hB.1.weaken (hW.free hS hA))) hS1 hl
theorem s_callVv (E : Cx v cc nL own d) {st : List Vv} {post : Mm → Prop} {o : Int} {ci : Nat} {fs : List (Option (Option Int))} (hC : CtV y bytes maxL dd sh (rv o :: av) M post) (hd : decode cc pc = .ok (.invokevirtual idx, 3)) (hm : MfV y bytes maxL none n) (hlk : Cond.methodLink own idx y ∈ BIG) (hn : av.length = n) (hdd : dd + 1 ≤ d) (hrest : rest.length ≤ 8) (ho : 0 ≤ o) (hs : sh[o.toNat]? = some (.inl (ci, fs))) (hci : (vwCl[ci]?).map (fun q => q.1) = some y.cls)
    (hst : st = (av.reverse ++ rv o :: rest))
    (k : ∀ M', post M' → Ws v as sh 0 0 (pc + 3) ls rest M') : Ws v as sh 0 0 pc ls st M := by
  subst hst
  obtain ⟨p, l, e, R, s, m, args, below, meth, c, Q, A, D, cA, x⟩ := v
  obtain ⟨hx, hb, hml, hown, hts, hK, hA, hfr, hlo, hNs⟩ := E
  intro H locs lsA hW hS hl
  obtain ⟨hm1, hini, hcode, ⟨hy1, hy2, hy3⟩, hmx⟩ := hm
  have hG := good_wsB hcode
  have hroom : (rmd dd).frames + 1 ≤ R.frames ∧ 8 + (maxL + 11) + (rmd dd).locals ≤ R.locals := ⟨Nat.le_trans hdd hfr, by show 8 + (maxL + 11) + 40 * dd ≤ R.locals; omega⟩
  have hsz : lsA.size = nL := hl.1.trans hml
  have hrs : 2 * (F0 m pc lsA (List.map (enc x as) (av.reverse ++ rv o :: rest))).monitorRoom + ((rest.map (enc x as)).map fun v => v.category).sum ≤ 8 := lv_room (by rw [cat_sum]; exact hrest)
  have hWt : WP D cA x as sh M (fun _ => True) s H := hW.weaken (fun _ _ => trivial)
  obtain ⟨q, hq1, hq2⟩ := Option.map_eq_some_iff.mp hci
  have hrecv : ∃ cell : Cell, H[adr x as o]? = some cell ∧ cell.vm.isStatics = false ∧ s.vm.findClass y.cls = some cell.cls := by rw [← hq2]; exact va_recv hK hW.2.1 hq1 (wld_at hW.1 ho hs)
  have hr : va_Run p l e R s m args below meth c H locs 0 0 0 0 (F0 m pc lsA (List.map (enc x as) (av.reverse ++ rv o :: rest))) (rest.map (enc x as)) ((va_Qv (fun M' => post M') (QcB D cA x as sh (va_A (wld cA x as sh M) H.size)) (va_A (wld cA x as sh M) H.size)) (Value.ref (adr x as o) :: av.map (enc x as)).toArray) (va_A (wld cA x as sh M) H.size) := va_runV (As := av.map (enc x as)) (rest := rest.map (enc x as)) ⟨hx, hb, hml, hown, hts⟩ (hC l D cA x as H.size) ⟨callB_of n hts hG rfl rfl rfl (hts _ hini) (hts _ hlk) ⟨hy1, hy2, hy3⟩ hroom, hts _ hm1.1, hts _ hm1.2⟩ ⟨PcB_blind, hrecv, fun U hU hWm => ⟨rfl, by rw [hU], WP.moved hWm.alike (by rw [hU]; exact hWt), va_K.moved hWm.alike hK, NsOK.warm hWm hNs⟩⟩ rfl (by rw [List.length_map]; exact hn) hsz (by rw [List.map_append, List.map_reverse]; rfl) hrs hd ⟨Nat.zero_le _, Nat.zero_le _⟩
  refine va_callv hr hS (fun q _ h => hW.free hS hA q h) (hW.free hS hA) (fun u t H1 locs1 ht hvm hp hB hsz1 hk1 hS1 => ?_)
  subst ht
  exact k u hp t.heap locs1 lsA (WP.moved hvm.symm (hB.1.weaken (hW.free hS hA))) hS1 hl
theorem s_callSNi (E : Cx v cc nL own d) {st : List Vv} {post : Int → Mm → Prop} (hC : CtI y bytes maxL rt dd sh av M post) (hd : decode cc pc = .ok (.invokestatic idx, 3)) (hm : MfS y bytes maxL (some rt) n) (hlk : Cond.methodLinkNest own idx y host ∈ lw_tbl) (hn : av.length = n) (hdd : dd + 1 ≤ d) (hrest : rest.length ≤ 8)
    (hst : st = (av.reverse ++ rest))
    (k : ∀ r M', post r M' → Ws v as sh 0 0 (pc + 3) ls (iv r :: rest) M') : Ws v as sh 0 0 pc ls st M := by
  subst hst
  obtain ⟨p, l, e, R, s, m, args, below, meth, c, Q, A, D, cA, x⟩ := v
  obtain ⟨hx, hb, hml, hown, hts, hK, hA, hfr, hlo, hNs⟩ := E
  intro H locs lsA hW hS hl
  obtain ⟨hm1, hini, hcode, ⟨hy1, hy2, hy3⟩, hmx⟩ := hm
  have hG := good_wsB hcode
  have hroom : (rmd dd).frames + 1 ≤ R.frames ∧ 8 + (maxL + 11) + (rmd dd).locals ≤ R.locals := ⟨Nat.le_trans hdd hfr, by show 8 + (maxL + 11) + 40 * dd ≤ R.locals; omega⟩
  have hsz : lsA.size = nL := hl.1.trans hml
  have hrs : 2 * (F0 m pc lsA (List.map (enc x as) (av.reverse ++ rest))).monitorRoom + ((rest.map (enc x as)).map fun v => v.category).sum ≤ 8 := lv_room (by rw [cat_sum]; exact hrest)
  have hWt : WP D cA x as sh M (fun _ => True) s H := hW.weaken (fun _ _ => trivial)
  have hr : va_Run p l e R s m args below meth c H locs 0 0 0 0 (F0 m pc lsA (List.map (enc x as) (av.reverse ++ rest))) (rest.map (enc x as)) ((va_Qi (fun r M' => ∃ z, r = Int32.ofInt z ∧ post z M') (QcB D cA x as sh (va_A (wld cA x as sh M) H.size)) (va_A (wld cA x as sh M) H.size)) (av.map (enc x as)).toArray) (va_A (wld cA x as sh M) H.size) := va_runSN (As := av.map (enc x as)) (rest := rest.map (enc x as)) ⟨hx, hb, hml, hown, hts⟩ (hC l D cA x as H.size) ⟨va_cnB n hts hG rfl rfl rfl (hNs _ _ _ _ hlk) (hts _ hini) ⟨hy1, hy2, hy3⟩ hroom, hts _ hm1, trivial⟩ ⟨PcB_blind, fun U hU hWm => ⟨rfl, by rw [hU], WP.moved hWm.alike (by rw [hU]; exact hWt), va_K.moved hWm.alike hK, NsOK.warm hWm hNs⟩⟩ rfl (by rw [List.length_map]; exact hn) hsz (rev_enc x as av rest) hrs hd ⟨Nat.zero_le _, Nat.zero_le _⟩
  refine va_calli hr hS (fun q _ h => hW.free hS hA q h) (hW.free hS hA) (fun r u t H1 locs1 ht hvm hp hB hsz1 hk1 hS1 => ?_)
  subst ht
  obtain ⟨z, rfl, hp⟩ := hp
  exact k z u hp t.heap locs1 lsA (WP.moved hvm.symm (hB.1.weaken (hW.free hS hA))) hS1 hl
theorem s_callSNv (E : Cx v cc nL own d) {st : List Vv} {post : Mm → Prop} (hC : CtV y bytes maxL dd sh av M post) (hd : decode cc pc = .ok (.invokestatic idx, 3)) (hm : MfS y bytes maxL none n) (hlk : Cond.methodLinkNest own idx y host ∈ lw_tbl) (hn : av.length = n) (hdd : dd + 1 ≤ d) (hrest : rest.length ≤ 8)
    (hst : st = (av.reverse ++ rest))
    (k : ∀ M', post M' → Ws v as sh 0 0 (pc + 3) ls rest M') : Ws v as sh 0 0 pc ls st M := by
  subst hst
  obtain ⟨p, l, e, R, s, m, args, below, meth, c, Q, A, D, cA, x⟩ := v
  obtain ⟨hx, hb, hml, hown, hts, hK, hA, hfr, hlo, hNs⟩ := E
  intro H locs lsA hW hS hl
  obtain ⟨hm1, hini, hcode, ⟨hy1, hy2, hy3⟩, hmx⟩ := hm
  have hG := good_wsB hcode
  have hroom : (rmd dd).frames + 1 ≤ R.frames ∧ 8 + (maxL + 11) + (rmd dd).locals ≤ R.locals := ⟨Nat.le_trans hdd hfr, by show 8 + (maxL + 11) + 40 * dd ≤ R.locals; omega⟩
  have hsz : lsA.size = nL := hl.1.trans hml
  have hrs : 2 * (F0 m pc lsA (List.map (enc x as) (av.reverse ++ rest))).monitorRoom + ((rest.map (enc x as)).map fun v => v.category).sum ≤ 8 := lv_room (by rw [cat_sum]; exact hrest)
  have hWt : WP D cA x as sh M (fun _ => True) s H := hW.weaken (fun _ _ => trivial)
  have hr : va_Run p l e R s m args below meth c H locs 0 0 0 0 (F0 m pc lsA (List.map (enc x as) (av.reverse ++ rest))) (rest.map (enc x as)) ((va_Qv (fun M' => post M') (QcB D cA x as sh (va_A (wld cA x as sh M) H.size)) (va_A (wld cA x as sh M) H.size)) (av.map (enc x as)).toArray) (va_A (wld cA x as sh M) H.size) := va_runSN (As := av.map (enc x as)) (rest := rest.map (enc x as)) ⟨hx, hb, hml, hown, hts⟩ (hC l D cA x as H.size) ⟨va_cnB n hts hG rfl rfl rfl (hNs _ _ _ _ hlk) (hts _ hini) ⟨hy1, hy2, hy3⟩ hroom, hts _ hm1, trivial⟩ ⟨PcB_blind, fun U hU hWm => ⟨rfl, by rw [hU], WP.moved hWm.alike (by rw [hU]; exact hWt), va_K.moved hWm.alike hK, NsOK.warm hWm hNs⟩⟩ rfl (by rw [List.length_map]; exact hn) hsz (rev_enc x as av rest) hrs hd ⟨Nat.zero_le _, Nat.zero_le _⟩
  refine va_callv hr hS (fun q _ h => hW.free hS hA q h) (hW.free hS hA) (fun u t H1 locs1 ht hvm hp hB hsz1 hk1 hS1 => ?_)
  subst ht
  exact k u hp t.heap locs1 lsA (WP.moved hvm.symm (hB.1.weaken (hW.free hS hA))) hS1 hl
theorem s_callVNi (E : Cx v cc nL own d) {st : List Vv} {post : Int → Mm → Prop} {o : Int} {ci : Nat} {fs : List (Option (Option Int))} (hC : CtI y bytes maxL rt dd sh (rv o :: av) M post) (hd : decode cc pc = .ok (.invokevirtual idx, 3)) (hm : MfV y bytes maxL (some rt) n) (hlk : Cond.methodLinkNest own idx y host ∈ lw_tbl) (hn : av.length = n) (hdd : dd + 1 ≤ d) (hrest : rest.length ≤ 8) (ho : 0 ≤ o) (hs : sh[o.toNat]? = some (.inl (ci, fs))) (hci : (vwCl[ci]?).map (fun q => q.1) = some y.cls)
    (hst : st = (av.reverse ++ rv o :: rest))
    (k : ∀ r M', post r M' → Ws v as sh 0 0 (pc + 3) ls (iv r :: rest) M') : Ws v as sh 0 0 pc ls st M := by
  subst hst
  obtain ⟨p, l, e, R, s, m, args, below, meth, c, Q, A, D, cA, x⟩ := v
  obtain ⟨hx, hb, hml, hown, hts, hK, hA, hfr, hlo, hNs⟩ := E
  intro H locs lsA hW hS hl
  obtain ⟨hm1, hini, hcode, ⟨hy1, hy2, hy3⟩, hmx⟩ := hm
  have hG := good_wsB hcode
  have hroom : (rmd dd).frames + 1 ≤ R.frames ∧ 8 + (maxL + 11) + (rmd dd).locals ≤ R.locals := ⟨Nat.le_trans hdd hfr, by show 8 + (maxL + 11) + 40 * dd ≤ R.locals; omega⟩
  have hsz : lsA.size = nL := hl.1.trans hml
  have hrs : 2 * (F0 m pc lsA (List.map (enc x as) (av.reverse ++ rv o :: rest))).monitorRoom + ((rest.map (enc x as)).map fun v => v.category).sum ≤ 8 := lv_room (by rw [cat_sum]; exact hrest)
  have hWt : WP D cA x as sh M (fun _ => True) s H := hW.weaken (fun _ _ => trivial)
  obtain ⟨q, hq1, hq2⟩ := Option.map_eq_some_iff.mp hci
  have hrecv : ∃ cell : Cell, H[adr x as o]? = some cell ∧ cell.vm.isStatics = false ∧ s.vm.findClass y.cls = some cell.cls := by rw [← hq2]; exact va_recv hK hW.2.1 hq1 (wld_at hW.1 ho hs)
  have hr : va_Run p l e R s m args below meth c H locs 0 0 0 0 (F0 m pc lsA (List.map (enc x as) (av.reverse ++ rv o :: rest))) (rest.map (enc x as)) ((va_Qi (fun r M' => ∃ z, r = Int32.ofInt z ∧ post z M') (QcB D cA x as sh (va_A (wld cA x as sh M) H.size)) (va_A (wld cA x as sh M) H.size)) (Value.ref (adr x as o) :: av.map (enc x as)).toArray) (va_A (wld cA x as sh M) H.size) := va_runVN (As := av.map (enc x as)) (rest := rest.map (enc x as)) ⟨hx, hb, hml, hown, hts⟩ (hC l D cA x as H.size) ⟨va_cnB n hts hG rfl rfl rfl (hNs _ _ _ _ hlk) (hts _ hini) ⟨hy1, hy2, hy3⟩ hroom, hts _ hm1.1, hts _ hm1.2⟩ ⟨PcB_blind, hrecv, fun U hU hWm => ⟨rfl, by rw [hU], WP.moved hWm.alike (by rw [hU]; exact hWt), va_K.moved hWm.alike hK, NsOK.warm hWm hNs⟩⟩ rfl (by rw [List.length_map]; exact hn) hsz (by rw [List.map_append, List.map_reverse]; rfl) hrs hd ⟨Nat.zero_le _, Nat.zero_le _⟩
  refine va_calli hr hS (fun q _ h => hW.free hS hA q h) (hW.free hS hA) (fun r u t H1 locs1 ht hvm hp hB hsz1 hk1 hS1 => ?_)
  subst ht
  obtain ⟨z, rfl, hp⟩ := hp
  exact k z u hp t.heap locs1 lsA (WP.moved hvm.symm (hB.1.weaken (hW.free hS hA))) hS1 hl
theorem s_callVNv (E : Cx v cc nL own d) {st : List Vv} {post : Mm → Prop} {o : Int} {ci : Nat} {fs : List (Option (Option Int))} (hC : CtV y bytes maxL dd sh (rv o :: av) M post) (hd : decode cc pc = .ok (.invokevirtual idx, 3)) (hm : MfV y bytes maxL none n) (hlk : Cond.methodLinkNest own idx y host ∈ lw_tbl) (hn : av.length = n) (hdd : dd + 1 ≤ d) (hrest : rest.length ≤ 8) (ho : 0 ≤ o) (hs : sh[o.toNat]? = some (.inl (ci, fs))) (hci : (vwCl[ci]?).map (fun q => q.1) = some y.cls)
    (hst : st = (av.reverse ++ rv o :: rest))
    (k : ∀ M', post M' → Ws v as sh 0 0 (pc + 3) ls rest M') : Ws v as sh 0 0 pc ls st M := by
  subst hst
  obtain ⟨p, l, e, R, s, m, args, below, meth, c, Q, A, D, cA, x⟩ := v
  obtain ⟨hx, hb, hml, hown, hts, hK, hA, hfr, hlo, hNs⟩ := E
  intro H locs lsA hW hS hl
  obtain ⟨hm1, hini, hcode, ⟨hy1, hy2, hy3⟩, hmx⟩ := hm
  have hG := good_wsB hcode
  have hroom : (rmd dd).frames + 1 ≤ R.frames ∧ 8 + (maxL + 11) + (rmd dd).locals ≤ R.locals := ⟨Nat.le_trans hdd hfr, by show 8 + (maxL + 11) + 40 * dd ≤ R.locals; omega⟩
  have hsz : lsA.size = nL := hl.1.trans hml
  have hrs : 2 * (F0 m pc lsA (List.map (enc x as) (av.reverse ++ rv o :: rest))).monitorRoom + ((rest.map (enc x as)).map fun v => v.category).sum ≤ 8 := lv_room (by rw [cat_sum]; exact hrest)
  have hWt : WP D cA x as sh M (fun _ => True) s H := hW.weaken (fun _ _ => trivial)
  obtain ⟨q, hq1, hq2⟩ := Option.map_eq_some_iff.mp hci
  have hrecv : ∃ cell : Cell, H[adr x as o]? = some cell ∧ cell.vm.isStatics = false ∧ s.vm.findClass y.cls = some cell.cls := by rw [← hq2]; exact va_recv hK hW.2.1 hq1 (wld_at hW.1 ho hs)
  have hr : va_Run p l e R s m args below meth c H locs 0 0 0 0 (F0 m pc lsA (List.map (enc x as) (av.reverse ++ rv o :: rest))) (rest.map (enc x as)) ((va_Qv (fun M' => post M') (QcB D cA x as sh (va_A (wld cA x as sh M) H.size)) (va_A (wld cA x as sh M) H.size)) (Value.ref (adr x as o) :: av.map (enc x as)).toArray) (va_A (wld cA x as sh M) H.size) := va_runVN (As := av.map (enc x as)) (rest := rest.map (enc x as)) ⟨hx, hb, hml, hown, hts⟩ (hC l D cA x as H.size) ⟨va_cnB n hts hG rfl rfl rfl (hNs _ _ _ _ hlk) (hts _ hini) ⟨hy1, hy2, hy3⟩ hroom, hts _ hm1.1, hts _ hm1.2⟩ ⟨PcB_blind, hrecv, fun U hU hWm => ⟨rfl, by rw [hU], WP.moved hWm.alike (by rw [hU]; exact hWt), va_K.moved hWm.alike hK, NsOK.warm hWm hNs⟩⟩ rfl (by rw [List.length_map]; exact hn) hsz (by rw [List.map_append, List.map_reverse]; rfl) hrs hd ⟨Nat.zero_le _, Nat.zero_le _⟩
  refine va_callv hr hS (fun q _ h => hW.free hS hA q h) (hW.free hS hA) (fun u t H1 locs1 ht hvm hp hB hsz1 hk1 hS1 => ?_)
  subst ht
  exact k u hp t.heap locs1 lsA (WP.moved hvm.symm (hB.1.weaken (hW.free hS hA))) hS1 hl
end CALLS
end
section
/-! ===== the shape of the whole world: 0..78 the class's cells, 79..94 the reference's ===== -/
def esr (r0 : Int) (n : Nat) : List (Option Int) := (List.range n).map (fun i : Nat => some (r0 + (i : Int)))
theorem esr_at {r0 j : Int} {n : Nat} (h : 0 ≤ j ∧ j < (n : Int)) : (esr r0 n)[j.toNat]? = some (some (r0 + j)) := by
  unfold esr
  rw [List.getElem?_map, List.getElem?_range (by omega)]
  simp [Int.toNat_of_nonneg h.1]
def SH : List Sh := [
  .inl (7, [some (some 1), some (some 18), some (some 19), some (some 20), some (some 22), some (some 29), some (some 37), some (some 40)]),
  .inl (2, [some (some 2), some (some 7), some (some 14), none, none]),
  .inr (2, 4, esr 3 4),
  .inr (0, 6, []),
  .inr (0, 6, []),
  .inr (0, 6, []),
  .inr (0, 6, []),
  .inr (2, 6, esr 8 6),
  .inr (0, 6, []),
  .inr (0, 6, []),
  .inr (0, 6, []),
  .inr (0, 6, []),
  .inr (0, 6, []),
  .inr (0, 6, []),
  .inl (4, [some (some 15), some (some 16), some (some 17), none]),
  .inr (0, 8, []),
  .inr (0, 8, []),
  .inr (0, 8, []),
  .inr (3, 2, [some 45, some 62]),
  .inr (1, 2, []),
  .inl (5, [some (some 21), none]),
  .inr (0, 40, []),
  .inl (6, [some (some 23), some (some 28), none, none, none]),
  .inr (2, 4, esr 24 4),
  .inr (0, 6, []),
  .inr (0, 6, []),
  .inr (0, 6, []),
  .inr (0, 6, []),
  .inr (0, 6, []),
  .inl (0, [some (some 30), some (some 31), none, none, some (some 32), some (some 33), some (some 34), some (some 35), some (some 36), none]),
  .inr (0, 8, []),
  .inr (0, 6, []),
  .inr (0, 6, []),
  .inr (0, 6, []),
  .inr (0, 2048, []),
  .inr (0, 256, []),
  .inr (1, 256, []),
  .inl (3, [some (some 38), some (some 39)]),
  .inr (0, 64, []),
  .inr (0, 64, []),
  .inl (1, [some (some 41), none, some (some 42), some (some 43), some (some 44)]),
  .inr (0, 12, []),
  .inr (0, 12, []),
  .inr (0, 6, []),
  .inr (0, 6, []),
  .inl (2, [some (some 46), some (some 51), some (some 58), none, none]),
  .inr (2, 4, esr 47 4),
  .inr (0, 6, []),
  .inr (0, 6, []),
  .inr (0, 6, []),
  .inr (0, 6, []),
  .inr (2, 6, esr 52 6),
  .inr (0, 6, []),
  .inr (0, 6, []),
  .inr (0, 6, []),
  .inr (0, 6, []),
  .inr (0, 6, []),
  .inr (0, 6, []),
  .inl (4, [some (some 59), some (some 60), some (some 61), none]),
  .inr (0, 8, []),
  .inr (0, 8, []),
  .inr (0, 8, []),
  .inl (2, [some (some 63), some (some 68), some (some 75), none, none]),
  .inr (2, 4, esr 64 4),
  .inr (0, 6, []),
  .inr (0, 6, []),
  .inr (0, 6, []),
  .inr (0, 6, []),
  .inr (2, 6, esr 69 6),
  .inr (0, 6, []),
  .inr (0, 6, []),
  .inr (0, 6, []),
  .inr (0, 6, []),
  .inr (0, 6, []),
  .inr (0, 6, []),
  .inl (4, [some (some 76), some (some 77), some (some 78), none]),
  .inr (0, 8, []),
  .inr (0, 8, []),
  .inr (0, 8, []),
  .inl (8, [some (some 80), none, none, none, some (some 81), none, some (some 82), some (some 83), some (some 84), some (some 85), none, none, none, some (some 86), some (some 87), some (some 88), some (some 89), some (some 90), some (some 91), some (some 92), some (some 93), some (some 94)]),
  .inr (0, 24, []),
  .inr (0, 40, []),
  .inr (0, 24, []),
  .inr (0, 36, []),
  .inr (0, 24, []),
  .inr (0, 6, []),
  .inr (0, 6, []),
  .inr (0, 256, []),
  .inr (0, 4, []),
  .inr (0, 4, []),
  .inr (0, 64, []),
  .inr (0, 12, []),
  .inr (0, 6, []),
  .inr (0, 176, []),
  .inr (1, 2, [])
]
theorem SH_len : SH.length = 95 := rfl
theorem sh0 : SH[((0 : Int)).toNat]? = some (.inl (7, [some (some 1), some (some 18), some (some 19), some (some 20), some (some 22), some (some 29), some (some 37), some (some 40)])) := rfl
theorem sh1 : SH[((1 : Int)).toNat]? = some (.inl (2, [some (some 2), some (some 7), some (some 14), none, none])) := rfl
theorem sh2 : SH[((2 : Int)).toNat]? = some (.inr (2, 4, esr 3 4)) := rfl
theorem sh3 : SH[((3 : Int)).toNat]? = some (.inr (0, 6, [])) := rfl
theorem sh4 : SH[((4 : Int)).toNat]? = some (.inr (0, 6, [])) := rfl
theorem sh5 : SH[((5 : Int)).toNat]? = some (.inr (0, 6, [])) := rfl
theorem sh6 : SH[((6 : Int)).toNat]? = some (.inr (0, 6, [])) := rfl
theorem sh7 : SH[((7 : Int)).toNat]? = some (.inr (2, 6, esr 8 6)) := rfl
theorem sh8 : SH[((8 : Int)).toNat]? = some (.inr (0, 6, [])) := rfl
theorem sh9 : SH[((9 : Int)).toNat]? = some (.inr (0, 6, [])) := rfl
theorem sh10 : SH[((10 : Int)).toNat]? = some (.inr (0, 6, [])) := rfl
theorem sh11 : SH[((11 : Int)).toNat]? = some (.inr (0, 6, [])) := rfl
theorem sh12 : SH[((12 : Int)).toNat]? = some (.inr (0, 6, [])) := rfl
theorem sh13 : SH[((13 : Int)).toNat]? = some (.inr (0, 6, [])) := rfl
theorem sh14 : SH[((14 : Int)).toNat]? = some (.inl (4, [some (some 15), some (some 16), some (some 17), none])) := rfl
theorem sh15 : SH[((15 : Int)).toNat]? = some (.inr (0, 8, [])) := rfl
theorem sh16 : SH[((16 : Int)).toNat]? = some (.inr (0, 8, [])) := rfl
theorem sh17 : SH[((17 : Int)).toNat]? = some (.inr (0, 8, [])) := rfl
theorem sh18 : SH[((18 : Int)).toNat]? = some (.inr (3, 2, [some 45, some 62])) := rfl
theorem sh19 : SH[((19 : Int)).toNat]? = some (.inr (1, 2, [])) := rfl
theorem sh20 : SH[((20 : Int)).toNat]? = some (.inl (5, [some (some 21), none])) := rfl
theorem sh21 : SH[((21 : Int)).toNat]? = some (.inr (0, 40, [])) := rfl
theorem sh22 : SH[((22 : Int)).toNat]? = some (.inl (6, [some (some 23), some (some 28), none, none, none])) := rfl
theorem sh23 : SH[((23 : Int)).toNat]? = some (.inr (2, 4, esr 24 4)) := rfl
theorem sh24 : SH[((24 : Int)).toNat]? = some (.inr (0, 6, [])) := rfl
theorem sh25 : SH[((25 : Int)).toNat]? = some (.inr (0, 6, [])) := rfl
theorem sh26 : SH[((26 : Int)).toNat]? = some (.inr (0, 6, [])) := rfl
theorem sh27 : SH[((27 : Int)).toNat]? = some (.inr (0, 6, [])) := rfl
theorem sh28 : SH[((28 : Int)).toNat]? = some (.inr (0, 6, [])) := rfl
theorem sh29 : SH[((29 : Int)).toNat]? = some (.inl (0, [some (some 30), some (some 31), none, none, some (some 32), some (some 33), some (some 34), some (some 35), some (some 36), none])) := rfl
theorem sh30 : SH[((30 : Int)).toNat]? = some (.inr (0, 8, [])) := rfl
theorem sh31 : SH[((31 : Int)).toNat]? = some (.inr (0, 6, [])) := rfl
theorem sh32 : SH[((32 : Int)).toNat]? = some (.inr (0, 6, [])) := rfl
theorem sh33 : SH[((33 : Int)).toNat]? = some (.inr (0, 6, [])) := rfl
theorem sh34 : SH[((34 : Int)).toNat]? = some (.inr (0, 2048, [])) := rfl
theorem sh35 : SH[((35 : Int)).toNat]? = some (.inr (0, 256, [])) := rfl
theorem sh36 : SH[((36 : Int)).toNat]? = some (.inr (1, 256, [])) := rfl
theorem sh37 : SH[((37 : Int)).toNat]? = some (.inl (3, [some (some 38), some (some 39)])) := rfl
theorem sh38 : SH[((38 : Int)).toNat]? = some (.inr (0, 64, [])) := rfl
theorem sh39 : SH[((39 : Int)).toNat]? = some (.inr (0, 64, [])) := rfl
theorem sh40 : SH[((40 : Int)).toNat]? = some (.inl (1, [some (some 41), none, some (some 42), some (some 43), some (some 44)])) := rfl
theorem sh41 : SH[((41 : Int)).toNat]? = some (.inr (0, 12, [])) := rfl
theorem sh42 : SH[((42 : Int)).toNat]? = some (.inr (0, 12, [])) := rfl
theorem sh43 : SH[((43 : Int)).toNat]? = some (.inr (0, 6, [])) := rfl
theorem sh44 : SH[((44 : Int)).toNat]? = some (.inr (0, 6, [])) := rfl
theorem sh45 : SH[((45 : Int)).toNat]? = some (.inl (2, [some (some 46), some (some 51), some (some 58), none, none])) := rfl
theorem sh46 : SH[((46 : Int)).toNat]? = some (.inr (2, 4, esr 47 4)) := rfl
theorem sh47 : SH[((47 : Int)).toNat]? = some (.inr (0, 6, [])) := rfl
theorem sh48 : SH[((48 : Int)).toNat]? = some (.inr (0, 6, [])) := rfl
theorem sh49 : SH[((49 : Int)).toNat]? = some (.inr (0, 6, [])) := rfl
theorem sh50 : SH[((50 : Int)).toNat]? = some (.inr (0, 6, [])) := rfl
theorem sh51 : SH[((51 : Int)).toNat]? = some (.inr (2, 6, esr 52 6)) := rfl
theorem sh52 : SH[((52 : Int)).toNat]? = some (.inr (0, 6, [])) := rfl
theorem sh53 : SH[((53 : Int)).toNat]? = some (.inr (0, 6, [])) := rfl
theorem sh54 : SH[((54 : Int)).toNat]? = some (.inr (0, 6, [])) := rfl
theorem sh55 : SH[((55 : Int)).toNat]? = some (.inr (0, 6, [])) := rfl
theorem sh56 : SH[((56 : Int)).toNat]? = some (.inr (0, 6, [])) := rfl
theorem sh57 : SH[((57 : Int)).toNat]? = some (.inr (0, 6, [])) := rfl
theorem sh58 : SH[((58 : Int)).toNat]? = some (.inl (4, [some (some 59), some (some 60), some (some 61), none])) := rfl
theorem sh59 : SH[((59 : Int)).toNat]? = some (.inr (0, 8, [])) := rfl
theorem sh60 : SH[((60 : Int)).toNat]? = some (.inr (0, 8, [])) := rfl
theorem sh61 : SH[((61 : Int)).toNat]? = some (.inr (0, 8, [])) := rfl
theorem sh62 : SH[((62 : Int)).toNat]? = some (.inl (2, [some (some 63), some (some 68), some (some 75), none, none])) := rfl
theorem sh63 : SH[((63 : Int)).toNat]? = some (.inr (2, 4, esr 64 4)) := rfl
theorem sh64 : SH[((64 : Int)).toNat]? = some (.inr (0, 6, [])) := rfl
theorem sh65 : SH[((65 : Int)).toNat]? = some (.inr (0, 6, [])) := rfl
theorem sh66 : SH[((66 : Int)).toNat]? = some (.inr (0, 6, [])) := rfl
theorem sh67 : SH[((67 : Int)).toNat]? = some (.inr (0, 6, [])) := rfl
theorem sh68 : SH[((68 : Int)).toNat]? = some (.inr (2, 6, esr 69 6)) := rfl
theorem sh69 : SH[((69 : Int)).toNat]? = some (.inr (0, 6, [])) := rfl
theorem sh70 : SH[((70 : Int)).toNat]? = some (.inr (0, 6, [])) := rfl
theorem sh71 : SH[((71 : Int)).toNat]? = some (.inr (0, 6, [])) := rfl
theorem sh72 : SH[((72 : Int)).toNat]? = some (.inr (0, 6, [])) := rfl
theorem sh73 : SH[((73 : Int)).toNat]? = some (.inr (0, 6, [])) := rfl
theorem sh74 : SH[((74 : Int)).toNat]? = some (.inr (0, 6, [])) := rfl
theorem sh75 : SH[((75 : Int)).toNat]? = some (.inl (4, [some (some 76), some (some 77), some (some 78), none])) := rfl
theorem sh76 : SH[((76 : Int)).toNat]? = some (.inr (0, 8, [])) := rfl
theorem sh77 : SH[((77 : Int)).toNat]? = some (.inr (0, 8, [])) := rfl
theorem sh78 : SH[((78 : Int)).toNat]? = some (.inr (0, 8, [])) := rfl
theorem sh79 : SH[((79 : Int)).toNat]? = some (.inl (8, [some (some 80), none, none, none, some (some 81), none, some (some 82), some (some 83), some (some 84), some (some 85), none, none, none, some (some 86), some (some 87), some (some 88), some (some 89), some (some 90), some (some 91), some (some 92), some (some 93), some (some 94)])) := rfl
theorem sh80 : SH[((80 : Int)).toNat]? = some (.inr (0, 24, [])) := rfl
theorem sh81 : SH[((81 : Int)).toNat]? = some (.inr (0, 40, [])) := rfl
theorem sh82 : SH[((82 : Int)).toNat]? = some (.inr (0, 24, [])) := rfl
theorem sh83 : SH[((83 : Int)).toNat]? = some (.inr (0, 36, [])) := rfl
theorem sh84 : SH[((84 : Int)).toNat]? = some (.inr (0, 24, [])) := rfl
theorem sh85 : SH[((85 : Int)).toNat]? = some (.inr (0, 6, [])) := rfl
theorem sh86 : SH[((86 : Int)).toNat]? = some (.inr (0, 6, [])) := rfl
theorem sh87 : SH[((87 : Int)).toNat]? = some (.inr (0, 256, [])) := rfl
theorem sh88 : SH[((88 : Int)).toNat]? = some (.inr (0, 4, [])) := rfl
theorem sh89 : SH[((89 : Int)).toNat]? = some (.inr (0, 4, [])) := rfl
theorem sh90 : SH[((90 : Int)).toNat]? = some (.inr (0, 64, [])) := rfl
theorem sh91 : SH[((91 : Int)).toNat]? = some (.inr (0, 12, [])) := rfl
theorem sh92 : SH[((92 : Int)).toNat]? = some (.inr (0, 6, [])) := rfl
theorem sh93 : SH[((93 : Int)).toNat]? = some (.inr (0, 176, [])) := rfl
theorem sh94 : SH[((94 : Int)).toNat]? = some (.inr (1, 2, [])) := rfl
theorem shr2 {j : Int} (h : 0 ≤ j ∧ j < 4) : SH[((3 : Int) + j).toNat]? = some (.inr (0, 6, [])) := by
  have : j = 0 ∨ j = 1 ∨ j = 2 ∨ j = 3 := by omega
  rcases this with rfl | rfl | rfl | rfl <;> rfl
theorem shr7 {j : Int} (h : 0 ≤ j ∧ j < 6) : SH[((8 : Int) + j).toNat]? = some (.inr (0, 6, [])) := by
  have : j = 0 ∨ j = 1 ∨ j = 2 ∨ j = 3 ∨ j = 4 ∨ j = 5 := by omega
  rcases this with rfl | rfl | rfl | rfl | rfl | rfl <;> rfl
theorem shr23 {j : Int} (h : 0 ≤ j ∧ j < 4) : SH[((24 : Int) + j).toNat]? = some (.inr (0, 6, [])) := by
  have : j = 0 ∨ j = 1 ∨ j = 2 ∨ j = 3 := by omega
  rcases this with rfl | rfl | rfl | rfl <;> rfl
theorem shr46 {j : Int} (h : 0 ≤ j ∧ j < 4) : SH[((47 : Int) + j).toNat]? = some (.inr (0, 6, [])) := by
  have : j = 0 ∨ j = 1 ∨ j = 2 ∨ j = 3 := by omega
  rcases this with rfl | rfl | rfl | rfl <;> rfl
theorem shr51 {j : Int} (h : 0 ≤ j ∧ j < 6) : SH[((52 : Int) + j).toNat]? = some (.inr (0, 6, [])) := by
  have : j = 0 ∨ j = 1 ∨ j = 2 ∨ j = 3 ∨ j = 4 ∨ j = 5 := by omega
  rcases this with rfl | rfl | rfl | rfl | rfl | rfl <;> rfl
theorem shr63 {j : Int} (h : 0 ≤ j ∧ j < 4) : SH[((64 : Int) + j).toNat]? = some (.inr (0, 6, [])) := by
  have : j = 0 ∨ j = 1 ∨ j = 2 ∨ j = 3 := by omega
  rcases this with rfl | rfl | rfl | rfl <;> rfl
theorem shr68 {j : Int} (h : 0 ≤ j ∧ j < 6) : SH[((69 : Int) + j).toNat]? = some (.inr (0, 6, [])) := by
  have : j = 0 ∨ j = 1 ∨ j = 2 ∨ j = 3 ∨ j = 4 ∨ j = 5 := by omega
  rcases this with rfl | rfl | rfl | rfl | rfl | rfl <;> rfl
end
section
/-! ===== answers that are yes or no, and a few more rows ===== -/
noncomputable def b2 (p : Prop) : Int := @ite Int p (Classical.propDecidable p) 1 0
theorem b2_pos {p : Prop} (h : p) : b2 p = 1 := if_pos h
theorem b2_neg {p : Prop} (h : ¬ p) : b2 p = 0 := if_neg h
theorem b2_01 (p : Prop) : b2 p = 0 ∨ b2 p = 1 := by
  by_cases h : p
  · exact Or.inr (b2_pos h)
  · exact Or.inl (b2_neg h)
theorem b2_eq1 {p : Prop} : b2 p = 1 ↔ p := by
  by_cases h : p
  · rw [b2_pos h]; exact ⟨fun _ => h, fun _ => rfl⟩
  · rw [b2_neg h]; exact ⟨fun q => absurd q (by decide), fun q => absurd q h⟩
theorem b2_eq0 {p : Prop} : b2 p = 0 ↔ ¬ p := by
  by_cases h : p
  · rw [b2_pos h]; exact ⟨fun q => absurd q (by decide), fun q => absurd h q⟩
  · rw [b2_neg h]; exact ⟨fun _ => h, fun _ => rfl⟩
theorem b2_congr {p q : Prop} (h : p ↔ q) : b2 p = b2 q := by rw [propext h]
theorem inI_b2 (p : Prop) : inI (b2 p) := by rcases b2_01 p with h | h <;> rw [h] <;> decide
section MORE
variable {v : Ev} {cc : ByteArray} {nL d pc mc ms : Nat} {own : String} {as : List Nat} {sh : List Sh} {ls : List (Option Vv)} {st : List Vv} {M : Mm}
theorem s_ifeqB (E : Cx v cc nL own d) {p : Prop} {off : Int} (tgt : Nat) (hd : decode cc pc = .ok (.ifCond .eq off, 3)) (ht : (pc : Int) + off = (tgt : Int)) (kt : ¬ p → Ws v as sh mc ms tgt ls st M) (kf : p → Ws v as sh mc ms (pc + 3) ls st M) : Ws v as sh mc ms pc ls (iv (b2 p) :: st) M :=
  s_if_eq E tgt hd ht (inI_b2 p) (fun h => kt (b2_eq0.mp h)) (fun h => kf (Classical.byContradiction fun q => h (b2_eq0.mpr q)))
theorem s_ifneB (E : Cx v cc nL own d) {p : Prop} {off : Int} (tgt : Nat) (hd : decode cc pc = .ok (.ifCond .ne off, 3)) (ht : (pc : Int) + off = (tgt : Int)) (kt : p → Ws v as sh mc ms tgt ls st M) (kf : ¬ p → Ws v as sh mc ms (pc + 3) ls st M) : Ws v as sh mc ms pc ls (iv (b2 p) :: st) M :=
  s_if_ne E tgt hd ht (inI_b2 p) (fun h => kt (Classical.byContradiction fun q => h (b2_eq0.mpr q))) (fun h => kf (fun q => h (fun w => b2_eq0.mp w q)))
theorem s_aaldR (E : Cx v cc nL own d) {n : Nat} {o j r0 : Int} (hd : decode cc pc = .ok (.aaload, 1)) (ho : 0 ≤ o) (hs : sh[o.toNat]? = some (.inr (2, n, esr r0 n))) (hn : n ≤ 65536) (hj : 0 ≤ j ∧ j < (n : Int)) (k : Ws v as sh mc ms (pc + 1) ls (rv (r0 + j) :: st) M) : Ws v as sh mc ms pc ls (iv j :: rv o :: st) M :=
  s_aald (kd := 0) E hd ho hs hn hj (esr_at hj) k
theorem s_tcase (E : Cx v cc nL own d) {dflt lo hi off : Int} {offs : Array Int} {len : Nat} {a : Int} (kk : Int) (tgt : Nat) (hd : decode cc pc = .ok (.tableswitch dflt lo hi offs, len)) (hk : inI kk ∧ ¬ kk < lo ∧ ¬ hi < kk) (ho : offs[(kk - lo).toNat]? = some off) (ht : (pc : Int) + off = (tgt : Int))
    (k1 : a = kk → Ws v as sh mc ms tgt ls st M) (k2 : a ≠ kk → Ws v as sh mc ms pc ls (iv a :: st) M) : Ws v as sh mc ms pc ls (iv a :: st) M := by
  by_cases h : a = kk
  · exact s_tin E tgt kk hd h hk ho ht (k1 h)
  · exact k2 h
theorem s_lcase (E : Cx v cc nL own d) {dflt off : Int} {ps : Array (Int × Int)} {len : Nat} {a : Int} (kk : Int) (tgt : Nat) (hd : decode cc pc = .ok (.lookupswitch dflt ps, len)) (hk : inI kk) (hp : (ps.toList.zip (ps.toList.drop 1)).all (fun (a, next) => a.1 < next.1) = true) (ho : Op.lookupswitch.offset ps.toList dflt kk = off) (ht : (pc : Int) + off = (tgt : Int))
    (k1 : a = kk → Ws v as sh mc ms tgt ls st M) (k2 : a ≠ kk → Ws v as sh mc ms pc ls (iv a :: st) M) : Ws v as sh mc ms pc ls (iv a :: st) M := by
  by_cases h : a = kk
  · exact s_lsw E tgt hd (by rw [h]; exact hk) hp (by rw [h]; exact ho) ht (k1 h)
  · exact k2 h
theorem s_lout (E : Cx v cc nL own d) {dflt : Int} {ps : Array (Int × Int)} {len : Nat} {a : Int} (tgt : Nat) (hd : decode cc pc = .ok (.lookupswitch dflt ps, len)) (ha : inI a) (hp : (ps.toList.zip (ps.toList.drop 1)).all (fun (a, next) => a.1 < next.1) = true) (ho : Op.lookupswitch.offset ps.toList dflt a = dflt) (ht : (pc : Int) + dflt = (tgt : Int))
    (k : Ws v as sh mc ms tgt ls st M) : Ws v as sh mc ms pc ls (iv a :: st) M := s_lsw E tgt hd ha hp ho ht k
end MORE
def iUshr (x y : Int) : Int := ((Int32.ofInt x).toUInt32 >>> ((Int32.ofInt y).toUInt32 &&& Int32.toUInt32 31)).toInt32.toInt
section MORE2
variable {v : Ev} {cc : ByteArray} {nL d pc mc ms : Nat} {own : String} {as : List Nat} {sh : List Sh} {ls : List (Option Vv)} {st : List Vv} {M : Mm}
theorem s_iushr (E : Cx v cc nL own d) {a b : Int} (hd : decode cc pc = .ok (.iushr, 1)) (k : Ws v as sh mc ms (pc + 1) ls (iv (iUshr a b) :: st) M) : Ws v as sh mc ms pc ls (iv b :: iv a :: st) M := by
  obtain ⟨p, l, e, R, s, m, args, below, meth, c, Q, A, D, cA, x⟩ := v
  obtain ⟨hx, hb, hml, hown, hts, hK, hA, hfr, hlo, hNs⟩ := E
  intro H locs lsA hW hS hl
  have h := k H locs lsA hW hS hl
  simp only [List.map_cons, enc, iUshr, Int32.ofInt_toInt] at h ⊢
  exact lv_iushr hx hb hd rfl h
theorem s_ldcw (E : Cx v cc nL own d) {n : Int} {idx : Nat} (hd : decode cc pc = .ok (.ldc_w idx, 3)) (hw : Cond.constant own idx (Int32.ofInt n) ∈ BIG) (k : Ws v as sh mc ms (pc + 3) ls (iv n :: st) M) : Ws v as sh mc ms pc ls st M := by
  obtain ⟨p, l, e, R, s, m, args, below, meth, c, Q, A, D, cA, x⟩ := v
  obtain ⟨hx, hb, hml, hown, hts, hK, hA, hfr, hlo, hNs⟩ := E
  intro H locs lsA hW hS hl
  exact lv_ldcw hx hb hown (hts _ hw) hd (k H locs lsA hW hS hl)
end MORE2
end
section
/-! ===== bits of small numbers ===== -/
theorem bv_toInt {w : BitVec 32} (h : w.toNat < 2147483648) : w.toInt = (w.toNat : Int) := BitVec.toInt_eq_toNat_of_lt (by omega)
theorem i_bv (a : Nat) : (Int32.ofInt (a : Int)).toBitVec = BitVec.ofNat 32 a := by rw [Int32.ofInt_eq_ofNat]; rfl
theorem and_lt31 {a b : Nat} (ha : a < 2147483648) : a &&& b < 2147483648 := Nat.lt_of_le_of_lt Nat.and_le_left ha
theorem iAnd_nat {a b : Nat} (ha : a < 2147483648) (hb : b < 4294967296) : iAnd (a : Int) (b : Int) = ((a &&& b : Nat) : Int) := by
  have e : (BitVec.ofNat 32 a &&& BitVec.ofNat 32 b).toNat = a &&& b := by
    rw [BitVec.toNat_and, BitVec.toNat_ofNat, BitVec.toNat_ofNat, Nat.mod_eq_of_lt (by omega), Nat.mod_eq_of_lt hb]
  unfold iAnd
  show ((Int32.ofInt (a : Int)).toBitVec &&& (Int32.ofInt (b : Int)).toBitVec).toInt = _
  rw [i_bv, i_bv, bv_toInt (by rw [e]; exact and_lt31 ha), e]
theorem iOr_nat {a b : Nat} (ha : a < 2147483648) (hb : b < 2147483648) : iOr (a : Int) (b : Int) = ((a ||| b : Nat) : Int) := by
  have e : (BitVec.ofNat 32 a ||| BitVec.ofNat 32 b).toNat = a ||| b := by
    rw [BitVec.toNat_or, BitVec.toNat_ofNat, BitVec.toNat_ofNat, Nat.mod_eq_of_lt (by omega), Nat.mod_eq_of_lt (by omega)]
  unfold iOr
  show ((Int32.ofInt (a : Int)).toBitVec ||| (Int32.ofInt (b : Int)).toBitVec).toInt = _
  rw [i_bv, i_bv, bv_toInt (by rw [e]; exact Nat.or_lt_two_pow (n := 31) ha hb), e]
theorem bv_m1 : (Int32.ofInt (-1)).toBitVec = BitVec.ofNat 32 4294967295 := by decide
/-- x and not y -/
theorem iAndNot_nat {a b : Nat} (ha : a < 2147483648) (hb : b < 4294967296) : iAnd (a : Int) (iXor (b : Int) (-1)) = ((a &&& (b ^^^ 4294967295) : Nat) : Int) := by
  have e : (BitVec.ofNat 32 a &&& (BitVec.ofNat 32 b ^^^ BitVec.ofNat 32 4294967295)).toNat = a &&& (b ^^^ 4294967295) := by
    rw [BitVec.toNat_and, BitVec.toNat_xor, BitVec.toNat_ofNat, BitVec.toNat_ofNat, BitVec.toNat_ofNat, Nat.mod_eq_of_lt (by omega), Nat.mod_eq_of_lt hb, Nat.mod_eq_of_lt (by omega)]
  unfold iAnd iXor
  rw [Int32.ofInt_toInt]
  show ((Int32.ofInt (a : Int)).toBitVec &&& ((Int32.ofInt (b : Int)).toBitVec ^^^ (Int32.ofInt (-1)).toBitVec)).toInt = _
  rw [i_bv, i_bv, bv_m1, bv_toInt (by rw [e]; exact and_lt31 ha), e]
theorem sh_amt : ∀ k : Nat, k < 31 → ((Int32.ofInt (k : Int) &&& 31).toBitVec.smod 32).toNat = k := by decide +kernel
theorem iShr_nat {a k : Nat} (ha : a < 2147483648) (hk : k < 31) : iShr (a : Int) (k : Int) = ((a >>> k : Nat) : Int) := by
  unfold iShr
  show (BitVec.sshiftRight' (Int32.ofInt (a : Int)).toBitVec ((Int32.ofInt (k : Int) &&& 31).toBitVec.smod 32)).toInt = _
  unfold BitVec.sshiftRight'
  rw [BitVec.toInt_sshiftRight, sh_amt k hk, i_bv, bv_toInt (by rw [BitVec.toNat_ofNat]; omega), BitVec.toNat_ofNat, Nat.mod_eq_of_lt (by omega)]
  rfl
theorem iShl1 : ∀ k : Nat, k < 31 → iShl 1 (k : Int) = ((2 ^ k : Nat) : Int) := by decide +kernel
def bt (s i : Int) : Prop := iAnd (iShr s i) 1 = 1
theorem iAnd1 (x : Int) : iAnd x 1 = 0 ∨ iAnd x 1 = 1 := by
  unfold iAnd
  show ((Int32.ofInt x).toBitVec &&& 1#32).toInt = 0 ∨ ((Int32.ofInt x).toBitVec &&& 1#32).toInt = 1
  have h : ((Int32.ofInt x).toBitVec &&& 1#32).toNat = (Int32.ofInt x).toBitVec.toNat &&& 1 := by rw [BitVec.toNat_and]; rfl
  have h2 : (Int32.ofInt x).toBitVec.toNat &&& 1 = (Int32.ofInt x).toBitVec.toNat % 2 := Nat.and_one_is_mod _
  rw [bv_toInt (by rw [h, h2]; omega), h, h2]
  omega
theorem bt_nat {s i : Nat} (hs : s < 2147483648) (hi : i < 31) : bt (s : Int) (i : Int) ↔ s.testBit i = true := by
  unfold bt
  have h : s >>> i &&& 1 = s >>> i % 2 := Nat.and_one_is_mod _
  rw [iShr_nat hs hi, show (1 : Int) = ((1 : Nat) : Int) from rfl, iAnd_nat (Nat.lt_of_le_of_lt (Nat.shiftRight_le s i) hs) (by decide), Nat.testBit, Nat.and_comm 1, h, bne_iff_ne]
  generalize s >>> i = t
  omega
theorem nbt0 {s i : Int} (h : ¬ bt s i) : iAnd (iShr s i) 1 = 0 := (iAnd1 _).elim id (fun q => absurd q h)
theorem or_add_8 : ∀ i : Nat, i < 8 → ∀ s : Nat, s < 256 → s.testBit i = false → s ||| 2 ^ i = s + 2 ^ i := by decide +kernel
theorem iOr_add {s i : Nat} (hs : s < 256) (hi : i < 8) (h : ¬ bt (s : Int) (i : Int)) : iOr (s : Int) (iShl 1 (i : Int)) = ((s ||| 2 ^ i : Nat) : Int) ∧ s ||| 2 ^ i = s + 2 ^ i := by
  have h2 : 2 ^ i < 1073741824 := Nat.pow_lt_pow_right (by decide) (show i < 30 by omega)
  rw [iShl1 i (by omega), iOr_nat (by omega) (by omega)]
  refine ⟨rfl, ?_⟩
  rw [bt_nat (by omega) (by omega), Bool.not_eq_true] at h
  exact or_add_8 i hi s hs h
theorem tb_or {s i j : Nat} : (s ||| 2 ^ i).testBit j = true ↔ s.testBit j = true ∨ i = j := by
  rw [Nat.testBit_or, Nat.testBit_two_pow]
  simp
end
section
/-! ===== what a loop gives back; what stays ===== -/
def RetI (v : Ev) (as : List Nat) (bytes : ByteArray) (rt : FieldType) (post : Int → Mm → Prop) : Prop := ∀ r M', post r M' → (rt = .boolean → r = 0 ∨ r = 1) → ∀ pc ls, decode bytes pc = .ok (.ireturn, 1) → Ws v as SH 0 0 pc ls [iv r] M'
def RetV (v : Ev) (as : List Nat) (bytes : ByteArray) (post : Mm → Prop) : Prop := ∀ M', post M' → ∀ pc ls, decode bytes pc = .ok (.return_, 1) → Ws v as SH 0 0 pc ls [] M'
/-- a call of the class that writes nothing but what it works in -/
def Kp (M M' : Mm) : Prop := ∀ k j, ¬ (22 ≤ k ∧ k ≤ 44) → M' k j = M k j
/-- a call of the reference that writes nothing but what it works in -/
def KpM (M M' : Mm) : Prop := ∀ k j, ¬ (84 ≤ k ∧ k ≤ 92) → ¬ (k = 79 ∧ 10 ≤ j ∧ j ≤ 12) → M' k j = M k j
theorem Kp.rf (M : Mm) : Kp M M := fun _ _ _ => rfl
theorem KpM.rf (M : Mm) : KpM M M := fun _ _ _ _ => rfl
theorem Kp.tr {M M1 M2 : Mm} (h : Kp M M1) (h2 : Kp M1 M2) : Kp M M2 := fun k j q => (h2 k j q).trans (h k j q)
theorem KpM.tr {M M1 M2 : Mm} (h : KpM M M1) (h2 : KpM M1 M2) : KpM M M2 := fun k j q w => (h2 k j q w).trans (h k j q w)
theorem Kp.up {M M1 : Mm} {a b z : Int} (h : Kp M M1) (ha : 22 ≤ a ∧ a ≤ 44) : Kp M (upm M1 a b z) := fun k j q => (upm_ne (Or.inl (fun e => q (by omega)))).trans (h k j q)
theorem KpM.up {M M1 : Mm} {a b z : Int} (h : KpM M M1) (ha : 84 ≤ a ∧ a ≤ 92) : KpM M (upm M1 a b z) := fun k j q w => (upm_ne (Or.inl (fun e => q (by omega)))).trans (h k j q w)
theorem KpM.upf {M M1 : Mm} {b z : Int} (h : KpM M M1) (hb : 10 ≤ b ∧ b ≤ 12) : KpM M (upm M1 79 b z) := fun k j q w => (upm_ne (by
  by_cases e : k = 79
  · exact Or.inr (fun e2 => w ⟨e, by omega⟩)
  · exact Or.inl e)).trans (h k j q w)
end
section
set_option maxRecDepth 100000 in
set_option maxHeartbeats 4000000 in
theorem c_X7_isOne (M : Mm) (k : Int) (hk : inI k) : CtI yX7_isOne cX7_isOne 1 .boolean 1 SH [iv k] M (fun r M' => r = b2 (0 ≤ k ∧ k < 6) ∧ M' = M) := by
  refine CtI.of rfl (Nat.le_of_ble_eq_true rfl) (Or.inr rfl) (fun v as E hret => ?_)
  show Ws v as SH 0 0 0 [some (iv k)] [] M
  refine s_iload_n E dX7_isOne_0 rfl ?_
  refine s_if_lt E 14 dX7_isOne_1 (by decide) (by omega) (fun h1 => ?_) (fun h1 => ?_)
  · refine s_iconst E dX7_isOne_14 ?_
    refine hret _ _ ?_ (fun _ => Or.inl rfl) _ _ dX7_isOne_15
    exact ⟨by first | exact (b2_pos (by omega)).symm | exact (b2_neg (by omega)).symm, rfl⟩
  · refine s_iload_n E dX7_isOne_4 rfl ?_
    refine s_bipush E dX7_isOne_5 rfl ?_
    refine s_icmp_ge E 14 dX7_isOne_7 (by decide) (by omega) (by omega) (fun h7 => ?_) (fun h7 => ?_)
    · refine s_iconst E dX7_isOne_14 ?_
      refine hret _ _ ?_ (fun _ => Or.inl rfl) _ _ dX7_isOne_15
      exact ⟨by first | exact (b2_pos (by omega)).symm | exact (b2_neg (by omega)).symm, rfl⟩
    · refine s_iconst E dX7_isOne_10 ?_
      refine s_goto E 15 dX7_isOne_11 (by decide) ?_
      refine hret _ _ ?_ (fun _ => Or.inr rfl) _ _ dX7_isOne_15
      exact ⟨by first | exact (b2_pos (by omega)).symm | exact (b2_neg (by omega)).symm, rfl⟩

set_option maxRecDepth 100000 in
set_option maxHeartbeats 4000000 in
theorem c_X7_isOneSign (M : Mm) (k : Int) (hk : -1000 ≤ k ∧ k ≤ 1000) : CtI yX7_isOneSign cX7_isOneSign 1 .boolean 2 SH [iv k] M (fun r M' => r = b2 (97 ≤ k ∧ k < 103) ∧ M' = M) := by
  refine CtI.of rfl (Nat.le_of_ble_eq_true rfl) (Or.inr rfl) (fun v as E hret => ?_)
  show Ws v as SH 0 0 0 [some (iv k)] [] M
  refine s_iload_n E dX7_isOneSign_0 rfl ?_
  refine s_bipush E dX7_isOneSign_1 rfl ?_
  refine s_isub E dX7_isOneSign_3 ?_
  refine s_callSi E (c_X7_isOne _ _ (by omega)) dX7_isOneSign_4 mf_X7_isOne ml_X7_59 rfl (Nat.le_of_ble_eq_true rfl) (Nat.le_of_ble_eq_true rfl) rfl (fun r4 M4 h4 => ?_)
  obtain ⟨e4, f4⟩ := h4; subst r4; subst M4
  refine hret _ _ ?_ (fun _ => b2_01 _) _ _ dX7_isOneSign_7
  exact ⟨b2_congr (by omega), rfl⟩

set_option maxRecDepth 100000 in
set_option maxHeartbeats 4000000 in
theorem c_X7_holds (M : Mm) (s i : Int) : CtI yX7_holds cX7_holds 2 .boolean 1 SH [iv s, iv i] M (fun r M' => r = b2 (bt s i) ∧ M' = M) := by
  refine CtI.of rfl (Nat.le_of_ble_eq_true rfl) (Or.inr rfl) (fun v as E hret => ?_)
  show Ws v as SH 0 0 0 [some (iv s), some (iv i)] [] M
  refine s_iload_n E dX7_holds_0 rfl ?_
  refine s_iload_n E dX7_holds_1 rfl ?_
  refine s_ishr E dX7_holds_2 ?_
  refine s_iconst E dX7_holds_3 ?_
  refine s_iand E dX7_holds_4 ?_
  refine s_iconst E dX7_holds_5 ?_
  refine s_icmp_ne E 13 dX7_holds_6 (by decide) (inI_and _ _) (by decide) (fun h6 => ?_) (fun h6 => ?_)
  · refine s_iconst E dX7_holds_13 ?_
    refine hret _ _ ?_ (fun _ => Or.inl rfl) _ _ dX7_holds_14
    exact ⟨(b2_neg (by unfold bt; assumption)).symm, rfl⟩
  · refine s_iconst E dX7_holds_9 ?_
    refine s_goto E 14 dX7_holds_10 (by decide) ?_
    refine hret _ _ ?_ (fun _ => Or.inr rfl) _ _ dX7_holds_14
    exact ⟨(b2_pos (by unfold bt; omega)).symm, rfl⟩

set_option maxRecDepth 100000 in
set_option maxHeartbeats 4000000 in
theorem c_X8_in (M : Mm) (k a b : Int) (hk : inI k) (ha : inI a) (hb : inI b) : CtI yX8_in cX8_in 3 .boolean 1 SH [iv k, iv a, iv b] M (fun r M' => r = b2 (a ≤ k ∧ k ≤ b) ∧ M' = M) := by
  refine CtI.of rfl (Nat.le_of_ble_eq_true rfl) (Or.inr rfl) (fun v as E hret => ?_)
  show Ws v as SH 0 0 0 [some (iv k), some (iv a), some (iv b)] [] M
  refine s_iload_n E dX8_in_0 rfl ?_
  refine s_iload_n E dX8_in_1 rfl ?_
  refine s_icmp_lt E 14 dX8_in_2 (by decide) (by omega) (by omega) (fun h2 => ?_) (fun h2 => ?_)
  · refine s_iconst E dX8_in_14 ?_
    refine hret _ _ ?_ (fun _ => Or.inl rfl) _ _ dX8_in_15
    exact ⟨by first | exact (b2_pos (by omega)).symm | exact (b2_neg (by omega)).symm, rfl⟩
  · refine s_iload_n E dX8_in_5 rfl ?_
    refine s_iload_n E dX8_in_6 rfl ?_
    refine s_icmp_gt E 14 dX8_in_7 (by decide) (by omega) (by omega) (fun h7 => ?_) (fun h7 => ?_)
    · refine s_iconst E dX8_in_14 ?_
      refine hret _ _ ?_ (fun _ => Or.inl rfl) _ _ dX8_in_15
      exact ⟨by first | exact (b2_pos (by omega)).symm | exact (b2_neg (by omega)).symm, rfl⟩
    · refine s_iconst E dX8_in_10 ?_
      refine s_goto E 15 dX8_in_11 (by decide) ?_
      refine hret _ _ ?_ (fun _ => Or.inr rfl) _ _ dX8_in_15
      exact ⟨by first | exact (b2_pos (by omega)).symm | exact (b2_neg (by omega)).symm, rfl⟩

set_option maxRecDepth 100000 in
set_option maxHeartbeats 4000000 in
theorem c_X8_isOne (M : Mm) (k : Int) (hk : inI k) : CtI yX8_isOne cX8_isOne 1 .boolean 2 SH [iv k] M (fun r M' => r = b2 (0 ≤ k ∧ k ≤ 5) ∧ M' = M) := by
  refine CtI.of rfl (Nat.le_of_ble_eq_true rfl) (Or.inr rfl) (fun v as E hret => ?_)
  show Ws v as SH 0 0 0 [some (iv k)] [] M
  refine s_iload_n E dX8_isOne_0 rfl ?_
  refine s_iconst E dX8_isOne_1 ?_
  refine s_iconst E dX8_isOne_2 ?_
  refine s_callSi E (c_X8_in _ _ _ _ (by omega) (by omega) (by omega)) dX8_isOne_3 mf_X8_in ml_X8_63 rfl (Nat.le_of_ble_eq_true rfl) (Nat.le_of_ble_eq_true rfl) rfl (fun r3 M3 h3 => ?_)
  obtain ⟨e3, f3⟩ := h3; subst r3; subst M3
  refine hret _ _ ?_ (fun _ => b2_01 _) _ _ dX8_isOne_6
  exact ⟨rfl, rfl⟩

def mostF (w : Int) : Int := if w = 0 then 999 else if w = 3 then 99 else 1

set_option maxRecDepth 100000 in
set_option maxHeartbeats 4000000 in
theorem c_X8_mostOf (M : Mm) (w : Int) (hw : inI w) : CtI yX8_mostOf cX8_mostOf 1 .int 1 SH [iv w] M (fun r M' => r = mostF w ∧ M' = M) := by
  refine CtI.of rfl (Nat.le_of_ble_eq_true rfl) (Or.inl rfl) (fun v as E hret => ?_)
  show Ws v as SH 0 0 0 [some (iv w)] [] M
  refine s_iload_n E dX8_mostOf_0 rfl ?_
  refine s_if_ne E 10 dX8_mostOf_1 (by decide) (by omega) (fun h1 => ?_) (fun h1 => ?_)
  · refine s_iload_n E dX8_mostOf_10 rfl ?_
    refine s_iconst E dX8_mostOf_11 ?_
    refine s_icmp_ne E 20 dX8_mostOf_12 (by decide) (by omega) (by omega) (fun h12 => ?_) (fun h12 => ?_)
    · refine s_iconst E dX8_mostOf_20 ?_
      refine hret _ _ ?_ (fun q => by cases q) _ _ dX8_mostOf_21
      exact ⟨by unfold mostF; split <;> first | rfl | omega | (split <;> first | rfl | omega), rfl⟩
    · refine s_bipush E dX8_mostOf_15 rfl ?_
      refine s_goto E 21 dX8_mostOf_17 (by decide) ?_
      refine hret _ _ ?_ (fun q => by cases q) _ _ dX8_mostOf_21
      exact ⟨by unfold mostF; split <;> first | rfl | omega | (split <;> first | rfl | omega), rfl⟩
  · refine s_sipush E dX8_mostOf_4 rfl ?_
    refine s_goto E 21 dX8_mostOf_7 (by decide) ?_
    refine hret _ _ ?_ (fun q => by cases q) _ _ dX8_mostOf_21
    exact ⟨by unfold mostF; split <;> first | rfl | omega | (split <;> first | rfl | omega), rfl⟩

set_option maxRecDepth 100000 in
set_option maxHeartbeats 4000000 in
theorem c_X8_isName (M : Mm) (k : Int) (hk : inI k) : CtI yX8_isName cX8_isName 1 .boolean 2 SH [iv k] M (fun r M' => r = b2 (97 ≤ k ∧ k ≤ 102) ∧ M' = M) := by
  refine CtI.of rfl (Nat.le_of_ble_eq_true rfl) (Or.inr rfl) (fun v as E hret => ?_)
  show Ws v as SH 0 0 0 [some (iv k)] [] M
  refine s_iload_n E dX8_isName_0 rfl ?_
  refine s_bipush E dX8_isName_1 rfl ?_
  refine s_bipush E dX8_isName_3 rfl ?_
  refine s_callSi E (c_X8_in _ _ _ _ (by omega) (by omega) (by omega)) dX8_isName_5 mf_X8_in ml_X8_63 rfl (Nat.le_of_ble_eq_true rfl) (Nat.le_of_ble_eq_true rfl) rfl (fun r5 M5 h5 => ?_)
  obtain ⟨e5, f5⟩ := h5; subst r5; subst M5
  refine hret _ _ ?_ (fun _ => b2_01 _) _ _ dX8_isName_8
  exact ⟨rfl, rfl⟩

set_option maxRecDepth 100000 in
set_option maxHeartbeats 4000000 in
theorem c_X8_isAct (M : Mm) (k : Int) (hk : inI k) : CtI yX8_isAct cX8_isAct 1 .boolean 1 SH [iv k] M (fun r M' => r = b2 (k = 122 ∨ k = 121 ∨ k = 120 ∨ k = 105 ∨ k = 107) ∧ M' = M) := by
  refine CtI.of rfl (Nat.le_of_ble_eq_true rfl) (Or.inr rfl) (fun v as E hret => ?_)
  show Ws v as SH 0 0 0 [some (iv k)] [] M
  refine s_iload_n E dX8_isAct_0 rfl ?_
  refine s_bipush E dX8_isAct_1 rfl ?_
  refine s_icmp_eq E 30 dX8_isAct_3 (by decide) (by omega) (by omega) (fun h3 => ?_) (fun h3 => ?_)
  · refine s_iconst E dX8_isAct_30 ?_
    refine s_goto E 35 dX8_isAct_31 (by decide) ?_
    refine hret _ _ ?_ (fun _ => Or.inr rfl) _ _ dX8_isAct_35
    exact ⟨by first | exact (b2_pos (by omega)).symm | exact (b2_neg (by omega)).symm, rfl⟩
  · refine s_iload_n E dX8_isAct_6 rfl ?_
    refine s_bipush E dX8_isAct_7 rfl ?_
    refine s_icmp_eq E 30 dX8_isAct_9 (by decide) (by omega) (by omega) (fun h9 => ?_) (fun h9 => ?_)
    · refine s_iconst E dX8_isAct_30 ?_
      refine s_goto E 35 dX8_isAct_31 (by decide) ?_
      refine hret _ _ ?_ (fun _ => Or.inr rfl) _ _ dX8_isAct_35
      exact ⟨by first | exact (b2_pos (by omega)).symm | exact (b2_neg (by omega)).symm, rfl⟩
    · refine s_iload_n E dX8_isAct_12 rfl ?_
      refine s_bipush E dX8_isAct_13 rfl ?_
      refine s_icmp_eq E 30 dX8_isAct_15 (by decide) (by omega) (by omega) (fun h15 => ?_) (fun h15 => ?_)
      · refine s_iconst E dX8_isAct_30 ?_
        refine s_goto E 35 dX8_isAct_31 (by decide) ?_
        refine hret _ _ ?_ (fun _ => Or.inr rfl) _ _ dX8_isAct_35
        exact ⟨by first | exact (b2_pos (by omega)).symm | exact (b2_neg (by omega)).symm, rfl⟩
      · refine s_iload_n E dX8_isAct_18 rfl ?_
        refine s_bipush E dX8_isAct_19 rfl ?_
        refine s_icmp_eq E 30 dX8_isAct_21 (by decide) (by omega) (by omega) (fun h21 => ?_) (fun h21 => ?_)
        · refine s_iconst E dX8_isAct_30 ?_
          refine s_goto E 35 dX8_isAct_31 (by decide) ?_
          refine hret _ _ ?_ (fun _ => Or.inr rfl) _ _ dX8_isAct_35
          exact ⟨by first | exact (b2_pos (by omega)).symm | exact (b2_neg (by omega)).symm, rfl⟩
        · refine s_iload_n E dX8_isAct_24 rfl ?_
          refine s_bipush E dX8_isAct_25 rfl ?_
          refine s_icmp_ne E 34 dX8_isAct_27 (by decide) (by omega) (by omega) (fun h27 => ?_) (fun h27 => ?_)
          · refine s_iconst E dX8_isAct_34 ?_
            refine hret _ _ ?_ (fun _ => Or.inl rfl) _ _ dX8_isAct_35
            exact ⟨by first | exact (b2_pos (by omega)).symm | exact (b2_neg (by omega)).symm, rfl⟩
          · refine s_iconst E dX8_isAct_30 ?_
            refine s_goto E 35 dX8_isAct_31 (by decide) ?_
            refine hret _ _ ?_ (fun _ => Or.inr rfl) _ _ dX8_isAct_35
            exact ⟨by first | exact (b2_pos (by omega)).symm | exact (b2_neg (by omega)).symm, rfl⟩
end
section
/-! ===== the pad ===== -/
def sgn (M : Mm) (i : Int) : Int := if 0 ≤ i ∧ i < M 20 1 then M 21 i else 0
theorem sgn_in {M : Mm} {i : Int} (h : 0 ≤ i ∧ i < M 20 1) : sgn M i = M 21 i := if_pos h
theorem sgn_out {M : Mm} {i : Int} (h : ¬ (0 ≤ i ∧ i < M 20 1)) : sgn M i = 0 := if_neg h
def hd0 (s : Int) : Int := if s = 46 then 1 else if s = 63 then 3 else if s = 105 ∨ s = 107 ∨ s = 120 ∨ s = 121 ∨ s = 122 then 2 else if 97 ≤ s ∧ s < 103 then 1 else -1
def nxt (st s b : Int) : Int := if st = 0 then hd0 s else if st = 1 then (if 49 ≤ s ∧ s ≤ 57 then 0 else -1) else if st = 2 then (if 97 ≤ s ∧ s < 103 then 0 else -1) else if st = 3 then (if 97 ≤ s ∧ s < 103 then 4 else -1) else (if (97 ≤ s ∧ s < 103) ∧ s ≠ b then 0 else -1)
def pv (p : Int → Int) (k : Int) : Int := if k ≤ 0 then 0 else p (k - 1)
def sfl (p : Int → Int) : Nat → Int → Int → Int
  | 0, k, st => if st = 0 then -6 else k
  | r + 1, k, st => if nxt st (p k) (pv p k) = -1 then k else sfl p r (k + 1) (nxt st (p k) (pv p k))
theorem sfl_end {p : Int → Int} {n k st : Int} (h : n ≤ k) : sfl p (n - k).toNat k st = if st = 0 then -6 else k := by
  rw [show (n - k).toNat = 0 by omega]
  rfl
theorem sfl_step {p : Int → Int} {n k st : Int} (h : k < n) : sfl p (n - k).toNat k st = if nxt st (p k) (pv p k) = -1 then k else sfl p (n - (k + 1)).toNat (k + 1) (nxt st (p k) (pv p k)) := by
  rw [show (n - k).toNat = (n - (k + 1)).toNat + 1 by omega]
  rfl
theorem hd0_rng (s : Int) : -1 ≤ hd0 s ∧ hd0 s ≤ 4 := by
  unfold hd0
  repeat' split
  all_goals omega
theorem nxt_rng (st s b : Int) : -1 ≤ nxt st s b ∧ nxt st s b ≤ 4 := by
  have := hd0_rng s
  unfold nxt
  repeat' split
  all_goals omega
/-- the fault of the pad as a sitting -/
def sFault (p : Int → Int) (n : Int) : Int := sfl p n.toNat 0 0
/-- the fault of the pad as a book -/
def bfl (p : Int → Int) (n : Int) : Nat → Int → Int → Int
  | 0, _, _ => if n = 0 then 0 else -6
  | r + 1, k, h => if (¬ ((97 ≤ p k ∧ p k < 103) ∨ p k = 46 ∨ p k = 42)) ∨ k ≥ 12 ∨ (if p k = 42 then h + 1 else h) > 5 then k else bfl p n r (k + 1) (if p k = 42 then h + 1 else h)
theorem bfl_end {p : Int → Int} {n k h : Int} (hk : n ≤ k) : bfl p n (n - k).toNat k h = if n = 0 then 0 else -6 := by
  rw [show (n - k).toNat = 0 by omega]
  rfl
theorem bfl_step {p : Int → Int} {n k h : Int} (hk : k < n) : bfl p n (n - k).toNat k h = if (¬ ((97 ≤ p k ∧ p k < 103) ∨ p k = 46 ∨ p k = 42)) ∨ k ≥ 12 ∨ (if p k = 42 then h + 1 else h) > 5 then k else bfl p n (n - (k + 1)).toNat (k + 1) (if p k = 42 then h + 1 else h) := by
  rw [show (n - k).toNat = (n - (k + 1)).toNat + 1 by omega]
  rfl
def bFault (p : Int → Int) (n : Int) : Int := bfl p n n.toNat 0 0
/-- what is known of a pad of n signs -/
def PadOK (p : Int → Int) (n : Int) : Prop := 0 ≤ n ∧ n ≤ 40 ∧ ∀ i, 0 ≤ i → i < 40 → 0 ≤ p i ∧ p i ≤ 126

set_option maxRecDepth 100000 in
set_option maxHeartbeats 4000000 in
theorem c_X5_sign (M : Mm) (i : Int) (hi : inI i) (hn : 0 ≤ M 20 1 ∧ M 20 1 ≤ 40) : CtI yX5_sign cX5_sign 2 .int 1 SH [rv 20, iv i] M (fun r M' => r = sgn M i ∧ M' = M) := by
  refine CtI.of rfl (Nat.le_of_ble_eq_true rfl) (Or.inl rfl) (fun v as E hret => ?_)
  show Ws v as SH 0 0 0 [some (rv 20), some (iv i)] [] M
  refine s_iload_n E dX5_sign_0 rfl ?_
  refine s_if_lt E 27 dX5_sign_1 (by decide) (by omega) (fun h1 => ?_) (fun h1 => ?_)
  · refine s_iconst E dX5_sign_27 ?_
    refine hret _ _ ?_ (fun q => by cases q) _ _ dX5_sign_28
    exact ⟨(sgn_out (by omega)).symm, rfl⟩
  · refine s_iload_n E dX5_sign_4 rfl ?_
    refine s_aload_n E dX5_sign_5 rfl ?_
    refine s_getI (kf := 1) E 1 rfl dX5_sign_6 rfl inb_X5 (Nat.le_of_ble_eq_true rfl) fl_X5_15 (by decide) sh20 rfl ?_
    refine s_icmp_ge E 27 dX5_sign_9 (by decide) (by omega) (by omega) (fun h9 => ?_) (fun h9 => ?_)
    · refine s_iconst E dX5_sign_27 ?_
      refine hret _ _ ?_ (fun q => by cases q) _ _ dX5_sign_28
      exact ⟨(sgn_out (by omega)).symm, rfl⟩
    · refine s_iload_n E dX5_sign_12 rfl ?_
      refine s_bipush E dX5_sign_13 rfl ?_
      refine s_icmp_ge E 27 dX5_sign_15 (by decide) (by omega) (by omega) (fun h15 => ?_) (fun h15 => ?_)
      · refine s_iconst E dX5_sign_27 ?_
        refine hret _ _ ?_ (fun q => by cases q) _ _ dX5_sign_28
        exact ⟨(sgn_out (by omega)).symm, rfl⟩
      · refine s_aload_n E dX5_sign_18 rfl ?_
        refine s_getR (kf := 0) E dX5_sign_19 rfl inb_X5 (Nat.le_of_ble_eq_true rfl) fl_X5_9 (by decide) sh20 rfl ?_
        refine s_iload_n E dX5_sign_22 rfl ?_
        refine s_iald E dX5_sign_23 (by decide) sh21 (Nat.le_of_ble_eq_true rfl) (by omega) ?_
        refine s_goto E 28 dX5_sign_24 (by decide) ?_
        refine hret _ _ ?_ (fun q => by cases q) _ _ dX5_sign_28
        exact ⟨(sgn_in ⟨by omega, by omega⟩).symm, rfl⟩

set_option maxRecDepth 100000 in
set_option maxHeartbeats 4000000 in
theorem c_X5_add (M : Mm) (s : Int) (hn : 0 ≤ M 20 1 ∧ M 20 1 ≤ 40) : CtI yX5_add cX5_add 2 .boolean 1 SH [rv 20, iv s] M (fun r M' => r = b2 (M 20 1 < 40) ∧ M' = if M 20 1 < 40 then upm (upm M 21 (M 20 1) s) 20 1 (M 20 1 + 1) else M) := by
  refine CtI.of rfl (Nat.le_of_ble_eq_true rfl) (Or.inr rfl) (fun v as E hret => ?_)
  show Ws v as SH 0 0 0 [some (rv 20), some (iv s)] [] M
  refine s_aload_n E dX5_add_0 rfl ?_
  refine s_getI (kf := 1) E 1 rfl dX5_add_1 rfl inb_X5 (Nat.le_of_ble_eq_true rfl) fl_X5_15 (by decide) sh20 rfl ?_
  refine s_if_lt E 16 dX5_add_4 (by decide) (by omega) (fun h4 => ?_) (fun h4 => ?_)
  · refine s_iconst E dX5_add_16 ?_
    refine hret _ _ ?_ (fun _ => Or.inl rfl) _ _ dX5_add_17
    exact ⟨(b2_neg (by omega)).symm, (if_neg (by omega)).symm⟩
  · refine s_aload_n E dX5_add_7 rfl ?_
    refine s_getI (kf := 1) E 1 rfl dX5_add_8 rfl inb_X5 (Nat.le_of_ble_eq_true rfl) fl_X5_15 (by decide) sh20 rfl ?_
    refine s_bipush E dX5_add_11 rfl ?_
    refine s_icmp_lt E 18 dX5_add_13 (by decide) (by omega) (by omega) (fun h13 => ?_) (fun h13 => ?_)
    · refine s_aload_n E dX5_add_18 rfl ?_
      refine s_getR (kf := 0) E dX5_add_19 rfl inb_X5 (Nat.le_of_ble_eq_true rfl) fl_X5_9 (by decide) sh20 rfl ?_
      refine s_aload_n E dX5_add_22 rfl ?_
      refine s_getI (kf := 1) E 1 rfl dX5_add_23 rfl inb_X5 (Nat.le_of_ble_eq_true rfl) fl_X5_15 (by decide) sh20 rfl ?_
      refine s_iload_n E dX5_add_26 rfl ?_
      refine s_iast E dX5_add_27 (by decide) sh21 (Nat.le_of_ble_eq_true rfl) (by omega) ?_
      refine s_aload_n E dX5_add_28 rfl ?_
      refine s_dup E dX5_add_29 ?_
      refine s_getI (kf := 1) E 1 rfl dX5_add_30 rfl inb_X5 (Nat.le_of_ble_eq_true rfl) fl_X5_15 (by decide) sh20 rfl ?_
      refine s_iconst E dX5_add_33 ?_
      refine s_iadd E dX5_add_34 ?_
      refine s_putI (kf := 1) E 1 rfl dX5_add_35 rfl inb_X5 tyX5_ok nmX5 (Nat.le_of_ble_eq_true rfl) ⟨rfl, rfl⟩ fl_X5_15 (by decide) sh20 rfl ?_
      refine s_iconst E dX5_add_38 ?_
      refine hret _ _ ?_ (fun _ => Or.inr rfl) _ _ dX5_add_39
      exact ⟨(b2_pos (by omega)).symm, (if_pos (by omega)).symm⟩
    · refine s_iconst E dX5_add_16 ?_
      refine hret _ _ ?_ (fun _ => Or.inl rfl) _ _ dX5_add_17
      exact ⟨(b2_neg (by omega)).symm, (if_neg (by omega)).symm⟩

set_option maxRecDepth 100000 in
set_option maxHeartbeats 4000000 in
theorem c_X5_wantedBehindHead (M : Mm) (s : Int) (hs : 0 ≤ s ∧ s ≤ 126) : CtI yX5_wantedBehindHead cX5_wantedBehindHead 1 .int 3 SH [iv s] M (fun r M' => r = hd0 s ∧ M' = M) := by
  refine CtI.of rfl (Nat.le_of_ble_eq_true rfl) (Or.inl rfl) (fun v as E hret => ?_)
  show Ws v as SH 0 0 0 [some (iv s)] [] M
  refine s_iload_n E dX5_wantedBehindHead_0 rfl ?_
  refine s_lcase E (46) 72 dX5_wantedBehindHead_1 (by decide) rfl rfl (by decide) (fun h1_46 => ?_) (fun h1_46 => ?_)
  · refine s_iconst E dX5_wantedBehindHead_72 ?_
    refine hret _ _ ?_ (fun q => by cases q) _ _ dX5_wantedBehindHead_73
    exact ⟨by unfold hd0; (repeat' split) <;> omega, rfl⟩
  refine s_lcase E (63) 70 dX5_wantedBehindHead_1 (by decide) rfl rfl (by decide) (fun h1_63 => ?_) (fun h1_63 => ?_)
  · refine s_iconst E dX5_wantedBehindHead_70 ?_
    refine hret _ _ ?_ (fun q => by cases q) _ _ dX5_wantedBehindHead_71
    exact ⟨by unfold hd0; (repeat' split) <;> omega, rfl⟩
  refine s_lcase E (105) 68 dX5_wantedBehindHead_1 (by decide) rfl rfl (by decide) (fun h1_105 => ?_) (fun h1_105 => ?_)
  · refine s_iconst E dX5_wantedBehindHead_68 ?_
    refine hret _ _ ?_ (fun q => by cases q) _ _ dX5_wantedBehindHead_69
    exact ⟨by unfold hd0; (repeat' split) <;> omega, rfl⟩
  refine s_lcase E (107) 68 dX5_wantedBehindHead_1 (by decide) rfl rfl (by decide) (fun h1_107 => ?_) (fun h1_107 => ?_)
  · refine s_iconst E dX5_wantedBehindHead_68 ?_
    refine hret _ _ ?_ (fun q => by cases q) _ _ dX5_wantedBehindHead_69
    exact ⟨by unfold hd0; (repeat' split) <;> omega, rfl⟩
  refine s_lcase E (120) 68 dX5_wantedBehindHead_1 (by decide) rfl rfl (by decide) (fun h1_120 => ?_) (fun h1_120 => ?_)
  · refine s_iconst E dX5_wantedBehindHead_68 ?_
    refine hret _ _ ?_ (fun q => by cases q) _ _ dX5_wantedBehindHead_69
    exact ⟨by unfold hd0; (repeat' split) <;> omega, rfl⟩
  refine s_lcase E (121) 68 dX5_wantedBehindHead_1 (by decide) rfl rfl (by decide) (fun h1_121 => ?_) (fun h1_121 => ?_)
  · refine s_iconst E dX5_wantedBehindHead_68 ?_
    refine hret _ _ ?_ (fun q => by cases q) _ _ dX5_wantedBehindHead_69
    exact ⟨by unfold hd0; (repeat' split) <;> omega, rfl⟩
  refine s_lcase E (122) 68 dX5_wantedBehindHead_1 (by decide) rfl rfl (by decide) (fun h1_122 => ?_) (fun h1_122 => ?_)
  · refine s_iconst E dX5_wantedBehindHead_68 ?_
    refine hret _ _ ?_ (fun q => by cases q) _ _ dX5_wantedBehindHead_69
    exact ⟨by unfold hd0; (repeat' split) <;> omega, rfl⟩
  refine s_lout E 74 dX5_wantedBehindHead_1 (by omega) rfl ((if_neg (Ne.symm h1_46)).trans ((if_neg (Ne.symm h1_63)).trans ((if_neg (Ne.symm h1_105)).trans ((if_neg (Ne.symm h1_107)).trans ((if_neg (Ne.symm h1_120)).trans ((if_neg (Ne.symm h1_121)).trans ((if_neg (Ne.symm h1_122)).trans rfl))))))) (by decide) ?_
  refine s_iload_n E dX5_wantedBehindHead_74 rfl ?_
  refine s_callSNi E (c_X7_isOneSign _ _ (by omega)) dX5_wantedBehindHead_75 mf_X7_isOneSign ml_X5_27 rfl (Nat.le_of_ble_eq_true rfl) (Nat.le_of_ble_eq_true rfl) rfl (fun r75 M75 h75 => ?_)
  obtain ⟨e75, f75⟩ := h75; subst r75; subst M75
  refine s_ifeqB E 85 dX5_wantedBehindHead_78 (by decide) (fun h78 => ?_) (fun h78 => ?_)
  · refine s_iconst E dX5_wantedBehindHead_85 ?_
    refine hret _ _ ?_ (fun q => by cases q) _ _ dX5_wantedBehindHead_86
    exact ⟨by unfold hd0; (repeat' split) <;> omega, rfl⟩
  · refine s_iconst E dX5_wantedBehindHead_81 ?_
    refine s_goto E 86 dX5_wantedBehindHead_82 (by decide) ?_
    refine hret _ _ ?_ (fun q => by cases q) _ _ dX5_wantedBehindHead_86
    exact ⟨by unfold hd0; (repeat' split) <;> omega, rfl⟩

set_option maxRecDepth 100000 in
set_option maxHeartbeats 4000000 in
theorem c_X5_wantedBehind (M : Mm) (st s b : Int) (ht : 0 ≤ st ∧ st ≤ 4) (hs : 0 ≤ s ∧ s ≤ 126) (hb : inI b) : CtI yX5_wantedBehind cX5_wantedBehind 3 .int 4 SH [iv st, iv s, iv b] M (fun r M' => r = nxt st s b ∧ M' = M) := by
  refine CtI.of rfl (Nat.le_of_ble_eq_true rfl) (Or.inl rfl) (fun v as E hret => ?_)
  show Ws v as SH 0 0 0 [some (iv st), some (iv s), some (iv b)] [] M
  refine s_iload_n E dX5_wantedBehind_0 rfl ?_
  refine s_tcase E (0) 32 dX5_wantedBehind_1 (by decide) rfl (by decide) (fun h1_0 => ?_) (fun h1_0 => ?_)
  · refine s_iload_n E dX5_wantedBehind_32 rfl ?_
    refine s_callSi E (c_X5_wantedBehindHead _ _ (by omega)) dX5_wantedBehind_33 mf_X5_wantedBehindHead ml_X5_31 rfl (Nat.le_of_ble_eq_true rfl) (Nat.le_of_ble_eq_true rfl) rfl (fun r33 M33 h33 => ?_)
    obtain ⟨e33, f33⟩ := h33; subst r33; subst M33
    refine hret _ _ ?_ (fun q => by cases q) _ _ dX5_wantedBehind_36
    exact ⟨by unfold nxt; (repeat' split) <;> first | rfl | omega, rfl⟩
  refine s_tcase E (1) 37 dX5_wantedBehind_1 (by decide) rfl (by decide) (fun h1_1 => ?_) (fun h1_1 => ?_)
  · refine s_iload_n E dX5_wantedBehind_37 rfl ?_
    refine s_bipush E dX5_wantedBehind_38 rfl ?_
    refine s_icmp_lt E 53 dX5_wantedBehind_40 (by decide) (by omega) (by omega) (fun h40 => ?_) (fun h40 => ?_)
    · refine s_iconst E dX5_wantedBehind_53 ?_
      refine hret _ _ ?_ (fun q => by cases q) _ _ dX5_wantedBehind_54
      exact ⟨by unfold nxt; (repeat' split) <;> first | rfl | omega, rfl⟩
    · refine s_iload_n E dX5_wantedBehind_43 rfl ?_
      refine s_bipush E dX5_wantedBehind_44 rfl ?_
      refine s_icmp_gt E 53 dX5_wantedBehind_46 (by decide) (by omega) (by omega) (fun h46 => ?_) (fun h46 => ?_)
      · refine s_iconst E dX5_wantedBehind_53 ?_
        refine hret _ _ ?_ (fun q => by cases q) _ _ dX5_wantedBehind_54
        exact ⟨by unfold nxt; (repeat' split) <;> first | rfl | omega, rfl⟩
      · refine s_iconst E dX5_wantedBehind_49 ?_
        refine s_goto E 54 dX5_wantedBehind_50 (by decide) ?_
        refine hret _ _ ?_ (fun q => by cases q) _ _ dX5_wantedBehind_54
        exact ⟨by unfold nxt; (repeat' split) <;> first | rfl | omega, rfl⟩
  refine s_tcase E (2) 55 dX5_wantedBehind_1 (by decide) rfl (by decide) (fun h1_2 => ?_) (fun h1_2 => ?_)
  · refine s_iload_n E dX5_wantedBehind_55 rfl ?_
    refine s_callSNi E (c_X7_isOneSign _ _ (by omega)) dX5_wantedBehind_56 mf_X7_isOneSign ml_X5_27 rfl (Nat.le_of_ble_eq_true rfl) (Nat.le_of_ble_eq_true rfl) rfl (fun r56 M56 h56 => ?_)
    obtain ⟨e56, f56⟩ := h56; subst r56; subst M56
    refine s_ifeqB E 66 dX5_wantedBehind_59 (by decide) (fun h59 => ?_) (fun h59 => ?_)
    · refine s_iconst E dX5_wantedBehind_66 ?_
      refine hret _ _ ?_ (fun q => by cases q) _ _ dX5_wantedBehind_67
      exact ⟨by unfold nxt; (repeat' split) <;> first | rfl | omega, rfl⟩
    · refine s_iconst E dX5_wantedBehind_62 ?_
      refine s_goto E 67 dX5_wantedBehind_63 (by decide) ?_
      refine hret _ _ ?_ (fun q => by cases q) _ _ dX5_wantedBehind_67
      exact ⟨by unfold nxt; (repeat' split) <;> first | rfl | omega, rfl⟩
  refine s_tcase E (3) 68 dX5_wantedBehind_1 (by decide) rfl (by decide) (fun h1_3 => ?_) (fun h1_3 => ?_)
  · refine s_iload_n E dX5_wantedBehind_68 rfl ?_
    refine s_callSNi E (c_X7_isOneSign _ _ (by omega)) dX5_wantedBehind_69 mf_X7_isOneSign ml_X5_27 rfl (Nat.le_of_ble_eq_true rfl) (Nat.le_of_ble_eq_true rfl) rfl (fun r69 M69 h69 => ?_)
    obtain ⟨e69, f69⟩ := h69; subst r69; subst M69
    refine s_ifeqB E 79 dX5_wantedBehind_72 (by decide) (fun h72 => ?_) (fun h72 => ?_)
    · refine s_iconst E dX5_wantedBehind_79 ?_
      refine hret _ _ ?_ (fun q => by cases q) _ _ dX5_wantedBehind_80
      exact ⟨by unfold nxt; (repeat' split) <;> first | rfl | omega, rfl⟩
    · refine s_iconst E dX5_wantedBehind_75 ?_
      refine s_goto E 80 dX5_wantedBehind_76 (by decide) ?_
      refine hret _ _ ?_ (fun q => by cases q) _ _ dX5_wantedBehind_80
      exact ⟨by unfold nxt; (repeat' split) <;> first | rfl | omega, rfl⟩
  refine s_tout E 81 dX5_wantedBehind_1 (by omega) (by omega) (by decide) ?_
  refine s_iload_n E dX5_wantedBehind_81 rfl ?_
  refine s_callSNi E (c_X7_isOneSign _ _ (by omega)) dX5_wantedBehind_82 mf_X7_isOneSign ml_X5_27 rfl (Nat.le_of_ble_eq_true rfl) (Nat.le_of_ble_eq_true rfl) rfl (fun r82 M82 h82 => ?_)
  obtain ⟨e82, f82⟩ := h82; subst r82; subst M82
  refine s_ifeqB E 97 dX5_wantedBehind_85 (by decide) (fun h85 => ?_) (fun h85 => ?_)
  · refine s_iconst E dX5_wantedBehind_97 ?_
    refine hret _ _ ?_ (fun q => by cases q) _ _ dX5_wantedBehind_98
    exact ⟨by unfold nxt; (repeat' split) <;> first | rfl | omega, rfl⟩
  · refine s_iload_n E dX5_wantedBehind_88 rfl ?_
    refine s_iload_n E dX5_wantedBehind_89 rfl ?_
    refine s_icmp_eq E 97 dX5_wantedBehind_90 (by decide) (by omega) (by omega) (fun h90 => ?_) (fun h90 => ?_)
    · refine s_iconst E dX5_wantedBehind_97 ?_
      refine hret _ _ ?_ (fun q => by cases q) _ _ dX5_wantedBehind_98
      exact ⟨by unfold nxt; (repeat' split) <;> first | rfl | omega, rfl⟩
    · refine s_iconst E dX5_wantedBehind_93 ?_
      refine s_goto E 98 dX5_wantedBehind_94 (by decide) ?_
      refine hret _ _ ?_ (fun q => by cases q) _ _ dX5_wantedBehind_98
      exact ⟨by unfold nxt; (repeat' split) <;> first | rfl | omega, rfl⟩

theorem sfl_go {p : Int → Int} {n k st c : Int} (hk : k < n) (e : nxt st (p k) (pv p k) = c) (hc : c ≠ -1) : sfl p (n - k).toNat k st = sfl p (n - (k + 1)).toNat (k + 1) c := by
  rw [sfl_step hk, e, if_neg hc]
theorem sfl_stop {p : Int → Int} {n k st : Int} (hk : k < n) (e : nxt st (p k) (pv p k) = -1) : sfl p (n - k).toNat k st = k := by
  rw [sfl_step hk, e, if_pos rfl]
theorem bfl_go {p : Int → Int} {n k h c : Int} (hk : k < n) (e : (if p k = 42 then h + 1 else h) = c) (hc : ¬ ((¬ ((97 ≤ p k ∧ p k < 103) ∨ p k = 46 ∨ p k = 42)) ∨ k ≥ 12 ∨ c > 5)) : bfl p n (n - k).toNat k h = bfl p n (n - (k + 1)).toNat (k + 1) c := by
  rw [bfl_step hk, e, if_neg hc]
theorem bfl_stop {p : Int → Int} {n k h c : Int} (hk : k < n) (e : (if p k = 42 then h + 1 else h) = c) (hc : (¬ ((97 ≤ p k ∧ p k < 103) ∨ p k = 46 ∨ p k = 42)) ∨ k ≥ 12 ∨ c > 5) : bfl p n (n - k).toNat k h = k := by
  rw [bfl_step hk, e, if_pos hc]
theorem sgn_pv {M : Mm} {k : Int} (h : 0 ≤ k ∧ k ≤ M 20 1) : sgn M (k - 1) = pv (M 21) k := by
  unfold pv
  split
  · exact sgn_out (by omega)
  · exact sgn_in ⟨by omega, by omega⟩
theorem pv_rng {p : Int → Int} {n k : Int} (hp : PadOK p n) (hk : 0 ≤ k ∧ k ≤ 40) : 0 ≤ pv p k ∧ pv p k ≤ 126 := by
  unfold pv
  split
  · omega
  · exact hp.2.2 (k - 1) (by omega) (by omega)

set_option maxRecDepth 100000 in
set_option maxHeartbeats 4000000 in
theorem lp_X5_sf {v : Ev} {as : List Nat} (M : Mm) (hp : PadOK (M 21) (M 20 1)) (E : Cx v cX5_sittingFault 3 yX5_sittingFault.cls 5) (hret : RetI v as cX5_sittingFault .int (fun r M' => r = sFault (M 21) (M 20 1) ∧ M' = M)) : ∀ (N : Nat) (k st : Int), (M 20 1 - k).toNat < N → (0 ≤ k ∧ k ≤ M 20 1) → (0 ≤ st ∧ st ≤ 4) → (sfl (M 21) (M 20 1 - k).toNat k st = sFault (M 21) (M 20 1)) → Ws v as SH 0 0 4 [some (rv 20), some (iv st), some (iv k)] [] M := by
  intro N
  induction N with
  | zero =>
    intro k st hN
    exact absurd hN (Nat.not_lt_zero _)
  | succ N ih =>
    intro k st hN g0 g1 g2
    have hp0 := hp.1; have hp1 := hp.2.1; have hp2 := hp.2.2
    refine s_iload_n E dX5_sittingFault_4 rfl ?_
    refine s_aload_n E dX5_sittingFault_5 rfl ?_
    refine s_getI (kf := 1) E 1 rfl dX5_sittingFault_6 rfl inb_X5 (Nat.le_of_ble_eq_true rfl) fl_X5_15 (by decide) sh20 rfl ?_
    refine s_icmp_ge E 42 dX5_sittingFault_9 (by decide) (by omega) (by omega) (fun h9 => ?_) (fun h9 => ?_)
    · refine s_iload_n E dX5_sittingFault_42 rfl ?_
      refine s_if_ne E 51 dX5_sittingFault_43 (by decide) (by omega) (fun h43 => ?_) (fun h43 => ?_)
      · refine s_aload_n E dX5_sittingFault_51 rfl ?_
        refine s_getI (kf := 1) E 1 rfl dX5_sittingFault_52 rfl inb_X5 (Nat.le_of_ble_eq_true rfl) fl_X5_15 (by decide) sh20 rfl ?_
        refine hret _ _ ?_ (fun q => by cases q) _ _ dX5_sittingFault_55
        exact ⟨by rw [← g2, sfl_end (by omega)]; split <;> omega, rfl⟩
      · refine s_bipush E dX5_sittingFault_46 rfl ?_
        refine s_goto E 55 dX5_sittingFault_48 (by decide) ?_
        refine hret _ _ ?_ (fun q => by cases q) _ _ dX5_sittingFault_55
        exact ⟨by rw [← g2, sfl_end (by omega)]; split <;> omega, rfl⟩
    · refine s_iload_n E dX5_sittingFault_12 rfl ?_
      refine s_aload_n E dX5_sittingFault_13 rfl ?_
      refine s_iload_n E dX5_sittingFault_14 rfl ?_
      refine s_callVi E (c_X5_sign _ _ (by omega) (by omega)) dX5_sittingFault_15 mf_X5_sign ml_X5_19 rfl (Nat.le_of_ble_eq_true rfl) (Nat.le_of_ble_eq_true rfl) (by decide) sh20 rfl rfl (fun r15 M15 h15 => ?_)
      obtain ⟨e15, f15⟩ := h15; subst r15; subst M15
      rw [sgn_in (M := M) (i := k) ⟨by omega, by omega⟩]
      have b15 := hp2 k (by omega) (by omega)
      refine s_aload_n E dX5_sittingFault_18 rfl ?_
      refine s_iload_n E dX5_sittingFault_19 rfl ?_
      refine s_iconst E dX5_sittingFault_20 ?_
      refine s_isub E dX5_sittingFault_21 ?_
      refine s_callVi E (c_X5_sign _ _ (by omega) (by omega)) dX5_sittingFault_22 mf_X5_sign ml_X5_19 rfl (Nat.le_of_ble_eq_true rfl) (Nat.le_of_ble_eq_true rfl) (by decide) sh20 rfl rfl (fun r22 M22 h22 => ?_)
      obtain ⟨e22, f22⟩ := h22; subst r22; subst M22
      rw [sgn_pv (M := M) (k := k) ⟨by omega, by omega⟩]
      have b22 := pv_rng hp (k := k) (by omega)
      refine s_callSi E (c_X5_wantedBehind _ _ _ _ (by omega) (by omega) (by omega)) dX5_sittingFault_25 mf_X5_wantedBehind ml_X5_23 rfl (Nat.le_of_ble_eq_true rfl) (Nat.le_of_ble_eq_true rfl) rfl (fun r25 M25 h25 => ?_)
      obtain ⟨e25, f25⟩ := h25; subst r25; subst M25
      have b25 := nxt_rng st (M 21 k) (pv (M 21) k)
      refine s_istore_n (ls' := [_, _, _]) E dX5_sittingFault_28 (Nat.le_of_ble_eq_true rfl) rfl ?_
      refine s_iload_n E dX5_sittingFault_29 rfl ?_
      refine s_iconst E dX5_sittingFault_30 ?_
      refine s_icmp_ne E 36 dX5_sittingFault_31 (by decide) (by omega) (by omega) (fun h31 => ?_) (fun h31 => ?_)
      · refine s_iinc (ls' := [_, _, _]) E dX5_sittingFault_36 rfl rfl ?_
        refine s_goto E 4 dX5_sittingFault_39 (by decide) ?_
        exact ih _ _ (by omega) (by omega) (by omega) (by rw [← g2]; exact (sfl_go (by omega) rfl h31).symm)
      · refine s_iload_n E dX5_sittingFault_34 rfl ?_
        refine hret _ _ ?_ (fun q => by cases q) _ _ dX5_sittingFault_35
        exact ⟨by rw [← g2]; exact (sfl_stop (by omega) (Classical.byContradiction h31)).symm, rfl⟩

set_option maxRecDepth 100000 in
set_option maxHeartbeats 4000000 in
theorem c_X5_sittingFault (M : Mm) (hp : PadOK (M 21) (M 20 1)) : CtI yX5_sittingFault cX5_sittingFault 3 .int 5 SH [rv 20] M (fun r M' => r = sFault (M 21) (M 20 1) ∧ M' = M) := by
  refine CtI.of rfl (Nat.le_of_ble_eq_true rfl) (Or.inl rfl) (fun v as E hret => ?_)
  show Ws v as SH 0 0 0 [some (rv 20), none, none] [] M
  refine s_iconst E dX5_sittingFault_0 ?_
  refine s_istore_n (ls' := [_, _, _]) E dX5_sittingFault_1 (Nat.le_of_ble_eq_true rfl) rfl ?_
  refine s_iconst E dX5_sittingFault_2 ?_
  refine s_istore_n (ls' := [_, _, _]) E dX5_sittingFault_3 (Nat.le_of_ble_eq_true rfl) rfl ?_
  exact lp_X5_sf M hp E hret ((M 20 1 - 0).toNat + 1) 0 0 (Nat.lt_succ_self _) (by have := hp.1; omega) (by omega) (by rw [Int.sub_zero]; rfl)

set_option maxRecDepth 100000 in
set_option maxHeartbeats 4000000 in
theorem lp_X5_bf {v : Ev} {as : List Nat} (M : Mm) (hp : PadOK (M 21) (M 20 1)) (E : Cx v cX5_bookFault 5 yX5_bookFault.cls 5) (hret : RetI v as cX5_bookFault .int (fun r M' => r = bFault (M 21) (M 20 1) ∧ M' = M)) : ∀ (N : Nat) (k h : Int) (o3 o4 : Option Vv), (M 20 1 - k).toNat < N → (0 ≤ k ∧ k ≤ M 20 1) → (0 ≤ h ∧ h ≤ k) → (bfl (M 21) (M 20 1) (M 20 1 - k).toNat k h = bFault (M 21) (M 20 1)) → Ws v as SH 0 0 4 [some (rv 20), some (iv h), some (iv k), o3, o4] [] M := by
  intro N
  induction N with
  | zero =>
    intro k h o3 o4 hN
    exact absurd hN (Nat.not_lt_zero _)
  | succ N ih =>
    intro k h o3 o4 hN g0 g1 g2
    have hp0 := hp.1; have hp1 := hp.2.1; have hp2 := hp.2.2
    refine s_iload_n E dX5_bookFault_4 rfl ?_
    refine s_aload_n E dX5_bookFault_5 rfl ?_
    refine s_getI (kf := 1) E 1 rfl dX5_bookFault_6 rfl inb_X5 (Nat.le_of_ble_eq_true rfl) fl_X5_15 (by decide) sh20 rfl ?_
    refine s_icmp_ge E 82 dX5_bookFault_9 (by decide) (by omega) (by omega) (fun h9 => ?_) (fun h9 => ?_)
    · refine s_aload_n E dX5_bookFault_82 rfl ?_
      refine s_getI (kf := 1) E 1 rfl dX5_bookFault_83 rfl inb_X5 (Nat.le_of_ble_eq_true rfl) fl_X5_15 (by decide) sh20 rfl ?_
      refine s_if_ne E 93 dX5_bookFault_86 (by decide) (by omega) (fun h86 => ?_) (fun h86 => ?_)
      · refine s_bipush E dX5_bookFault_93 rfl ?_
        refine hret _ _ ?_ (fun q => by cases q) _ _ dX5_bookFault_95
        exact ⟨by rw [← g2, bfl_end (by omega)]; split <;> omega, rfl⟩
      · refine s_iconst E dX5_bookFault_89 ?_
        refine s_goto E 95 dX5_bookFault_90 (by decide) ?_
        refine hret _ _ ?_ (fun q => by cases q) _ _ dX5_bookFault_95
        exact ⟨by rw [← g2, bfl_end (by omega)]; split <;> omega, rfl⟩
    · refine s_aload_n E dX5_bookFault_12 rfl ?_
      refine s_iload_n E dX5_bookFault_13 rfl ?_
      refine s_callVi E (c_X5_sign _ _ (by omega) (by omega)) dX5_bookFault_14 mf_X5_sign ml_X5_19 rfl (Nat.le_of_ble_eq_true rfl) (Nat.le_of_ble_eq_true rfl) (by decide) sh20 rfl rfl (fun r14 M14 h14 => ?_)
      obtain ⟨e14, f14⟩ := h14; subst r14; subst M14
      rw [sgn_in (M := M) (i := k) ⟨by omega, by omega⟩]
      have b14 := hp2 k (by omega) (by omega)
      refine s_istore_n (ls' := [_, _, _, _, _]) E dX5_bookFault_17 (Nat.le_of_ble_eq_true rfl) rfl ?_
      refine s_iload_n E dX5_bookFault_18 rfl ?_
      refine s_iload_n E dX5_bookFault_19 rfl ?_
      refine s_bipush E dX5_bookFault_20 rfl ?_
      refine s_icmp_ne E 29 dX5_bookFault_22 (by decide) (by omega) (by omega) (fun h22 => ?_) (fun h22 => ?_)
      · refine s_iconst E dX5_bookFault_29 ?_
        refine s_iadd E dX5_bookFault_30 ?_
        refine s_istore_n (ls' := [_, _, _, _, _]) E dX5_bookFault_31 (Nat.le_of_ble_eq_true rfl) rfl ?_
        refine s_iload_n E dX5_bookFault_32 rfl ?_
        refine s_callSNi E (c_X7_isOneSign _ _ (by omega)) dX5_bookFault_33 mf_X7_isOneSign ml_X5_27 rfl (Nat.le_of_ble_eq_true rfl) (Nat.le_of_ble_eq_true rfl) rfl (fun r33 M33 h33 => ?_)
        obtain ⟨e33, f33⟩ := h33; subst r33; subst M33
        refine s_ifneB E 51 dX5_bookFault_36 (by decide) (fun h36 => ?_) (fun h36 => ?_)
        · refine s_iconst E dX5_bookFault_51 ?_
          refine s_goto E 56 dX5_bookFault_52 (by decide) ?_
          refine s_istore (ls' := [_, _, _, _, _]) E dX5_bookFault_56 (Nat.le_of_ble_eq_true rfl) rfl ?_
          refine s_iload E dX5_bookFault_58 rfl ?_
          refine s_if_eq E 74 dX5_bookFault_60 (by decide) (by omega) (fun h60 => ?_) (fun h60 => ?_)
          · exact absurd h60 (by decide)
          · refine s_iload_n E dX5_bookFault_63 rfl ?_
            refine s_bipush E dX5_bookFault_64 rfl ?_
            refine s_icmp_ge E 74 dX5_bookFault_66 (by decide) (by omega) (by omega) (fun h66 => ?_) (fun h66 => ?_)
            · refine s_iload_n E dX5_bookFault_74 rfl ?_
              refine hret _ _ ?_ (fun q => by cases q) _ _ dX5_bookFault_75
              exact ⟨by rw [← g2]; exact (bfl_stop (c := h + 0) (by omega) (by split <;> omega) (by omega)).symm, rfl⟩
            · refine s_iload_n E dX5_bookFault_69 rfl ?_
              refine s_iconst E dX5_bookFault_70 ?_
              refine s_icmp_le E 76 dX5_bookFault_71 (by decide) (by omega) (by omega) (fun h71 => ?_) (fun h71 => ?_)
              · refine s_iinc (ls' := [_, _, _, _, _]) E dX5_bookFault_76 rfl rfl ?_
                refine s_goto E 4 dX5_bookFault_79 (by decide) ?_
                exact ih _ _ _ _ (by omega) (by omega) (by omega) (by rw [← g2]; exact (bfl_go (by omega) (by split <;> omega) (by omega)).symm)
              · refine s_iload_n E dX5_bookFault_74 rfl ?_
                refine hret _ _ ?_ (fun q => by cases q) _ _ dX5_bookFault_75
                exact ⟨by rw [← g2]; exact (bfl_stop (c := h + 0) (by omega) (by split <;> omega) (by omega)).symm, rfl⟩
        · refine s_iload_n E dX5_bookFault_39 rfl ?_
          refine s_bipush E dX5_bookFault_40 rfl ?_
          refine s_icmp_eq E 51 dX5_bookFault_42 (by decide) (by omega) (by omega) (fun h42 => ?_) (fun h42 => ?_)
          · refine s_iconst E dX5_bookFault_51 ?_
            refine s_goto E 56 dX5_bookFault_52 (by decide) ?_
            refine s_istore (ls' := [_, _, _, _, _]) E dX5_bookFault_56 (Nat.le_of_ble_eq_true rfl) rfl ?_
            refine s_iload E dX5_bookFault_58 rfl ?_
            refine s_if_eq E 74 dX5_bookFault_60 (by decide) (by omega) (fun h60 => ?_) (fun h60 => ?_)
            · exact absurd h60 (by decide)
            · refine s_iload_n E dX5_bookFault_63 rfl ?_
              refine s_bipush E dX5_bookFault_64 rfl ?_
              refine s_icmp_ge E 74 dX5_bookFault_66 (by decide) (by omega) (by omega) (fun h66 => ?_) (fun h66 => ?_)
              · refine s_iload_n E dX5_bookFault_74 rfl ?_
                refine hret _ _ ?_ (fun q => by cases q) _ _ dX5_bookFault_75
                exact ⟨by rw [← g2]; exact (bfl_stop (c := h + 0) (by omega) (by split <;> omega) (by omega)).symm, rfl⟩
              · refine s_iload_n E dX5_bookFault_69 rfl ?_
                refine s_iconst E dX5_bookFault_70 ?_
                refine s_icmp_le E 76 dX5_bookFault_71 (by decide) (by omega) (by omega) (fun h71 => ?_) (fun h71 => ?_)
                · refine s_iinc (ls' := [_, _, _, _, _]) E dX5_bookFault_76 rfl rfl ?_
                  refine s_goto E 4 dX5_bookFault_79 (by decide) ?_
                  exact ih _ _ _ _ (by omega) (by omega) (by omega) (by rw [← g2]; exact (bfl_go (by omega) (by split <;> omega) (by omega)).symm)
                · refine s_iload_n E dX5_bookFault_74 rfl ?_
                  refine hret _ _ ?_ (fun q => by cases q) _ _ dX5_bookFault_75
                  exact ⟨by rw [← g2]; exact (bfl_stop (c := h + 0) (by omega) (by split <;> omega) (by omega)).symm, rfl⟩
          · refine s_iload_n E dX5_bookFault_45 rfl ?_
            refine s_bipush E dX5_bookFault_46 rfl ?_
            refine s_icmp_ne E 55 dX5_bookFault_48 (by decide) (by omega) (by omega) (fun h48 => ?_) (fun h48 => ?_)
            · refine s_iconst E dX5_bookFault_55 ?_
              refine s_istore (ls' := [_, _, _, _, _]) E dX5_bookFault_56 (Nat.le_of_ble_eq_true rfl) rfl ?_
              refine s_iload E dX5_bookFault_58 rfl ?_
              refine s_if_eq E 74 dX5_bookFault_60 (by decide) (by omega) (fun h60 => ?_) (fun h60 => ?_)
              · refine s_iload_n E dX5_bookFault_74 rfl ?_
                refine hret _ _ ?_ (fun q => by cases q) _ _ dX5_bookFault_75
                exact ⟨by rw [← g2]; exact (bfl_stop (c := h + 0) (by omega) (by split <;> omega) (by omega)).symm, rfl⟩
              · exact absurd h60 (by decide)
            · refine s_iconst E dX5_bookFault_51 ?_
              refine s_goto E 56 dX5_bookFault_52 (by decide) ?_
              refine s_istore (ls' := [_, _, _, _, _]) E dX5_bookFault_56 (Nat.le_of_ble_eq_true rfl) rfl ?_
              refine s_iload E dX5_bookFault_58 rfl ?_
              refine s_if_eq E 74 dX5_bookFault_60 (by decide) (by omega) (fun h60 => ?_) (fun h60 => ?_)
              · exact absurd h60 (by decide)
              · refine s_iload_n E dX5_bookFault_63 rfl ?_
                refine s_bipush E dX5_bookFault_64 rfl ?_
                refine s_icmp_ge E 74 dX5_bookFault_66 (by decide) (by omega) (by omega) (fun h66 => ?_) (fun h66 => ?_)
                · refine s_iload_n E dX5_bookFault_74 rfl ?_
                  refine hret _ _ ?_ (fun q => by cases q) _ _ dX5_bookFault_75
                  exact ⟨by rw [← g2]; exact (bfl_stop (c := h + 0) (by omega) (by split <;> omega) (by omega)).symm, rfl⟩
                · refine s_iload_n E dX5_bookFault_69 rfl ?_
                  refine s_iconst E dX5_bookFault_70 ?_
                  refine s_icmp_le E 76 dX5_bookFault_71 (by decide) (by omega) (by omega) (fun h71 => ?_) (fun h71 => ?_)
                  · refine s_iinc (ls' := [_, _, _, _, _]) E dX5_bookFault_76 rfl rfl ?_
                    refine s_goto E 4 dX5_bookFault_79 (by decide) ?_
                    exact ih _ _ _ _ (by omega) (by omega) (by omega) (by rw [← g2]; exact (bfl_go (by omega) (by split <;> omega) (by omega)).symm)
                  · refine s_iload_n E dX5_bookFault_74 rfl ?_
                    refine hret _ _ ?_ (fun q => by cases q) _ _ dX5_bookFault_75
                    exact ⟨by rw [← g2]; exact (bfl_stop (c := h + 0) (by omega) (by split <;> omega) (by omega)).symm, rfl⟩
      · refine s_iconst E dX5_bookFault_25 ?_
        refine s_goto E 30 dX5_bookFault_26 (by decide) ?_
        refine s_iadd E dX5_bookFault_30 ?_
        refine s_istore_n (ls' := [_, _, _, _, _]) E dX5_bookFault_31 (Nat.le_of_ble_eq_true rfl) rfl ?_
        refine s_iload_n E dX5_bookFault_32 rfl ?_
        refine s_callSNi E (c_X7_isOneSign _ _ (by omega)) dX5_bookFault_33 mf_X7_isOneSign ml_X5_27 rfl (Nat.le_of_ble_eq_true rfl) (Nat.le_of_ble_eq_true rfl) rfl (fun r33 M33 h33 => ?_)
        obtain ⟨e33, f33⟩ := h33; subst r33; subst M33
        refine s_ifneB E 51 dX5_bookFault_36 (by decide) (fun h36 => ?_) (fun h36 => ?_)
        · refine s_iconst E dX5_bookFault_51 ?_
          refine s_goto E 56 dX5_bookFault_52 (by decide) ?_
          refine s_istore (ls' := [_, _, _, _, _]) E dX5_bookFault_56 (Nat.le_of_ble_eq_true rfl) rfl ?_
          refine s_iload E dX5_bookFault_58 rfl ?_
          refine s_if_eq E 74 dX5_bookFault_60 (by decide) (by omega) (fun h60 => ?_) (fun h60 => ?_)
          · exact absurd h60 (by decide)
          · refine s_iload_n E dX5_bookFault_63 rfl ?_
            refine s_bipush E dX5_bookFault_64 rfl ?_
            refine s_icmp_ge E 74 dX5_bookFault_66 (by decide) (by omega) (by omega) (fun h66 => ?_) (fun h66 => ?_)
            · refine s_iload_n E dX5_bookFault_74 rfl ?_
              refine hret _ _ ?_ (fun q => by cases q) _ _ dX5_bookFault_75
              exact ⟨by rw [← g2]; exact (bfl_stop (c := h + 1) (by omega) (by split <;> omega) (by omega)).symm, rfl⟩
            · refine s_iload_n E dX5_bookFault_69 rfl ?_
              refine s_iconst E dX5_bookFault_70 ?_
              refine s_icmp_le E 76 dX5_bookFault_71 (by decide) (by omega) (by omega) (fun h71 => ?_) (fun h71 => ?_)
              · refine s_iinc (ls' := [_, _, _, _, _]) E dX5_bookFault_76 rfl rfl ?_
                refine s_goto E 4 dX5_bookFault_79 (by decide) ?_
                exact ih _ _ _ _ (by omega) (by omega) (by omega) (by rw [← g2]; exact (bfl_go (by omega) (by split <;> omega) (by omega)).symm)
              · refine s_iload_n E dX5_bookFault_74 rfl ?_
                refine hret _ _ ?_ (fun q => by cases q) _ _ dX5_bookFault_75
                exact ⟨by rw [← g2]; exact (bfl_stop (c := h + 1) (by omega) (by split <;> omega) (by omega)).symm, rfl⟩
        · refine s_iload_n E dX5_bookFault_39 rfl ?_
          refine s_bipush E dX5_bookFault_40 rfl ?_
          refine s_icmp_eq E 51 dX5_bookFault_42 (by decide) (by omega) (by omega) (fun h42 => ?_) (fun h42 => ?_)
          · refine s_iconst E dX5_bookFault_51 ?_
            refine s_goto E 56 dX5_bookFault_52 (by decide) ?_
            refine s_istore (ls' := [_, _, _, _, _]) E dX5_bookFault_56 (Nat.le_of_ble_eq_true rfl) rfl ?_
            refine s_iload E dX5_bookFault_58 rfl ?_
            refine s_if_eq E 74 dX5_bookFault_60 (by decide) (by omega) (fun h60 => ?_) (fun h60 => ?_)
            · exact absurd h60 (by decide)
            · refine s_iload_n E dX5_bookFault_63 rfl ?_
              refine s_bipush E dX5_bookFault_64 rfl ?_
              refine s_icmp_ge E 74 dX5_bookFault_66 (by decide) (by omega) (by omega) (fun h66 => ?_) (fun h66 => ?_)
              · refine s_iload_n E dX5_bookFault_74 rfl ?_
                refine hret _ _ ?_ (fun q => by cases q) _ _ dX5_bookFault_75
                exact ⟨by rw [← g2]; exact (bfl_stop (c := h + 1) (by omega) (by split <;> omega) (by omega)).symm, rfl⟩
              · refine s_iload_n E dX5_bookFault_69 rfl ?_
                refine s_iconst E dX5_bookFault_70 ?_
                refine s_icmp_le E 76 dX5_bookFault_71 (by decide) (by omega) (by omega) (fun h71 => ?_) (fun h71 => ?_)
                · refine s_iinc (ls' := [_, _, _, _, _]) E dX5_bookFault_76 rfl rfl ?_
                  refine s_goto E 4 dX5_bookFault_79 (by decide) ?_
                  exact ih _ _ _ _ (by omega) (by omega) (by omega) (by rw [← g2]; exact (bfl_go (by omega) (by split <;> omega) (by omega)).symm)
                · refine s_iload_n E dX5_bookFault_74 rfl ?_
                  refine hret _ _ ?_ (fun q => by cases q) _ _ dX5_bookFault_75
                  exact ⟨by rw [← g2]; exact (bfl_stop (c := h + 1) (by omega) (by split <;> omega) (by omega)).symm, rfl⟩
          · refine s_iload_n E dX5_bookFault_45 rfl ?_
            refine s_bipush E dX5_bookFault_46 rfl ?_
            refine s_icmp_ne E 55 dX5_bookFault_48 (by decide) (by omega) (by omega) (fun h48 => ?_) (fun h48 => ?_)
            · refine s_iconst E dX5_bookFault_55 ?_
              refine s_istore (ls' := [_, _, _, _, _]) E dX5_bookFault_56 (Nat.le_of_ble_eq_true rfl) rfl ?_
              refine s_iload E dX5_bookFault_58 rfl ?_
              refine s_if_eq E 74 dX5_bookFault_60 (by decide) (by omega) (fun h60 => ?_) (fun h60 => ?_)
              · refine s_iload_n E dX5_bookFault_74 rfl ?_
                refine hret _ _ ?_ (fun q => by cases q) _ _ dX5_bookFault_75
                exact ⟨by rw [← g2]; exact (bfl_stop (c := h + 1) (by omega) (by split <;> omega) (by omega)).symm, rfl⟩
              · exact absurd h60 (by decide)
            · refine s_iconst E dX5_bookFault_51 ?_
              refine s_goto E 56 dX5_bookFault_52 (by decide) ?_
              refine s_istore (ls' := [_, _, _, _, _]) E dX5_bookFault_56 (Nat.le_of_ble_eq_true rfl) rfl ?_
              refine s_iload E dX5_bookFault_58 rfl ?_
              refine s_if_eq E 74 dX5_bookFault_60 (by decide) (by omega) (fun h60 => ?_) (fun h60 => ?_)
              · exact absurd h60 (by decide)
              · refine s_iload_n E dX5_bookFault_63 rfl ?_
                refine s_bipush E dX5_bookFault_64 rfl ?_
                refine s_icmp_ge E 74 dX5_bookFault_66 (by decide) (by omega) (by omega) (fun h66 => ?_) (fun h66 => ?_)
                · refine s_iload_n E dX5_bookFault_74 rfl ?_
                  refine hret _ _ ?_ (fun q => by cases q) _ _ dX5_bookFault_75
                  exact ⟨by rw [← g2]; exact (bfl_stop (c := h + 1) (by omega) (by split <;> omega) (by omega)).symm, rfl⟩
                · refine s_iload_n E dX5_bookFault_69 rfl ?_
                  refine s_iconst E dX5_bookFault_70 ?_
                  refine s_icmp_le E 76 dX5_bookFault_71 (by decide) (by omega) (by omega) (fun h71 => ?_) (fun h71 => ?_)
                  · refine s_iinc (ls' := [_, _, _, _, _]) E dX5_bookFault_76 rfl rfl ?_
                    refine s_goto E 4 dX5_bookFault_79 (by decide) ?_
                    exact ih _ _ _ _ (by omega) (by omega) (by omega) (by rw [← g2]; exact (bfl_go (by omega) (by split <;> omega) (by omega)).symm)
                  · refine s_iload_n E dX5_bookFault_74 rfl ?_
                    refine hret _ _ ?_ (fun q => by cases q) _ _ dX5_bookFault_75
                    exact ⟨by rw [← g2]; exact (bfl_stop (c := h + 1) (by omega) (by split <;> omega) (by omega)).symm, rfl⟩

set_option maxRecDepth 100000 in
set_option maxHeartbeats 4000000 in
theorem c_X5_bookFault (M : Mm) (hp : PadOK (M 21) (M 20 1)) : CtI yX5_bookFault cX5_bookFault 5 .int 5 SH [rv 20] M (fun r M' => r = bFault (M 21) (M 20 1) ∧ M' = M) := by
  refine CtI.of rfl (Nat.le_of_ble_eq_true rfl) (Or.inl rfl) (fun v as E hret => ?_)
  show Ws v as SH 0 0 0 [some (rv 20), none, none, none, none] [] M
  refine s_iconst E dX5_bookFault_0 ?_
  refine s_istore_n (ls' := [_, _, _, _, _]) E dX5_bookFault_1 (Nat.le_of_ble_eq_true rfl) rfl ?_
  refine s_iconst E dX5_bookFault_2 ?_
  refine s_istore_n (ls' := [_, _, _, _, _]) E dX5_bookFault_3 (Nat.le_of_ble_eq_true rfl) rfl ?_
  exact lp_X5_bf M hp E hret ((M 20 1 - 0).toNat + 1) 0 0 _ _ (Nat.lt_succ_self _) (by have := hp.1; omega) (by omega) (by rw [Int.sub_zero]; rfl)

set_option maxRecDepth 100000 in
set_option maxHeartbeats 4000000 in
theorem lp_X8_sf {v : Ev} {as : List Nat} (M : Mm) (hp : PadOK (M 81) (M 79 3)) (E : Cx v cX8_sittingFault 5 yX8_sittingFault.cls 5) (hret : RetI v as cX8_sittingFault .int (fun r M' => r = sFault (M 81) (M 79 3) ∧ M' = M)) : ∀ (N : Nat) (k st : Int) (o3 o4 : Option Vv), (M 79 3 - k).toNat < N → (0 ≤ k ∧ k ≤ M 79 3) → (0 ≤ st ∧ st ≤ 4) → (sfl (M 81) (M 79 3 - k).toNat k st = sFault (M 81) (M 79 3)) → (k = 0 → st = 0) → Ws v as SH 0 0 4 [some (rv 79), some (iv st), some (iv k), o3, o4] [] M := by
  intro N
  induction N with
  | zero =>
    intro k st o3 o4 hN
    exact absurd hN (Nat.not_lt_zero _)
  | succ N ih =>
    intro k st o3 o4 hN g0 g1 g2 g3
    have hp0 := hp.1; have hp1 := hp.2.1; have hp2 := hp.2.2
    refine s_iload_n E dX8_sittingFault_4 rfl ?_
    refine s_aload_n E dX8_sittingFault_5 rfl ?_
    refine s_getI (kf := 3) E 3 rfl dX8_sittingFault_6 rfl inb_X8 (Nat.le_of_ble_eq_true rfl) fl_X8_75 (by decide) sh79 rfl ?_
    refine s_icmp_ge E 188 dX8_sittingFault_9 (by decide) (by omega) (by omega) (fun h9 => ?_) (fun h9 => ?_)
    · refine s_iload_n E dX8_sittingFault_188 rfl ?_
      refine s_if_ne E 197 dX8_sittingFault_189 (by decide) (by omega) (fun h189 => ?_) (fun h189 => ?_)
      · refine s_aload_n E dX8_sittingFault_197 rfl ?_
        refine s_getI (kf := 3) E 3 rfl dX8_sittingFault_198 rfl inb_X8 (Nat.le_of_ble_eq_true rfl) fl_X8_75 (by decide) sh79 rfl ?_
        refine hret _ _ ?_ (fun q => by cases q) _ _ dX8_sittingFault_201
        exact ⟨by rw [← g2, sfl_end (by omega)]; split <;> omega, rfl⟩
      · refine s_bipush E dX8_sittingFault_192 rfl ?_
        refine s_goto E 201 dX8_sittingFault_194 (by decide) ?_
        refine hret _ _ ?_ (fun q => by cases q) _ _ dX8_sittingFault_201
        exact ⟨by rw [← g2, sfl_end (by omega)]; split <;> omega, rfl⟩
    · have b12 := hp2 k (by omega) (by omega)
      refine s_aload_n E dX8_sittingFault_12 rfl ?_
      refine s_getR (kf := 4) E dX8_sittingFault_13 rfl inb_X8 (Nat.le_of_ble_eq_true rfl) fl_X8_20 (by decide) sh79 rfl ?_
      refine s_iload_n E dX8_sittingFault_16 rfl ?_
      refine s_iald E dX8_sittingFault_17 (by decide) sh81 (Nat.le_of_ble_eq_true rfl) (by omega) ?_
      refine s_istore_n (ls' := [_, _, _, _, _]) E dX8_sittingFault_18 (Nat.le_of_ble_eq_true rfl) rfl ?_
      refine s_bipush E dX8_sittingFault_19 rfl ?_
      refine s_istore (ls' := [_, _, _, _, _]) E dX8_sittingFault_21 (Nat.le_of_ble_eq_true rfl) rfl ?_
      refine s_iload_n E dX8_sittingFault_23 rfl ?_
      refine s_if_ne E 72 dX8_sittingFault_24 (by decide) (by omega) (fun h24 => ?_) (fun h24 => ?_)
      · refine s_iload_n E dX8_sittingFault_72 rfl ?_
        refine s_iconst E dX8_sittingFault_73 ?_
        refine s_icmp_ne E 99 dX8_sittingFault_74 (by decide) (by omega) (by omega) (fun h74 => ?_) (fun h74 => ?_)
        · refine s_iload_n E dX8_sittingFault_99 rfl ?_
          refine s_iconst E dX8_sittingFault_100 ?_
          refine s_icmp_ne E 122 dX8_sittingFault_101 (by decide) (by omega) (by omega) (fun h101 => ?_) (fun h101 => ?_)
          · refine s_iload_n E dX8_sittingFault_122 rfl ?_
            refine s_iconst E dX8_sittingFault_123 ?_
            refine s_icmp_ne E 145 dX8_sittingFault_124 (by decide) (by omega) (by omega) (fun h124 => ?_) (fun h124 => ?_)
            · refine s_iload_n E dX8_sittingFault_145 rfl ?_
              refine s_callSi E (c_X8_isName _ _ (by omega)) dX8_sittingFault_146 mf_X8_isName ml_X8_78 rfl (Nat.le_of_ble_eq_true rfl) (Nat.le_of_ble_eq_true rfl) rfl (fun r146 M146 h146 => ?_)
              obtain ⟨e146, f146⟩ := h146; subst r146; subst M146
              refine s_ifeqB E 168 dX8_sittingFault_149 (by decide) (fun h149 => ?_) (fun h149 => ?_)
              · refine s_bipush E dX8_sittingFault_168 rfl ?_
                refine s_istore (ls' := [_, _, _, _, _]) E dX8_sittingFault_170 (Nat.le_of_ble_eq_true rfl) rfl ?_
                refine s_iload E dX8_sittingFault_172 rfl ?_
                refine s_if_ge E 179 dX8_sittingFault_174 (by decide) (by omega) (fun h174 => ?_) (fun h174 => ?_)
                · exact absurd h174 (by decide)
                · refine s_iload_n E dX8_sittingFault_177 rfl ?_
                  refine hret _ _ ?_ (fun q => by cases q) _ _ dX8_sittingFault_178
                  exact ⟨by rw [← g2]; exact (sfl_stop (by omega) (by unfold nxt hd0 pv; (repeat' split) <;> omega)).symm, rfl⟩
              · have b152 := hp2 (k - 1) (by omega) (by omega)
                refine s_iload_n E dX8_sittingFault_152 rfl ?_
                refine s_aload_n E dX8_sittingFault_153 rfl ?_
                refine s_getR (kf := 4) E dX8_sittingFault_154 rfl inb_X8 (Nat.le_of_ble_eq_true rfl) fl_X8_20 (by decide) sh79 rfl ?_
                refine s_iload_n E dX8_sittingFault_157 rfl ?_
                refine s_iconst E dX8_sittingFault_158 ?_
                refine s_isub E dX8_sittingFault_159 ?_
                refine s_iald E dX8_sittingFault_160 (by decide) sh81 (Nat.le_of_ble_eq_true rfl) (by omega) ?_
                refine s_icmp_eq E 168 dX8_sittingFault_161 (by decide) (by omega) (by omega) (fun h161 => ?_) (fun h161 => ?_)
                · refine s_bipush E dX8_sittingFault_168 rfl ?_
                  refine s_istore (ls' := [_, _, _, _, _]) E dX8_sittingFault_170 (Nat.le_of_ble_eq_true rfl) rfl ?_
                  refine s_iload E dX8_sittingFault_172 rfl ?_
                  refine s_if_ge E 179 dX8_sittingFault_174 (by decide) (by omega) (fun h174 => ?_) (fun h174 => ?_)
                  · exact absurd h174 (by decide)
                  · refine s_iload_n E dX8_sittingFault_177 rfl ?_
                    refine hret _ _ ?_ (fun q => by cases q) _ _ dX8_sittingFault_178
                    exact ⟨by rw [← g2]; exact (sfl_stop (by omega) (by unfold nxt hd0 pv; (repeat' split) <;> omega)).symm, rfl⟩
                · refine s_iconst E dX8_sittingFault_164 ?_
                  refine s_goto E 170 dX8_sittingFault_165 (by decide) ?_
                  refine s_istore (ls' := [_, _, _, _, _]) E dX8_sittingFault_170 (Nat.le_of_ble_eq_true rfl) rfl ?_
                  refine s_iload E dX8_sittingFault_172 rfl ?_
                  refine s_if_ge E 179 dX8_sittingFault_174 (by decide) (by omega) (fun h174 => ?_) (fun h174 => ?_)
                  · refine s_iload E dX8_sittingFault_179 rfl ?_
                    refine s_istore_n (ls' := [_, _, _, _, _]) E dX8_sittingFault_181 (Nat.le_of_ble_eq_true rfl) rfl ?_
                    refine s_iinc (ls' := [_, _, _, _, _]) E dX8_sittingFault_182 rfl rfl ?_
                    refine s_goto E 4 dX8_sittingFault_185 (by decide) ?_
                    exact ih _ _ _ _ (by omega) (by omega) (by omega) (by rw [← g2]; exact (sfl_go (by omega) (by unfold nxt hd0 pv; (repeat' split) <;> omega) (by decide)).symm) (by omega)
                  · exact absurd h174 (by decide)
            · refine s_iload_n E dX8_sittingFault_127 rfl ?_
              refine s_callSi E (c_X8_isName _ _ (by omega)) dX8_sittingFault_128 mf_X8_isName ml_X8_78 rfl (Nat.le_of_ble_eq_true rfl) (Nat.le_of_ble_eq_true rfl) rfl (fun r128 M128 h128 => ?_)
              obtain ⟨e128, f128⟩ := h128; subst r128; subst M128
              refine s_ifeqB E 138 dX8_sittingFault_131 (by decide) (fun h131 => ?_) (fun h131 => ?_)
              · refine s_bipush E dX8_sittingFault_138 rfl ?_
                refine s_istore (ls' := [_, _, _, _, _]) E dX8_sittingFault_140 (Nat.le_of_ble_eq_true rfl) rfl ?_
                refine s_goto E 172 dX8_sittingFault_142 (by decide) ?_
                refine s_iload E dX8_sittingFault_172 rfl ?_
                refine s_if_ge E 179 dX8_sittingFault_174 (by decide) (by omega) (fun h174 => ?_) (fun h174 => ?_)
                · exact absurd h174 (by decide)
                · refine s_iload_n E dX8_sittingFault_177 rfl ?_
                  refine hret _ _ ?_ (fun q => by cases q) _ _ dX8_sittingFault_178
                  exact ⟨by rw [← g2]; exact (sfl_stop (by omega) (by unfold nxt hd0 pv; (repeat' split) <;> omega)).symm, rfl⟩
              · refine s_iconst E dX8_sittingFault_134 ?_
                refine s_goto E 140 dX8_sittingFault_135 (by decide) ?_
                refine s_istore (ls' := [_, _, _, _, _]) E dX8_sittingFault_140 (Nat.le_of_ble_eq_true rfl) rfl ?_
                refine s_goto E 172 dX8_sittingFault_142 (by decide) ?_
                refine s_iload E dX8_sittingFault_172 rfl ?_
                refine s_if_ge E 179 dX8_sittingFault_174 (by decide) (by omega) (fun h174 => ?_) (fun h174 => ?_)
                · refine s_iload E dX8_sittingFault_179 rfl ?_
                  refine s_istore_n (ls' := [_, _, _, _, _]) E dX8_sittingFault_181 (Nat.le_of_ble_eq_true rfl) rfl ?_
                  refine s_iinc (ls' := [_, _, _, _, _]) E dX8_sittingFault_182 rfl rfl ?_
                  refine s_goto E 4 dX8_sittingFault_185 (by decide) ?_
                  exact ih _ _ _ _ (by omega) (by omega) (by omega) (by rw [← g2]; exact (sfl_go (by omega) (by unfold nxt hd0 pv; (repeat' split) <;> omega) (by decide)).symm) (by omega)
                · exact absurd h174 (by decide)
          · refine s_iload_n E dX8_sittingFault_104 rfl ?_
            refine s_callSi E (c_X8_isName _ _ (by omega)) dX8_sittingFault_105 mf_X8_isName ml_X8_78 rfl (Nat.le_of_ble_eq_true rfl) (Nat.le_of_ble_eq_true rfl) rfl (fun r105 M105 h105 => ?_)
            obtain ⟨e105, f105⟩ := h105; subst r105; subst M105
            refine s_ifeqB E 115 dX8_sittingFault_108 (by decide) (fun h108 => ?_) (fun h108 => ?_)
            · refine s_bipush E dX8_sittingFault_115 rfl ?_
              refine s_istore (ls' := [_, _, _, _, _]) E dX8_sittingFault_117 (Nat.le_of_ble_eq_true rfl) rfl ?_
              refine s_goto E 172 dX8_sittingFault_119 (by decide) ?_
              refine s_iload E dX8_sittingFault_172 rfl ?_
              refine s_if_ge E 179 dX8_sittingFault_174 (by decide) (by omega) (fun h174 => ?_) (fun h174 => ?_)
              · exact absurd h174 (by decide)
              · refine s_iload_n E dX8_sittingFault_177 rfl ?_
                refine hret _ _ ?_ (fun q => by cases q) _ _ dX8_sittingFault_178
                exact ⟨by rw [← g2]; exact (sfl_stop (by omega) (by unfold nxt hd0 pv; (repeat' split) <;> omega)).symm, rfl⟩
            · refine s_iconst E dX8_sittingFault_111 ?_
              refine s_goto E 117 dX8_sittingFault_112 (by decide) ?_
              refine s_istore (ls' := [_, _, _, _, _]) E dX8_sittingFault_117 (Nat.le_of_ble_eq_true rfl) rfl ?_
              refine s_goto E 172 dX8_sittingFault_119 (by decide) ?_
              refine s_iload E dX8_sittingFault_172 rfl ?_
              refine s_if_ge E 179 dX8_sittingFault_174 (by decide) (by omega) (fun h174 => ?_) (fun h174 => ?_)
              · refine s_iload E dX8_sittingFault_179 rfl ?_
                refine s_istore_n (ls' := [_, _, _, _, _]) E dX8_sittingFault_181 (Nat.le_of_ble_eq_true rfl) rfl ?_
                refine s_iinc (ls' := [_, _, _, _, _]) E dX8_sittingFault_182 rfl rfl ?_
                refine s_goto E 4 dX8_sittingFault_185 (by decide) ?_
                exact ih _ _ _ _ (by omega) (by omega) (by omega) (by rw [← g2]; exact (sfl_go (by omega) (by unfold nxt hd0 pv; (repeat' split) <;> omega) (by decide)).symm) (by omega)
              · exact absurd h174 (by decide)
        · refine s_iload_n E dX8_sittingFault_77 rfl ?_
          refine s_bipush E dX8_sittingFault_78 rfl ?_
          refine s_bipush E dX8_sittingFault_80 rfl ?_
          refine s_callSi E (c_X8_in _ _ _ _ (by omega) (by omega) (by omega)) dX8_sittingFault_82 mf_X8_in ml_X8_63 rfl (Nat.le_of_ble_eq_true rfl) (Nat.le_of_ble_eq_true rfl) rfl (fun r82 M82 h82 => ?_)
          obtain ⟨e82, f82⟩ := h82; subst r82; subst M82
          refine s_ifeqB E 92 dX8_sittingFault_85 (by decide) (fun h85 => ?_) (fun h85 => ?_)
          · refine s_bipush E dX8_sittingFault_92 rfl ?_
            refine s_istore (ls' := [_, _, _, _, _]) E dX8_sittingFault_94 (Nat.le_of_ble_eq_true rfl) rfl ?_
            refine s_goto E 172 dX8_sittingFault_96 (by decide) ?_
            refine s_iload E dX8_sittingFault_172 rfl ?_
            refine s_if_ge E 179 dX8_sittingFault_174 (by decide) (by omega) (fun h174 => ?_) (fun h174 => ?_)
            · exact absurd h174 (by decide)
            · refine s_iload_n E dX8_sittingFault_177 rfl ?_
              refine hret _ _ ?_ (fun q => by cases q) _ _ dX8_sittingFault_178
              exact ⟨by rw [← g2]; exact (sfl_stop (by omega) (by unfold nxt hd0 pv; (repeat' split) <;> omega)).symm, rfl⟩
          · refine s_iconst E dX8_sittingFault_88 ?_
            refine s_goto E 94 dX8_sittingFault_89 (by decide) ?_
            refine s_istore (ls' := [_, _, _, _, _]) E dX8_sittingFault_94 (Nat.le_of_ble_eq_true rfl) rfl ?_
            refine s_goto E 172 dX8_sittingFault_96 (by decide) ?_
            refine s_iload E dX8_sittingFault_172 rfl ?_
            refine s_if_ge E 179 dX8_sittingFault_174 (by decide) (by omega) (fun h174 => ?_) (fun h174 => ?_)
            · refine s_iload E dX8_sittingFault_179 rfl ?_
              refine s_istore_n (ls' := [_, _, _, _, _]) E dX8_sittingFault_181 (Nat.le_of_ble_eq_true rfl) rfl ?_
              refine s_iinc (ls' := [_, _, _, _, _]) E dX8_sittingFault_182 rfl rfl ?_
              refine s_goto E 4 dX8_sittingFault_185 (by decide) ?_
              exact ih _ _ _ _ (by omega) (by omega) (by omega) (by rw [← g2]; exact (sfl_go (by omega) (by unfold nxt hd0 pv; (repeat' split) <;> omega) (by decide)).symm) (by omega)
            · exact absurd h174 (by decide)
      · refine s_iload_n E dX8_sittingFault_27 rfl ?_
        refine s_callSi E (c_X8_isName _ _ (by omega)) dX8_sittingFault_28 mf_X8_isName ml_X8_78 rfl (Nat.le_of_ble_eq_true rfl) (Nat.le_of_ble_eq_true rfl) rfl (fun r28 M28 h28 => ?_)
        obtain ⟨e28, f28⟩ := h28; subst r28; subst M28
        refine s_ifneB E 40 dX8_sittingFault_31 (by decide) (fun h31 => ?_) (fun h31 => ?_)
        · refine s_iconst E dX8_sittingFault_40 ?_
          refine s_goto E 67 dX8_sittingFault_41 (by decide) ?_
          refine s_istore (ls' := [_, _, _, _, _]) E dX8_sittingFault_67 (Nat.le_of_ble_eq_true rfl) rfl ?_
          refine s_goto E 172 dX8_sittingFault_69 (by decide) ?_
          refine s_iload E dX8_sittingFault_172 rfl ?_
          refine s_if_ge E 179 dX8_sittingFault_174 (by decide) (by omega) (fun h174 => ?_) (fun h174 => ?_)
          · refine s_iload E dX8_sittingFault_179 rfl ?_
            refine s_istore_n (ls' := [_, _, _, _, _]) E dX8_sittingFault_181 (Nat.le_of_ble_eq_true rfl) rfl ?_
            refine s_iinc (ls' := [_, _, _, _, _]) E dX8_sittingFault_182 rfl rfl ?_
            refine s_goto E 4 dX8_sittingFault_185 (by decide) ?_
            exact ih _ _ _ _ (by omega) (by omega) (by omega) (by rw [← g2]; exact (sfl_go (by omega) (by unfold nxt hd0 pv; (repeat' split) <;> omega) (by decide)).symm) (by omega)
          · exact absurd h174 (by decide)
        · refine s_iload_n E dX8_sittingFault_34 rfl ?_
          refine s_bipush E dX8_sittingFault_35 rfl ?_
          refine s_icmp_ne E 44 dX8_sittingFault_37 (by decide) (by omega) (by omega) (fun h37 => ?_) (fun h37 => ?_)
          · refine s_iload_n E dX8_sittingFault_44 rfl ?_
            refine s_callSi E (c_X8_isAct _ _ (by omega)) dX8_sittingFault_45 mf_X8_isAct ml_X8_81 rfl (Nat.le_of_ble_eq_true rfl) (Nat.le_of_ble_eq_true rfl) rfl (fun r45 M45 h45 => ?_)
            obtain ⟨e45, f45⟩ := h45; subst r45; subst M45
            refine s_ifeqB E 55 dX8_sittingFault_48 (by decide) (fun h48 => ?_) (fun h48 => ?_)
            · refine s_iload_n E dX8_sittingFault_55 rfl ?_
              refine s_bipush E dX8_sittingFault_56 rfl ?_
              refine s_icmp_ne E 65 dX8_sittingFault_58 (by decide) (by omega) (by omega) (fun h58 => ?_) (fun h58 => ?_)
              · refine s_bipush E dX8_sittingFault_65 rfl ?_
                refine s_istore (ls' := [_, _, _, _, _]) E dX8_sittingFault_67 (Nat.le_of_ble_eq_true rfl) rfl ?_
                refine s_goto E 172 dX8_sittingFault_69 (by decide) ?_
                refine s_iload E dX8_sittingFault_172 rfl ?_
                refine s_if_ge E 179 dX8_sittingFault_174 (by decide) (by omega) (fun h174 => ?_) (fun h174 => ?_)
                · exact absurd h174 (by decide)
                · refine s_iload_n E dX8_sittingFault_177 rfl ?_
                  refine hret _ _ ?_ (fun q => by cases q) _ _ dX8_sittingFault_178
                  exact ⟨by rw [← g2]; exact (sfl_stop (by omega) (by unfold nxt hd0 pv; (repeat' split) <;> omega)).symm, rfl⟩
              · refine s_iconst E dX8_sittingFault_61 ?_
                refine s_goto E 67 dX8_sittingFault_62 (by decide) ?_
                refine s_istore (ls' := [_, _, _, _, _]) E dX8_sittingFault_67 (Nat.le_of_ble_eq_true rfl) rfl ?_
                refine s_goto E 172 dX8_sittingFault_69 (by decide) ?_
                refine s_iload E dX8_sittingFault_172 rfl ?_
                refine s_if_ge E 179 dX8_sittingFault_174 (by decide) (by omega) (fun h174 => ?_) (fun h174 => ?_)
                · refine s_iload E dX8_sittingFault_179 rfl ?_
                  refine s_istore_n (ls' := [_, _, _, _, _]) E dX8_sittingFault_181 (Nat.le_of_ble_eq_true rfl) rfl ?_
                  refine s_iinc (ls' := [_, _, _, _, _]) E dX8_sittingFault_182 rfl rfl ?_
                  refine s_goto E 4 dX8_sittingFault_185 (by decide) ?_
                  exact ih _ _ _ _ (by omega) (by omega) (by omega) (by rw [← g2]; exact (sfl_go (by omega) (by unfold nxt hd0 pv; (repeat' split) <;> omega) (by decide)).symm) (by omega)
                · exact absurd h174 (by decide)
            · refine s_iconst E dX8_sittingFault_51 ?_
              refine s_goto E 67 dX8_sittingFault_52 (by decide) ?_
              refine s_istore (ls' := [_, _, _, _, _]) E dX8_sittingFault_67 (Nat.le_of_ble_eq_true rfl) rfl ?_
              refine s_goto E 172 dX8_sittingFault_69 (by decide) ?_
              refine s_iload E dX8_sittingFault_172 rfl ?_
              refine s_if_ge E 179 dX8_sittingFault_174 (by decide) (by omega) (fun h174 => ?_) (fun h174 => ?_)
              · refine s_iload E dX8_sittingFault_179 rfl ?_
                refine s_istore_n (ls' := [_, _, _, _, _]) E dX8_sittingFault_181 (Nat.le_of_ble_eq_true rfl) rfl ?_
                refine s_iinc (ls' := [_, _, _, _, _]) E dX8_sittingFault_182 rfl rfl ?_
                refine s_goto E 4 dX8_sittingFault_185 (by decide) ?_
                exact ih _ _ _ _ (by omega) (by omega) (by omega) (by rw [← g2]; exact (sfl_go (by omega) (by unfold nxt hd0 pv; (repeat' split) <;> omega) (by decide)).symm) (by omega)
              · exact absurd h174 (by decide)
          · refine s_iconst E dX8_sittingFault_40 ?_
            refine s_goto E 67 dX8_sittingFault_41 (by decide) ?_
            refine s_istore (ls' := [_, _, _, _, _]) E dX8_sittingFault_67 (Nat.le_of_ble_eq_true rfl) rfl ?_
            refine s_goto E 172 dX8_sittingFault_69 (by decide) ?_
            refine s_iload E dX8_sittingFault_172 rfl ?_
            refine s_if_ge E 179 dX8_sittingFault_174 (by decide) (by omega) (fun h174 => ?_) (fun h174 => ?_)
            · refine s_iload E dX8_sittingFault_179 rfl ?_
              refine s_istore_n (ls' := [_, _, _, _, _]) E dX8_sittingFault_181 (Nat.le_of_ble_eq_true rfl) rfl ?_
              refine s_iinc (ls' := [_, _, _, _, _]) E dX8_sittingFault_182 rfl rfl ?_
              refine s_goto E 4 dX8_sittingFault_185 (by decide) ?_
              exact ih _ _ _ _ (by omega) (by omega) (by omega) (by rw [← g2]; exact (sfl_go (by omega) (by unfold nxt hd0 pv; (repeat' split) <;> omega) (by decide)).symm) (by omega)
            · exact absurd h174 (by decide)

set_option maxRecDepth 100000 in
set_option maxHeartbeats 4000000 in
theorem c_X8_sittingFault (M : Mm) (hp : PadOK (M 81) (M 79 3)) : CtI yX8_sittingFault cX8_sittingFault 5 .int 5 SH [rv 79] M (fun r M' => r = sFault (M 81) (M 79 3) ∧ M' = M) := by
  refine CtI.of rfl (Nat.le_of_ble_eq_true rfl) (Or.inl rfl) (fun v as E hret => ?_)
  show Ws v as SH 0 0 0 [some (rv 79), none, none, none, none] [] M
  refine s_iconst E dX8_sittingFault_0 ?_
  refine s_istore_n (ls' := [_, _, _, _, _]) E dX8_sittingFault_1 (Nat.le_of_ble_eq_true rfl) rfl ?_
  refine s_iconst E dX8_sittingFault_2 ?_
  refine s_istore_n (ls' := [_, _, _, _, _]) E dX8_sittingFault_3 (Nat.le_of_ble_eq_true rfl) rfl ?_
  exact lp_X8_sf M hp E hret ((M 79 3 - 0).toNat + 1) 0 0 _ _ (Nat.lt_succ_self _) (by have := hp.1; omega) (by omega) (by rw [Int.sub_zero]; rfl) (fun _ => rfl)

set_option maxRecDepth 100000 in
set_option maxHeartbeats 4000000 in
theorem lp_X8_bf {v : Ev} {as : List Nat} (M : Mm) (hp : PadOK (M 81) (M 79 3)) (E : Cx v cX8_bookFault 3 yX8_bookFault.cls 5) (hret : RetI v as cX8_bookFault .int (fun r M' => r = bFault (M 81) (M 79 3) ∧ M' = M)) : ∀ (N : Nat) (k h : Int), (M 79 3 - k).toNat < N → (0 ≤ k ∧ k ≤ M 79 3 ∧ k ≤ 12) → (0 ≤ h ∧ h ≤ k) → (bfl (M 81) (M 79 3) (M 79 3 - k).toNat k h = bFault (M 81) (M 79 3)) → Ws v as SH 0 0 4 [some (rv 79), some (iv h), some (iv k)] [] M := by
  intro N
  induction N with
  | zero =>
    intro k h hN
    exact absurd hN (Nat.not_lt_zero _)
  | succ N ih =>
    intro k h hN g0 g1 g2
    have hp0 := hp.1; have hp1 := hp.2.1; have hp2 := hp.2.2
    refine s_iload_n E dX8_bookFault_4 rfl ?_
    refine s_aload_n E dX8_bookFault_5 rfl ?_
    refine s_getI (kf := 3) E 3 rfl dX8_bookFault_6 rfl inb_X8 (Nat.le_of_ble_eq_true rfl) fl_X8_75 (by decide) sh79 rfl ?_
    refine s_icmp_ge E 84 dX8_bookFault_9 (by decide) (by omega) (by omega) (fun h9 => ?_) (fun h9 => ?_)
    · refine s_aload_n E dX8_bookFault_84 rfl ?_
      refine s_getI (kf := 3) E 3 rfl dX8_bookFault_85 rfl inb_X8 (Nat.le_of_ble_eq_true rfl) fl_X8_75 (by decide) sh79 rfl ?_
      refine s_if_ne E 95 dX8_bookFault_88 (by decide) (by omega) (fun h88 => ?_) (fun h88 => ?_)
      · refine s_bipush E dX8_bookFault_95 rfl ?_
        refine hret _ _ ?_ (fun q => by cases q) _ _ dX8_bookFault_97
        exact ⟨by rw [← g2, bfl_end (by omega)]; split <;> omega, rfl⟩
      · refine s_iconst E dX8_bookFault_91 ?_
        refine s_goto E 97 dX8_bookFault_92 (by decide) ?_
        refine hret _ _ ?_ (fun q => by cases q) _ _ dX8_bookFault_97
        exact ⟨by rw [← g2, bfl_end (by omega)]; split <;> omega, rfl⟩
    · have b12 := hp2 k (by omega) (by omega)
      refine s_iload_n E dX8_bookFault_12 rfl ?_
      refine s_aload_n E dX8_bookFault_13 rfl ?_
      refine s_getR (kf := 4) E dX8_bookFault_14 rfl inb_X8 (Nat.le_of_ble_eq_true rfl) fl_X8_20 (by decide) sh79 rfl ?_
      refine s_iload_n E dX8_bookFault_17 rfl ?_
      refine s_iald E dX8_bookFault_18 (by decide) sh81 (Nat.le_of_ble_eq_true rfl) (by omega) ?_
      refine s_bipush E dX8_bookFault_19 rfl ?_
      refine s_icmp_ne E 28 dX8_bookFault_21 (by decide) (by omega) (by omega) (fun h21 => ?_) (fun h21 => ?_)
      · refine s_iconst E dX8_bookFault_28 ?_
        refine s_iadd E dX8_bookFault_29 ?_
        refine s_istore_n (ls' := [_, _, _]) E dX8_bookFault_30 (Nat.le_of_ble_eq_true rfl) rfl ?_
        refine s_iload_n E dX8_bookFault_31 rfl ?_
        refine s_bipush E dX8_bookFault_32 rfl ?_
        refine s_icmp_eq E 76 dX8_bookFault_34 (by decide) (by omega) (by omega) (fun h34 => ?_) (fun h34 => ?_)
        · refine s_iload_n E dX8_bookFault_76 rfl ?_
          refine hret _ _ ?_ (fun q => by cases q) _ _ dX8_bookFault_77
          exact ⟨by rw [← g2]; exact (bfl_stop (c := h + 0) (by omega) (by split <;> omega) (by omega)).symm, rfl⟩
        · refine s_iload_n E dX8_bookFault_37 rfl ?_
          refine s_iconst E dX8_bookFault_38 ?_
          refine s_icmp_gt E 76 dX8_bookFault_39 (by decide) (by omega) (by omega) (fun h39 => ?_) (fun h39 => ?_)
          · refine s_iload_n E dX8_bookFault_76 rfl ?_
            refine hret _ _ ?_ (fun q => by cases q) _ _ dX8_bookFault_77
            exact ⟨by rw [← g2]; exact (bfl_stop (c := h + 0) (by omega) (by split <;> omega) (by omega)).symm, rfl⟩
          · refine s_aload_n E dX8_bookFault_42 rfl ?_
            refine s_getR (kf := 4) E dX8_bookFault_43 rfl inb_X8 (Nat.le_of_ble_eq_true rfl) fl_X8_20 (by decide) sh79 rfl ?_
            refine s_iload_n E dX8_bookFault_46 rfl ?_
            refine s_iald E dX8_bookFault_47 (by decide) sh81 (Nat.le_of_ble_eq_true rfl) (by omega) ?_
            refine s_callSi E (c_X8_isName _ _ (by omega)) dX8_bookFault_48 mf_X8_isName ml_X8_78 rfl (Nat.le_of_ble_eq_true rfl) (Nat.le_of_ble_eq_true rfl) rfl (fun r48 M48 h48 => ?_)
            obtain ⟨e48, f48⟩ := h48; subst r48; subst M48
            refine s_ifneB E 78 dX8_bookFault_51 (by decide) (fun h51 => ?_) (fun h51 => ?_)
            · refine s_iinc (ls' := [_, _, _]) E dX8_bookFault_78 rfl rfl ?_
              refine s_goto E 4 dX8_bookFault_81 (by decide) ?_
              exact ih _ _ (by omega) (by omega) (by omega) (by rw [← g2]; exact (bfl_go (by omega) (by split <;> omega) (by omega)).symm)
            · refine s_aload_n E dX8_bookFault_54 rfl ?_
              refine s_getR (kf := 4) E dX8_bookFault_55 rfl inb_X8 (Nat.le_of_ble_eq_true rfl) fl_X8_20 (by decide) sh79 rfl ?_
              refine s_iload_n E dX8_bookFault_58 rfl ?_
              refine s_iald E dX8_bookFault_59 (by decide) sh81 (Nat.le_of_ble_eq_true rfl) (by omega) ?_
              refine s_bipush E dX8_bookFault_60 rfl ?_
              refine s_icmp_eq E 78 dX8_bookFault_62 (by decide) (by omega) (by omega) (fun h62 => ?_) (fun h62 => ?_)
              · refine s_iinc (ls' := [_, _, _]) E dX8_bookFault_78 rfl rfl ?_
                refine s_goto E 4 dX8_bookFault_81 (by decide) ?_
                exact ih _ _ (by omega) (by omega) (by omega) (by rw [← g2]; exact (bfl_go (by omega) (by split <;> omega) (by omega)).symm)
              · refine s_aload_n E dX8_bookFault_65 rfl ?_
                refine s_getR (kf := 4) E dX8_bookFault_66 rfl inb_X8 (Nat.le_of_ble_eq_true rfl) fl_X8_20 (by decide) sh79 rfl ?_
                refine s_iload_n E dX8_bookFault_69 rfl ?_
                refine s_iald E dX8_bookFault_70 (by decide) sh81 (Nat.le_of_ble_eq_true rfl) (by omega) ?_
                refine s_bipush E dX8_bookFault_71 rfl ?_
                refine s_icmp_eq E 78 dX8_bookFault_73 (by decide) (by omega) (by omega) (fun h73 => ?_) (fun h73 => ?_)
                · refine s_iinc (ls' := [_, _, _]) E dX8_bookFault_78 rfl rfl ?_
                  refine s_goto E 4 dX8_bookFault_81 (by decide) ?_
                  exact ih _ _ (by omega) (by omega) (by omega) (by rw [← g2]; exact (bfl_go (by omega) (by split <;> omega) (by omega)).symm)
                · refine s_iload_n E dX8_bookFault_76 rfl ?_
                  refine hret _ _ ?_ (fun q => by cases q) _ _ dX8_bookFault_77
                  exact ⟨by rw [← g2]; exact (bfl_stop (c := h + 0) (by omega) (by split <;> omega) (by omega)).symm, rfl⟩
      · refine s_iconst E dX8_bookFault_24 ?_
        refine s_goto E 29 dX8_bookFault_25 (by decide) ?_
        refine s_iadd E dX8_bookFault_29 ?_
        refine s_istore_n (ls' := [_, _, _]) E dX8_bookFault_30 (Nat.le_of_ble_eq_true rfl) rfl ?_
        refine s_iload_n E dX8_bookFault_31 rfl ?_
        refine s_bipush E dX8_bookFault_32 rfl ?_
        refine s_icmp_eq E 76 dX8_bookFault_34 (by decide) (by omega) (by omega) (fun h34 => ?_) (fun h34 => ?_)
        · refine s_iload_n E dX8_bookFault_76 rfl ?_
          refine hret _ _ ?_ (fun q => by cases q) _ _ dX8_bookFault_77
          exact ⟨by rw [← g2]; exact (bfl_stop (c := h + 1) (by omega) (by split <;> omega) (by omega)).symm, rfl⟩
        · refine s_iload_n E dX8_bookFault_37 rfl ?_
          refine s_iconst E dX8_bookFault_38 ?_
          refine s_icmp_gt E 76 dX8_bookFault_39 (by decide) (by omega) (by omega) (fun h39 => ?_) (fun h39 => ?_)
          · refine s_iload_n E dX8_bookFault_76 rfl ?_
            refine hret _ _ ?_ (fun q => by cases q) _ _ dX8_bookFault_77
            exact ⟨by rw [← g2]; exact (bfl_stop (c := h + 1) (by omega) (by split <;> omega) (by omega)).symm, rfl⟩
          · refine s_aload_n E dX8_bookFault_42 rfl ?_
            refine s_getR (kf := 4) E dX8_bookFault_43 rfl inb_X8 (Nat.le_of_ble_eq_true rfl) fl_X8_20 (by decide) sh79 rfl ?_
            refine s_iload_n E dX8_bookFault_46 rfl ?_
            refine s_iald E dX8_bookFault_47 (by decide) sh81 (Nat.le_of_ble_eq_true rfl) (by omega) ?_
            refine s_callSi E (c_X8_isName _ _ (by omega)) dX8_bookFault_48 mf_X8_isName ml_X8_78 rfl (Nat.le_of_ble_eq_true rfl) (Nat.le_of_ble_eq_true rfl) rfl (fun r48 M48 h48 => ?_)
            obtain ⟨e48, f48⟩ := h48; subst r48; subst M48
            refine s_ifneB E 78 dX8_bookFault_51 (by decide) (fun h51 => ?_) (fun h51 => ?_)
            · refine s_iinc (ls' := [_, _, _]) E dX8_bookFault_78 rfl rfl ?_
              refine s_goto E 4 dX8_bookFault_81 (by decide) ?_
              exact ih _ _ (by omega) (by omega) (by omega) (by rw [← g2]; exact (bfl_go (by omega) (by split <;> omega) (by omega)).symm)
            · refine s_aload_n E dX8_bookFault_54 rfl ?_
              refine s_getR (kf := 4) E dX8_bookFault_55 rfl inb_X8 (Nat.le_of_ble_eq_true rfl) fl_X8_20 (by decide) sh79 rfl ?_
              refine s_iload_n E dX8_bookFault_58 rfl ?_
              refine s_iald E dX8_bookFault_59 (by decide) sh81 (Nat.le_of_ble_eq_true rfl) (by omega) ?_
              refine s_bipush E dX8_bookFault_60 rfl ?_
              refine s_icmp_eq E 78 dX8_bookFault_62 (by decide) (by omega) (by omega) (fun h62 => ?_) (fun h62 => ?_)
              · refine s_iinc (ls' := [_, _, _]) E dX8_bookFault_78 rfl rfl ?_
                refine s_goto E 4 dX8_bookFault_81 (by decide) ?_
                exact ih _ _ (by omega) (by omega) (by omega) (by rw [← g2]; exact (bfl_go (by omega) (by split <;> omega) (by omega)).symm)
              · refine s_aload_n E dX8_bookFault_65 rfl ?_
                refine s_getR (kf := 4) E dX8_bookFault_66 rfl inb_X8 (Nat.le_of_ble_eq_true rfl) fl_X8_20 (by decide) sh79 rfl ?_
                refine s_iload_n E dX8_bookFault_69 rfl ?_
                refine s_iald E dX8_bookFault_70 (by decide) sh81 (Nat.le_of_ble_eq_true rfl) (by omega) ?_
                refine s_bipush E dX8_bookFault_71 rfl ?_
                refine s_icmp_eq E 78 dX8_bookFault_73 (by decide) (by omega) (by omega) (fun h73 => ?_) (fun h73 => ?_)
                · refine s_iinc (ls' := [_, _, _]) E dX8_bookFault_78 rfl rfl ?_
                  refine s_goto E 4 dX8_bookFault_81 (by decide) ?_
                  exact ih _ _ (by omega) (by omega) (by omega) (by rw [← g2]; exact (bfl_go (by omega) (by split <;> omega) (by omega)).symm)
                · refine s_iload_n E dX8_bookFault_76 rfl ?_
                  refine hret _ _ ?_ (fun q => by cases q) _ _ dX8_bookFault_77
                  exact ⟨by rw [← g2]; exact (bfl_stop (c := h + 1) (by omega) (by split <;> omega) (by omega)).symm, rfl⟩

set_option maxRecDepth 100000 in
set_option maxHeartbeats 4000000 in
theorem c_X8_bookFault (M : Mm) (hp : PadOK (M 81) (M 79 3)) : CtI yX8_bookFault cX8_bookFault 3 .int 5 SH [rv 79] M (fun r M' => r = bFault (M 81) (M 79 3) ∧ M' = M) := by
  refine CtI.of rfl (Nat.le_of_ble_eq_true rfl) (Or.inl rfl) (fun v as E hret => ?_)
  show Ws v as SH 0 0 0 [some (rv 79), none, none] [] M
  refine s_iconst E dX8_bookFault_0 ?_
  refine s_istore_n (ls' := [_, _, _]) E dX8_bookFault_1 (Nat.le_of_ble_eq_true rfl) rfl ?_
  refine s_iconst E dX8_bookFault_2 ?_
  refine s_istore_n (ls' := [_, _, _]) E dX8_bookFault_3 (Nat.le_of_ble_eq_true rfl) rfl ?_
  exact lp_X8_bf M hp E hret ((M 79 3 - 0).toNat + 1) 0 0 (Nat.lt_succ_self _) (by have := hp.1; omega) (by omega) (by rw [Int.sub_zero]; rfl)
end
section
/-! ===== the plain calls, both sides ===== -/
theorem shl_rng {c : Int} (h : 0 ≤ c ∧ c ≤ 8) : 1 ≤ iShl 1 c ∧ iShl 1 c ≤ 256 := by
  have : c = 0 ∨ c = 1 ∨ c = 2 ∨ c = 3 ∨ c = 4 ∨ c = 5 ∨ c = 6 ∨ c = 7 ∨ c = 8 := by omega
  rcases this with rfl | rfl | rfl | rfl | rfl | rfl | rfl | rfl | rfl <;> decide

set_option maxRecDepth 100000 in
set_option maxHeartbeats 4000000 in
theorem c_X7_law (M : Mm) (w z : Int) (hw : inI w) (hz : inI z) : CtI yX7_law cX7_law 4 .int 1 SH [rv 0, iv w, iv z] M (fun r M' => r = (if (0 ≤ w ∧ w ≤ 1 ∧ 0 ≤ z ∧ z ≤ 99) then M 1 (3 + w) else -2) ∧ M' = (if (0 ≤ w ∧ w ≤ 1 ∧ 0 ≤ z ∧ z ≤ 99) then upm M 1 (3 + w) z else M)) := by
  refine CtI.of rfl (Nat.le_of_ble_eq_true rfl) (Or.inl rfl) (fun v as E hret => ?_)
  show Ws v as SH 0 0 0 [some (rv 0), some (iv w), some (iv z), none] [] M
  refine s_iload_n E dX7_law_0 rfl ?_
  refine s_if_lt E 19 dX7_law_1 (by decide) (by omega) (fun h1 => ?_) (fun h1 => ?_)
  · refine s_bipush E dX7_law_19 rfl ?_
    refine hret _ _ ?_ (fun q => by cases q) _ _ dX7_law_21
    exact ⟨by (repeat' split) <;> first | rfl | omega, by (repeat' split) <;> first | rfl | omega⟩
  · refine s_iload_n E dX7_law_4 rfl ?_
    refine s_iconst E dX7_law_5 ?_
    refine s_icmp_gt E 19 dX7_law_6 (by decide) (by omega) (by omega) (fun h6 => ?_) (fun h6 => ?_)
    · refine s_bipush E dX7_law_19 rfl ?_
      refine hret _ _ ?_ (fun q => by cases q) _ _ dX7_law_21
      exact ⟨by (repeat' split) <;> first | rfl | omega, by (repeat' split) <;> first | rfl | omega⟩
    · refine s_iload_n E dX7_law_9 rfl ?_
      refine s_if_lt E 19 dX7_law_10 (by decide) (by omega) (fun h10 => ?_) (fun h10 => ?_)
      · refine s_bipush E dX7_law_19 rfl ?_
        refine hret _ _ ?_ (fun q => by cases q) _ _ dX7_law_21
        exact ⟨by (repeat' split) <;> first | rfl | omega, by (repeat' split) <;> first | rfl | omega⟩
      · refine s_iload_n E dX7_law_13 rfl ?_
        refine s_bipush E dX7_law_14 rfl ?_
        refine s_icmp_le E 22 dX7_law_16 (by decide) (by omega) (by omega) (fun h16 => ?_) (fun h16 => ?_)
        · refine s_iload_n E dX7_law_22 rfl ?_
          refine s_if_ne E 36 dX7_law_23 (by decide) (by omega) (fun h23 => ?_) (fun h23 => ?_)
          · refine s_aload_n E dX7_law_36 rfl ?_
            refine s_getR (kf := 0) E dX7_law_37 rfl inb_X7 (Nat.le_of_ble_eq_true rfl) fl_X7_10 (by decide) sh0 rfl ?_
            refine s_getI (kf := 4) E 4 rfl dX7_law_40 rfl inb_X2 (Nat.le_of_ble_eq_true rfl) fl_X7_75 (by decide) sh1 rfl ?_
            refine s_istore_n (ls' := [_, _, _, _]) E dX7_law_43 (Nat.le_of_ble_eq_true rfl) rfl ?_
            refine s_iload_n E dX7_law_44 rfl ?_
            refine s_if_ne E 59 dX7_law_45 (by decide) (by omega) (fun h45 => ?_) (fun h45 => ?_)
            · refine s_aload_n E dX7_law_59 rfl ?_
              refine s_getR (kf := 0) E dX7_law_60 rfl inb_X7 (Nat.le_of_ble_eq_true rfl) fl_X7_10 (by decide) sh0 rfl ?_
              refine s_iload_n E dX7_law_63 rfl ?_
              refine s_putI (kf := 4) E 4 rfl dX7_law_64 rfl inb_X2 tyX2_ok nmX2 (Nat.le_of_ble_eq_true rfl) ⟨rfl, rfl⟩ fl_X7_75 (by decide) sh1 rfl ?_
              refine s_iload_n E dX7_law_67 rfl ?_
              refine hret _ _ ?_ (fun q => by cases q) _ _ dX7_law_68
              obtain rfl : w = 1 := by omega
              exact ⟨by (repeat' split) <;> first | rfl | omega, by (repeat' split) <;> first | rfl | omega⟩
            · refine s_aload_n E dX7_law_48 rfl ?_
              refine s_getR (kf := 0) E dX7_law_49 rfl inb_X7 (Nat.le_of_ble_eq_true rfl) fl_X7_10 (by decide) sh0 rfl ?_
              refine s_iload_n E dX7_law_52 rfl ?_
              refine s_putI (kf := 3) E 3 rfl dX7_law_53 rfl inb_X2 tyX2_ok nmX2 (Nat.le_of_ble_eq_true rfl) ⟨rfl, rfl⟩ fl_X7_71 (by decide) sh1 rfl ?_
              refine s_goto E 67 dX7_law_56 (by decide) ?_
              refine s_iload_n E dX7_law_67 rfl ?_
              refine hret _ _ ?_ (fun q => by cases q) _ _ dX7_law_68
              obtain rfl : w = 0 := by omega
              exact ⟨by (repeat' split) <;> first | rfl | omega, by (repeat' split) <;> first | rfl | omega⟩
          · refine s_aload_n E dX7_law_26 rfl ?_
            refine s_getR (kf := 0) E dX7_law_27 rfl inb_X7 (Nat.le_of_ble_eq_true rfl) fl_X7_10 (by decide) sh0 rfl ?_
            refine s_getI (kf := 3) E 3 rfl dX7_law_30 rfl inb_X2 (Nat.le_of_ble_eq_true rfl) fl_X7_71 (by decide) sh1 rfl ?_
            refine s_goto E 43 dX7_law_33 (by decide) ?_
            refine s_istore_n (ls' := [_, _, _, _]) E dX7_law_43 (Nat.le_of_ble_eq_true rfl) rfl ?_
            refine s_iload_n E dX7_law_44 rfl ?_
            refine s_if_ne E 59 dX7_law_45 (by decide) (by omega) (fun h45 => ?_) (fun h45 => ?_)
            · refine s_aload_n E dX7_law_59 rfl ?_
              refine s_getR (kf := 0) E dX7_law_60 rfl inb_X7 (Nat.le_of_ble_eq_true rfl) fl_X7_10 (by decide) sh0 rfl ?_
              refine s_iload_n E dX7_law_63 rfl ?_
              refine s_putI (kf := 4) E 4 rfl dX7_law_64 rfl inb_X2 tyX2_ok nmX2 (Nat.le_of_ble_eq_true rfl) ⟨rfl, rfl⟩ fl_X7_75 (by decide) sh1 rfl ?_
              refine s_iload_n E dX7_law_67 rfl ?_
              refine hret _ _ ?_ (fun q => by cases q) _ _ dX7_law_68
              obtain rfl : w = 1 := by omega
              exact ⟨by (repeat' split) <;> first | rfl | omega, by (repeat' split) <;> first | rfl | omega⟩
            · refine s_aload_n E dX7_law_48 rfl ?_
              refine s_getR (kf := 0) E dX7_law_49 rfl inb_X7 (Nat.le_of_ble_eq_true rfl) fl_X7_10 (by decide) sh0 rfl ?_
              refine s_iload_n E dX7_law_52 rfl ?_
              refine s_putI (kf := 3) E 3 rfl dX7_law_53 rfl inb_X2 tyX2_ok nmX2 (Nat.le_of_ble_eq_true rfl) ⟨rfl, rfl⟩ fl_X7_71 (by decide) sh1 rfl ?_
              refine s_goto E 67 dX7_law_56 (by decide) ?_
              refine s_iload_n E dX7_law_67 rfl ?_
              refine hret _ _ ?_ (fun q => by cases q) _ _ dX7_law_68
              obtain rfl : w = 0 := by omega
              exact ⟨by (repeat' split) <;> first | rfl | omega, by (repeat' split) <;> first | rfl | omega⟩
        · refine s_bipush E dX7_law_19 rfl ?_
          refine hret _ _ ?_ (fun q => by cases q) _ _ dX7_law_21
          exact ⟨by (repeat' split) <;> first | rfl | omega, by (repeat' split) <;> first | rfl | omega⟩

set_option maxRecDepth 100000 in
set_option maxHeartbeats 4000000 in
theorem c_X8_law (M : Mm) (w z : Int) (hw : inI w) (hz : inI z) : CtI yX8_law cX8_law 4 .int 2 SH [rv 79, iv w, iv z] M (fun r M' => r = (if (0 ≤ w ∧ w ≤ 1 ∧ 0 ≤ z ∧ z ≤ 99) then M 79 (1 + w) else -2) ∧ M' = (if (0 ≤ w ∧ w ≤ 1 ∧ 0 ≤ z ∧ z ≤ 99) then upm (upm M 79 1 (if w = 0 then z else M 79 1)) 79 2 (if w = 1 then z else M 79 2) else M)) := by
  refine CtI.of rfl (Nat.le_of_ble_eq_true rfl) (Or.inl rfl) (fun v as E hret => ?_)
  show Ws v as SH 0 0 0 [some (rv 79), some (iv w), some (iv z), none] [] M
  refine s_iload_n E dX8_law_0 rfl ?_
  refine s_iconst E dX8_law_1 ?_
  refine s_iconst E dX8_law_2 ?_
  refine s_callSi E (c_X8_in _ _ _ _ (by omega) (by omega) (by omega)) dX8_law_3 mf_X8_in ml_X8_63 rfl (Nat.le_of_ble_eq_true rfl) (Nat.le_of_ble_eq_true rfl) rfl (fun r3 M3 h3 => ?_)
  obtain ⟨e3, f3⟩ := h3; subst r3; subst M3
  refine s_ifeqB E 19 dX8_law_6 (by decide) (fun h6 => ?_) (fun h6 => ?_)
  · refine s_bipush E dX8_law_19 rfl ?_
    refine hret _ _ ?_ (fun q => by cases q) _ _ dX8_law_21
    exact ⟨by (repeat' split) <;> first | rfl | omega, by (repeat' split) <;> first | rfl | omega⟩
  · refine s_iload_n E dX8_law_9 rfl ?_
    refine s_iconst E dX8_law_10 ?_
    refine s_bipush E dX8_law_11 rfl ?_
    refine s_callSi E (c_X8_in _ _ _ _ (by omega) (by omega) (by omega)) dX8_law_13 mf_X8_in ml_X8_63 rfl (Nat.le_of_ble_eq_true rfl) (Nat.le_of_ble_eq_true rfl) rfl (fun r13 M13 h13 => ?_)
    obtain ⟨e13, f13⟩ := h13; subst r13; subst M13
    refine s_ifneB E 22 dX8_law_16 (by decide) (fun h16 => ?_) (fun h16 => ?_)
    · refine s_iload_n E dX8_law_22 rfl ?_
      refine s_if_ne E 33 dX8_law_23 (by decide) (by omega) (fun h23 => ?_) (fun h23 => ?_)
      · refine s_aload_n E dX8_law_33 rfl ?_
        refine s_getI (kf := 2) E 2 rfl dX8_law_34 rfl inb_X8 (Nat.le_of_ble_eq_true rfl) fl_X8_17 (by decide) sh79 rfl ?_
        refine s_istore_n (ls' := [_, _, _, _]) E dX8_law_37 (Nat.le_of_ble_eq_true rfl) rfl ?_
        refine s_aload_n E dX8_law_38 rfl ?_
        refine s_iload_n E dX8_law_39 rfl ?_
        refine s_if_ne E 47 dX8_law_40 (by decide) (by omega) (fun h40 => ?_) (fun h40 => ?_)
        · refine s_aload_n E dX8_law_47 rfl ?_
          refine s_getI (kf := 1) E 1 rfl dX8_law_48 rfl inb_X8 (Nat.le_of_ble_eq_true rfl) fl_X8_13 (by decide) sh79 rfl ?_
          refine s_putI (kf := 1) E 1 rfl dX8_law_51 rfl inb_X8 tyX8_ok nmX8 (Nat.le_of_ble_eq_true rfl) ⟨rfl, rfl⟩ fl_X8_13 (by decide) sh79 rfl ?_
          refine s_aload_n E dX8_law_54 rfl ?_
          refine s_iload_n E dX8_law_55 rfl ?_
          refine s_iconst E dX8_law_56 ?_
          refine s_icmp_ne E 64 dX8_law_57 (by decide) (by omega) (by omega) (fun h57 => ?_) (fun h57 => ?_)
          · refine s_aload_n E dX8_law_64 rfl ?_
            refine s_getI (kf := 2) E 2 rfl dX8_law_65 rfl inb_X8 (Nat.le_of_ble_eq_true rfl) fl_X8_17 (by decide) sh79 rfl ?_
            refine s_putI (kf := 2) E 2 rfl dX8_law_68 rfl inb_X8 tyX8_ok nmX8 (Nat.le_of_ble_eq_true rfl) ⟨rfl, rfl⟩ fl_X8_17 (by decide) sh79 rfl ?_
            refine s_iload_n E dX8_law_71 rfl ?_
            refine hret _ _ ?_ (fun q => by cases q) _ _ dX8_law_72
            obtain rfl : w = 1 := by omega
            refine ⟨?_, ?_⟩
            · rw [if_pos (by omega)]; rfl
            · rw [if_pos (by omega)]; first | (exfalso; omega) | simp [upm]
          · refine s_iload_n E dX8_law_60 rfl ?_
            refine s_goto E 68 dX8_law_61 (by decide) ?_
            refine s_putI (kf := 2) E 2 rfl dX8_law_68 rfl inb_X8 tyX8_ok nmX8 (Nat.le_of_ble_eq_true rfl) ⟨rfl, rfl⟩ fl_X8_17 (by decide) sh79 rfl ?_
            refine s_iload_n E dX8_law_71 rfl ?_
            refine hret _ _ ?_ (fun q => by cases q) _ _ dX8_law_72
            obtain rfl : w = 1 := by omega
            refine ⟨?_, ?_⟩
            · rw [if_pos (by omega)]; rfl
            · rw [if_pos (by omega)]; first | (exfalso; omega) | simp [upm]
        · refine s_iload_n E dX8_law_43 rfl ?_
          refine s_goto E 51 dX8_law_44 (by decide) ?_
          refine s_putI (kf := 1) E 1 rfl dX8_law_51 rfl inb_X8 tyX8_ok nmX8 (Nat.le_of_ble_eq_true rfl) ⟨rfl, rfl⟩ fl_X8_13 (by decide) sh79 rfl ?_
          refine s_aload_n E dX8_law_54 rfl ?_
          refine s_iload_n E dX8_law_55 rfl ?_
          refine s_iconst E dX8_law_56 ?_
          refine s_icmp_ne E 64 dX8_law_57 (by decide) (by omega) (by omega) (fun h57 => ?_) (fun h57 => ?_)
          · refine s_aload_n E dX8_law_64 rfl ?_
            refine s_getI (kf := 2) E 2 rfl dX8_law_65 rfl inb_X8 (Nat.le_of_ble_eq_true rfl) fl_X8_17 (by decide) sh79 rfl ?_
            refine s_putI (kf := 2) E 2 rfl dX8_law_68 rfl inb_X8 tyX8_ok nmX8 (Nat.le_of_ble_eq_true rfl) ⟨rfl, rfl⟩ fl_X8_17 (by decide) sh79 rfl ?_
            refine s_iload_n E dX8_law_71 rfl ?_
            refine hret _ _ ?_ (fun q => by cases q) _ _ dX8_law_72
            obtain rfl : w = 1 := by omega
            refine ⟨?_, ?_⟩
            · rw [if_pos (by omega)]; rfl
            · rw [if_pos (by omega)]; first | (exfalso; omega) | simp [upm]
          · refine s_iload_n E dX8_law_60 rfl ?_
            refine s_goto E 68 dX8_law_61 (by decide) ?_
            refine s_putI (kf := 2) E 2 rfl dX8_law_68 rfl inb_X8 tyX8_ok nmX8 (Nat.le_of_ble_eq_true rfl) ⟨rfl, rfl⟩ fl_X8_17 (by decide) sh79 rfl ?_
            refine s_iload_n E dX8_law_71 rfl ?_
            refine hret _ _ ?_ (fun q => by cases q) _ _ dX8_law_72
            obtain rfl : w = 1 := by omega
            refine ⟨?_, ?_⟩
            · rw [if_pos (by omega)]; rfl
            · rw [if_pos (by omega)]; first | (exfalso; omega) | simp [upm]
      · refine s_aload_n E dX8_law_26 rfl ?_
        refine s_getI (kf := 1) E 1 rfl dX8_law_27 rfl inb_X8 (Nat.le_of_ble_eq_true rfl) fl_X8_13 (by decide) sh79 rfl ?_
        refine s_goto E 37 dX8_law_30 (by decide) ?_
        refine s_istore_n (ls' := [_, _, _, _]) E dX8_law_37 (Nat.le_of_ble_eq_true rfl) rfl ?_
        refine s_aload_n E dX8_law_38 rfl ?_
        refine s_iload_n E dX8_law_39 rfl ?_
        refine s_if_ne E 47 dX8_law_40 (by decide) (by omega) (fun h40 => ?_) (fun h40 => ?_)
        · refine s_aload_n E dX8_law_47 rfl ?_
          refine s_getI (kf := 1) E 1 rfl dX8_law_48 rfl inb_X8 (Nat.le_of_ble_eq_true rfl) fl_X8_13 (by decide) sh79 rfl ?_
          refine s_putI (kf := 1) E 1 rfl dX8_law_51 rfl inb_X8 tyX8_ok nmX8 (Nat.le_of_ble_eq_true rfl) ⟨rfl, rfl⟩ fl_X8_13 (by decide) sh79 rfl ?_
          refine s_aload_n E dX8_law_54 rfl ?_
          refine s_iload_n E dX8_law_55 rfl ?_
          refine s_iconst E dX8_law_56 ?_
          refine s_icmp_ne E 64 dX8_law_57 (by decide) (by omega) (by omega) (fun h57 => ?_) (fun h57 => ?_)
          · refine s_aload_n E dX8_law_64 rfl ?_
            refine s_getI (kf := 2) E 2 rfl dX8_law_65 rfl inb_X8 (Nat.le_of_ble_eq_true rfl) fl_X8_17 (by decide) sh79 rfl ?_
            refine s_putI (kf := 2) E 2 rfl dX8_law_68 rfl inb_X8 tyX8_ok nmX8 (Nat.le_of_ble_eq_true rfl) ⟨rfl, rfl⟩ fl_X8_17 (by decide) sh79 rfl ?_
            refine s_iload_n E dX8_law_71 rfl ?_
            refine hret _ _ ?_ (fun q => by cases q) _ _ dX8_law_72
            obtain rfl : w = 0 := by omega
            refine ⟨?_, ?_⟩
            · rw [if_pos (by omega)]; rfl
            · rw [if_pos (by omega)]; first | (exfalso; omega) | simp [upm]
          · refine s_iload_n E dX8_law_60 rfl ?_
            refine s_goto E 68 dX8_law_61 (by decide) ?_
            refine s_putI (kf := 2) E 2 rfl dX8_law_68 rfl inb_X8 tyX8_ok nmX8 (Nat.le_of_ble_eq_true rfl) ⟨rfl, rfl⟩ fl_X8_17 (by decide) sh79 rfl ?_
            refine s_iload_n E dX8_law_71 rfl ?_
            refine hret _ _ ?_ (fun q => by cases q) _ _ dX8_law_72
            obtain rfl : w = 0 := by omega
            refine ⟨?_, ?_⟩
            · rw [if_pos (by omega)]; rfl
            · rw [if_pos (by omega)]; first | (exfalso; omega) | simp [upm]
        · refine s_iload_n E dX8_law_43 rfl ?_
          refine s_goto E 51 dX8_law_44 (by decide) ?_
          refine s_putI (kf := 1) E 1 rfl dX8_law_51 rfl inb_X8 tyX8_ok nmX8 (Nat.le_of_ble_eq_true rfl) ⟨rfl, rfl⟩ fl_X8_13 (by decide) sh79 rfl ?_
          refine s_aload_n E dX8_law_54 rfl ?_
          refine s_iload_n E dX8_law_55 rfl ?_
          refine s_iconst E dX8_law_56 ?_
          refine s_icmp_ne E 64 dX8_law_57 (by decide) (by omega) (by omega) (fun h57 => ?_) (fun h57 => ?_)
          · refine s_aload_n E dX8_law_64 rfl ?_
            refine s_getI (kf := 2) E 2 rfl dX8_law_65 rfl inb_X8 (Nat.le_of_ble_eq_true rfl) fl_X8_17 (by decide) sh79 rfl ?_
            refine s_putI (kf := 2) E 2 rfl dX8_law_68 rfl inb_X8 tyX8_ok nmX8 (Nat.le_of_ble_eq_true rfl) ⟨rfl, rfl⟩ fl_X8_17 (by decide) sh79 rfl ?_
            refine s_iload_n E dX8_law_71 rfl ?_
            refine hret _ _ ?_ (fun q => by cases q) _ _ dX8_law_72
            obtain rfl : w = 0 := by omega
            refine ⟨?_, ?_⟩
            · rw [if_pos (by omega)]; rfl
            · rw [if_pos (by omega)]; first | (exfalso; omega) | simp [upm]
          · refine s_iload_n E dX8_law_60 rfl ?_
            refine s_goto E 68 dX8_law_61 (by decide) ?_
            refine s_putI (kf := 2) E 2 rfl dX8_law_68 rfl inb_X8 tyX8_ok nmX8 (Nat.le_of_ble_eq_true rfl) ⟨rfl, rfl⟩ fl_X8_17 (by decide) sh79 rfl ?_
            refine s_iload_n E dX8_law_71 rfl ?_
            refine hret _ _ ?_ (fun q => by cases q) _ _ dX8_law_72
            obtain rfl : w = 0 := by omega
            refine ⟨?_, ?_⟩
            · rw [if_pos (by omega)]; rfl
            · rw [if_pos (by omega)]; first | (exfalso; omega) | simp [upm]
    · refine s_bipush E dX8_law_19 rfl ?_
      refine hret _ _ ?_ (fun q => by cases q) _ _ dX8_law_21
      exact ⟨by (repeat' split) <;> first | rfl | omega, by (repeat' split) <;> first | rfl | omega⟩

set_option maxRecDepth 100000 in
set_option maxHeartbeats 4000000 in
theorem c_X7_say (M : Mm) (s : Int) (hs : inI s) (hn : 0 ≤ M 20 1 ∧ M 20 1 ≤ 40) : CtI yX7_say cX7_say 2 .int 2 SH [rv 0, iv s] M (fun r M' => r = (if 33 ≤ s ∧ s ≤ 126 then (if M 20 1 < 40 then M 20 1 + 1 else -4) else -2) ∧ M' = (if 33 ≤ s ∧ s ≤ 126 then (if M 20 1 < 40 then upm (upm M 21 (M 20 1) s) 20 1 (M 20 1 + 1) else M) else M)) := by
  refine CtI.of rfl (Nat.le_of_ble_eq_true rfl) (Or.inl rfl) (fun v as E hret => ?_)
  show Ws v as SH 0 0 0 [some (rv 0), some (iv s)] [] M
  refine s_iload_n E dX7_say_0 rfl ?_
  refine s_bipush E dX7_say_1 rfl ?_
  refine s_icmp_lt E 12 dX7_say_3 (by decide) (by omega) (by omega) (fun h3 => ?_) (fun h3 => ?_)
  · refine s_bipush E dX7_say_12 rfl ?_
    refine hret _ _ ?_ (fun q => by cases q) _ _ dX7_say_14
    exact ⟨by (repeat' split) <;> first | rfl | omega, by (repeat' split) <;> first | rfl | omega⟩
  · refine s_iload_n E dX7_say_6 rfl ?_
    refine s_bipush E dX7_say_7 rfl ?_
    refine s_icmp_le E 15 dX7_say_9 (by decide) (by omega) (by omega) (fun h9 => ?_) (fun h9 => ?_)
    · refine s_aload_n E dX7_say_15 rfl ?_
      refine s_getR (kf := 3) E dX7_say_16 rfl inb_X7 (Nat.le_of_ble_eq_true rfl) fl_X7_27 (by decide) sh0 rfl ?_
      refine s_iload_n E dX7_say_19 rfl ?_
      refine s_callVi E (c_X5_add M s hn) dX7_say_20 mf_X5_add ml_X7_78 rfl (Nat.le_of_ble_eq_true rfl) (Nat.le_of_ble_eq_true rfl) (by decide) sh20 rfl rfl (fun r20 M20 h20 => ?_)
      obtain ⟨e20, f20⟩ := h20; subst r20; subst M20
      refine s_ifeqB E 36 dX7_say_23 (by decide) (fun h23 => ?_) (fun h23 => ?_)
      · rw [if_neg h23]
        refine s_bipush E dX7_say_36 rfl ?_
        refine hret _ _ ?_ (fun q => by cases q) _ _ dX7_say_38
        exact ⟨by (repeat' split) <;> first | rfl | omega, by (repeat' split) <;> first | rfl | omega⟩
      · rw [if_pos h23]
        refine s_aload_n E dX7_say_26 rfl ?_
        refine s_getR (kf := 3) E dX7_say_27 rfl inb_X7 (Nat.le_of_ble_eq_true rfl) fl_X7_27 (by decide) sh0 rfl ?_
        refine s_getI (kf := 1) E 1 rfl dX7_say_30 rfl inb_X5 (Nat.le_of_ble_eq_true rfl) fl_X7_81 (by decide) sh20 rfl ?_
        refine s_goto E 38 dX7_say_33 (by decide) ?_
        refine hret _ _ ?_ (fun q => by cases q) _ _ dX7_say_38
        refine ⟨?_, ?_⟩
        · rw [if_pos (by omega), if_pos (by omega), upm_eq]
        · rw [if_pos (by omega), if_pos (by omega)]
    · refine s_bipush E dX7_say_12 rfl ?_
      refine hret _ _ ?_ (fun q => by cases q) _ _ dX7_say_14
      exact ⟨by (repeat' split) <;> first | rfl | omega, by (repeat' split) <;> first | rfl | omega⟩

set_option maxRecDepth 100000 in
set_option maxHeartbeats 4000000 in
theorem c_X8_say (M : Mm) (s : Int) (hs : inI s) (hn : 0 ≤ M 79 3 ∧ M 79 3 ≤ 40) : CtI yX8_say cX8_say 2 .int 2 SH [rv 79, iv s] M (fun r M' => r = (if 33 ≤ s ∧ s ≤ 126 then (if M 79 3 < 40 then M 79 3 + 1 else -4) else -2) ∧ M' = (if 33 ≤ s ∧ s ≤ 126 then (if M 79 3 < 40 then upm (upm M 81 (M 79 3) s) 79 3 (M 79 3 + 1) else M) else M)) := by
  refine CtI.of rfl (Nat.le_of_ble_eq_true rfl) (Or.inl rfl) (fun v as E hret => ?_)
  show Ws v as SH 0 0 0 [some (rv 79), some (iv s)] [] M
  refine s_iload_n E dX8_say_0 rfl ?_
  refine s_bipush E dX8_say_1 rfl ?_
  refine s_bipush E dX8_say_3 rfl ?_
  refine s_callSi E (c_X8_in _ _ _ _ (by omega) (by omega) (by omega)) dX8_say_5 mf_X8_in ml_X8_63 rfl (Nat.le_of_ble_eq_true rfl) (Nat.le_of_ble_eq_true rfl) rfl (fun r5 M5 h5 => ?_)
  obtain ⟨e5, f5⟩ := h5; subst r5; subst M5
  refine s_ifneB E 14 dX8_say_8 (by decide) (fun h8 => ?_) (fun h8 => ?_)
  · refine s_aload_n E dX8_say_14 rfl ?_
    refine s_getI (kf := 3) E 3 rfl dX8_say_15 rfl inb_X8 (Nat.le_of_ble_eq_true rfl) fl_X8_75 (by decide) sh79 rfl ?_
    refine s_bipush E dX8_say_18 rfl ?_
    refine s_icmp_ne E 26 dX8_say_20 (by decide) (by omega) (by omega) (fun h20 => ?_) (fun h20 => ?_)
    · refine s_aload_n E dX8_say_26 rfl ?_
      refine s_getR (kf := 4) E dX8_say_27 rfl inb_X8 (Nat.le_of_ble_eq_true rfl) fl_X8_20 (by decide) sh79 rfl ?_
      refine s_aload_n E dX8_say_30 rfl ?_
      refine s_getI (kf := 3) E 3 rfl dX8_say_31 rfl inb_X8 (Nat.le_of_ble_eq_true rfl) fl_X8_75 (by decide) sh79 rfl ?_
      refine s_iload_n E dX8_say_34 rfl ?_
      refine s_iast E dX8_say_35 (by decide) sh81 (Nat.le_of_ble_eq_true rfl) (by omega) ?_
      refine s_aload_n E dX8_say_36 rfl ?_
      refine s_dup E dX8_say_37 ?_
      refine s_getI (kf := 3) E 3 rfl dX8_say_38 rfl inb_X8 (Nat.le_of_ble_eq_true rfl) fl_X8_75 (by decide) sh79 rfl ?_
      refine s_iconst E dX8_say_41 ?_
      refine s_iadd E dX8_say_42 ?_
      refine s_putI (kf := 3) E 3 rfl dX8_say_43 rfl inb_X8 tyX8_ok nmX8 (Nat.le_of_ble_eq_true rfl) ⟨rfl, rfl⟩ fl_X8_75 (by decide) sh79 rfl ?_
      refine s_aload_n E dX8_say_46 rfl ?_
      refine s_getI (kf := 3) E 3 rfl dX8_say_47 rfl inb_X8 (Nat.le_of_ble_eq_true rfl) fl_X8_75 (by decide) sh79 rfl ?_
      refine hret _ _ ?_ (fun q => by cases q) _ _ dX8_say_50
      refine ⟨?_, ?_⟩
      · rw [if_pos (by omega), if_pos (by omega)]; simp [upm]
      · rw [if_pos (by omega), if_pos (by omega)]; simp [upm]
    · refine s_bipush E dX8_say_23 rfl ?_
      refine hret _ _ ?_ (fun q => by cases q) _ _ dX8_say_25
      exact ⟨by (repeat' split) <;> first | rfl | omega, by (repeat' split) <;> first | rfl | omega⟩
  · refine s_bipush E dX8_say_11 rfl ?_
    refine hret _ _ ?_ (fun q => by cases q) _ _ dX8_say_13
    exact ⟨by (repeat' split) <;> first | rfl | omega, by (repeat' split) <;> first | rfl | omega⟩

set_option maxRecDepth 100000 in
set_option maxHeartbeats 4000000 in
theorem c_X7_wipe (M : Mm) : CtI yX7_wipe cX7_wipe 2 .int 1 SH [rv 0] M (fun r M' => r = M 20 1 ∧ M' = upm M 20 1 0) := by
  refine CtI.of rfl (Nat.le_of_ble_eq_true rfl) (Or.inl rfl) (fun v as E hret => ?_)
  show Ws v as SH 0 0 0 [some (rv 0), none] [] M
  refine s_aload_n E dX7_wipe_0 rfl ?_
  refine s_getR (kf := 3) E dX7_wipe_1 rfl inb_X7 (Nat.le_of_ble_eq_true rfl) fl_X7_27 (by decide) sh0 rfl ?_
  refine s_getI (kf := 1) E 1 rfl dX7_wipe_4 rfl inb_X5 (Nat.le_of_ble_eq_true rfl) fl_X7_81 (by decide) sh20 rfl ?_
  refine s_istore_n (ls' := [_, _]) E dX7_wipe_7 (Nat.le_of_ble_eq_true rfl) rfl ?_
  refine s_aload_n E dX7_wipe_8 rfl ?_
  refine s_getR (kf := 3) E dX7_wipe_9 rfl inb_X7 (Nat.le_of_ble_eq_true rfl) fl_X7_27 (by decide) sh0 rfl ?_
  refine s_iconst E dX7_wipe_12 ?_
  refine s_putI (kf := 1) E 1 rfl dX7_wipe_13 rfl inb_X5 tyX5_ok nmX5 (Nat.le_of_ble_eq_true rfl) ⟨rfl, rfl⟩ fl_X7_81 (by decide) sh20 rfl ?_
  refine s_iload_n E dX7_wipe_16 rfl ?_
  refine hret _ _ ?_ (fun q => by cases q) _ _ dX7_wipe_17
  exact ⟨rfl, rfl⟩

set_option maxRecDepth 100000 in
set_option maxHeartbeats 4000000 in
theorem c_X8_wipe (M : Mm) : CtI yX8_wipe cX8_wipe 2 .int 1 SH [rv 79] M (fun r M' => r = M 79 3 ∧ M' = upm M 79 3 0) := by
  refine CtI.of rfl (Nat.le_of_ble_eq_true rfl) (Or.inl rfl) (fun v as E hret => ?_)
  show Ws v as SH 0 0 0 [some (rv 79), none] [] M
  refine s_aload_n E dX8_wipe_0 rfl ?_
  refine s_getI (kf := 3) E 3 rfl dX8_wipe_1 rfl inb_X8 (Nat.le_of_ble_eq_true rfl) fl_X8_75 (by decide) sh79 rfl ?_
  refine s_istore_n (ls' := [_, _]) E dX8_wipe_4 (Nat.le_of_ble_eq_true rfl) rfl ?_
  refine s_aload_n E dX8_wipe_5 rfl ?_
  refine s_iconst E dX8_wipe_6 ?_
  refine s_putI (kf := 3) E 3 rfl dX8_wipe_7 rfl inb_X8 tyX8_ok nmX8 (Nat.le_of_ble_eq_true rfl) ⟨rfl, rfl⟩ fl_X8_75 (by decide) sh79 rfl ?_
  refine s_iload_n E dX8_wipe_10 rfl ?_
  refine hret _ _ ?_ (fun q => by cases q) _ _ dX8_wipe_11
  exact ⟨rfl, rfl⟩

set_option maxRecDepth 100000 in
set_option maxHeartbeats 4000000 in
theorem c_X7_fault (M : Mm) (w : Int) (hw : inI w) (hp : PadOK (M 21) (M 20 1)) : CtI yX7_fault cX7_fault 2 .int 6 SH [rv 0, iv w] M (fun r M' => r = (if w = 0 then sFault (M 21) (M 20 1) else if w = 1 then bFault (M 21) (M 20 1) else -2) ∧ M' = M) := by
  refine CtI.of rfl (Nat.le_of_ble_eq_true rfl) (Or.inl rfl) (fun v as E hret => ?_)
  show Ws v as SH 0 0 0 [some (rv 0), some (iv w)] [] M
  refine s_iload_n E dX7_fault_0 rfl ?_
  refine s_if_lt E 9 dX7_fault_1 (by decide) (by omega) (fun h1 => ?_) (fun h1 => ?_)
  · refine s_bipush E dX7_fault_9 rfl ?_
    refine hret _ _ ?_ (fun q => by cases q) _ _ dX7_fault_11
    exact ⟨by (repeat' split) <;> first | rfl | omega, rfl⟩
  · refine s_iload_n E dX7_fault_4 rfl ?_
    refine s_iconst E dX7_fault_5 ?_
    refine s_icmp_le E 12 dX7_fault_6 (by decide) (by omega) (by omega) (fun h6 => ?_) (fun h6 => ?_)
    · refine s_iload_n E dX7_fault_12 rfl ?_
      refine s_if_ne E 26 dX7_fault_13 (by decide) (by omega) (fun h13 => ?_) (fun h13 => ?_)
      · refine s_aload_n E dX7_fault_26 rfl ?_
        refine s_getR (kf := 3) E dX7_fault_27 rfl inb_X7 (Nat.le_of_ble_eq_true rfl) fl_X7_27 (by decide) sh0 rfl ?_
        refine s_callVi E (c_X5_bookFault _ hp) dX7_fault_30 mf_X5_bookFault ml_X7_88 rfl (Nat.le_of_ble_eq_true rfl) (Nat.le_of_ble_eq_true rfl) (by decide) sh20 rfl rfl (fun r30 M30 h30 => ?_)
        obtain ⟨e30, f30⟩ := h30; subst r30; subst M30
        refine hret _ _ ?_ (fun q => by cases q) _ _ dX7_fault_33
        exact ⟨by (repeat' split) <;> first | rfl | omega, rfl⟩
      · refine s_aload_n E dX7_fault_16 rfl ?_
        refine s_getR (kf := 3) E dX7_fault_17 rfl inb_X7 (Nat.le_of_ble_eq_true rfl) fl_X7_27 (by decide) sh0 rfl ?_
        refine s_callVi E (c_X5_sittingFault _ hp) dX7_fault_20 mf_X5_sittingFault ml_X7_84 rfl (Nat.le_of_ble_eq_true rfl) (Nat.le_of_ble_eq_true rfl) (by decide) sh20 rfl rfl (fun r20 M20 h20 => ?_)
        obtain ⟨e20, f20⟩ := h20; subst r20; subst M20
        refine s_goto E 33 dX7_fault_23 (by decide) ?_
        refine hret _ _ ?_ (fun q => by cases q) _ _ dX7_fault_33
        exact ⟨by (repeat' split) <;> first | rfl | omega, rfl⟩
    · refine s_bipush E dX7_fault_9 rfl ?_
      refine hret _ _ ?_ (fun q => by cases q) _ _ dX7_fault_11
      exact ⟨by (repeat' split) <;> first | rfl | omega, rfl⟩

set_option maxRecDepth 100000 in
set_option maxHeartbeats 4000000 in
theorem c_X8_fault (M : Mm) (w : Int) (hw : inI w) (hp : PadOK (M 81) (M 79 3)) : CtI yX8_fault cX8_fault 2 .int 6 SH [rv 79, iv w] M (fun r M' => r = (if w = 0 then sFault (M 81) (M 79 3) else if w = 1 then bFault (M 81) (M 79 3) else -2) ∧ M' = M) := by
  refine CtI.of rfl (Nat.le_of_ble_eq_true rfl) (Or.inl rfl) (fun v as E hret => ?_)
  show Ws v as SH 0 0 0 [some (rv 79), some (iv w)] [] M
  refine s_iload_n E dX8_fault_0 rfl ?_
  refine s_if_ne E 11 dX8_fault_1 (by decide) (by omega) (fun h1 => ?_) (fun h1 => ?_)
  · refine s_iload_n E dX8_fault_11 rfl ?_
    refine s_iconst E dX8_fault_12 ?_
    refine s_icmp_ne E 23 dX8_fault_13 (by decide) (by omega) (by omega) (fun h13 => ?_) (fun h13 => ?_)
    · refine s_bipush E dX8_fault_23 rfl ?_
      refine hret _ _ ?_ (fun q => by cases q) _ _ dX8_fault_25
      exact ⟨by (repeat' split) <;> first | rfl | omega, rfl⟩
    · refine s_aload_n E dX8_fault_16 rfl ?_
      refine s_callVi E (c_X8_bookFault _ hp) dX8_fault_17 mf_X8_bookFault ml_X8_88 rfl (Nat.le_of_ble_eq_true rfl) (Nat.le_of_ble_eq_true rfl) (by decide) sh79 rfl rfl (fun r17 M17 h17 => ?_)
      obtain ⟨e17, f17⟩ := h17; subst r17; subst M17
      refine s_goto E 25 dX8_fault_20 (by decide) ?_
      refine hret _ _ ?_ (fun q => by cases q) _ _ dX8_fault_25
      exact ⟨by (repeat' split) <;> first | rfl | omega, rfl⟩
  · refine s_aload_n E dX8_fault_4 rfl ?_
    refine s_callVi E (c_X8_sittingFault _ hp) dX8_fault_5 mf_X8_sittingFault ml_X8_84 rfl (Nat.le_of_ble_eq_true rfl) (Nat.le_of_ble_eq_true rfl) (by decide) sh79 rfl rfl (fun r5 M5 h5 => ?_)
    obtain ⟨e5, f5⟩ := h5; subst r5; subst M5
    refine s_goto E 25 dX8_fault_8 (by decide) ?_
    refine hret _ _ ?_ (fun q => by cases q) _ _ dX8_fault_25
    exact ⟨by (repeat' split) <;> first | rfl | omega, rfl⟩

set_option maxRecDepth 100000 in
set_option maxHeartbeats 4000000 in
theorem c_X4_add (M : Mm) (w z b : Int) (hc : (0 ≤ M 14 3 ∧ M 14 3 ≤ 8)) : CtI yX4_add cX4_add 4 .boolean 1 SH [rv 14, iv w, iv z, iv b] M (fun r M' => r = b2 (M 14 3 < 8) ∧ M' = if M 14 3 < 8 then upm (upm (upm (upm M 15 (M 14 3) w) 16 (M 14 3) z) 17 (M 14 3) b) 14 3 (M 14 3 + 1) else M) := by
  refine CtI.of rfl (Nat.le_of_ble_eq_true rfl) (Or.inr rfl) (fun v as E hret => ?_)
  show Ws v as SH 0 0 0 [some (rv 14), some (iv w), some (iv z), some (iv b)] [] M
  refine s_aload_n E dX4_add_0 rfl ?_
  refine s_getI (kf := 3) E 3 rfl dX4_add_1 rfl inb_X4 (Nat.le_of_ble_eq_true rfl) fl_X4_21 (by decide) sh14 rfl ?_
  refine s_if_lt E 16 dX4_add_4 (by decide) (by omega) (fun h4 => ?_) (fun h4 => ?_)
  · refine s_iconst E dX4_add_16 ?_
    refine hret _ _ ?_ (fun _ => Or.inl rfl) _ _ dX4_add_17
    exact ⟨(b2_neg (by omega)).symm, (if_neg (by omega)).symm⟩
  · refine s_aload_n E dX4_add_7 rfl ?_
    refine s_getI (kf := 3) E 3 rfl dX4_add_8 rfl inb_X4 (Nat.le_of_ble_eq_true rfl) fl_X4_21 (by decide) sh14 rfl ?_
    refine s_bipush E dX4_add_11 rfl ?_
    refine s_icmp_lt E 18 dX4_add_13 (by decide) (by omega) (by omega) (fun h13 => ?_) (fun h13 => ?_)
    · refine s_aload_n E dX4_add_18 rfl ?_
      refine s_getR (kf := 0) E dX4_add_19 rfl inb_X4 (Nat.le_of_ble_eq_true rfl) fl_X4_9 (by decide) sh14 rfl ?_
      refine s_aload_n E dX4_add_22 rfl ?_
      refine s_getI (kf := 3) E 3 rfl dX4_add_23 rfl inb_X4 (Nat.le_of_ble_eq_true rfl) fl_X4_21 (by decide) sh14 rfl ?_
      refine s_iload_n E dX4_add_26 rfl ?_
      refine s_iast E dX4_add_27 (by decide) sh15 (Nat.le_of_ble_eq_true rfl) (by omega) ?_
      refine s_aload_n E dX4_add_28 rfl ?_
      refine s_getR (kf := 1) E dX4_add_29 rfl inb_X4 (Nat.le_of_ble_eq_true rfl) fl_X4_15 (by decide) sh14 rfl ?_
      refine s_aload_n E dX4_add_32 rfl ?_
      refine s_getI (kf := 3) E 3 rfl dX4_add_33 rfl inb_X4 (Nat.le_of_ble_eq_true rfl) fl_X4_21 (by decide) sh14 rfl ?_
      simp only [upm_ne (Or.inl (show (14 : Int) ≠ 15 by decide))]
      refine s_iload_n E dX4_add_36 rfl ?_
      refine s_iast E dX4_add_37 (by decide) sh16 (Nat.le_of_ble_eq_true rfl) (by omega) ?_
      refine s_aload_n E dX4_add_38 rfl ?_
      refine s_getR (kf := 2) E dX4_add_39 rfl inb_X4 (Nat.le_of_ble_eq_true rfl) fl_X4_18 (by decide) sh14 rfl ?_
      refine s_aload_n E dX4_add_42 rfl ?_
      refine s_getI (kf := 3) E 3 rfl dX4_add_43 rfl inb_X4 (Nat.le_of_ble_eq_true rfl) fl_X4_21 (by decide) sh14 rfl ?_
      simp only [upm_ne (Or.inl (show (14 : Int) ≠ 15 by decide)), upm_ne (Or.inl (show (14 : Int) ≠ 16 by decide))]
      refine s_iload_n E dX4_add_46 rfl ?_
      refine s_iast E dX4_add_47 (by decide) sh17 (Nat.le_of_ble_eq_true rfl) (by omega) ?_
      refine s_aload_n E dX4_add_48 rfl ?_
      refine s_dup E dX4_add_49 ?_
      refine s_getI (kf := 3) E 3 rfl dX4_add_50 rfl inb_X4 (Nat.le_of_ble_eq_true rfl) fl_X4_21 (by decide) sh14 rfl ?_
      simp only [upm_ne (Or.inl (show (14 : Int) ≠ 15 by decide)), upm_ne (Or.inl (show (14 : Int) ≠ 16 by decide)), upm_ne (Or.inl (show (14 : Int) ≠ 17 by decide))]
      refine s_iconst E dX4_add_53 ?_
      refine s_iadd E dX4_add_54 ?_
      refine s_putI (kf := 3) E 3 rfl dX4_add_55 rfl inb_X4 tyX4_ok nmX4 (Nat.le_of_ble_eq_true rfl) ⟨rfl, rfl⟩ fl_X4_21 (by decide) sh14 rfl ?_
      refine s_iconst E dX4_add_58 ?_
      refine hret _ _ ?_ (fun _ => Or.inr rfl) _ _ dX4_add_59
      exact ⟨(b2_pos (by omega)).symm, (if_pos (by omega)).symm⟩
    · refine s_iconst E dX4_add_16 ?_
      refine hret _ _ ?_ (fun _ => Or.inl rfl) _ _ dX4_add_17
      exact ⟨(b2_neg (by omega)).symm, (if_neg (by omega)).symm⟩

set_option maxRecDepth 100000 in
set_option maxHeartbeats 4000000 in
theorem c_X7_matter (M : Mm) (w z b : Int) (hw : inI w) (hz : inI z) (hb : inI b) (hc : (0 ≤ M 14 3 ∧ M 14 3 ≤ 8)) : CtI yX7_matter cX7_matter 5 .int 2 SH [rv 0, iv w, iv z, iv b] M (fun r M' => r = (if 0 ≤ w ∧ w < 6 then (if 1 ≤ z ∧ z ≤ 60 ∧ 0 ≤ b ∧ b < iShl 1 (M 14 3) then (if (M 14 3) < 8 then (M 14 3) else -4) else -2) else -1) ∧ M' = (if 0 ≤ w ∧ w < 6 then (if 1 ≤ z ∧ z ≤ 60 ∧ 0 ≤ b ∧ b < iShl 1 (M 14 3) then (if (M 14 3) < 8 then upm (upm (upm (upm M 15 (M 14 3) w) 16 (M 14 3) z) 17 (M 14 3) b) 14 3 (M 14 3 + 1) else M) else M) else M)) := by
  refine CtI.of rfl (Nat.le_of_ble_eq_true rfl) (Or.inl rfl) (fun v as E hret => ?_)
  show Ws v as SH 0 0 0 [some (rv 0), some (iv w), some (iv z), some (iv b), none] [] M
  have hs := shl_rng hc
  refine s_aload_n E dX7_matter_0 rfl ?_
  refine s_getR (kf := 0) E dX7_matter_1 rfl inb_X7 (Nat.le_of_ble_eq_true rfl) fl_X7_10 (by decide) sh0 rfl ?_
  refine s_getR (kf := 2) E dX7_matter_4 rfl inb_X2 (Nat.le_of_ble_eq_true rfl) fl_X7_114 (by decide) sh1 rfl ?_
  refine s_astore (ls' := [_, _, _, _, _]) E dX7_matter_7 (Nat.le_of_ble_eq_true rfl) rfl ?_
  refine s_iload_n E dX7_matter_9 rfl ?_
  refine s_callSi E (c_X7_isOne _ _ (by omega)) dX7_matter_10 mf_X7_isOne ml_X7_59 rfl (Nat.le_of_ble_eq_true rfl) (Nat.le_of_ble_eq_true rfl) rfl (fun r10 M10 h10 => ?_)
  obtain ⟨e10, f10⟩ := h10; subst r10; subst M10
  refine s_ifneB E 18 dX7_matter_13 (by decide) (fun h13 => ?_) (fun h13 => ?_)
  · refine s_iload_n E dX7_matter_18 rfl ?_
    refine s_iconst E dX7_matter_19 ?_
    refine s_icmp_lt E 44 dX7_matter_20 (by decide) (by omega) (by omega) (fun h20 => ?_) (fun h20 => ?_)
    · refine s_bipush E dX7_matter_44 rfl ?_
      refine hret _ _ ?_ (fun q => by cases q) _ _ dX7_matter_46
      exact ⟨by (repeat' split) <;> first | rfl | omega, by (repeat' split) <;> first | rfl | omega⟩
    · refine s_iload_n E dX7_matter_23 rfl ?_
      refine s_bipush E dX7_matter_24 rfl ?_
      refine s_icmp_gt E 44 dX7_matter_26 (by decide) (by omega) (by omega) (fun h26 => ?_) (fun h26 => ?_)
      · refine s_bipush E dX7_matter_44 rfl ?_
        refine hret _ _ ?_ (fun q => by cases q) _ _ dX7_matter_46
        exact ⟨by (repeat' split) <;> first | rfl | omega, by (repeat' split) <;> first | rfl | omega⟩
      · refine s_iload_n E dX7_matter_29 rfl ?_
        refine s_if_lt E 44 dX7_matter_30 (by decide) (by omega) (fun h30 => ?_) (fun h30 => ?_)
        · refine s_bipush E dX7_matter_44 rfl ?_
          refine hret _ _ ?_ (fun q => by cases q) _ _ dX7_matter_46
          exact ⟨by (repeat' split) <;> first | rfl | omega, by (repeat' split) <;> first | rfl | omega⟩
        · refine s_iload_n E dX7_matter_33 rfl ?_
          refine s_iconst E dX7_matter_34 ?_
          refine s_aload E dX7_matter_35 rfl ?_
          refine s_getI (kf := 3) E 3 rfl dX7_matter_37 rfl inb_X4 (Nat.le_of_ble_eq_true rfl) fl_X7_118 (by decide) sh14 rfl ?_
          refine s_ishl E dX7_matter_40 ?_
          refine s_icmp_lt E 47 dX7_matter_41 (by decide) (by omega) (by omega) (fun h41 => ?_) (fun h41 => ?_)
          · refine s_aload E dX7_matter_47 rfl ?_
            refine s_iload_n E dX7_matter_49 rfl ?_
            refine s_iload_n E dX7_matter_50 rfl ?_
            refine s_iload_n E dX7_matter_51 rfl ?_
            refine s_callVi E (c_X4_add M w z b hc) dX7_matter_52 mf_X4_add ml_X7_121 rfl (Nat.le_of_ble_eq_true rfl) (Nat.le_of_ble_eq_true rfl) (by decide) sh14 rfl rfl (fun r52 M52 h52 => ?_)
            obtain ⟨e52, f52⟩ := h52; subst r52; subst M52
            refine s_ifeqB E 68 dX7_matter_55 (by decide) (fun h55 => ?_) (fun h55 => ?_)
            · rw [if_neg h55]
              refine s_bipush E dX7_matter_68 rfl ?_
              refine hret _ _ ?_ (fun q => by cases q) _ _ dX7_matter_70
              exact ⟨by (repeat' split) <;> first | rfl | omega, by (repeat' split) <;> first | rfl | omega⟩
            · rw [if_pos h55]
              refine s_aload E dX7_matter_58 rfl ?_
              refine s_getI (kf := 3) E 3 rfl dX7_matter_60 rfl inb_X4 (Nat.le_of_ble_eq_true rfl) fl_X7_118 (by decide) sh14 rfl ?_
              refine s_iconst E dX7_matter_63 ?_
              refine s_isub E dX7_matter_64 ?_
              refine s_goto E 70 dX7_matter_65 (by decide) ?_
              refine hret _ _ ?_ (fun q => by cases q) _ _ dX7_matter_70
              refine ⟨?_, ?_⟩
              · rw [if_pos (by omega), if_pos (by omega), if_pos (by omega), upm_eq]; omega
              · rw [if_pos (by omega), if_pos (by omega), if_pos (by omega)]
          · refine s_bipush E dX7_matter_44 rfl ?_
            refine hret _ _ ?_ (fun q => by cases q) _ _ dX7_matter_46
            exact ⟨by (repeat' split) <;> first | rfl | omega, by (repeat' split) <;> first | rfl | omega⟩
  · refine s_iconst E dX7_matter_16 ?_
    refine hret _ _ ?_ (fun q => by cases q) _ _ dX7_matter_17
    exact ⟨by (repeat' split) <;> first | rfl | omega, by (repeat' split) <;> first | rfl | omega⟩

set_option maxRecDepth 100000 in
set_option maxHeartbeats 4000000 in
theorem c_X8_matter (M : Mm) (w z b : Int) (hw : inI w) (hz : inI z) (hb : inI b) (hc : 0 ≤ M 79 5 ∧ M 79 5 ≤ 8) : CtI yX8_matter cX8_matter 4 .int 3 SH [rv 79, iv w, iv z, iv b] M (fun r M' => r = (if 0 ≤ w ∧ w < 6 then (if 1 ≤ z ∧ z ≤ 60 ∧ 0 ≤ b ∧ b < iShl 1 (M 79 5) then (if (M 79 5) < 8 then (M 79 5) else -4) else -2) else -1) ∧ M' = (if 0 ≤ w ∧ w < 6 then (if 1 ≤ z ∧ z ≤ 60 ∧ 0 ≤ b ∧ b < iShl 1 (M 79 5) then (if (M 79 5) < 8 then upm (upm (upm (upm M 82 (3 * M 79 5) w) 82 (3 * M 79 5 + 1) z) 82 (3 * M 79 5 + 2) b) 79 5 (M 79 5 + 1) else M) else M) else M)) := by
  refine CtI.of rfl (Nat.le_of_ble_eq_true rfl) (Or.inl rfl) (fun v as E hret => ?_)
  show Ws v as SH 0 0 0 [some (rv 79), some (iv w), some (iv z), some (iv b)] [] M
  have hs := shl_rng hc
  refine s_iload_n E dX8_matter_0 rfl ?_
  refine s_callSi E (c_X8_isOne _ _ (by omega)) dX8_matter_1 mf_X8_isOne ml_X8_67 rfl (Nat.le_of_ble_eq_true rfl) (Nat.le_of_ble_eq_true rfl) rfl (fun r1 M1 h1 => ?_)
  obtain ⟨e1, f1⟩ := h1; subst r1; subst M1
  refine s_ifneB E 9 dX8_matter_4 (by decide) (fun h4 => ?_) (fun h4 => ?_)
  · refine s_iload_n E dX8_matter_9 rfl ?_
    refine s_iconst E dX8_matter_10 ?_
    refine s_bipush E dX8_matter_11 rfl ?_
    refine s_callSi E (c_X8_in _ _ _ _ (by omega) (by omega) (by omega)) dX8_matter_13 mf_X8_in ml_X8_63 rfl (Nat.le_of_ble_eq_true rfl) (Nat.le_of_ble_eq_true rfl) rfl (fun r13 M13 h13 => ?_)
    obtain ⟨e13, f13⟩ := h13; subst r13; subst M13
    refine s_ifeqB E 35 dX8_matter_16 (by decide) (fun h16 => ?_) (fun h16 => ?_)
    · refine s_bipush E dX8_matter_35 rfl ?_
      refine hret _ _ ?_ (fun q => by cases q) _ _ dX8_matter_37
      exact ⟨by (repeat' split) <;> first | rfl | omega, by (repeat' split) <;> first | rfl | omega⟩
    · refine s_iload_n E dX8_matter_19 rfl ?_
      refine s_iconst E dX8_matter_20 ?_
      refine s_iconst E dX8_matter_21 ?_
      refine s_aload_n E dX8_matter_22 rfl ?_
      refine s_getI (kf := 5) E 5 rfl dX8_matter_23 rfl inb_X8 (Nat.le_of_ble_eq_true rfl) fl_X8_117 (by decide) sh79 rfl ?_
      refine s_ishl E dX8_matter_26 ?_
      refine s_iconst E dX8_matter_27 ?_
      refine s_isub E dX8_matter_28 ?_
      refine s_callSi E (c_X8_in _ _ _ _ (by omega) (by omega) (by omega)) dX8_matter_29 mf_X8_in ml_X8_63 rfl (Nat.le_of_ble_eq_true rfl) (Nat.le_of_ble_eq_true rfl) rfl (fun r29 M29 h29 => ?_)
      obtain ⟨e29, f29⟩ := h29; subst r29; subst M29
      refine s_ifneB E 38 dX8_matter_32 (by decide) (fun h32 => ?_) (fun h32 => ?_)
      · refine s_aload_n E dX8_matter_38 rfl ?_
        refine s_getI (kf := 5) E 5 rfl dX8_matter_39 rfl inb_X8 (Nat.le_of_ble_eq_true rfl) fl_X8_117 (by decide) sh79 rfl ?_
        refine s_bipush E dX8_matter_42 rfl ?_
        refine s_icmp_ne E 50 dX8_matter_44 (by decide) (by omega) (by omega) (fun h44 => ?_) (fun h44 => ?_)
        · refine s_aload_n E dX8_matter_50 rfl ?_
          refine s_getR (kf := 6) E dX8_matter_51 rfl inb_X8 (Nat.le_of_ble_eq_true rfl) fl_X8_23 (by decide) sh79 rfl ?_
          refine s_iconst E dX8_matter_54 ?_
          refine s_aload_n E dX8_matter_55 rfl ?_
          refine s_getI (kf := 5) E 5 rfl dX8_matter_56 rfl inb_X8 (Nat.le_of_ble_eq_true rfl) fl_X8_117 (by decide) sh79 rfl ?_
          refine s_imul E dX8_matter_59 ?_
          refine s_iload_n E dX8_matter_60 rfl ?_
          refine s_iast E dX8_matter_61 (by decide) sh82 (Nat.le_of_ble_eq_true rfl) (by omega) ?_
          refine s_aload_n E dX8_matter_62 rfl ?_
          refine s_getR (kf := 6) E dX8_matter_63 rfl inb_X8 (Nat.le_of_ble_eq_true rfl) fl_X8_23 (by decide) sh79 rfl ?_
          refine s_iconst E dX8_matter_66 ?_
          refine s_aload_n E dX8_matter_67 rfl ?_
          refine s_getI (kf := 5) E 5 rfl dX8_matter_68 rfl inb_X8 (Nat.le_of_ble_eq_true rfl) fl_X8_117 (by decide) sh79 rfl ?_
          simp only [upm_ne (Or.inl (show (79 : Int) ≠ 82 by decide))]
          refine s_imul E dX8_matter_71 ?_
          refine s_iconst E dX8_matter_72 ?_
          refine s_iadd E dX8_matter_73 ?_
          refine s_iload_n E dX8_matter_74 rfl ?_
          refine s_iast E dX8_matter_75 (by decide) sh82 (Nat.le_of_ble_eq_true rfl) (by omega) ?_
          refine s_aload_n E dX8_matter_76 rfl ?_
          refine s_getR (kf := 6) E dX8_matter_77 rfl inb_X8 (Nat.le_of_ble_eq_true rfl) fl_X8_23 (by decide) sh79 rfl ?_
          refine s_iconst E dX8_matter_80 ?_
          refine s_aload_n E dX8_matter_81 rfl ?_
          refine s_getI (kf := 5) E 5 rfl dX8_matter_82 rfl inb_X8 (Nat.le_of_ble_eq_true rfl) fl_X8_117 (by decide) sh79 rfl ?_
          simp only [upm_ne (Or.inl (show (79 : Int) ≠ 82 by decide))]
          refine s_imul E dX8_matter_85 ?_
          refine s_iconst E dX8_matter_86 ?_
          refine s_iadd E dX8_matter_87 ?_
          refine s_iload_n E dX8_matter_88 rfl ?_
          refine s_iast E dX8_matter_89 (by decide) sh82 (Nat.le_of_ble_eq_true rfl) (by omega) ?_
          refine s_aload_n E dX8_matter_90 rfl ?_
          refine s_dup E dX8_matter_91 ?_
          refine s_getI (kf := 5) E 5 rfl dX8_matter_92 rfl inb_X8 (Nat.le_of_ble_eq_true rfl) fl_X8_117 (by decide) sh79 rfl ?_
          simp only [upm_ne (Or.inl (show (79 : Int) ≠ 82 by decide))]
          refine s_iconst E dX8_matter_95 ?_
          refine s_iadd E dX8_matter_96 ?_
          refine s_putI (kf := 5) E 5 rfl dX8_matter_97 rfl inb_X8 tyX8_ok nmX8 (Nat.le_of_ble_eq_true rfl) ⟨rfl, rfl⟩ fl_X8_117 (by decide) sh79 rfl ?_
          refine s_aload_n E dX8_matter_100 rfl ?_
          refine s_getI (kf := 5) E 5 rfl dX8_matter_101 rfl inb_X8 (Nat.le_of_ble_eq_true rfl) fl_X8_117 (by decide) sh79 rfl ?_
          refine s_iconst E dX8_matter_104 ?_
          refine s_isub E dX8_matter_105 ?_
          refine hret _ _ ?_ (fun q => by cases q) _ _ dX8_matter_106
          refine ⟨?_, ?_⟩
          · rw [if_pos (by omega), if_pos (by omega), if_pos (by omega), upm_eq]; omega
          · rw [if_pos (by omega), if_pos (by omega), if_pos (by omega)]
        · refine s_bipush E dX8_matter_47 rfl ?_
          refine hret _ _ ?_ (fun q => by cases q) _ _ dX8_matter_49
          exact ⟨by (repeat' split) <;> first | rfl | omega, by (repeat' split) <;> first | rfl | omega⟩
      · refine s_bipush E dX8_matter_35 rfl ?_
        refine hret _ _ ?_ (fun q => by cases q) _ _ dX8_matter_37
        exact ⟨by (repeat' split) <;> first | rfl | omega, by (repeat' split) <;> first | rfl | omega⟩
  · refine s_iconst E dX8_matter_7 ?_
    refine hret _ _ ?_ (fun q => by cases q) _ _ dX8_matter_8
    exact ⟨by (repeat' split) <;> first | rfl | omega, by (repeat' split) <;> first | rfl | omega⟩

set_option maxRecDepth 100000 in
set_option maxHeartbeats 4000000 in
theorem c_X7_about (M : Mm) (k w : Int) (hk : inI k) (hw : inI w) (hc : (0 ≤ M 14 3 ∧ M 14 3 ≤ 8)) : CtI yX7_about cX7_about 4 .int 1 SH [rv 0, iv k, iv w] M (fun r M' => r = (if 0 ≤ k ∧ k < M 14 3 then (if w = 0 then M 15 k else if w = 1 then M 16 k else if w = 2 then M 17 k else -2) else -1) ∧ M' = M) := by
  refine CtI.of rfl (Nat.le_of_ble_eq_true rfl) (Or.inl rfl) (fun v as E hret => ?_)
  show Ws v as SH 0 0 0 [some (rv 0), some (iv k), some (iv w), none] [] M
  refine s_aload_n E dX7_about_0 rfl ?_
  refine s_getR (kf := 0) E dX7_about_1 rfl inb_X7 (Nat.le_of_ble_eq_true rfl) fl_X7_10 (by decide) sh0 rfl ?_
  refine s_getR (kf := 2) E dX7_about_4 rfl inb_X2 (Nat.le_of_ble_eq_true rfl) fl_X7_114 (by decide) sh1 rfl ?_
  refine s_astore_n (ls' := [_, _, _, _]) E dX7_about_7 (Nat.le_of_ble_eq_true rfl) rfl ?_
  refine s_iload_n E dX7_about_8 rfl ?_
  refine s_if_lt E 20 dX7_about_9 (by decide) (by omega) (fun h9 => ?_) (fun h9 => ?_)
  · refine s_iconst E dX7_about_20 ?_
    refine hret _ _ ?_ (fun q => by cases q) _ _ dX7_about_21
    exact ⟨by (repeat' split) <;> first | rfl | omega, rfl⟩
  · refine s_iload_n E dX7_about_12 rfl ?_
    refine s_aload_n E dX7_about_13 rfl ?_
    refine s_getI (kf := 3) E 3 rfl dX7_about_14 rfl inb_X4 (Nat.le_of_ble_eq_true rfl) fl_X7_118 (by decide) sh14 rfl ?_
    refine s_icmp_lt E 22 dX7_about_17 (by decide) (by omega) (by omega) (fun h17 => ?_) (fun h17 => ?_)
    · refine s_iload_n E dX7_about_22 rfl ?_
      refine s_tcase E (0) 48 dX7_about_23 (by decide) rfl (by decide) (fun h23_0 => ?_) (fun h23_0 => ?_)
      · refine s_aload_n E dX7_about_48 rfl ?_
        refine s_getR (kf := 0) E dX7_about_49 rfl inb_X4 (Nat.le_of_ble_eq_true rfl) fl_X7_124 (by decide) sh14 rfl ?_
        refine s_iload_n E dX7_about_52 rfl ?_
        refine s_iald E dX7_about_53 (by decide) sh15 (Nat.le_of_ble_eq_true rfl) (by omega) ?_
        refine hret _ _ ?_ (fun q => by cases q) _ _ dX7_about_54
        exact ⟨by (repeat' split) <;> first | rfl | omega, rfl⟩
      refine s_tcase E (1) 55 dX7_about_23 (by decide) rfl (by decide) (fun h23_1 => ?_) (fun h23_1 => ?_)
      · refine s_aload_n E dX7_about_55 rfl ?_
        refine s_getR (kf := 1) E dX7_about_56 rfl inb_X4 (Nat.le_of_ble_eq_true rfl) fl_X7_127 (by decide) sh14 rfl ?_
        refine s_iload_n E dX7_about_59 rfl ?_
        refine s_iald E dX7_about_60 (by decide) sh16 (Nat.le_of_ble_eq_true rfl) (by omega) ?_
        refine hret _ _ ?_ (fun q => by cases q) _ _ dX7_about_61
        exact ⟨by (repeat' split) <;> first | rfl | omega, rfl⟩
      refine s_tcase E (2) 62 dX7_about_23 (by decide) rfl (by decide) (fun h23_2 => ?_) (fun h23_2 => ?_)
      · refine s_aload_n E dX7_about_62 rfl ?_
        refine s_getR (kf := 2) E dX7_about_63 rfl inb_X4 (Nat.le_of_ble_eq_true rfl) fl_X7_129 (by decide) sh14 rfl ?_
        refine s_iload_n E dX7_about_66 rfl ?_
        refine s_iald E dX7_about_67 (by decide) sh17 (Nat.le_of_ble_eq_true rfl) (by omega) ?_
        refine hret _ _ ?_ (fun q => by cases q) _ _ dX7_about_68
        exact ⟨by (repeat' split) <;> first | rfl | omega, rfl⟩
      refine s_tout E 69 dX7_about_23 (by omega) (by omega) (by decide) ?_
      refine s_bipush E dX7_about_69 rfl ?_
      refine hret _ _ ?_ (fun q => by cases q) _ _ dX7_about_71
      exact ⟨by (repeat' split) <;> first | rfl | omega, rfl⟩
    · refine s_iconst E dX7_about_20 ?_
      refine hret _ _ ?_ (fun q => by cases q) _ _ dX7_about_21
      exact ⟨by (repeat' split) <;> first | rfl | omega, rfl⟩

set_option maxRecDepth 100000 in
set_option maxHeartbeats 4000000 in
theorem c_X8_about (M : Mm) (k w : Int) (hk : inI k) (hw : inI w) (hc : 0 ≤ M 79 5 ∧ M 79 5 ≤ 8) : CtI yX8_about cX8_about 3 .int 2 SH [rv 79, iv k, iv w] M (fun r M' => r = (if 0 ≤ k ∧ k < M 79 5 then (if w = 0 then M 82 (3 * k) else if w = 1 then M 82 (3 * k + 1) else if w = 2 then M 82 (3 * k + 2) else -2) else -1) ∧ M' = M) := by
  refine CtI.of rfl (Nat.le_of_ble_eq_true rfl) (Or.inl rfl) (fun v as E hret => ?_)
  show Ws v as SH 0 0 0 [some (rv 79), some (iv k), some (iv w)] [] M
  refine s_iload_n E dX8_about_0 rfl ?_
  refine s_iconst E dX8_about_1 ?_
  refine s_aload_n E dX8_about_2 rfl ?_
  refine s_getI (kf := 5) E 5 rfl dX8_about_3 rfl inb_X8 (Nat.le_of_ble_eq_true rfl) fl_X8_117 (by decide) sh79 rfl ?_
  refine s_iconst E dX8_about_6 ?_
  refine s_isub E dX8_about_7 ?_
  refine s_callSi E (c_X8_in _ _ _ _ (by omega) (by omega) (by omega)) dX8_about_8 mf_X8_in ml_X8_63 rfl (Nat.le_of_ble_eq_true rfl) (Nat.le_of_ble_eq_true rfl) rfl (fun r8 M8 h8 => ?_)
  obtain ⟨e8, f8⟩ := h8; subst r8; subst M8
  refine s_ifneB E 16 dX8_about_11 (by decide) (fun h11 => ?_) (fun h11 => ?_)
  · refine s_iload_n E dX8_about_16 rfl ?_
    refine s_iconst E dX8_about_17 ?_
    refine s_iconst E dX8_about_18 ?_
    refine s_callSi E (c_X8_in _ _ _ _ (by omega) (by omega) (by omega)) dX8_about_19 mf_X8_in ml_X8_63 rfl (Nat.le_of_ble_eq_true rfl) (Nat.le_of_ble_eq_true rfl) rfl (fun r19 M19 h19 => ?_)
    obtain ⟨e19, f19⟩ := h19; subst r19; subst M19
    refine s_ifeqB E 38 dX8_about_22 (by decide) (fun h22 => ?_) (fun h22 => ?_)
    · refine s_bipush E dX8_about_38 rfl ?_
      refine hret _ _ ?_ (fun q => by cases q) _ _ dX8_about_40
      exact ⟨by (repeat' split) <;> first | rfl | omega, rfl⟩
    · refine s_aload_n E dX8_about_25 rfl ?_
      refine s_getR (kf := 6) E dX8_about_26 rfl inb_X8 (Nat.le_of_ble_eq_true rfl) fl_X8_23 (by decide) sh79 rfl ?_
      refine s_iconst E dX8_about_29 ?_
      refine s_iload_n E dX8_about_30 rfl ?_
      refine s_imul E dX8_about_31 ?_
      refine s_iload_n E dX8_about_32 rfl ?_
      refine s_iadd E dX8_about_33 ?_
      refine s_iald E dX8_about_34 (by decide) sh82 (Nat.le_of_ble_eq_true rfl) (by omega) ?_
      refine s_goto E 40 dX8_about_35 (by decide) ?_
      refine hret _ _ ?_ (fun q => by cases q) _ _ dX8_about_40
      have e : w = 0 ∨ w = 1 ∨ w = 2 := by omega
      rcases e with rfl | rfl | rfl
      · exact ⟨by rw [if_pos (by omega)]; simp, rfl⟩
      · exact ⟨by rw [if_pos (by omega)]; simp, rfl⟩
      · exact ⟨by rw [if_pos (by omega)]; simp, rfl⟩
  · refine s_iconst E dX8_about_14 ?_
    refine hret _ _ ?_ (fun q => by cases q) _ _ dX8_about_15
    exact ⟨by (repeat' split) <;> first | rfl | omega, rfl⟩

set_option maxRecDepth 100000 in
set_option maxHeartbeats 4000000 in
theorem c_X7_clear (M : Mm) : CtI yX7_clear cX7_clear 2 .int 1 SH [rv 0] M (fun r M' => r = M 14 3 ∧ M' = upm M 14 3 0) := by
  refine CtI.of rfl (Nat.le_of_ble_eq_true rfl) (Or.inl rfl) (fun v as E hret => ?_)
  show Ws v as SH 0 0 0 [some (rv 0), none] [] M
  refine s_aload_n E dX7_clear_0 rfl ?_
  refine s_getR (kf := 0) E dX7_clear_1 rfl inb_X7 (Nat.le_of_ble_eq_true rfl) fl_X7_10 (by decide) sh0 rfl ?_
  refine s_getR (kf := 2) E dX7_clear_4 rfl inb_X2 (Nat.le_of_ble_eq_true rfl) fl_X7_114 (by decide) sh1 rfl ?_
  refine s_getI (kf := 3) E 3 rfl dX7_clear_7 rfl inb_X4 (Nat.le_of_ble_eq_true rfl) fl_X7_118 (by decide) sh14 rfl ?_
  refine s_istore_n (ls' := [_, _]) E dX7_clear_10 (Nat.le_of_ble_eq_true rfl) rfl ?_
  refine s_aload_n E dX7_clear_11 rfl ?_
  refine s_getR (kf := 0) E dX7_clear_12 rfl inb_X7 (Nat.le_of_ble_eq_true rfl) fl_X7_10 (by decide) sh0 rfl ?_
  refine s_getR (kf := 2) E dX7_clear_15 rfl inb_X2 (Nat.le_of_ble_eq_true rfl) fl_X7_114 (by decide) sh1 rfl ?_
  refine s_iconst E dX7_clear_18 ?_
  refine s_putI (kf := 3) E 3 rfl dX7_clear_19 rfl inb_X4 tyX4_ok nmX4 (Nat.le_of_ble_eq_true rfl) ⟨rfl, rfl⟩ fl_X7_118 (by decide) sh14 rfl ?_
  refine s_iload_n E dX7_clear_22 rfl ?_
  refine hret _ _ ?_ (fun q => by cases q) _ _ dX7_clear_23
  exact ⟨rfl, rfl⟩

set_option maxRecDepth 100000 in
set_option maxHeartbeats 4000000 in
theorem c_X8_clear (M : Mm) : CtI yX8_clear cX8_clear 2 .int 1 SH [rv 79] M (fun r M' => r = M 79 5 ∧ M' = upm M 79 5 0) := by
  refine CtI.of rfl (Nat.le_of_ble_eq_true rfl) (Or.inl rfl) (fun v as E hret => ?_)
  show Ws v as SH 0 0 0 [some (rv 79), none] [] M
  refine s_aload_n E dX8_clear_0 rfl ?_
  refine s_getI (kf := 5) E 5 rfl dX8_clear_1 rfl inb_X8 (Nat.le_of_ble_eq_true rfl) fl_X8_117 (by decide) sh79 rfl ?_
  refine s_istore_n (ls' := [_, _]) E dX8_clear_4 (Nat.le_of_ble_eq_true rfl) rfl ?_
  refine s_aload_n E dX8_clear_5 rfl ?_
  refine s_iconst E dX8_clear_6 ?_
  refine s_putI (kf := 5) E 5 rfl dX8_clear_7 rfl inb_X8 tyX8_ok nmX8 (Nat.le_of_ble_eq_true rfl) ⟨rfl, rfl⟩ fl_X8_117 (by decide) sh79 rfl ?_
  refine s_iload_n E dX8_clear_10 rfl ?_
  refine hret _ _ ?_ (fun q => by cases q) _ _ dX8_clear_11
  exact ⟨rfl, rfl⟩

set_option maxRecDepth 100000 in
set_option maxHeartbeats 4000000 in
theorem c_X7_lend (M : Mm) (a b z : Int) (ha : inI a) (hb : inI b) (hz : inI z) : CtI yX7_lend cX7_lend 5 .int 2 SH [rv 0, iv a, iv b, iv z] M (fun r M' => r = (if (0 ≤ a ∧ a < 6 ∧ 0 ≤ b ∧ b < 6 ∧ a ≠ b) then (if 0 ≤ z ∧ z ≤ 99 then M (8 + a) b else -2) else -1) ∧ M' = (if (0 ≤ a ∧ a < 6 ∧ 0 ≤ b ∧ b < 6 ∧ a ≠ b) then (if 0 ≤ z ∧ z ≤ 99 then upm M (8 + a) b z else M) else M)) := by
  refine CtI.of rfl (Nat.le_of_ble_eq_true rfl) (Or.inl rfl) (fun v as E hret => ?_)
  show Ws v as SH 0 0 0 [some (rv 0), some (iv a), some (iv b), some (iv z), none] [] M
  refine s_iload_n E dX7_lend_0 rfl ?_
  refine s_callSi E (c_X7_isOne _ _ (by omega)) dX7_lend_1 mf_X7_isOne ml_X7_59 rfl (Nat.le_of_ble_eq_true rfl) (Nat.le_of_ble_eq_true rfl) rfl (fun r1 M1 h1 => ?_)
  obtain ⟨e1, f1⟩ := h1; subst r1; subst M1
  refine s_ifeqB E 19 dX7_lend_4 (by decide) (fun h4 => ?_) (fun h4 => ?_)
  · refine s_iconst E dX7_lend_19 ?_
    refine hret _ _ ?_ (fun q => by cases q) _ _ dX7_lend_20
    exact ⟨by (repeat' split) <;> first | rfl | omega, by (repeat' split) <;> first | rfl | omega⟩
  · refine s_iload_n E dX7_lend_7 rfl ?_
    refine s_callSi E (c_X7_isOne _ _ (by omega)) dX7_lend_8 mf_X7_isOne ml_X7_59 rfl (Nat.le_of_ble_eq_true rfl) (Nat.le_of_ble_eq_true rfl) rfl (fun r8 M8 h8 => ?_)
    obtain ⟨e8, f8⟩ := h8; subst r8; subst M8
    refine s_ifeqB E 19 dX7_lend_11 (by decide) (fun h11 => ?_) (fun h11 => ?_)
    · refine s_iconst E dX7_lend_19 ?_
      refine hret _ _ ?_ (fun q => by cases q) _ _ dX7_lend_20
      exact ⟨by (repeat' split) <;> first | rfl | omega, by (repeat' split) <;> first | rfl | omega⟩
    · refine s_iload_n E dX7_lend_14 rfl ?_
      refine s_iload_n E dX7_lend_15 rfl ?_
      refine s_icmp_ne E 21 dX7_lend_16 (by decide) (by omega) (by omega) (fun h16 => ?_) (fun h16 => ?_)
      · refine s_iload_n E dX7_lend_21 rfl ?_
        refine s_if_lt E 31 dX7_lend_22 (by decide) (by omega) (fun h22 => ?_) (fun h22 => ?_)
        · refine s_bipush E dX7_lend_31 rfl ?_
          refine hret _ _ ?_ (fun q => by cases q) _ _ dX7_lend_33
          exact ⟨by (repeat' split) <;> first | rfl | omega, by (repeat' split) <;> first | rfl | omega⟩
        · refine s_iload_n E dX7_lend_25 rfl ?_
          refine s_bipush E dX7_lend_26 rfl ?_
          refine s_icmp_le E 34 dX7_lend_28 (by decide) (by omega) (by omega) (fun h28 => ?_) (fun h28 => ?_)
          · refine s_aload_n E dX7_lend_34 rfl ?_
            refine s_getR (kf := 0) E dX7_lend_35 rfl inb_X7 (Nat.le_of_ble_eq_true rfl) fl_X7_10 (by decide) sh0 rfl ?_
            refine s_getR (kf := 1) E dX7_lend_38 rfl inb_X2 (Nat.le_of_ble_eq_true rfl) fl_X7_173 (by decide) sh1 rfl ?_
            refine s_iload_n E dX7_lend_41 rfl ?_
            refine s_aaldR (r0 := 8) (n := 6) E dX7_lend_42 (by decide) sh7 (Nat.le_of_ble_eq_true rfl) (by omega) ?_
            refine s_iload_n E dX7_lend_43 rfl ?_
            refine s_iald E dX7_lend_44 (by omega) (shr7 (by omega)) (Nat.le_of_ble_eq_true rfl) (by omega) ?_
            refine s_istore (ls' := [_, _, _, _, _]) E dX7_lend_45 (Nat.le_of_ble_eq_true rfl) rfl ?_
            refine s_aload_n E dX7_lend_47 rfl ?_
            refine s_getR (kf := 0) E dX7_lend_48 rfl inb_X7 (Nat.le_of_ble_eq_true rfl) fl_X7_10 (by decide) sh0 rfl ?_
            refine s_getR (kf := 1) E dX7_lend_51 rfl inb_X2 (Nat.le_of_ble_eq_true rfl) fl_X7_173 (by decide) sh1 rfl ?_
            refine s_iload_n E dX7_lend_54 rfl ?_
            refine s_aaldR (r0 := 8) (n := 6) E dX7_lend_55 (by decide) sh7 (Nat.le_of_ble_eq_true rfl) (by omega) ?_
            refine s_iload_n E dX7_lend_56 rfl ?_
            refine s_iload_n E dX7_lend_57 rfl ?_
            refine s_iast E dX7_lend_58 (by omega) (shr7 (by omega)) (Nat.le_of_ble_eq_true rfl) (by omega) ?_
            refine s_iload E dX7_lend_59 rfl ?_
            refine hret _ _ ?_ (fun q => by cases q) _ _ dX7_lend_61
            exact ⟨by (repeat' split) <;> first | rfl | omega, by (repeat' split) <;> first | rfl | omega⟩
          · refine s_bipush E dX7_lend_31 rfl ?_
            refine hret _ _ ?_ (fun q => by cases q) _ _ dX7_lend_33
            exact ⟨by (repeat' split) <;> first | rfl | omega, by (repeat' split) <;> first | rfl | omega⟩
      · refine s_iconst E dX7_lend_19 ?_
        refine hret _ _ ?_ (fun q => by cases q) _ _ dX7_lend_20
        exact ⟨by (repeat' split) <;> first | rfl | omega, by (repeat' split) <;> first | rfl | omega⟩

set_option maxRecDepth 100000 in
set_option maxHeartbeats 4000000 in
theorem c_X8_lend (M : Mm) (a b z : Int) (ha : inI a) (hb : inI b) (hz : inI z) : CtI yX8_lend cX8_lend 5 .int 3 SH [rv 79, iv a, iv b, iv z] M (fun r M' => r = (if (0 ≤ a ∧ a < 6 ∧ 0 ≤ b ∧ b < 6 ∧ a ≠ b) then (if 0 ≤ z ∧ z ≤ 99 then M 83 (6 * a + b) else -2) else -1) ∧ M' = (if (0 ≤ a ∧ a < 6 ∧ 0 ≤ b ∧ b < 6 ∧ a ≠ b) then (if 0 ≤ z ∧ z ≤ 99 then upm M 83 (6 * a + b) z else M) else M)) := by
  refine CtI.of rfl (Nat.le_of_ble_eq_true rfl) (Or.inl rfl) (fun v as E hret => ?_)
  show Ws v as SH 0 0 0 [some (rv 79), some (iv a), some (iv b), some (iv z), none] [] M
  refine s_iload_n E dX8_lend_0 rfl ?_
  refine s_callSi E (c_X8_isOne _ _ (by omega)) dX8_lend_1 mf_X8_isOne ml_X8_67 rfl (Nat.le_of_ble_eq_true rfl) (Nat.le_of_ble_eq_true rfl) rfl (fun r1 M1 h1 => ?_)
  obtain ⟨e1, f1⟩ := h1; subst r1; subst M1
  refine s_ifeqB E 19 dX8_lend_4 (by decide) (fun h4 => ?_) (fun h4 => ?_)
  · refine s_iconst E dX8_lend_19 ?_
    refine hret _ _ ?_ (fun q => by cases q) _ _ dX8_lend_20
    exact ⟨by (repeat' split) <;> first | rfl | omega, by (repeat' split) <;> first | rfl | omega⟩
  · refine s_iload_n E dX8_lend_7 rfl ?_
    refine s_callSi E (c_X8_isOne _ _ (by omega)) dX8_lend_8 mf_X8_isOne ml_X8_67 rfl (Nat.le_of_ble_eq_true rfl) (Nat.le_of_ble_eq_true rfl) rfl (fun r8 M8 h8 => ?_)
    obtain ⟨e8, f8⟩ := h8; subst r8; subst M8
    refine s_ifeqB E 19 dX8_lend_11 (by decide) (fun h11 => ?_) (fun h11 => ?_)
    · refine s_iconst E dX8_lend_19 ?_
      refine hret _ _ ?_ (fun q => by cases q) _ _ dX8_lend_20
      exact ⟨by (repeat' split) <;> first | rfl | omega, by (repeat' split) <;> first | rfl | omega⟩
    · refine s_iload_n E dX8_lend_14 rfl ?_
      refine s_iload_n E dX8_lend_15 rfl ?_
      refine s_icmp_ne E 21 dX8_lend_16 (by decide) (by omega) (by omega) (fun h16 => ?_) (fun h16 => ?_)
      · refine s_iload_n E dX8_lend_21 rfl ?_
        refine s_iconst E dX8_lend_22 ?_
        refine s_bipush E dX8_lend_23 rfl ?_
        refine s_callSi E (c_X8_in _ _ _ _ (by omega) (by omega) (by omega)) dX8_lend_25 mf_X8_in ml_X8_63 rfl (Nat.le_of_ble_eq_true rfl) (Nat.le_of_ble_eq_true rfl) rfl (fun r25 M25 h25 => ?_)
        obtain ⟨e25, f25⟩ := h25; subst r25; subst M25
        refine s_ifneB E 34 dX8_lend_28 (by decide) (fun h28 => ?_) (fun h28 => ?_)
        · refine s_aload_n E dX8_lend_34 rfl ?_
          refine s_getR (kf := 7) E dX8_lend_35 rfl inb_X8 (Nat.le_of_ble_eq_true rfl) fl_X8_26 (by decide) sh79 rfl ?_
          refine s_bipush E dX8_lend_38 rfl ?_
          refine s_iload_n E dX8_lend_40 rfl ?_
          refine s_imul E dX8_lend_41 ?_
          refine s_iload_n E dX8_lend_42 rfl ?_
          refine s_iadd E dX8_lend_43 ?_
          refine s_iald E dX8_lend_44 (by decide) sh83 (Nat.le_of_ble_eq_true rfl) (by omega) ?_
          refine s_istore (ls' := [_, _, _, _, _]) E dX8_lend_45 (Nat.le_of_ble_eq_true rfl) rfl ?_
          refine s_aload_n E dX8_lend_47 rfl ?_
          refine s_getR (kf := 7) E dX8_lend_48 rfl inb_X8 (Nat.le_of_ble_eq_true rfl) fl_X8_26 (by decide) sh79 rfl ?_
          refine s_bipush E dX8_lend_51 rfl ?_
          refine s_iload_n E dX8_lend_53 rfl ?_
          refine s_imul E dX8_lend_54 ?_
          refine s_iload_n E dX8_lend_55 rfl ?_
          refine s_iadd E dX8_lend_56 ?_
          refine s_iload_n E dX8_lend_57 rfl ?_
          refine s_iast E dX8_lend_58 (by decide) sh83 (Nat.le_of_ble_eq_true rfl) (by omega) ?_
          refine s_iload E dX8_lend_59 rfl ?_
          refine hret _ _ ?_ (fun q => by cases q) _ _ dX8_lend_61
          exact ⟨by (repeat' split) <;> first | rfl | omega, by (repeat' split) <;> first | rfl | omega⟩
        · refine s_bipush E dX8_lend_31 rfl ?_
          refine hret _ _ ?_ (fun q => by cases q) _ _ dX8_lend_33
          exact ⟨by (repeat' split) <;> first | rfl | omega, by (repeat' split) <;> first | rfl | omega⟩
      · refine s_iconst E dX8_lend_19 ?_
        refine hret _ _ ?_ (fun q => by cases q) _ _ dX8_lend_20
        exact ⟨by (repeat' split) <;> first | rfl | omega, by (repeat' split) <;> first | rfl | omega⟩

set_option maxRecDepth 100000 in
set_option maxHeartbeats 4000000 in
theorem c_X7_told (M : Mm) (w : Int) (hw : inI w) : CtI yX7_told cX7_told 2 .int 2 SH [rv 0, iv w] M (fun r M' => r = (if 100 ≤ w ∧ w < 136 then M (8 + (w - 100) / 6) ((w - 100) % 6) else if 10 ≤ w ∧ w < 50 ∧ w % 10 < 6 then M (3 + (w / 10 - 1)) (w % 10) else if w = 0 then M 20 1 else if w = 1 then M 14 3 else if w = 2 then M 1 3 else if w = 3 then M 1 4 else -2) ∧ M' = M) := by
  refine CtI.of rfl (Nat.le_of_ble_eq_true rfl) (Or.inl rfl) (fun v as E hret => ?_)
  show Ws v as SH 0 0 0 [some (rv 0), some (iv w)] [] M
  refine s_iload_n E dX7_told_0 rfl ?_
  refine s_bipush E dX7_told_1 rfl ?_
  refine s_icmp_lt E 37 dX7_told_3 (by decide) (by omega) (by omega) (fun h3 => ?_) (fun h3 => ?_)
  · refine s_iload_n E dX7_told_37 rfl ?_
    refine s_bipush E dX7_told_38 rfl ?_
    refine s_icmp_lt E 79 dX7_told_40 (by decide) (by omega) (by omega) (fun h40 => ?_) (fun h40 => ?_)
    · refine s_iload_n E dX7_told_79 rfl ?_
      refine s_tcase E (0) 112 dX7_told_80 (by decide) rfl (by decide) (fun h80_0 => ?_) (fun h80_0 => ?_)
      · refine s_aload_n E dX7_told_112 rfl ?_
        refine s_getR (kf := 3) E dX7_told_113 rfl inb_X7 (Nat.le_of_ble_eq_true rfl) fl_X7_27 (by decide) sh0 rfl ?_
        refine s_getI (kf := 1) E 1 rfl dX7_told_116 rfl inb_X5 (Nat.le_of_ble_eq_true rfl) fl_X7_81 (by decide) sh20 rfl ?_
        refine hret _ _ ?_ (fun q => by cases q) _ _ dX7_told_119
        exact ⟨by (repeat' split) <;> first | rfl | omega, rfl⟩
      refine s_tcase E (1) 120 dX7_told_80 (by decide) rfl (by decide) (fun h80_1 => ?_) (fun h80_1 => ?_)
      · refine s_aload_n E dX7_told_120 rfl ?_
        refine s_getR (kf := 0) E dX7_told_121 rfl inb_X7 (Nat.le_of_ble_eq_true rfl) fl_X7_10 (by decide) sh0 rfl ?_
        refine s_getR (kf := 2) E dX7_told_124 rfl inb_X2 (Nat.le_of_ble_eq_true rfl) fl_X7_114 (by decide) sh1 rfl ?_
        refine s_getI (kf := 3) E 3 rfl dX7_told_127 rfl inb_X4 (Nat.le_of_ble_eq_true rfl) fl_X7_118 (by decide) sh14 rfl ?_
        refine hret _ _ ?_ (fun q => by cases q) _ _ dX7_told_130
        exact ⟨by (repeat' split) <;> first | rfl | omega, rfl⟩
      refine s_tcase E (2) 131 dX7_told_80 (by decide) rfl (by decide) (fun h80_2 => ?_) (fun h80_2 => ?_)
      · refine s_aload_n E dX7_told_131 rfl ?_
        refine s_getR (kf := 0) E dX7_told_132 rfl inb_X7 (Nat.le_of_ble_eq_true rfl) fl_X7_10 (by decide) sh0 rfl ?_
        refine s_getI (kf := 3) E 3 rfl dX7_told_135 rfl inb_X2 (Nat.le_of_ble_eq_true rfl) fl_X7_71 (by decide) sh1 rfl ?_
        refine hret _ _ ?_ (fun q => by cases q) _ _ dX7_told_138
        exact ⟨by (repeat' split) <;> first | rfl | omega, rfl⟩
      refine s_tcase E (3) 139 dX7_told_80 (by decide) rfl (by decide) (fun h80_3 => ?_) (fun h80_3 => ?_)
      · refine s_aload_n E dX7_told_139 rfl ?_
        refine s_getR (kf := 0) E dX7_told_140 rfl inb_X7 (Nat.le_of_ble_eq_true rfl) fl_X7_10 (by decide) sh0 rfl ?_
        refine s_getI (kf := 4) E 4 rfl dX7_told_143 rfl inb_X2 (Nat.le_of_ble_eq_true rfl) fl_X7_75 (by decide) sh1 rfl ?_
        refine hret _ _ ?_ (fun q => by cases q) _ _ dX7_told_146
        exact ⟨by (repeat' split) <;> first | rfl | omega, rfl⟩
      refine s_tout E 147 dX7_told_80 (by omega) (by omega) (by decide) ?_
      refine s_bipush E dX7_told_147 rfl ?_
      refine hret _ _ ?_ (fun q => by cases q) _ _ dX7_told_149
      exact ⟨by (repeat' split) <;> first | rfl | omega, rfl⟩
    · refine s_iload_n E dX7_told_43 rfl ?_
      refine s_bipush E dX7_told_44 rfl ?_
      refine s_icmp_ge E 79 dX7_told_46 (by decide) (by omega) (by omega) (fun h46 => ?_) (fun h46 => ?_)
      · refine s_iload_n E dX7_told_79 rfl ?_
        refine s_tcase E (0) 112 dX7_told_80 (by decide) rfl (by decide) (fun h80_0 => ?_) (fun h80_0 => ?_)
        · refine s_aload_n E dX7_told_112 rfl ?_
          refine s_getR (kf := 3) E dX7_told_113 rfl inb_X7 (Nat.le_of_ble_eq_true rfl) fl_X7_27 (by decide) sh0 rfl ?_
          refine s_getI (kf := 1) E 1 rfl dX7_told_116 rfl inb_X5 (Nat.le_of_ble_eq_true rfl) fl_X7_81 (by decide) sh20 rfl ?_
          refine hret _ _ ?_ (fun q => by cases q) _ _ dX7_told_119
          exact ⟨by (repeat' split) <;> first | rfl | omega, rfl⟩
        refine s_tcase E (1) 120 dX7_told_80 (by decide) rfl (by decide) (fun h80_1 => ?_) (fun h80_1 => ?_)
        · refine s_aload_n E dX7_told_120 rfl ?_
          refine s_getR (kf := 0) E dX7_told_121 rfl inb_X7 (Nat.le_of_ble_eq_true rfl) fl_X7_10 (by decide) sh0 rfl ?_
          refine s_getR (kf := 2) E dX7_told_124 rfl inb_X2 (Nat.le_of_ble_eq_true rfl) fl_X7_114 (by decide) sh1 rfl ?_
          refine s_getI (kf := 3) E 3 rfl dX7_told_127 rfl inb_X4 (Nat.le_of_ble_eq_true rfl) fl_X7_118 (by decide) sh14 rfl ?_
          refine hret _ _ ?_ (fun q => by cases q) _ _ dX7_told_130
          exact ⟨by (repeat' split) <;> first | rfl | omega, rfl⟩
        refine s_tcase E (2) 131 dX7_told_80 (by decide) rfl (by decide) (fun h80_2 => ?_) (fun h80_2 => ?_)
        · refine s_aload_n E dX7_told_131 rfl ?_
          refine s_getR (kf := 0) E dX7_told_132 rfl inb_X7 (Nat.le_of_ble_eq_true rfl) fl_X7_10 (by decide) sh0 rfl ?_
          refine s_getI (kf := 3) E 3 rfl dX7_told_135 rfl inb_X2 (Nat.le_of_ble_eq_true rfl) fl_X7_71 (by decide) sh1 rfl ?_
          refine hret _ _ ?_ (fun q => by cases q) _ _ dX7_told_138
          exact ⟨by (repeat' split) <;> first | rfl | omega, rfl⟩
        refine s_tcase E (3) 139 dX7_told_80 (by decide) rfl (by decide) (fun h80_3 => ?_) (fun h80_3 => ?_)
        · refine s_aload_n E dX7_told_139 rfl ?_
          refine s_getR (kf := 0) E dX7_told_140 rfl inb_X7 (Nat.le_of_ble_eq_true rfl) fl_X7_10 (by decide) sh0 rfl ?_
          refine s_getI (kf := 4) E 4 rfl dX7_told_143 rfl inb_X2 (Nat.le_of_ble_eq_true rfl) fl_X7_75 (by decide) sh1 rfl ?_
          refine hret _ _ ?_ (fun q => by cases q) _ _ dX7_told_146
          exact ⟨by (repeat' split) <;> first | rfl | omega, rfl⟩
        refine s_tout E 147 dX7_told_80 (by omega) (by omega) (by decide) ?_
        refine s_bipush E dX7_told_147 rfl ?_
        refine hret _ _ ?_ (fun q => by cases q) _ _ dX7_told_149
        exact ⟨by (repeat' split) <;> first | rfl | omega, rfl⟩
      · refine s_iload_n E dX7_told_49 rfl ?_
        refine s_bipush E dX7_told_50 rfl ?_
        refine s_irem E dX7_told_52 (by omega) (by omega) ?_
        refine s_callSi E (c_X7_isOne _ _ (by omega)) dX7_told_53 mf_X7_isOne ml_X7_59 rfl (Nat.le_of_ble_eq_true rfl) (Nat.le_of_ble_eq_true rfl) rfl (fun r53 M53 h53 => ?_)
        obtain ⟨e53, f53⟩ := h53; subst r53; subst M53
        refine s_ifeqB E 79 dX7_told_56 (by decide) (fun h56 => ?_) (fun h56 => ?_)
        · refine s_iload_n E dX7_told_79 rfl ?_
          refine s_tcase E (0) 112 dX7_told_80 (by decide) rfl (by decide) (fun h80_0 => ?_) (fun h80_0 => ?_)
          · refine s_aload_n E dX7_told_112 rfl ?_
            refine s_getR (kf := 3) E dX7_told_113 rfl inb_X7 (Nat.le_of_ble_eq_true rfl) fl_X7_27 (by decide) sh0 rfl ?_
            refine s_getI (kf := 1) E 1 rfl dX7_told_116 rfl inb_X5 (Nat.le_of_ble_eq_true rfl) fl_X7_81 (by decide) sh20 rfl ?_
            refine hret _ _ ?_ (fun q => by cases q) _ _ dX7_told_119
            exact ⟨by (repeat' split) <;> first | rfl | omega, rfl⟩
          refine s_tcase E (1) 120 dX7_told_80 (by decide) rfl (by decide) (fun h80_1 => ?_) (fun h80_1 => ?_)
          · refine s_aload_n E dX7_told_120 rfl ?_
            refine s_getR (kf := 0) E dX7_told_121 rfl inb_X7 (Nat.le_of_ble_eq_true rfl) fl_X7_10 (by decide) sh0 rfl ?_
            refine s_getR (kf := 2) E dX7_told_124 rfl inb_X2 (Nat.le_of_ble_eq_true rfl) fl_X7_114 (by decide) sh1 rfl ?_
            refine s_getI (kf := 3) E 3 rfl dX7_told_127 rfl inb_X4 (Nat.le_of_ble_eq_true rfl) fl_X7_118 (by decide) sh14 rfl ?_
            refine hret _ _ ?_ (fun q => by cases q) _ _ dX7_told_130
            exact ⟨by (repeat' split) <;> first | rfl | omega, rfl⟩
          refine s_tcase E (2) 131 dX7_told_80 (by decide) rfl (by decide) (fun h80_2 => ?_) (fun h80_2 => ?_)
          · refine s_aload_n E dX7_told_131 rfl ?_
            refine s_getR (kf := 0) E dX7_told_132 rfl inb_X7 (Nat.le_of_ble_eq_true rfl) fl_X7_10 (by decide) sh0 rfl ?_
            refine s_getI (kf := 3) E 3 rfl dX7_told_135 rfl inb_X2 (Nat.le_of_ble_eq_true rfl) fl_X7_71 (by decide) sh1 rfl ?_
            refine hret _ _ ?_ (fun q => by cases q) _ _ dX7_told_138
            exact ⟨by (repeat' split) <;> first | rfl | omega, rfl⟩
          refine s_tcase E (3) 139 dX7_told_80 (by decide) rfl (by decide) (fun h80_3 => ?_) (fun h80_3 => ?_)
          · refine s_aload_n E dX7_told_139 rfl ?_
            refine s_getR (kf := 0) E dX7_told_140 rfl inb_X7 (Nat.le_of_ble_eq_true rfl) fl_X7_10 (by decide) sh0 rfl ?_
            refine s_getI (kf := 4) E 4 rfl dX7_told_143 rfl inb_X2 (Nat.le_of_ble_eq_true rfl) fl_X7_75 (by decide) sh1 rfl ?_
            refine hret _ _ ?_ (fun q => by cases q) _ _ dX7_told_146
            exact ⟨by (repeat' split) <;> first | rfl | omega, rfl⟩
          refine s_tout E 147 dX7_told_80 (by omega) (by omega) (by decide) ?_
          refine s_bipush E dX7_told_147 rfl ?_
          refine hret _ _ ?_ (fun q => by cases q) _ _ dX7_told_149
          exact ⟨by (repeat' split) <;> first | rfl | omega, rfl⟩
        · refine s_aload_n E dX7_told_59 rfl ?_
          refine s_getR (kf := 0) E dX7_told_60 rfl inb_X7 (Nat.le_of_ble_eq_true rfl) fl_X7_10 (by decide) sh0 rfl ?_
          refine s_getR (kf := 0) E dX7_told_63 rfl inb_X2 (Nat.le_of_ble_eq_true rfl) fl_X7_67 (by decide) sh1 rfl ?_
          refine s_iload_n E dX7_told_66 rfl ?_
          refine s_bipush E dX7_told_67 rfl ?_
          refine s_idiv E dX7_told_69 (by omega) (by omega) ?_
          refine s_iconst E dX7_told_70 ?_
          refine s_isub E dX7_told_71 ?_
          refine s_aaldR (r0 := 3) (n := 4) E dX7_told_72 (by decide) sh2 (Nat.le_of_ble_eq_true rfl) (by omega) ?_
          refine s_iload_n E dX7_told_73 rfl ?_
          refine s_bipush E dX7_told_74 rfl ?_
          refine s_irem E dX7_told_76 (by omega) (by omega) ?_
          refine s_iald E dX7_told_77 (by omega) (shr2 (by omega)) (Nat.le_of_ble_eq_true rfl) (by omega) ?_
          refine hret _ _ ?_ (fun q => by cases q) _ _ dX7_told_78
          exact ⟨by (repeat' split) <;> first | rfl | omega, rfl⟩
  · refine s_iload_n E dX7_told_6 rfl ?_
    refine s_sipush E dX7_told_7 rfl ?_
    refine s_icmp_ge E 37 dX7_told_10 (by decide) (by omega) (by omega) (fun h10 => ?_) (fun h10 => ?_)
    · refine s_iload_n E dX7_told_37 rfl ?_
      refine s_bipush E dX7_told_38 rfl ?_
      refine s_icmp_lt E 79 dX7_told_40 (by decide) (by omega) (by omega) (fun h40 => ?_) (fun h40 => ?_)
      · refine s_iload_n E dX7_told_79 rfl ?_
        refine s_tcase E (0) 112 dX7_told_80 (by decide) rfl (by decide) (fun h80_0 => ?_) (fun h80_0 => ?_)
        · refine s_aload_n E dX7_told_112 rfl ?_
          refine s_getR (kf := 3) E dX7_told_113 rfl inb_X7 (Nat.le_of_ble_eq_true rfl) fl_X7_27 (by decide) sh0 rfl ?_
          refine s_getI (kf := 1) E 1 rfl dX7_told_116 rfl inb_X5 (Nat.le_of_ble_eq_true rfl) fl_X7_81 (by decide) sh20 rfl ?_
          refine hret _ _ ?_ (fun q => by cases q) _ _ dX7_told_119
          exact ⟨by (repeat' split) <;> first | rfl | omega, rfl⟩
        refine s_tcase E (1) 120 dX7_told_80 (by decide) rfl (by decide) (fun h80_1 => ?_) (fun h80_1 => ?_)
        · refine s_aload_n E dX7_told_120 rfl ?_
          refine s_getR (kf := 0) E dX7_told_121 rfl inb_X7 (Nat.le_of_ble_eq_true rfl) fl_X7_10 (by decide) sh0 rfl ?_
          refine s_getR (kf := 2) E dX7_told_124 rfl inb_X2 (Nat.le_of_ble_eq_true rfl) fl_X7_114 (by decide) sh1 rfl ?_
          refine s_getI (kf := 3) E 3 rfl dX7_told_127 rfl inb_X4 (Nat.le_of_ble_eq_true rfl) fl_X7_118 (by decide) sh14 rfl ?_
          refine hret _ _ ?_ (fun q => by cases q) _ _ dX7_told_130
          exact ⟨by (repeat' split) <;> first | rfl | omega, rfl⟩
        refine s_tcase E (2) 131 dX7_told_80 (by decide) rfl (by decide) (fun h80_2 => ?_) (fun h80_2 => ?_)
        · refine s_aload_n E dX7_told_131 rfl ?_
          refine s_getR (kf := 0) E dX7_told_132 rfl inb_X7 (Nat.le_of_ble_eq_true rfl) fl_X7_10 (by decide) sh0 rfl ?_
          refine s_getI (kf := 3) E 3 rfl dX7_told_135 rfl inb_X2 (Nat.le_of_ble_eq_true rfl) fl_X7_71 (by decide) sh1 rfl ?_
          refine hret _ _ ?_ (fun q => by cases q) _ _ dX7_told_138
          exact ⟨by (repeat' split) <;> first | rfl | omega, rfl⟩
        refine s_tcase E (3) 139 dX7_told_80 (by decide) rfl (by decide) (fun h80_3 => ?_) (fun h80_3 => ?_)
        · refine s_aload_n E dX7_told_139 rfl ?_
          refine s_getR (kf := 0) E dX7_told_140 rfl inb_X7 (Nat.le_of_ble_eq_true rfl) fl_X7_10 (by decide) sh0 rfl ?_
          refine s_getI (kf := 4) E 4 rfl dX7_told_143 rfl inb_X2 (Nat.le_of_ble_eq_true rfl) fl_X7_75 (by decide) sh1 rfl ?_
          refine hret _ _ ?_ (fun q => by cases q) _ _ dX7_told_146
          exact ⟨by (repeat' split) <;> first | rfl | omega, rfl⟩
        refine s_tout E 147 dX7_told_80 (by omega) (by omega) (by decide) ?_
        refine s_bipush E dX7_told_147 rfl ?_
        refine hret _ _ ?_ (fun q => by cases q) _ _ dX7_told_149
        exact ⟨by (repeat' split) <;> first | rfl | omega, rfl⟩
      · refine s_iload_n E dX7_told_43 rfl ?_
        refine s_bipush E dX7_told_44 rfl ?_
        refine s_icmp_ge E 79 dX7_told_46 (by decide) (by omega) (by omega) (fun h46 => ?_) (fun h46 => ?_)
        · refine s_iload_n E dX7_told_79 rfl ?_
          refine s_tcase E (0) 112 dX7_told_80 (by decide) rfl (by decide) (fun h80_0 => ?_) (fun h80_0 => ?_)
          · refine s_aload_n E dX7_told_112 rfl ?_
            refine s_getR (kf := 3) E dX7_told_113 rfl inb_X7 (Nat.le_of_ble_eq_true rfl) fl_X7_27 (by decide) sh0 rfl ?_
            refine s_getI (kf := 1) E 1 rfl dX7_told_116 rfl inb_X5 (Nat.le_of_ble_eq_true rfl) fl_X7_81 (by decide) sh20 rfl ?_
            refine hret _ _ ?_ (fun q => by cases q) _ _ dX7_told_119
            exact ⟨by (repeat' split) <;> first | rfl | omega, rfl⟩
          refine s_tcase E (1) 120 dX7_told_80 (by decide) rfl (by decide) (fun h80_1 => ?_) (fun h80_1 => ?_)
          · refine s_aload_n E dX7_told_120 rfl ?_
            refine s_getR (kf := 0) E dX7_told_121 rfl inb_X7 (Nat.le_of_ble_eq_true rfl) fl_X7_10 (by decide) sh0 rfl ?_
            refine s_getR (kf := 2) E dX7_told_124 rfl inb_X2 (Nat.le_of_ble_eq_true rfl) fl_X7_114 (by decide) sh1 rfl ?_
            refine s_getI (kf := 3) E 3 rfl dX7_told_127 rfl inb_X4 (Nat.le_of_ble_eq_true rfl) fl_X7_118 (by decide) sh14 rfl ?_
            refine hret _ _ ?_ (fun q => by cases q) _ _ dX7_told_130
            exact ⟨by (repeat' split) <;> first | rfl | omega, rfl⟩
          refine s_tcase E (2) 131 dX7_told_80 (by decide) rfl (by decide) (fun h80_2 => ?_) (fun h80_2 => ?_)
          · refine s_aload_n E dX7_told_131 rfl ?_
            refine s_getR (kf := 0) E dX7_told_132 rfl inb_X7 (Nat.le_of_ble_eq_true rfl) fl_X7_10 (by decide) sh0 rfl ?_
            refine s_getI (kf := 3) E 3 rfl dX7_told_135 rfl inb_X2 (Nat.le_of_ble_eq_true rfl) fl_X7_71 (by decide) sh1 rfl ?_
            refine hret _ _ ?_ (fun q => by cases q) _ _ dX7_told_138
            exact ⟨by (repeat' split) <;> first | rfl | omega, rfl⟩
          refine s_tcase E (3) 139 dX7_told_80 (by decide) rfl (by decide) (fun h80_3 => ?_) (fun h80_3 => ?_)
          · refine s_aload_n E dX7_told_139 rfl ?_
            refine s_getR (kf := 0) E dX7_told_140 rfl inb_X7 (Nat.le_of_ble_eq_true rfl) fl_X7_10 (by decide) sh0 rfl ?_
            refine s_getI (kf := 4) E 4 rfl dX7_told_143 rfl inb_X2 (Nat.le_of_ble_eq_true rfl) fl_X7_75 (by decide) sh1 rfl ?_
            refine hret _ _ ?_ (fun q => by cases q) _ _ dX7_told_146
            exact ⟨by (repeat' split) <;> first | rfl | omega, rfl⟩
          refine s_tout E 147 dX7_told_80 (by omega) (by omega) (by decide) ?_
          refine s_bipush E dX7_told_147 rfl ?_
          refine hret _ _ ?_ (fun q => by cases q) _ _ dX7_told_149
          exact ⟨by (repeat' split) <;> first | rfl | omega, rfl⟩
        · refine s_iload_n E dX7_told_49 rfl ?_
          refine s_bipush E dX7_told_50 rfl ?_
          refine s_irem E dX7_told_52 (by omega) (by omega) ?_
          refine s_callSi E (c_X7_isOne _ _ (by omega)) dX7_told_53 mf_X7_isOne ml_X7_59 rfl (Nat.le_of_ble_eq_true rfl) (Nat.le_of_ble_eq_true rfl) rfl (fun r53 M53 h53 => ?_)
          obtain ⟨e53, f53⟩ := h53; subst r53; subst M53
          refine s_ifeqB E 79 dX7_told_56 (by decide) (fun h56 => ?_) (fun h56 => ?_)
          · refine s_iload_n E dX7_told_79 rfl ?_
            refine s_tcase E (0) 112 dX7_told_80 (by decide) rfl (by decide) (fun h80_0 => ?_) (fun h80_0 => ?_)
            · refine s_aload_n E dX7_told_112 rfl ?_
              refine s_getR (kf := 3) E dX7_told_113 rfl inb_X7 (Nat.le_of_ble_eq_true rfl) fl_X7_27 (by decide) sh0 rfl ?_
              refine s_getI (kf := 1) E 1 rfl dX7_told_116 rfl inb_X5 (Nat.le_of_ble_eq_true rfl) fl_X7_81 (by decide) sh20 rfl ?_
              refine hret _ _ ?_ (fun q => by cases q) _ _ dX7_told_119
              exact ⟨by (repeat' split) <;> first | rfl | omega, rfl⟩
            refine s_tcase E (1) 120 dX7_told_80 (by decide) rfl (by decide) (fun h80_1 => ?_) (fun h80_1 => ?_)
            · refine s_aload_n E dX7_told_120 rfl ?_
              refine s_getR (kf := 0) E dX7_told_121 rfl inb_X7 (Nat.le_of_ble_eq_true rfl) fl_X7_10 (by decide) sh0 rfl ?_
              refine s_getR (kf := 2) E dX7_told_124 rfl inb_X2 (Nat.le_of_ble_eq_true rfl) fl_X7_114 (by decide) sh1 rfl ?_
              refine s_getI (kf := 3) E 3 rfl dX7_told_127 rfl inb_X4 (Nat.le_of_ble_eq_true rfl) fl_X7_118 (by decide) sh14 rfl ?_
              refine hret _ _ ?_ (fun q => by cases q) _ _ dX7_told_130
              exact ⟨by (repeat' split) <;> first | rfl | omega, rfl⟩
            refine s_tcase E (2) 131 dX7_told_80 (by decide) rfl (by decide) (fun h80_2 => ?_) (fun h80_2 => ?_)
            · refine s_aload_n E dX7_told_131 rfl ?_
              refine s_getR (kf := 0) E dX7_told_132 rfl inb_X7 (Nat.le_of_ble_eq_true rfl) fl_X7_10 (by decide) sh0 rfl ?_
              refine s_getI (kf := 3) E 3 rfl dX7_told_135 rfl inb_X2 (Nat.le_of_ble_eq_true rfl) fl_X7_71 (by decide) sh1 rfl ?_
              refine hret _ _ ?_ (fun q => by cases q) _ _ dX7_told_138
              exact ⟨by (repeat' split) <;> first | rfl | omega, rfl⟩
            refine s_tcase E (3) 139 dX7_told_80 (by decide) rfl (by decide) (fun h80_3 => ?_) (fun h80_3 => ?_)
            · refine s_aload_n E dX7_told_139 rfl ?_
              refine s_getR (kf := 0) E dX7_told_140 rfl inb_X7 (Nat.le_of_ble_eq_true rfl) fl_X7_10 (by decide) sh0 rfl ?_
              refine s_getI (kf := 4) E 4 rfl dX7_told_143 rfl inb_X2 (Nat.le_of_ble_eq_true rfl) fl_X7_75 (by decide) sh1 rfl ?_
              refine hret _ _ ?_ (fun q => by cases q) _ _ dX7_told_146
              exact ⟨by (repeat' split) <;> first | rfl | omega, rfl⟩
            refine s_tout E 147 dX7_told_80 (by omega) (by omega) (by decide) ?_
            refine s_bipush E dX7_told_147 rfl ?_
            refine hret _ _ ?_ (fun q => by cases q) _ _ dX7_told_149
            exact ⟨by (repeat' split) <;> first | rfl | omega, rfl⟩
          · refine s_aload_n E dX7_told_59 rfl ?_
            refine s_getR (kf := 0) E dX7_told_60 rfl inb_X7 (Nat.le_of_ble_eq_true rfl) fl_X7_10 (by decide) sh0 rfl ?_
            refine s_getR (kf := 0) E dX7_told_63 rfl inb_X2 (Nat.le_of_ble_eq_true rfl) fl_X7_67 (by decide) sh1 rfl ?_
            refine s_iload_n E dX7_told_66 rfl ?_
            refine s_bipush E dX7_told_67 rfl ?_
            refine s_idiv E dX7_told_69 (by omega) (by omega) ?_
            refine s_iconst E dX7_told_70 ?_
            refine s_isub E dX7_told_71 ?_
            refine s_aaldR (r0 := 3) (n := 4) E dX7_told_72 (by decide) sh2 (Nat.le_of_ble_eq_true rfl) (by omega) ?_
            refine s_iload_n E dX7_told_73 rfl ?_
            refine s_bipush E dX7_told_74 rfl ?_
            refine s_irem E dX7_told_76 (by omega) (by omega) ?_
            refine s_iald E dX7_told_77 (by omega) (shr2 (by omega)) (Nat.le_of_ble_eq_true rfl) (by omega) ?_
            refine hret _ _ ?_ (fun q => by cases q) _ _ dX7_told_78
            exact ⟨by (repeat' split) <;> first | rfl | omega, rfl⟩
    · refine s_aload_n E dX7_told_13 rfl ?_
      refine s_getR (kf := 0) E dX7_told_14 rfl inb_X7 (Nat.le_of_ble_eq_true rfl) fl_X7_10 (by decide) sh0 rfl ?_
      refine s_getR (kf := 1) E dX7_told_17 rfl inb_X2 (Nat.le_of_ble_eq_true rfl) fl_X7_173 (by decide) sh1 rfl ?_
      refine s_iload_n E dX7_told_20 rfl ?_
      refine s_bipush E dX7_told_21 rfl ?_
      refine s_isub E dX7_told_23 ?_
      refine s_bipush E dX7_told_24 rfl ?_
      refine s_idiv E dX7_told_26 (by omega) (by omega) ?_
      refine s_aaldR (r0 := 8) (n := 6) E dX7_told_27 (by decide) sh7 (Nat.le_of_ble_eq_true rfl) (by omega) ?_
      refine s_iload_n E dX7_told_28 rfl ?_
      refine s_bipush E dX7_told_29 rfl ?_
      refine s_isub E dX7_told_31 ?_
      refine s_bipush E dX7_told_32 rfl ?_
      refine s_irem E dX7_told_34 (by omega) (by omega) ?_
      refine s_iald E dX7_told_35 (by omega) (shr7 (by omega)) (Nat.le_of_ble_eq_true rfl) (by omega) ?_
      refine hret _ _ ?_ (fun q => by cases q) _ _ dX7_told_36
      exact ⟨by (repeat' split) <;> first | rfl | omega, rfl⟩

set_option maxRecDepth 100000 in
set_option maxHeartbeats 4000000 in
theorem c_X8_told (M : Mm) (w : Int) (hw : inI w) : CtI yX8_told cX8_told 2 .int 2 SH [rv 79, iv w] M (fun r M' => r = (if 100 ≤ w ∧ w < 136 then M 83 (w - 100) else if 10 ≤ w ∧ w < 50 ∧ w % 10 < 6 then M 80 (4 * (w % 10) + w / 10 - 1) else if w = 0 then M 79 3 else if w = 1 then M 79 5 else if w = 2 then M 79 1 else if w = 3 then M 79 2 else -2) ∧ M' = M) := by
  refine CtI.of rfl (Nat.le_of_ble_eq_true rfl) (Or.inl rfl) (fun v as E hret => ?_)
  show Ws v as SH 0 0 0 [some (rv 79), some (iv w)] [] M
  refine s_iload_n E dX8_told_0 rfl ?_
  refine s_bipush E dX8_told_1 rfl ?_
  refine s_sipush E dX8_told_3 rfl ?_
  refine s_callSi E (c_X8_in _ _ _ _ (by omega) (by omega) (by omega)) dX8_told_6 mf_X8_in ml_X8_63 rfl (Nat.le_of_ble_eq_true rfl) (Nat.le_of_ble_eq_true rfl) rfl (fun r6 M6 h6 => ?_)
  obtain ⟨e6, f6⟩ := h6; subst r6; subst M6
  refine s_ifeqB E 22 dX8_told_9 (by decide) (fun h9 => ?_) (fun h9 => ?_)
  · refine s_iload_n E dX8_told_22 rfl ?_
    refine s_bipush E dX8_told_23 rfl ?_
    refine s_icmp_lt E 65 dX8_told_25 (by decide) (by omega) (by omega) (fun h25 => ?_) (fun h25 => ?_)
    · refine s_iload_n E dX8_told_65 rfl ?_
      refine s_if_ne E 76 dX8_told_66 (by decide) (by omega) (fun h66 => ?_) (fun h66 => ?_)
      · refine s_iload_n E dX8_told_76 rfl ?_
        refine s_iconst E dX8_told_77 ?_
        refine s_icmp_ne E 88 dX8_told_78 (by decide) (by omega) (by omega) (fun h78 => ?_) (fun h78 => ?_)
        · refine s_iload_n E dX8_told_88 rfl ?_
          refine s_iconst E dX8_told_89 ?_
          refine s_icmp_ne E 100 dX8_told_90 (by decide) (by omega) (by omega) (fun h90 => ?_) (fun h90 => ?_)
          · refine s_iload_n E dX8_told_100 rfl ?_
            refine s_iconst E dX8_told_101 ?_
            refine s_icmp_ne E 112 dX8_told_102 (by decide) (by omega) (by omega) (fun h102 => ?_) (fun h102 => ?_)
            · refine s_bipush E dX8_told_112 rfl ?_
              refine hret _ _ ?_ (fun q => by cases q) _ _ dX8_told_114
              exact ⟨by (repeat' split) <;> first | rfl | omega, rfl⟩
            · refine s_aload_n E dX8_told_105 rfl ?_
              refine s_getI (kf := 2) E 2 rfl dX8_told_106 rfl inb_X8 (Nat.le_of_ble_eq_true rfl) fl_X8_17 (by decide) sh79 rfl ?_
              refine s_goto E 114 dX8_told_109 (by decide) ?_
              refine hret _ _ ?_ (fun q => by cases q) _ _ dX8_told_114
              exact ⟨by (repeat' split) <;> first | rfl | omega, rfl⟩
          · refine s_aload_n E dX8_told_93 rfl ?_
            refine s_getI (kf := 1) E 1 rfl dX8_told_94 rfl inb_X8 (Nat.le_of_ble_eq_true rfl) fl_X8_13 (by decide) sh79 rfl ?_
            refine s_goto E 114 dX8_told_97 (by decide) ?_
            refine hret _ _ ?_ (fun q => by cases q) _ _ dX8_told_114
            exact ⟨by (repeat' split) <;> first | rfl | omega, rfl⟩
        · refine s_aload_n E dX8_told_81 rfl ?_
          refine s_getI (kf := 5) E 5 rfl dX8_told_82 rfl inb_X8 (Nat.le_of_ble_eq_true rfl) fl_X8_117 (by decide) sh79 rfl ?_
          refine s_goto E 114 dX8_told_85 (by decide) ?_
          refine hret _ _ ?_ (fun q => by cases q) _ _ dX8_told_114
          exact ⟨by (repeat' split) <;> first | rfl | omega, rfl⟩
      · refine s_aload_n E dX8_told_69 rfl ?_
        refine s_getI (kf := 3) E 3 rfl dX8_told_70 rfl inb_X8 (Nat.le_of_ble_eq_true rfl) fl_X8_75 (by decide) sh79 rfl ?_
        refine s_goto E 114 dX8_told_73 (by decide) ?_
        refine hret _ _ ?_ (fun q => by cases q) _ _ dX8_told_114
        exact ⟨by (repeat' split) <;> first | rfl | omega, rfl⟩
    · refine s_iload_n E dX8_told_28 rfl ?_
      refine s_bipush E dX8_told_29 rfl ?_
      refine s_irem E dX8_told_31 (by omega) (by omega) ?_
      refine s_iconst E dX8_told_32 ?_
      refine s_iconst E dX8_told_33 ?_
      refine s_callSi E (c_X8_in _ _ _ _ (by omega) (by omega) (by omega)) dX8_told_34 mf_X8_in ml_X8_63 rfl (Nat.le_of_ble_eq_true rfl) (Nat.le_of_ble_eq_true rfl) rfl (fun r34 M34 h34 => ?_)
      obtain ⟨e34, f34⟩ := h34; subst r34; subst M34
      refine s_ifeqB E 65 dX8_told_37 (by decide) (fun h37 => ?_) (fun h37 => ?_)
      · refine s_iload_n E dX8_told_65 rfl ?_
        refine s_if_ne E 76 dX8_told_66 (by decide) (by omega) (fun h66 => ?_) (fun h66 => ?_)
        · refine s_iload_n E dX8_told_76 rfl ?_
          refine s_iconst E dX8_told_77 ?_
          refine s_icmp_ne E 88 dX8_told_78 (by decide) (by omega) (by omega) (fun h78 => ?_) (fun h78 => ?_)
          · refine s_iload_n E dX8_told_88 rfl ?_
            refine s_iconst E dX8_told_89 ?_
            refine s_icmp_ne E 100 dX8_told_90 (by decide) (by omega) (by omega) (fun h90 => ?_) (fun h90 => ?_)
            · refine s_iload_n E dX8_told_100 rfl ?_
              refine s_iconst E dX8_told_101 ?_
              refine s_icmp_ne E 112 dX8_told_102 (by decide) (by omega) (by omega) (fun h102 => ?_) (fun h102 => ?_)
              · refine s_bipush E dX8_told_112 rfl ?_
                refine hret _ _ ?_ (fun q => by cases q) _ _ dX8_told_114
                exact ⟨by (repeat' split) <;> first | rfl | omega, rfl⟩
              · refine s_aload_n E dX8_told_105 rfl ?_
                refine s_getI (kf := 2) E 2 rfl dX8_told_106 rfl inb_X8 (Nat.le_of_ble_eq_true rfl) fl_X8_17 (by decide) sh79 rfl ?_
                refine s_goto E 114 dX8_told_109 (by decide) ?_
                refine hret _ _ ?_ (fun q => by cases q) _ _ dX8_told_114
                exact ⟨by (repeat' split) <;> first | rfl | omega, rfl⟩
            · refine s_aload_n E dX8_told_93 rfl ?_
              refine s_getI (kf := 1) E 1 rfl dX8_told_94 rfl inb_X8 (Nat.le_of_ble_eq_true rfl) fl_X8_13 (by decide) sh79 rfl ?_
              refine s_goto E 114 dX8_told_97 (by decide) ?_
              refine hret _ _ ?_ (fun q => by cases q) _ _ dX8_told_114
              exact ⟨by (repeat' split) <;> first | rfl | omega, rfl⟩
          · refine s_aload_n E dX8_told_81 rfl ?_
            refine s_getI (kf := 5) E 5 rfl dX8_told_82 rfl inb_X8 (Nat.le_of_ble_eq_true rfl) fl_X8_117 (by decide) sh79 rfl ?_
            refine s_goto E 114 dX8_told_85 (by decide) ?_
            refine hret _ _ ?_ (fun q => by cases q) _ _ dX8_told_114
            exact ⟨by (repeat' split) <;> first | rfl | omega, rfl⟩
        · refine s_aload_n E dX8_told_69 rfl ?_
          refine s_getI (kf := 3) E 3 rfl dX8_told_70 rfl inb_X8 (Nat.le_of_ble_eq_true rfl) fl_X8_75 (by decide) sh79 rfl ?_
          refine s_goto E 114 dX8_told_73 (by decide) ?_
          refine hret _ _ ?_ (fun q => by cases q) _ _ dX8_told_114
          exact ⟨by (repeat' split) <;> first | rfl | omega, rfl⟩
      · refine s_iload_n E dX8_told_40 rfl ?_
        refine s_bipush E dX8_told_41 rfl ?_
        refine s_icmp_ge E 65 dX8_told_43 (by decide) (by omega) (by omega) (fun h43 => ?_) (fun h43 => ?_)
        · refine s_iload_n E dX8_told_65 rfl ?_
          refine s_if_ne E 76 dX8_told_66 (by decide) (by omega) (fun h66 => ?_) (fun h66 => ?_)
          · refine s_iload_n E dX8_told_76 rfl ?_
            refine s_iconst E dX8_told_77 ?_
            refine s_icmp_ne E 88 dX8_told_78 (by decide) (by omega) (by omega) (fun h78 => ?_) (fun h78 => ?_)
            · refine s_iload_n E dX8_told_88 rfl ?_
              refine s_iconst E dX8_told_89 ?_
              refine s_icmp_ne E 100 dX8_told_90 (by decide) (by omega) (by omega) (fun h90 => ?_) (fun h90 => ?_)
              · refine s_iload_n E dX8_told_100 rfl ?_
                refine s_iconst E dX8_told_101 ?_
                refine s_icmp_ne E 112 dX8_told_102 (by decide) (by omega) (by omega) (fun h102 => ?_) (fun h102 => ?_)
                · refine s_bipush E dX8_told_112 rfl ?_
                  refine hret _ _ ?_ (fun q => by cases q) _ _ dX8_told_114
                  exact ⟨by (repeat' split) <;> first | rfl | omega, rfl⟩
                · refine s_aload_n E dX8_told_105 rfl ?_
                  refine s_getI (kf := 2) E 2 rfl dX8_told_106 rfl inb_X8 (Nat.le_of_ble_eq_true rfl) fl_X8_17 (by decide) sh79 rfl ?_
                  refine s_goto E 114 dX8_told_109 (by decide) ?_
                  refine hret _ _ ?_ (fun q => by cases q) _ _ dX8_told_114
                  exact ⟨by (repeat' split) <;> first | rfl | omega, rfl⟩
              · refine s_aload_n E dX8_told_93 rfl ?_
                refine s_getI (kf := 1) E 1 rfl dX8_told_94 rfl inb_X8 (Nat.le_of_ble_eq_true rfl) fl_X8_13 (by decide) sh79 rfl ?_
                refine s_goto E 114 dX8_told_97 (by decide) ?_
                refine hret _ _ ?_ (fun q => by cases q) _ _ dX8_told_114
                exact ⟨by (repeat' split) <;> first | rfl | omega, rfl⟩
            · refine s_aload_n E dX8_told_81 rfl ?_
              refine s_getI (kf := 5) E 5 rfl dX8_told_82 rfl inb_X8 (Nat.le_of_ble_eq_true rfl) fl_X8_117 (by decide) sh79 rfl ?_
              refine s_goto E 114 dX8_told_85 (by decide) ?_
              refine hret _ _ ?_ (fun q => by cases q) _ _ dX8_told_114
              exact ⟨by (repeat' split) <;> first | rfl | omega, rfl⟩
          · refine s_aload_n E dX8_told_69 rfl ?_
            refine s_getI (kf := 3) E 3 rfl dX8_told_70 rfl inb_X8 (Nat.le_of_ble_eq_true rfl) fl_X8_75 (by decide) sh79 rfl ?_
            refine s_goto E 114 dX8_told_73 (by decide) ?_
            refine hret _ _ ?_ (fun q => by cases q) _ _ dX8_told_114
            exact ⟨by (repeat' split) <;> first | rfl | omega, rfl⟩
        · refine s_aload_n E dX8_told_46 rfl ?_
          refine s_getR (kf := 0) E dX8_told_47 rfl inb_X8 (Nat.le_of_ble_eq_true rfl) fl_X8_7 (by decide) sh79 rfl ?_
          refine s_iconst E dX8_told_50 ?_
          refine s_iload_n E dX8_told_51 rfl ?_
          refine s_bipush E dX8_told_52 rfl ?_
          refine s_irem E dX8_told_54 (by omega) (by omega) ?_
          refine s_imul E dX8_told_55 ?_
          refine s_iload_n E dX8_told_56 rfl ?_
          refine s_bipush E dX8_told_57 rfl ?_
          refine s_idiv E dX8_told_59 (by omega) (by omega) ?_
          refine s_iadd E dX8_told_60 ?_
          refine s_iconst E dX8_told_61 ?_
          refine s_isub E dX8_told_62 ?_
          refine s_iald E dX8_told_63 (by decide) sh80 (Nat.le_of_ble_eq_true rfl) (by omega) ?_
          refine hret _ _ ?_ (fun q => by cases q) _ _ dX8_told_64
          exact ⟨by (repeat' split) <;> first | rfl | omega, rfl⟩
  · refine s_aload_n E dX8_told_12 rfl ?_
    refine s_getR (kf := 7) E dX8_told_13 rfl inb_X8 (Nat.le_of_ble_eq_true rfl) fl_X8_26 (by decide) sh79 rfl ?_
    refine s_iload_n E dX8_told_16 rfl ?_
    refine s_bipush E dX8_told_17 rfl ?_
    refine s_isub E dX8_told_19 ?_
    refine s_iald E dX8_told_20 (by decide) sh83 (Nat.le_of_ble_eq_true rfl) (by omega) ?_
    refine hret _ _ ?_ (fun q => by cases q) _ _ dX8_told_21
    exact ⟨by (repeat' split) <;> first | rfl | omega, rfl⟩
end
section
/-! ===== nets, the floor, friends ===== -/
def sumN (g : Int → Int) : Nat → Int
  | 0 => 0
  | n + 1 => sumN g n + g n
theorem sumN_step {g : Int → Int} {k : Int} (h : 0 ≤ k) : sumN g (k + 1).toNat = sumN g k.toNat + g k := by
  rw [show (k + 1).toNat = k.toNat + 1 by omega]
  show sumN g k.toNat + g ((k.toNat : Nat) : Int) = _
  rw [Int.toNat_of_nonneg h]
theorem sumN_congr {g g' : Int → Int} : ∀ {n : Nat}, (∀ j : Int, 0 ≤ j → j < n → g j = g' j) → sumN g n = sumN g' n
  | 0, _ => rfl
  | n + 1, h => by
    show sumN g n + g n = sumN g' n + g' n
    rw [sumN_congr (fun j h1 h2 => h j h1 (by omega)), h n (by omega) (by omega)]
theorem sumN_rng {g : Int → Int} {a b : Int} : ∀ {n : Nat}, (∀ j : Int, 0 ≤ j → j < n → a ≤ g j ∧ g j ≤ b) → a * n ≤ sumN g n ∧ sumN g n ≤ b * n
  | 0, _ => by simp [sumN]
  | n + 1, h => by
    have h1 := sumN_rng (n := n) (fun j h1 h2 => h j h1 (by omega))
    have h2 := h n (by omega) (by omega)
    show a * ((n + 1 : Nat) : Int) ≤ sumN g n + g n ∧ sumN g n + g n ≤ b * ((n + 1 : Nat) : Int)
    have e1 : a * ((n + 1 : Nat) : Int) = a * n + a := by rw [Int.natCast_add, Int.mul_add]; simp
    have e2 : b * ((n + 1 : Nat) : Int) = b * n + b := by rw [Int.natCast_add, Int.mul_add]; simp
    omega
def netF (f : Int → Int → Int) (k : Int) : Int := sumN (fun j => f k j - f j k) 6
def sb (s i : Int) : Int := iAnd (iShr s i) 1
theorem sb_01 (s i : Int) : sb s i = 0 ∨ sb s i = 1 := iAnd1 _
theorem sb_bt {s i : Int} : sb s i = 1 ↔ bt s i := Iff.rfl
theorem sb_nbt {s i : Int} : sb s i = 0 ↔ ¬ bt s i := ⟨fun h q => by have : sb s i = 1 := q; omega, fun h => nbt0 h⟩
def popc (s : Int) : Int := sumN (fun k => sb s k) 6
def sumS (sv : Int → Int) (s : Int) : Int := sumN (fun k => sb s k * sv k) 6
def flr (sv : Int → Int) (s : Int) : Int := if popc s > 1 ∧ sumS sv s > 0 then 1000000 else sumS sv s
theorem popc_rng (s : Int) : 0 ≤ popc s ∧ popc s ≤ 6 := by
  have := sumN_rng (g := fun k => sb s k) (a := 0) (b := 1) (n := 6) (fun j _ _ => by have := sb_01 s j; omega)
  unfold popc
  omega
theorem sbm (s k x : Int) : sb s k * x = if sb s k = 1 then x else 0 := by
  rcases sb_01 s k with h | h <;> rw [h] <;> simp
theorem sumS_rng {sv : Int → Int} (s : Int) (h : ∀ k, 0 ≤ k → k < 6 → 0 ≤ sv k ∧ sv k ≤ 999) {k : Int} (hk : 0 ≤ k ∧ k ≤ 6) : 0 ≤ sumN (fun k => sb s k * sv k) k.toNat ∧ sumN (fun k => sb s k * sv k) k.toNat ≤ 5994 := by
  have := sumN_rng (g := fun k => sb s k * sv k) (a := 0) (b := 999) (n := k.toNat) (fun j h1 h2 => by
    have h3 := h j h1 (by omega)
    show 0 ≤ sb s j * sv j ∧ sb s j * sv j ≤ 999
    rw [sbm]
    split <;> omega)
  omega
theorem sumN_sum0 {g sv : Int → Int} : ∀ {n : Nat}, (∀ j : Int, 0 ≤ j → j < n → g j = 0 ∨ g j = 1) → sumN g n = 0 → sumN (fun k => g k * sv k) n = 0
  | 0, _, _ => rfl
  | n + 1, h, hs => by
    have hr := sumN_rng (g := g) (a := 0) (b := 1) (n := n) (fun j h1 h2 => by have := h j h1 (by omega); omega)
    have h2 := h n (by omega) (by omega)
    have hs' : sumN g n + g n = 0 := hs
    show sumN (fun k => g k * sv k) n + g n * sv n = 0
    rw [sumN_sum0 (fun j h1 h2 => h j h1 (by omega)) (by omega), show g n = 0 by omega]
    simp
theorem flr_eq {sv : Int → Int} {s : Int} (h : ∀ k, 0 ≤ k → k < 6 → 0 ≤ sv k ∧ sv k ≤ 999) : flr sv s = if sumS sv s = 0 ∨ popc s = 1 then sumS sv s else 1000000 := by
  have h0 : popc s = 0 → sumS sv s = 0 := fun q => sumN_sum0 (g := fun k => sb s k) (fun j _ _ => sb_01 s j) q
  have hr := sumS_rng s h (k := 6) (by omega)
  have hp := popc_rng s
  have hr2 : 0 ≤ sumS sv s ∧ sumS sv s ≤ 5994 := hr
  unfold flr
  split <;> split <;> omega
/-- the friends' search -/
def frl (fl : Int → Int) (w z : Int) : Nat → Int → Int → Int
  | 0, _, b => b
  | n + 1, s, b => frl fl w z n (s + 1) (if sb s w = 1 ∧ (b < 0 ∨ popc s < popc b) ∧ fl s ≥ z then s else b)
theorem frl_end {fl : Int → Int} {w z s b : Int} (h : 64 ≤ s) : frl fl w z (64 - s).toNat s b = b := by
  rw [show (64 - s).toNat = 0 by omega]
  rfl
theorem frl_go {fl : Int → Int} {w z s b c : Int} (h : s < 64) (e : (if sb s w = 1 ∧ (b < 0 ∨ popc s < popc b) ∧ fl s ≥ z then s else b) = c) : frl fl w z (64 - s).toNat s b = frl fl w z (64 - (s + 1)).toNat (s + 1) c := by
  rw [show (64 - s).toNat = (64 - (s + 1)).toNat + 1 by omega, ← e]
  rfl
theorem frl_congr {fl fl' : Int → Int} {w z : Int} (h : ∀ s, 0 ≤ s → s < 64 → fl s = fl' s) : ∀ (n : Nat) (s b : Int), 0 ≤ s → s + n ≤ 64 → frl fl w z n s b = frl fl' w z n s b
  | 0, _, _, _, _ => rfl
  | n + 1, s, b, h0, h1 => by
    show frl fl w z n (s + 1) (if sb s w = 1 ∧ (b < 0 ∨ popc s < popc b) ∧ fl s ≥ z then s else b) = frl fl' w z n (s + 1) (if sb s w = 1 ∧ (b < 0 ∨ popc s < popc b) ∧ fl' s ≥ z then s else b)
    rw [h s h0 (by omega)]
    exact frl_congr h n (s + 1) _ (by omega) (by omega)

set_option maxRecDepth 100000 in
set_option maxHeartbeats 4000000 in
theorem lp_X7_net {v : Ev} {as : List Nat} (M : Mm) (a : Int) (ha : 0 ≤ a ∧ a < 6) (E : Cx v cX7_netOf 4 yX7_netOf.cls 1) (hret : RetI v as cX7_netOf .int (fun r M' => r = netF (fun x y => M (8 + x) y) a ∧ M' = M)) : ∀ (N : Nat) (t k : Int), (6 - k).toNat < N → (0 ≤ k ∧ k ≤ 6) → (t = sumN (fun j => M (8 + a) j - M (8 + j) a) k.toNat) → Ws v as SH 0 0 4 [some (rv 7), some (iv a), some (iv t), some (iv k)] [] M := by
  intro N
  induction N with
  | zero =>
    intro t k hN
    exact absurd hN (Nat.not_lt_zero _)
  | succ N ih =>
    intro t k hN g0 g1
    refine s_iload_n E dX7_netOf_4 rfl ?_
    refine s_bipush E dX7_netOf_5 rfl ?_
    refine s_icmp_ge E 30 dX7_netOf_7 (by decide) (by omega) (by omega) (fun h7 => ?_) (fun h7 => ?_)
    · refine s_iload_n E dX7_netOf_30 rfl ?_
      refine hret _ _ ?_ (fun q => by cases q) _ _ dX7_netOf_31
      exact ⟨by rw [g1, show k = 6 by omega]; rfl, rfl⟩
    · refine s_iload_n E dX7_netOf_10 rfl ?_
      refine s_aload_n E dX7_netOf_11 rfl ?_
      refine s_iload_n E dX7_netOf_12 rfl ?_
      refine s_aaldR (r0 := 8) (n := 6) E dX7_netOf_13 (by decide) sh7 (Nat.le_of_ble_eq_true rfl) (by omega) ?_
      refine s_iload_n E dX7_netOf_14 rfl ?_
      refine s_iald E dX7_netOf_15 (by omega) (shr7 (by omega)) (Nat.le_of_ble_eq_true rfl) (by omega) ?_
      refine s_aload_n E dX7_netOf_16 rfl ?_
      refine s_iload_n E dX7_netOf_17 rfl ?_
      refine s_aaldR (r0 := 8) (n := 6) E dX7_netOf_18 (by decide) sh7 (Nat.le_of_ble_eq_true rfl) (by omega) ?_
      refine s_iload_n E dX7_netOf_19 rfl ?_
      refine s_iald E dX7_netOf_20 (by omega) (shr7 (by omega)) (Nat.le_of_ble_eq_true rfl) (by omega) ?_
      refine s_isub E dX7_netOf_21 ?_
      refine s_iadd E dX7_netOf_22 ?_
      refine s_istore_n (ls' := [_, _, _, _]) E dX7_netOf_23 (Nat.le_of_ble_eq_true rfl) rfl ?_
      refine s_iinc (ls' := [_, _, _, _]) E dX7_netOf_24 rfl rfl ?_
      refine s_goto E 4 dX7_netOf_27 (by decide) ?_
      exact ih _ _ (by omega) (by omega) (by rw [sumN_step (by omega), ← g1])

set_option maxRecDepth 100000 in
set_option maxHeartbeats 4000000 in
theorem c_X7_netOf (M : Mm) (a : Int) (ha : 0 ≤ a ∧ a < 6) : CtI yX7_netOf cX7_netOf 4 .int 1 SH [rv 7, iv a] M (fun r M' => r = netF (fun x y => M (8 + x) y) a ∧ M' = M) := by
  refine CtI.of rfl (Nat.le_of_ble_eq_true rfl) (Or.inl rfl) (fun v as E hret => ?_)
  show Ws v as SH 0 0 0 [some (rv 7), some (iv a), none, none] [] M
  refine s_iconst E dX7_netOf_0 ?_
  refine s_istore_n (ls' := [_, _, _, _]) E dX7_netOf_1 (Nat.le_of_ble_eq_true rfl) rfl ?_
  refine s_iconst E dX7_netOf_2 ?_
  refine s_istore_n (ls' := [_, _, _, _]) E dX7_netOf_3 (Nat.le_of_ble_eq_true rfl) rfl ?_
  exact lp_X7_net M a ha E hret 7 0 0 (by decide) (by decide) rfl

set_option maxRecDepth 100000 in
set_option maxHeartbeats 4000000 in
theorem lp_X8_net {v : Ev} {as : List Nat} (M : Mm) (a : Int) (ha : 0 ≤ a ∧ a < 6) (E : Cx v cX8_netOf 4 yX8_netOf.cls 1) (hret : RetI v as cX8_netOf .int (fun r M' => r = netF (fun x y => M 83 (6 * x + y)) a ∧ M' = M)) : ∀ (N : Nat) (t k : Int), (6 - k).toNat < N → (0 ≤ k ∧ k ≤ 6) → (t = sumN (fun j => M 83 (6 * a + j) - M 83 (6 * j + a)) k.toNat) → Ws v as SH 0 0 4 [some (rv 79), some (iv a), some (iv t), some (iv k)] [] M := by
  intro N
  induction N with
  | zero =>
    intro t k hN
    exact absurd hN (Nat.not_lt_zero _)
  | succ N ih =>
    intro t k hN g0 g1
    refine s_iload_n E dX8_netOf_4 rfl ?_
    refine s_bipush E dX8_netOf_5 rfl ?_
    refine s_icmp_ge E 42 dX8_netOf_7 (by decide) (by omega) (by omega) (fun h7 => ?_) (fun h7 => ?_)
    · refine s_iload_n E dX8_netOf_42 rfl ?_
      refine hret _ _ ?_ (fun q => by cases q) _ _ dX8_netOf_43
      exact ⟨by rw [g1, show k = 6 by omega]; rfl, rfl⟩
    · refine s_iload_n E dX8_netOf_10 rfl ?_
      refine s_aload_n E dX8_netOf_11 rfl ?_
      refine s_getR (kf := 7) E dX8_netOf_12 rfl inb_X8 (Nat.le_of_ble_eq_true rfl) fl_X8_26 (by decide) sh79 rfl ?_
      refine s_bipush E dX8_netOf_15 rfl ?_
      refine s_iload_n E dX8_netOf_17 rfl ?_
      refine s_imul E dX8_netOf_18 ?_
      refine s_iload_n E dX8_netOf_19 rfl ?_
      refine s_iadd E dX8_netOf_20 ?_
      refine s_iald E dX8_netOf_21 (by decide) sh83 (Nat.le_of_ble_eq_true rfl) (by omega) ?_
      refine s_aload_n E dX8_netOf_22 rfl ?_
      refine s_getR (kf := 7) E dX8_netOf_23 rfl inb_X8 (Nat.le_of_ble_eq_true rfl) fl_X8_26 (by decide) sh79 rfl ?_
      refine s_bipush E dX8_netOf_26 rfl ?_
      refine s_iload_n E dX8_netOf_28 rfl ?_
      refine s_imul E dX8_netOf_29 ?_
      refine s_iload_n E dX8_netOf_30 rfl ?_
      refine s_iadd E dX8_netOf_31 ?_
      refine s_iald E dX8_netOf_32 (by decide) sh83 (Nat.le_of_ble_eq_true rfl) (by omega) ?_
      refine s_isub E dX8_netOf_33 ?_
      refine s_iadd E dX8_netOf_34 ?_
      refine s_istore_n (ls' := [_, _, _, _]) E dX8_netOf_35 (Nat.le_of_ble_eq_true rfl) rfl ?_
      refine s_iinc (ls' := [_, _, _, _]) E dX8_netOf_36 rfl rfl ?_
      refine s_goto E 4 dX8_netOf_39 (by decide) ?_
      exact ih _ _ (by omega) (by omega) (by rw [sumN_step (by omega), ← g1])

set_option maxRecDepth 100000 in
set_option maxHeartbeats 4000000 in
theorem c_X8_netOf (M : Mm) (a : Int) (ha : 0 ≤ a ∧ a < 6) : CtI yX8_netOf cX8_netOf 4 .int 1 SH [rv 79, iv a] M (fun r M' => r = netF (fun x y => M 83 (6 * x + y)) a ∧ M' = M) := by
  refine CtI.of rfl (Nat.le_of_ble_eq_true rfl) (Or.inl rfl) (fun v as E hret => ?_)
  show Ws v as SH 0 0 0 [some (rv 79), some (iv a), none, none] [] M
  refine s_iconst E dX8_netOf_0 ?_
  refine s_istore_n (ls' := [_, _, _, _]) E dX8_netOf_1 (Nat.le_of_ble_eq_true rfl) rfl ?_
  refine s_iconst E dX8_netOf_2 ?_
  refine s_istore_n (ls' := [_, _, _, _]) E dX8_netOf_3 (Nat.le_of_ble_eq_true rfl) rfl ?_
  exact lp_X8_net M a ha E hret 7 0 0 (by decide) (by decide) rfl

set_option maxRecDepth 100000 in
set_option maxHeartbeats 4000000 in
theorem c_X7_net (M : Mm) (a : Int) (ha : inI a) : CtI yX7_net cX7_net 2 .int 2 SH [rv 0, iv a] M (fun r M' => r = (if 0 ≤ a ∧ a < 6 then netF (fun x y => M (8 + x) y) a + 1000 else -1) ∧ M' = M) := by
  refine CtI.of rfl (Nat.le_of_ble_eq_true rfl) (Or.inl rfl) (fun v as E hret => ?_)
  show Ws v as SH 0 0 0 [some (rv 0), some (iv a)] [] M
  refine s_iload_n E dX7_net_0 rfl ?_
  refine s_callSi E (c_X7_isOne _ _ (by omega)) dX7_net_1 mf_X7_isOne ml_X7_59 rfl (Nat.le_of_ble_eq_true rfl) (Nat.le_of_ble_eq_true rfl) rfl (fun r1 M1 h1 => ?_)
  obtain ⟨e1, f1⟩ := h1; subst r1; subst M1
  refine s_ifeqB E 25 dX7_net_4 (by decide) (fun h4 => ?_) (fun h4 => ?_)
  · refine s_iconst E dX7_net_25 ?_
    refine hret _ _ ?_ (fun q => by cases q) _ _ dX7_net_26
    exact ⟨by (repeat' split) <;> first | rfl | omega, rfl⟩
  · refine s_aload_n E dX7_net_7 rfl ?_
    refine s_getR (kf := 0) E dX7_net_8 rfl inb_X7 (Nat.le_of_ble_eq_true rfl) fl_X7_10 (by decide) sh0 rfl ?_
    refine s_getR (kf := 1) E dX7_net_11 rfl inb_X2 (Nat.le_of_ble_eq_true rfl) fl_X7_173 (by decide) sh1 rfl ?_
    refine s_iload_n E dX7_net_14 rfl ?_
    refine s_callSi E (c_X7_netOf _ _ (by omega)) dX7_net_15 mf_X7_netOf ml_X7_176 rfl (Nat.le_of_ble_eq_true rfl) (Nat.le_of_ble_eq_true rfl) rfl (fun r15 M15 h15 => ?_)
    obtain ⟨e15, f15⟩ := h15; subst r15; subst M15
    refine s_sipush E dX7_net_18 rfl ?_
    refine s_iadd E dX7_net_21 ?_
    refine s_goto E 26 dX7_net_22 (by decide) ?_
    refine hret _ _ ?_ (fun q => by cases q) _ _ dX7_net_26
    exact ⟨by (repeat' split) <;> first | rfl | omega, rfl⟩

set_option maxRecDepth 100000 in
set_option maxHeartbeats 4000000 in
theorem c_X8_net (M : Mm) (a : Int) (ha : inI a) : CtI yX8_net cX8_net 2 .int 3 SH [rv 79, iv a] M (fun r M' => r = (if 0 ≤ a ∧ a < 6 then netF (fun x y => M 83 (6 * x + y)) a + 1000 else -1) ∧ M' = M) := by
  refine CtI.of rfl (Nat.le_of_ble_eq_true rfl) (Or.inl rfl) (fun v as E hret => ?_)
  show Ws v as SH 0 0 0 [some (rv 79), some (iv a)] [] M
  refine s_iload_n E dX8_net_0 rfl ?_
  refine s_callSi E (c_X8_isOne _ _ (by omega)) dX8_net_1 mf_X8_isOne ml_X8_67 rfl (Nat.le_of_ble_eq_true rfl) (Nat.le_of_ble_eq_true rfl) rfl (fun r1 M1 h1 => ?_)
  obtain ⟨e1, f1⟩ := h1; subst r1; subst M1
  refine s_ifeqB E 19 dX8_net_4 (by decide) (fun h4 => ?_) (fun h4 => ?_)
  · refine s_iconst E dX8_net_19 ?_
    refine hret _ _ ?_ (fun q => by cases q) _ _ dX8_net_20
    exact ⟨by (repeat' split) <;> first | rfl | omega, rfl⟩
  · refine s_aload_n E dX8_net_7 rfl ?_
    refine s_iload_n E dX8_net_8 rfl ?_
    refine s_callVi E (c_X8_netOf _ _ (by omega)) dX8_net_9 mf_X8_netOf ml_X8_139 rfl (Nat.le_of_ble_eq_true rfl) (Nat.le_of_ble_eq_true rfl) (by decide) sh79 rfl rfl (fun r9 M9 h9 => ?_)
    obtain ⟨e9, f9⟩ := h9; subst r9; subst M9
    refine s_sipush E dX8_net_12 rfl ?_
    refine s_iadd E dX8_net_15 ?_
    refine s_goto E 20 dX8_net_16 (by decide) ?_
    refine hret _ _ ?_ (fun q => by cases q) _ _ dX8_net_20
    exact ⟨by (repeat' split) <;> first | rfl | omega, rfl⟩

set_option maxRecDepth 100000 in
set_option maxHeartbeats 4000000 in
theorem lp_X8_bits {v : Ev} {as : List Nat} (M : Mm) (s : Int) (E : Cx v cX8_bits 3 yX8_bits.cls 1) (hret : RetI v as cX8_bits .int (fun r M' => r = popc s ∧ M' = M)) : ∀ (N : Nat) (t k : Int), (6 - k).toNat < N → (0 ≤ k ∧ k ≤ 6) → (t = sumN (fun k => sb s k) k.toNat) → Ws v as SH 0 0 4 [some (iv s), some (iv t), some (iv k)] [] M := by
  intro N
  induction N with
  | zero =>
    intro t k hN
    exact absurd hN (Nat.not_lt_zero _)
  | succ N ih =>
    intro t k hN g0 g1
    refine s_iload_n E dX8_bits_4 rfl ?_
    refine s_bipush E dX8_bits_5 rfl ?_
    refine s_icmp_ge E 24 dX8_bits_7 (by decide) (by omega) (by omega) (fun h7 => ?_) (fun h7 => ?_)
    · refine s_iload_n E dX8_bits_24 rfl ?_
      refine hret _ _ ?_ (fun q => by cases q) _ _ dX8_bits_25
      exact ⟨by rw [g1, show k = 6 by omega]; rfl, rfl⟩
    · refine s_iload_n E dX8_bits_10 rfl ?_
      refine s_iload_n E dX8_bits_11 rfl ?_
      refine s_iload_n E dX8_bits_12 rfl ?_
      refine s_ishr E dX8_bits_13 ?_
      refine s_iconst E dX8_bits_14 ?_
      refine s_iand E dX8_bits_15 ?_
      refine s_iadd E dX8_bits_16 ?_
      refine s_istore_n (ls' := [_, _, _]) E dX8_bits_17 (Nat.le_of_ble_eq_true rfl) rfl ?_
      refine s_iinc (ls' := [_, _, _]) E dX8_bits_18 rfl rfl ?_
      refine s_goto E 4 dX8_bits_21 (by decide) ?_
      exact ih _ _ (by omega) (by omega) (by rw [sumN_step (by omega), ← g1]; rfl)

set_option maxRecDepth 100000 in
set_option maxHeartbeats 4000000 in
theorem c_X8_bits (M : Mm) (s : Int) : CtI yX8_bits cX8_bits 3 .int 1 SH [iv s] M (fun r M' => r = popc s ∧ M' = M) := by
  refine CtI.of rfl (Nat.le_of_ble_eq_true rfl) (Or.inl rfl) (fun v as E hret => ?_)
  show Ws v as SH 0 0 0 [some (iv s), none, none] [] M
  refine s_iconst E dX8_bits_0 ?_
  refine s_istore_n (ls' := [_, _, _]) E dX8_bits_1 (Nat.le_of_ble_eq_true rfl) rfl ?_
  refine s_iconst E dX8_bits_2 ?_
  refine s_istore_n (ls' := [_, _, _]) E dX8_bits_3 (Nat.le_of_ble_eq_true rfl) rfl ?_
  exact lp_X8_bits M s E hret 7 0 0 (by decide) (by decide) rfl

def bc1 (s : Int) : Int := iAnd (s - iAnd (iUshr s 1) 1431655765) 858993459 + iAnd (iUshr (s - iAnd (iUshr s 1) 1431655765) 2) 858993459
def bc2 (s : Int) : Int := iAnd (bc1 s + iUshr (bc1 s) 4) 252645135
def bc3 (s : Int) : Int := bc2 s + iUshr (bc2 s) 8
def bc4 (s : Int) : Int := iAnd (bc3 s + iUshr (bc3 s) 16) 63
theorem bc_all : ∀ n : Nat, n < 64 → bc4 (n : Int) = popc (n : Int) := by decide +kernel
theorem bc_ok {s : Int} (h : 0 ≤ s ∧ s < 64) : bc4 s = popc s := by
  have := bc_all s.toNat (by omega)
  rwa [Int.toNat_of_nonneg h.1] at this

set_option maxRecDepth 100000 in
set_option maxHeartbeats 4000000 in
theorem c_J6_bitCount_0f7a4 (M : Mm) (s : Int) (h : 0 ≤ s ∧ s < 64) : CtI yJ6_bitCount_0f7a4 cJ6_bitCount_0f7a4 1 .int 1 SH [iv s] M (fun r M' => r = popc s ∧ M' = M) := by
  refine CtI.of rfl (Nat.le_of_ble_eq_true rfl) (Or.inl rfl) (fun v as E hret => ?_)
  show Ws v as SH 0 0 0 [some (iv s)] [] M
  refine s_iload_n E dJ6_bitCount_0f7a4_0 rfl ?_
  refine s_iload_n E dJ6_bitCount_0f7a4_1 rfl ?_
  refine s_iconst E dJ6_bitCount_0f7a4_2 ?_
  refine s_iushr E dJ6_bitCount_0f7a4_3 ?_
  refine s_ldcw E dJ6_bitCount_0f7a4_4 cst_J6_265 ?_
  refine s_iand E dJ6_bitCount_0f7a4_7 ?_
  refine s_isub E dJ6_bitCount_0f7a4_8 ?_
  refine s_istore_n (ls' := [_]) E dJ6_bitCount_0f7a4_9 (Nat.le_of_ble_eq_true rfl) rfl ?_
  refine s_iload_n E dJ6_bitCount_0f7a4_10 rfl ?_
  refine s_ldcw E dJ6_bitCount_0f7a4_11 cst_J6_266 ?_
  refine s_iand E dJ6_bitCount_0f7a4_14 ?_
  refine s_iload_n E dJ6_bitCount_0f7a4_15 rfl ?_
  refine s_iconst E dJ6_bitCount_0f7a4_16 ?_
  refine s_iushr E dJ6_bitCount_0f7a4_17 ?_
  refine s_ldcw E dJ6_bitCount_0f7a4_18 cst_J6_266 ?_
  refine s_iand E dJ6_bitCount_0f7a4_21 ?_
  refine s_iadd E dJ6_bitCount_0f7a4_22 ?_
  refine s_istore_n (ls' := [_]) E dJ6_bitCount_0f7a4_23 (Nat.le_of_ble_eq_true rfl) rfl ?_
  refine s_iload_n E dJ6_bitCount_0f7a4_24 rfl ?_
  refine s_iload_n E dJ6_bitCount_0f7a4_25 rfl ?_
  refine s_iconst E dJ6_bitCount_0f7a4_26 ?_
  refine s_iushr E dJ6_bitCount_0f7a4_27 ?_
  refine s_iadd E dJ6_bitCount_0f7a4_28 ?_
  refine s_ldcw E dJ6_bitCount_0f7a4_29 cst_J6_267 ?_
  refine s_iand E dJ6_bitCount_0f7a4_32 ?_
  refine s_istore_n (ls' := [_]) E dJ6_bitCount_0f7a4_33 (Nat.le_of_ble_eq_true rfl) rfl ?_
  refine s_iload_n E dJ6_bitCount_0f7a4_34 rfl ?_
  refine s_iload_n E dJ6_bitCount_0f7a4_35 rfl ?_
  refine s_bipush E dJ6_bitCount_0f7a4_36 rfl ?_
  refine s_iushr E dJ6_bitCount_0f7a4_38 ?_
  refine s_iadd E dJ6_bitCount_0f7a4_39 ?_
  refine s_istore_n (ls' := [_]) E dJ6_bitCount_0f7a4_40 (Nat.le_of_ble_eq_true rfl) rfl ?_
  refine s_iload_n E dJ6_bitCount_0f7a4_41 rfl ?_
  refine s_iload_n E dJ6_bitCount_0f7a4_42 rfl ?_
  refine s_bipush E dJ6_bitCount_0f7a4_43 rfl ?_
  refine s_iushr E dJ6_bitCount_0f7a4_45 ?_
  refine s_iadd E dJ6_bitCount_0f7a4_46 ?_
  refine s_istore_n (ls' := [_]) E dJ6_bitCount_0f7a4_47 (Nat.le_of_ble_eq_true rfl) rfl ?_
  refine s_iload_n E dJ6_bitCount_0f7a4_48 rfl ?_
  refine s_bipush E dJ6_bitCount_0f7a4_49 rfl ?_
  refine s_iand E dJ6_bitCount_0f7a4_51 ?_
  refine hret _ _ ?_ (fun q => by cases q) _ _ dJ6_bitCount_0f7a4_52
  exact ⟨bc_ok h, rfl⟩

set_option maxRecDepth 100000 in
set_option maxHeartbeats 4000000 in
theorem lp_X7_floor {v : Ev} {as : List Nat} (M : Mm) (s : Int) (h : 0 ≤ s ∧ s < 64) (hs : ∀ k, 0 ≤ k → k < 6 → 0 ≤ M 3 k ∧ M 3 k ≤ 999) (E : Cx v cX7_floorOf 4 yX7_floorOf.cls 2) (hret : RetI v as cX7_floorOf .int (fun r M' => r = flr (M 3) s ∧ M' = M)) : ∀ (N : Nat) (t k : Int), (6 - k).toNat < N → (0 ≤ k ∧ k ≤ 6) → (t = sumN (fun k => sb s k * M 3 k) k.toNat) → Ws v as SH 0 0 4 [some (rv 0), some (iv s), some (iv t), some (iv k)] [] M := by
  intro N
  induction N with
  | zero =>
    intro t k hN
    exact absurd hN (Nat.not_lt_zero _)
  | succ N ih =>
    intro t k hN g0 g1
    refine s_iload_n E dX7_floorOf_4 rfl ?_
    refine s_bipush E dX7_floorOf_5 rfl ?_
    refine s_icmp_ge E 38 dX7_floorOf_7 (by decide) (by omega) (by omega) (fun h7 => ?_) (fun h7 => ?_)
    · have b38 := sumS_rng (sv := M 3) s hs (k := k) (by omega)
      have e38 : t = sumS (M 3) s := by rw [g1, show k = 6 by omega]; rfl
      refine s_iload_n E dX7_floorOf_38 rfl ?_
      refine s_if_eq E 50 dX7_floorOf_39 (by decide) (by omega) (fun h39 => ?_) (fun h39 => ?_)
      · refine s_iload_n E dX7_floorOf_50 rfl ?_
        refine s_goto E 56 dX7_floorOf_51 (by decide) ?_
        refine hret _ _ ?_ (fun q => by cases q) _ _ dX7_floorOf_56
        exact ⟨by rw [flr_eq hs]; split <;> omega, rfl⟩
      · refine s_iload_n E dX7_floorOf_42 rfl ?_
        refine s_callSi E (c_J6_bitCount_0f7a4 _ _ (by omega)) dX7_floorOf_43 mf_J6_bitCount_0f7a4 ml_X7_204 rfl (Nat.le_of_ble_eq_true rfl) (Nat.le_of_ble_eq_true rfl) rfl (fun r43 M43 h43 => ?_)
        obtain ⟨e43, f43⟩ := h43; subst r43; subst M43
        have b46 := popc_rng s
        refine s_iconst E dX7_floorOf_46 ?_
        refine s_icmp_ne E 54 dX7_floorOf_47 (by decide) (by omega) (by omega) (fun h47 => ?_) (fun h47 => ?_)
        · refine s_ldc E dX7_floorOf_54 cst_X7_140 ?_
          refine hret _ _ ?_ (fun q => by cases q) _ _ dX7_floorOf_56
          exact ⟨by rw [flr_eq hs]; split <;> omega, rfl⟩
        · refine s_iload_n E dX7_floorOf_50 rfl ?_
          refine s_goto E 56 dX7_floorOf_51 (by decide) ?_
          refine hret _ _ ?_ (fun q => by cases q) _ _ dX7_floorOf_56
          exact ⟨by rw [flr_eq hs]; split <;> omega, rfl⟩
    · refine s_iload_n E dX7_floorOf_10 rfl ?_
      refine s_iload_n E dX7_floorOf_11 rfl ?_
      refine s_callSi E (c_X7_holds _ _ _ ) dX7_floorOf_12 mf_X7_holds ml_X7_209 rfl (Nat.le_of_ble_eq_true rfl) (Nat.le_of_ble_eq_true rfl) rfl (fun r12 M12 h12 => ?_)
      obtain ⟨e12, f12⟩ := h12; subst r12; subst M12
      refine s_ifeqB E 32 dX7_floorOf_15 (by decide) (fun h15 => ?_) (fun h15 => ?_)
      · refine s_iinc (ls' := [_, _, _, _]) E dX7_floorOf_32 rfl rfl ?_
        refine s_goto E 4 dX7_floorOf_35 (by decide) ?_
        exact ih _ _ (by omega) (by omega) (by rw [sumN_step (by omega), ← g1, sbm, if_neg (fun q => h15 (sb_bt.mp q))]; simp)
      · refine s_iload_n E dX7_floorOf_18 rfl ?_
        refine s_aload_n E dX7_floorOf_19 rfl ?_
        refine s_getR (kf := 0) E dX7_floorOf_20 rfl inb_X7 (Nat.le_of_ble_eq_true rfl) fl_X7_10 (by decide) sh0 rfl ?_
        refine s_getR (kf := 0) E dX7_floorOf_23 rfl inb_X2 (Nat.le_of_ble_eq_true rfl) fl_X7_67 (by decide) sh1 rfl ?_
        refine s_iconst E dX7_floorOf_26 ?_
        refine s_aald (kd := 0) (r := 3) E dX7_floorOf_27 (by decide) sh2 (Nat.le_of_ble_eq_true rfl) (by decide) rfl ?_
        refine s_iload_n E dX7_floorOf_28 rfl ?_
        refine s_iald E dX7_floorOf_29 (by decide) sh3 (Nat.le_of_ble_eq_true rfl) (by omega) ?_
        refine s_iadd E dX7_floorOf_30 ?_
        refine s_istore_n (ls' := [_, _, _, _]) E dX7_floorOf_31 (Nat.le_of_ble_eq_true rfl) rfl ?_
        refine s_iinc (ls' := [_, _, _, _]) E dX7_floorOf_32 rfl rfl ?_
        refine s_goto E 4 dX7_floorOf_35 (by decide) ?_
        exact ih _ _ (by omega) (by omega) (by rw [sumN_step (by omega), ← g1, sbm, if_pos (sb_bt.mpr h15)])

set_option maxRecDepth 100000 in
set_option maxHeartbeats 4000000 in
theorem c_X7_floorOf (M : Mm) (s : Int) (h : 0 ≤ s ∧ s < 64) (hs : ∀ k, 0 ≤ k → k < 6 → 0 ≤ M 3 k ∧ M 3 k ≤ 999) : CtI yX7_floorOf cX7_floorOf 4 .int 2 SH [rv 0, iv s] M (fun r M' => r = flr (M 3) s ∧ M' = M) := by
  refine CtI.of rfl (Nat.le_of_ble_eq_true rfl) (Or.inl rfl) (fun v as E hret => ?_)
  show Ws v as SH 0 0 0 [some (rv 0), some (iv s), none, none] [] M
  refine s_iconst E dX7_floorOf_0 ?_
  refine s_istore_n (ls' := [_, _, _, _]) E dX7_floorOf_1 (Nat.le_of_ble_eq_true rfl) rfl ?_
  refine s_iconst E dX7_floorOf_2 ?_
  refine s_istore_n (ls' := [_, _, _, _]) E dX7_floorOf_3 (Nat.le_of_ble_eq_true rfl) rfl ?_
  exact lp_X7_floor M s h hs E hret 7 0 0 (by decide) (by decide) rfl

set_option maxRecDepth 100000 in
set_option maxHeartbeats 4000000 in
theorem lp_X8_floor {v : Ev} {as : List Nat} (M : Mm) (s : Int) (hs : ∀ k, 0 ≤ k → k < 6 → 0 ≤ M 80 (4 * k) ∧ M 80 (4 * k) ≤ 999) (E : Cx v cX8_floorOf 6 yX8_floorOf.cls 1) (hret : RetI v as cX8_floorOf .int (fun r M' => r = flr (fun k => M 80 (4 * k)) s ∧ M' = M)) : ∀ (N : Nat) (n t k : Int) (o5 : Option Vv), (6 - k).toNat < N → (0 ≤ k ∧ k ≤ 6) → (n = sumN (fun k => sb s k) k.toNat) → (t = sumN (fun k => sb s k * M 80 (4 * k)) k.toNat) → Ws v as SH 0 0 7 [some (rv 79), some (iv s), some (iv n), some (iv t), some (iv k), o5] [] M := by
  intro N
  induction N with
  | zero =>
    intro n t k o5 hN
    exact absurd hN (Nat.not_lt_zero _)
  | succ N ih =>
    intro n t k o5 hN g0 g1 g2
    refine s_iload E dX8_floorOf_7 rfl ?_
    refine s_bipush E dX8_floorOf_9 rfl ?_
    refine s_icmp_ge E 71 dX8_floorOf_11 (by decide) (by omega) (by omega) (fun h11 => ?_) (fun h11 => ?_)
    · have b71 := sumS_rng (sv := fun k => M 80 (4 * k)) s hs (k := k) (by omega)
      have e71 : t = sumS (fun k => M 80 (4 * k)) s := by rw [g2, show k = 6 by omega]; rfl
      have f71 : n = popc s := by rw [g1, show k = 6 by omega]; rfl
      have r71 := popc_rng s
      refine s_iload_n E dX8_floorOf_71 rfl ?_
      refine s_iconst E dX8_floorOf_72 ?_
      refine s_icmp_le E 85 dX8_floorOf_73 (by decide) (by omega) (by omega) (fun h73 => ?_) (fun h73 => ?_)
      · refine s_iload_n E dX8_floorOf_85 rfl ?_
        refine hret _ _ ?_ (fun q => by cases q) _ _ dX8_floorOf_86
        exact ⟨by unfold flr; split <;> omega, rfl⟩
      · refine s_iload_n E dX8_floorOf_76 rfl ?_
        refine s_if_le E 85 dX8_floorOf_77 (by decide) (by omega) (fun h77 => ?_) (fun h77 => ?_)
        · refine s_iload_n E dX8_floorOf_85 rfl ?_
          refine hret _ _ ?_ (fun q => by cases q) _ _ dX8_floorOf_86
          exact ⟨by unfold flr; split <;> omega, rfl⟩
        · refine s_ldc E dX8_floorOf_80 cst_X8_148 ?_
          refine s_goto E 86 dX8_floorOf_82 (by decide) ?_
          refine hret _ _ ?_ (fun q => by cases q) _ _ dX8_floorOf_86
          exact ⟨by unfold flr; split <;> omega, rfl⟩
    · refine s_iload_n E dX8_floorOf_14 rfl ?_
      refine s_iload E dX8_floorOf_15 rfl ?_
      refine s_ishr E dX8_floorOf_17 ?_
      refine s_iconst E dX8_floorOf_18 ?_
      refine s_iand E dX8_floorOf_19 ?_
      refine s_iconst E dX8_floorOf_20 ?_
      refine s_icmp_ne E 28 dX8_floorOf_21 (by decide) (inI_and _ _) (by decide) (fun h21 => ?_) (fun h21 => ?_)
      · refine s_iconst E dX8_floorOf_28 ?_
        refine s_istore (ls' := [_, _, _, _, _, _]) E dX8_floorOf_29 (Nat.le_of_ble_eq_true rfl) rfl ?_
        refine s_iload_n E dX8_floorOf_31 rfl ?_
        refine s_iload E dX8_floorOf_32 rfl ?_
        refine s_if_eq E 41 dX8_floorOf_34 (by decide) (by omega) (fun h34 => ?_) (fun h34 => ?_)
        · refine s_iconst E dX8_floorOf_41 ?_
          refine s_iadd E dX8_floorOf_42 ?_
          refine s_istore_n (ls' := [_, _, _, _, _, _]) E dX8_floorOf_43 (Nat.le_of_ble_eq_true rfl) rfl ?_
          refine s_iload_n E dX8_floorOf_44 rfl ?_
          refine s_iload E dX8_floorOf_45 rfl ?_
          refine s_if_eq E 62 dX8_floorOf_47 (by decide) (by omega) (fun h47 => ?_) (fun h47 => ?_)
          · refine s_iconst E dX8_floorOf_62 ?_
            refine s_iadd E dX8_floorOf_63 ?_
            refine s_istore_n (ls' := [_, _, _, _, _, _]) E dX8_floorOf_64 (Nat.le_of_ble_eq_true rfl) rfl ?_
            refine s_iinc (ls' := [_, _, _, _, _, _]) E dX8_floorOf_65 rfl rfl ?_
            refine s_goto E 7 dX8_floorOf_68 (by decide) ?_
            exact ih _ _ _ _ (by omega) (by omega) (by rw [sumN_step (by omega), ← g1, sb_nbt.mpr h21]) (by rw [sumN_step (by omega), ← g2, sbm, if_neg (fun q => h21 (sb_bt.mp q))])
          · exact absurd h47 (by decide)
        · exact absurd h34 (by decide)
      · refine s_iconst E dX8_floorOf_24 ?_
        refine s_goto E 29 dX8_floorOf_25 (by decide) ?_
        refine s_istore (ls' := [_, _, _, _, _, _]) E dX8_floorOf_29 (Nat.le_of_ble_eq_true rfl) rfl ?_
        refine s_iload_n E dX8_floorOf_31 rfl ?_
        refine s_iload E dX8_floorOf_32 rfl ?_
        refine s_if_eq E 41 dX8_floorOf_34 (by decide) (by omega) (fun h34 => ?_) (fun h34 => ?_)
        · exact absurd h34 (by decide)
        · refine s_iconst E dX8_floorOf_37 ?_
          refine s_goto E 42 dX8_floorOf_38 (by decide) ?_
          refine s_iadd E dX8_floorOf_42 ?_
          refine s_istore_n (ls' := [_, _, _, _, _, _]) E dX8_floorOf_43 (Nat.le_of_ble_eq_true rfl) rfl ?_
          refine s_iload_n E dX8_floorOf_44 rfl ?_
          refine s_iload E dX8_floorOf_45 rfl ?_
          refine s_if_eq E 62 dX8_floorOf_47 (by decide) (by omega) (fun h47 => ?_) (fun h47 => ?_)
          · exact absurd h47 (by decide)
          · refine s_aload_n E dX8_floorOf_50 rfl ?_
            refine s_getR (kf := 0) E dX8_floorOf_51 rfl inb_X8 (Nat.le_of_ble_eq_true rfl) fl_X8_7 (by decide) sh79 rfl ?_
            refine s_iconst E dX8_floorOf_54 ?_
            refine s_iload E dX8_floorOf_55 rfl ?_
            refine s_imul E dX8_floorOf_57 ?_
            refine s_iald E dX8_floorOf_58 (by decide) sh80 (Nat.le_of_ble_eq_true rfl) (by omega) ?_
            refine s_goto E 63 dX8_floorOf_59 (by decide) ?_
            refine s_iadd E dX8_floorOf_63 ?_
            refine s_istore_n (ls' := [_, _, _, _, _, _]) E dX8_floorOf_64 (Nat.le_of_ble_eq_true rfl) rfl ?_
            refine s_iinc (ls' := [_, _, _, _, _, _]) E dX8_floorOf_65 rfl rfl ?_
            refine s_goto E 7 dX8_floorOf_68 (by decide) ?_
            exact ih _ _ _ _ (by omega) (by omega) (by rw [sumN_step (by omega), ← g1, show sb s k = 1 from Classical.byContradiction h21]) (by rw [sumN_step (by omega), ← g2, sbm, if_pos (show sb s k = 1 from Classical.byContradiction h21)])

set_option maxRecDepth 100000 in
set_option maxHeartbeats 4000000 in
theorem c_X8_floorOf (M : Mm) (s : Int) (hs : ∀ k, 0 ≤ k → k < 6 → 0 ≤ M 80 (4 * k) ∧ M 80 (4 * k) ≤ 999) : CtI yX8_floorOf cX8_floorOf 6 .int 1 SH [rv 79, iv s] M (fun r M' => r = flr (fun k => M 80 (4 * k)) s ∧ M' = M) := by
  refine CtI.of rfl (Nat.le_of_ble_eq_true rfl) (Or.inl rfl) (fun v as E hret => ?_)
  show Ws v as SH 0 0 0 [some (rv 79), some (iv s), none, none, none, none] [] M
  refine s_iconst E dX8_floorOf_0 ?_
  refine s_istore_n (ls' := [_, _, _, _, _, _]) E dX8_floorOf_1 (Nat.le_of_ble_eq_true rfl) rfl ?_
  refine s_iconst E dX8_floorOf_2 ?_
  refine s_istore_n (ls' := [_, _, _, _, _, _]) E dX8_floorOf_3 (Nat.le_of_ble_eq_true rfl) rfl ?_
  refine s_iconst E dX8_floorOf_4 ?_
  refine s_istore (ls' := [_, _, _, _, _, _]) E dX8_floorOf_5 (Nat.le_of_ble_eq_true rfl) rfl ?_
  exact lp_X8_floor M s hs E hret 7 0 0 0 _ (by decide) (by decide) rfl rfl

set_option maxRecDepth 100000 in
set_option maxHeartbeats 4000000 in
theorem c_X7_floor (M : Mm) (s : Int) (h : inI s) (hs : ∀ k, 0 ≤ k → k < 6 → 0 ≤ M 3 k ∧ M 3 k ≤ 999) : CtI yX7_floor cX7_floor 2 .int 3 SH [rv 0, iv s] M (fun r M' => r = (if 0 ≤ s ∧ s < 64 then flr (M 3) s else -2) ∧ M' = M) := by
  refine CtI.of rfl (Nat.le_of_ble_eq_true rfl) (Or.inl rfl) (fun v as E hret => ?_)
  show Ws v as SH 0 0 0 [some (rv 0), some (iv s)] [] M
  refine s_iload_n E dX7_floor_0 rfl ?_
  refine s_if_lt E 10 dX7_floor_1 (by decide) (by omega) (fun h1 => ?_) (fun h1 => ?_)
  · refine s_bipush E dX7_floor_10 rfl ?_
    refine s_goto E 20 dX7_floor_12 (by decide) ?_
    refine hret _ _ ?_ (fun q => by cases q) _ _ dX7_floor_20
    exact ⟨by (repeat' split) <;> first | rfl | omega, rfl⟩
  · refine s_iload_n E dX7_floor_4 rfl ?_
    refine s_bipush E dX7_floor_5 rfl ?_
    refine s_icmp_lt E 15 dX7_floor_7 (by decide) (by omega) (by omega) (fun h7 => ?_) (fun h7 => ?_)
    · refine s_aload_n E dX7_floor_15 rfl ?_
      refine s_iload_n E dX7_floor_16 rfl ?_
      refine s_callVi E (c_X7_floorOf _ _ (by omega) hs) dX7_floor_17 mf_X7_floorOf ml_X7_201 rfl (Nat.le_of_ble_eq_true rfl) (Nat.le_of_ble_eq_true rfl) (by decide) sh0 rfl rfl (fun r17 M17 h17 => ?_)
      obtain ⟨e17, f17⟩ := h17; subst r17; subst M17
      refine hret _ _ ?_ (fun q => by cases q) _ _ dX7_floor_20
      exact ⟨by (repeat' split) <;> first | rfl | omega, rfl⟩
    · refine s_bipush E dX7_floor_10 rfl ?_
      refine s_goto E 20 dX7_floor_12 (by decide) ?_
      refine hret _ _ ?_ (fun q => by cases q) _ _ dX7_floor_20
      exact ⟨by (repeat' split) <;> first | rfl | omega, rfl⟩

set_option maxRecDepth 100000 in
set_option maxHeartbeats 4000000 in
theorem c_X8_floor (M : Mm) (s : Int) (h : inI s) (hs : ∀ k, 0 ≤ k → k < 6 → 0 ≤ M 80 (4 * k) ∧ M 80 (4 * k) ≤ 999) : CtI yX8_floor cX8_floor 2 .int 2 SH [rv 79, iv s] M (fun r M' => r = (if 0 ≤ s ∧ s < 64 then flr (fun k => M 80 (4 * k)) s else -2) ∧ M' = M) := by
  refine CtI.of rfl (Nat.le_of_ble_eq_true rfl) (Or.inl rfl) (fun v as E hret => ?_)
  show Ws v as SH 0 0 0 [some (rv 79), some (iv s)] [] M
  refine s_iload_n E dX8_floor_0 rfl ?_
  refine s_iconst E dX8_floor_1 ?_
  refine s_bipush E dX8_floor_2 rfl ?_
  refine s_callSi E (c_X8_in _ _ _ _ (by omega) (by omega) (by omega)) dX8_floor_4 mf_X8_in ml_X8_63 rfl (Nat.le_of_ble_eq_true rfl) (Nat.le_of_ble_eq_true rfl) rfl (fun r4 M4 h4 => ?_)
  obtain ⟨e4, f4⟩ := h4; subst r4; subst M4
  refine s_ifeqB E 18 dX8_floor_7 (by decide) (fun h7 => ?_) (fun h7 => ?_)
  · refine s_bipush E dX8_floor_18 rfl ?_
    refine hret _ _ ?_ (fun q => by cases q) _ _ dX8_floor_20
    exact ⟨by (repeat' split) <;> first | rfl | omega, rfl⟩
  · refine s_aload_n E dX8_floor_10 rfl ?_
    refine s_iload_n E dX8_floor_11 rfl ?_
    refine s_callVi E (c_X8_floorOf _ _ hs) dX8_floor_12 mf_X8_floorOf ml_X8_149 rfl (Nat.le_of_ble_eq_true rfl) (Nat.le_of_ble_eq_true rfl) (by decide) sh79 rfl rfl (fun r12 M12 h12 => ?_)
    obtain ⟨e12, f12⟩ := h12; subst r12; subst M12
    refine s_goto E 20 dX8_floor_15 (by decide) ?_
    refine hret _ _ ?_ (fun q => by cases q) _ _ dX8_floor_20
    exact ⟨by (repeat' split) <;> first | rfl | omega, rfl⟩

theorem flr_rng {sv : Int → Int} (s : Int) (h : ∀ k, 0 ≤ k → k < 6 → 0 ≤ sv k ∧ sv k ≤ 999) : 0 ≤ flr sv s ∧ flr sv s ≤ 1000000 := by
  have h1 := sumS_rng s h (k := 6) (by omega)
  have h2 : 0 ≤ sumS sv s ∧ sumS sv s ≤ 5994 := h1
  unfold flr
  split <;> omega

set_option maxRecDepth 100000 in
set_option maxHeartbeats 4000000 in
theorem lp_X7_fr {v : Ev} {as : List Nat} (M : Mm) (w z : Int) (hw : 0 ≤ w ∧ w < 6) (hz : 0 ≤ z ∧ z ≤ 999) (hs : ∀ k, 0 ≤ k → k < 6 → 0 ≤ M 3 k ∧ M 3 k ≤ 999) (E : Cx v cX7_friends 6 yX7_friends.cls 3) (hret : RetI v as cX7_friends .int (fun r M' => r = frl (flr (M 3)) w z 63 1 (-6) ∧ M' = M)) : ∀ (N : Nat) (b x : Int) (o5 : Option Vv), (64 - x).toNat < N → (1 ≤ x ∧ x ≤ 64) → (b = -6 ∨ (1 ≤ b ∧ b < 64)) → (frl (flr (M 3)) w z (64 - x).toNat x b = frl (flr (M 3)) w z 63 1 (-6)) → Ws v as SH 0 0 29 [some (rv 0), some (iv w), some (iv z), some (iv b), some (iv x), o5] [] M := by
  intro N
  induction N with
  | zero =>
    intro b x o5 hN
    exact absurd hN (Nat.not_lt_zero _)
  | succ N ih =>
    intro b x o5 hN g0 g1 g2
    have p1 := popc_rng x; have p2 := popc_rng b; have p3 := flr_rng x hs
    refine s_iload E dX7_friends_29 rfl ?_
    refine s_bipush E dX7_friends_31 rfl ?_
    refine s_icmp_ge E 94 dX7_friends_33 (by decide) (by omega) (by omega) (fun h33 => ?_) (fun h33 => ?_)
    · refine s_iload_n E dX7_friends_94 rfl ?_
      refine hret _ _ ?_ (fun q => by cases q) _ _ dX7_friends_95
      exact ⟨by rw [← g2, frl_end (by omega)], rfl⟩
    · refine s_iload_n E dX7_friends_36 rfl ?_
      refine s_bipush E dX7_friends_37 rfl ?_
      refine s_icmp_eq E 54 dX7_friends_39 (by decide) (by omega) (by omega) (fun h39 => ?_) (fun h39 => ?_)
      · refine s_iconst E dX7_friends_54 ?_
        refine s_goto E 59 dX7_friends_55 (by decide) ?_
        refine s_istore (ls' := [_, _, _, _, _, _]) E dX7_friends_59 (Nat.le_of_ble_eq_true rfl) rfl ?_
        refine s_iload E dX7_friends_61 rfl ?_
        refine s_iload_n E dX7_friends_63 rfl ?_
        refine s_callSi E (c_X7_holds _ _ _ ) dX7_friends_64 mf_X7_holds ml_X7_209 rfl (Nat.le_of_ble_eq_true rfl) (Nat.le_of_ble_eq_true rfl) rfl (fun r64 M64 h64 => ?_)
        obtain ⟨e64, f64⟩ := h64; subst r64; subst M64
        have q64 : bt x w ↔ sb x w = 1 := Iff.rfl
        refine s_ifeqB E 88 dX7_friends_67 (by decide) (fun h67 => ?_) (fun h67 => ?_)
        · refine s_iinc (ls' := [_, _, _, _, _, _]) E dX7_friends_88 rfl rfl ?_
          refine s_goto E 29 dX7_friends_91 (by decide) ?_
          have s67 : ¬ sb x w = 1 := h67
          exact ih _ _ _ (by omega) (by omega) (by omega) (by rw [← g2]; exact (frl_go (by omega) (by have hb := sb_01 x w; split <;> omega)).symm)
        · refine s_iload E dX7_friends_70 rfl ?_
          refine s_if_eq E 88 dX7_friends_72 (by decide) (by omega) (fun h72 => ?_) (fun h72 => ?_)
          · exact absurd h72 (by decide)
          · refine s_aload_n E dX7_friends_75 rfl ?_
            refine s_iload E dX7_friends_76 rfl ?_
            refine s_callVi E (c_X7_floorOf _ _ (by omega) hs) dX7_friends_78 mf_X7_floorOf ml_X7_201 rfl (Nat.le_of_ble_eq_true rfl) (Nat.le_of_ble_eq_true rfl) (by decide) sh0 rfl rfl (fun r78 M78 h78 => ?_)
            obtain ⟨e78, f78⟩ := h78; subst r78; subst M78
            refine s_iload_n E dX7_friends_81 rfl ?_
            refine s_icmp_lt E 88 dX7_friends_82 (by decide) (by omega) (by omega) (fun h82 => ?_) (fun h82 => ?_)
            · refine s_iinc (ls' := [_, _, _, _, _, _]) E dX7_friends_88 rfl rfl ?_
              refine s_goto E 29 dX7_friends_91 (by decide) ?_
              have s67 : sb x w = 1 := h67
              exact ih _ _ _ (by omega) (by omega) (by omega) (by rw [← g2]; exact (frl_go (by omega) (by have hb := sb_01 x w; split <;> omega)).symm)
            · refine s_iload E dX7_friends_85 rfl ?_
              refine s_istore_n (ls' := [_, _, _, _, _, _]) E dX7_friends_87 (Nat.le_of_ble_eq_true rfl) rfl ?_
              refine s_iinc (ls' := [_, _, _, _, _, _]) E dX7_friends_88 rfl rfl ?_
              refine s_goto E 29 dX7_friends_91 (by decide) ?_
              have s67 : sb x w = 1 := h67
              exact ih _ _ _ (by omega) (by omega) (by omega) (by rw [← g2]; exact (frl_go (by omega) (by have hb := sb_01 x w; split <;> omega)).symm)
      · refine s_iload E dX7_friends_42 rfl ?_
        refine s_callSi E (c_J6_bitCount_0f7a4 _ _ (by omega)) dX7_friends_44 mf_J6_bitCount_0f7a4 ml_X7_204 rfl (Nat.le_of_ble_eq_true rfl) (Nat.le_of_ble_eq_true rfl) rfl (fun r44 M44 h44 => ?_)
        obtain ⟨e44, f44⟩ := h44; subst r44; subst M44
        refine s_iload_n E dX7_friends_47 rfl ?_
        refine s_callSi E (c_J6_bitCount_0f7a4 _ _ (by omega)) dX7_friends_48 mf_J6_bitCount_0f7a4 ml_X7_204 rfl (Nat.le_of_ble_eq_true rfl) (Nat.le_of_ble_eq_true rfl) rfl (fun r48 M48 h48 => ?_)
        obtain ⟨e48, f48⟩ := h48; subst r48; subst M48
        refine s_icmp_ge E 58 dX7_friends_51 (by decide) (by omega) (by omega) (fun h51 => ?_) (fun h51 => ?_)
        · refine s_iconst E dX7_friends_58 ?_
          refine s_istore (ls' := [_, _, _, _, _, _]) E dX7_friends_59 (Nat.le_of_ble_eq_true rfl) rfl ?_
          refine s_iload E dX7_friends_61 rfl ?_
          refine s_iload_n E dX7_friends_63 rfl ?_
          refine s_callSi E (c_X7_holds _ _ _ ) dX7_friends_64 mf_X7_holds ml_X7_209 rfl (Nat.le_of_ble_eq_true rfl) (Nat.le_of_ble_eq_true rfl) rfl (fun r64 M64 h64 => ?_)
          obtain ⟨e64, f64⟩ := h64; subst r64; subst M64
          have q64 : bt x w ↔ sb x w = 1 := Iff.rfl
          refine s_ifeqB E 88 dX7_friends_67 (by decide) (fun h67 => ?_) (fun h67 => ?_)
          · refine s_iinc (ls' := [_, _, _, _, _, _]) E dX7_friends_88 rfl rfl ?_
            refine s_goto E 29 dX7_friends_91 (by decide) ?_
            have s67 : ¬ sb x w = 1 := h67
            exact ih _ _ _ (by omega) (by omega) (by omega) (by rw [← g2]; exact (frl_go (by omega) (by have hb := sb_01 x w; split <;> omega)).symm)
          · refine s_iload E dX7_friends_70 rfl ?_
            refine s_if_eq E 88 dX7_friends_72 (by decide) (by omega) (fun h72 => ?_) (fun h72 => ?_)
            · refine s_iinc (ls' := [_, _, _, _, _, _]) E dX7_friends_88 rfl rfl ?_
              refine s_goto E 29 dX7_friends_91 (by decide) ?_
              have s67 : sb x w = 1 := h67
              exact ih _ _ _ (by omega) (by omega) (by omega) (by rw [← g2]; exact (frl_go (by omega) (by have hb := sb_01 x w; split <;> omega)).symm)
            · exact absurd h72 (by decide)
        · refine s_iconst E dX7_friends_54 ?_
          refine s_goto E 59 dX7_friends_55 (by decide) ?_
          refine s_istore (ls' := [_, _, _, _, _, _]) E dX7_friends_59 (Nat.le_of_ble_eq_true rfl) rfl ?_
          refine s_iload E dX7_friends_61 rfl ?_
          refine s_iload_n E dX7_friends_63 rfl ?_
          refine s_callSi E (c_X7_holds _ _ _ ) dX7_friends_64 mf_X7_holds ml_X7_209 rfl (Nat.le_of_ble_eq_true rfl) (Nat.le_of_ble_eq_true rfl) rfl (fun r64 M64 h64 => ?_)
          obtain ⟨e64, f64⟩ := h64; subst r64; subst M64
          have q64 : bt x w ↔ sb x w = 1 := Iff.rfl
          refine s_ifeqB E 88 dX7_friends_67 (by decide) (fun h67 => ?_) (fun h67 => ?_)
          · refine s_iinc (ls' := [_, _, _, _, _, _]) E dX7_friends_88 rfl rfl ?_
            refine s_goto E 29 dX7_friends_91 (by decide) ?_
            have s67 : ¬ sb x w = 1 := h67
            exact ih _ _ _ (by omega) (by omega) (by omega) (by rw [← g2]; exact (frl_go (by omega) (by have hb := sb_01 x w; split <;> omega)).symm)
          · refine s_iload E dX7_friends_70 rfl ?_
            refine s_if_eq E 88 dX7_friends_72 (by decide) (by omega) (fun h72 => ?_) (fun h72 => ?_)
            · exact absurd h72 (by decide)
            · refine s_aload_n E dX7_friends_75 rfl ?_
              refine s_iload E dX7_friends_76 rfl ?_
              refine s_callVi E (c_X7_floorOf _ _ (by omega) hs) dX7_friends_78 mf_X7_floorOf ml_X7_201 rfl (Nat.le_of_ble_eq_true rfl) (Nat.le_of_ble_eq_true rfl) (by decide) sh0 rfl rfl (fun r78 M78 h78 => ?_)
              obtain ⟨e78, f78⟩ := h78; subst r78; subst M78
              refine s_iload_n E dX7_friends_81 rfl ?_
              refine s_icmp_lt E 88 dX7_friends_82 (by decide) (by omega) (by omega) (fun h82 => ?_) (fun h82 => ?_)
              · refine s_iinc (ls' := [_, _, _, _, _, _]) E dX7_friends_88 rfl rfl ?_
                refine s_goto E 29 dX7_friends_91 (by decide) ?_
                have s67 : sb x w = 1 := h67
                exact ih _ _ _ (by omega) (by omega) (by omega) (by rw [← g2]; exact (frl_go (by omega) (by have hb := sb_01 x w; split <;> omega)).symm)
              · refine s_iload E dX7_friends_85 rfl ?_
                refine s_istore_n (ls' := [_, _, _, _, _, _]) E dX7_friends_87 (Nat.le_of_ble_eq_true rfl) rfl ?_
                refine s_iinc (ls' := [_, _, _, _, _, _]) E dX7_friends_88 rfl rfl ?_
                refine s_goto E 29 dX7_friends_91 (by decide) ?_
                have s67 : sb x w = 1 := h67
                exact ih _ _ _ (by omega) (by omega) (by omega) (by rw [← g2]; exact (frl_go (by omega) (by have hb := sb_01 x w; split <;> omega)).symm)

set_option maxRecDepth 100000 in
set_option maxHeartbeats 4000000 in
theorem c_X7_friends (M : Mm) (w z : Int) (hw : inI w) (hz : inI z) (hs : ∀ k, 0 ≤ k → k < 6 → 0 ≤ M 3 k ∧ M 3 k ≤ 999) : CtI yX7_friends cX7_friends 6 .int 3 SH [rv 0, iv w, iv z] M (fun r M' => r = (if 0 ≤ w ∧ w < 6 then (if 0 ≤ z ∧ z ≤ 999 then frl (flr (M 3)) w z 63 1 (-6) else -2) else -1) ∧ M' = M) := by
  refine CtI.of rfl (Nat.le_of_ble_eq_true rfl) (Or.inl rfl) (fun v as E hret => ?_)
  show Ws v as SH 0 0 0 [some (rv 0), some (iv w), some (iv z), none, none, none] [] M
  refine s_iload_n E dX7_friends_0 rfl ?_
  refine s_callSi E (c_X7_isOne _ _ (by omega)) dX7_friends_1 mf_X7_isOne ml_X7_59 rfl (Nat.le_of_ble_eq_true rfl) (Nat.le_of_ble_eq_true rfl) rfl (fun r1 M1 h1 => ?_)
  obtain ⟨e1, f1⟩ := h1; subst r1; subst M1
  refine s_ifneB E 9 dX7_friends_4 (by decide) (fun h4 => ?_) (fun h4 => ?_)
  · refine s_iload_n E dX7_friends_9 rfl ?_
    refine s_if_lt E 20 dX7_friends_10 (by decide) (by omega) (fun h10 => ?_) (fun h10 => ?_)
    · refine s_bipush E dX7_friends_20 rfl ?_
      refine hret _ _ ?_ (fun q => by cases q) _ _ dX7_friends_22
      exact ⟨by (repeat' split) <;> first | rfl | omega, rfl⟩
    · refine s_iload_n E dX7_friends_13 rfl ?_
      refine s_sipush E dX7_friends_14 rfl ?_
      refine s_icmp_le E 23 dX7_friends_17 (by decide) (by omega) (by omega) (fun h17 => ?_) (fun h17 => ?_)
      · refine s_bipush E dX7_friends_23 rfl ?_
        refine s_istore_n (ls' := [_, _, _, _, _, _]) E dX7_friends_25 (Nat.le_of_ble_eq_true rfl) rfl ?_
        refine s_iconst E dX7_friends_26 ?_
        refine s_istore (ls' := [_, _, _, _, _, _]) E dX7_friends_27 (Nat.le_of_ble_eq_true rfl) rfl ?_
        exact lp_X7_fr M w z (by omega) (by omega) hs E (fun r M' h => hret r M' ⟨by rw [if_pos (by omega), if_pos (by omega)]; exact h.1, h.2⟩) 64 (-6) 1 _ (by decide) (by decide) (by decide) rfl
      · refine s_bipush E dX7_friends_20 rfl ?_
        refine hret _ _ ?_ (fun q => by cases q) _ _ dX7_friends_22
        exact ⟨by (repeat' split) <;> first | rfl | omega, rfl⟩
  · refine s_iconst E dX7_friends_7 ?_
    refine hret _ _ ?_ (fun q => by cases q) _ _ dX7_friends_8
    exact ⟨by (repeat' split) <;> first | rfl | omega, rfl⟩

set_option maxRecDepth 100000 in
set_option maxHeartbeats 4000000 in
theorem lp_X8_fr {v : Ev} {as : List Nat} (M : Mm) (w z : Int) (hw : 0 ≤ w ∧ w < 6) (hz : 0 ≤ z ∧ z ≤ 999) (hs : ∀ k, 0 ≤ k → k < 6 → 0 ≤ M 80 (4 * k) ∧ M 80 (4 * k) ≤ 999) (E : Cx v cX8_friends 6 yX8_friends.cls 3) (hret : RetI v as cX8_friends .int (fun r M' => r = frl (flr (fun k => M 80 (4 * k))) w z 63 1 (-6) ∧ M' = M)) : ∀ (N : Nat) (b x : Int) (o5 : Option Vv), (64 - x).toNat < N → (1 ≤ x ∧ x ≤ 64) → (b = -6 ∨ (1 ≤ b ∧ b < 64)) → (frl (flr (fun k => M 80 (4 * k))) w z (64 - x).toNat x b = frl (flr (fun k => M 80 (4 * k))) w z 63 1 (-6)) → Ws v as SH 0 0 29 [some (rv 79), some (iv w), some (iv z), some (iv b), some (iv x), o5] [] M := by
  intro N
  induction N with
  | zero =>
    intro b x o5 hN
    exact absurd hN (Nat.not_lt_zero _)
  | succ N ih =>
    intro b x o5 hN g0 g1 g2
    have p1 := popc_rng x; have p2 := popc_rng b; have p3 := flr_rng (sv := fun k => M 80 (4 * k)) x hs
    refine s_iload E dX8_friends_29 rfl ?_
    refine s_bipush E dX8_friends_31 rfl ?_
    refine s_icmp_ge E 97 dX8_friends_33 (by decide) (by omega) (by omega) (fun h33 => ?_) (fun h33 => ?_)
    · refine s_iload_n E dX8_friends_97 rfl ?_
      refine hret _ _ ?_ (fun q => by cases q) _ _ dX8_friends_98
      exact ⟨by rw [← g2, frl_end (by omega)], rfl⟩
    · refine s_iload_n E dX8_friends_36 rfl ?_
      refine s_if_lt E 52 dX8_friends_37 (by decide) (by omega) (fun h37 => ?_) (fun h37 => ?_)
      · refine s_iconst E dX8_friends_52 ?_
        refine s_goto E 57 dX8_friends_53 (by decide) ?_
        refine s_istore (ls' := [_, _, _, _, _, _]) E dX8_friends_57 (Nat.le_of_ble_eq_true rfl) rfl ?_
        have q59 : iAnd (iShr x w) 1 = sb x w := rfl
        refine s_iload E dX8_friends_59 rfl ?_
        refine s_iload_n E dX8_friends_61 rfl ?_
        refine s_ishr E dX8_friends_62 ?_
        refine s_iconst E dX8_friends_63 ?_
        refine s_iand E dX8_friends_64 ?_
        refine s_iconst E dX8_friends_65 ?_
        refine s_icmp_ne E 89 dX8_friends_66 (by decide) (inI_and _ _) (by decide) (fun h66 => ?_) (fun h66 => ?_)
        · refine s_iload_n E dX8_friends_89 rfl ?_
          refine s_istore_n (ls' := [_, _, _, _, _, _]) E dX8_friends_90 (Nat.le_of_ble_eq_true rfl) rfl ?_
          refine s_iinc (ls' := [_, _, _, _, _, _]) E dX8_friends_91 rfl rfl ?_
          refine s_goto E 29 dX8_friends_94 (by decide) ?_
          exact ih _ _ _ (by omega) (by omega) (by omega) (by rw [← g2]; exact (frl_go (by omega) (by have hb := sb_01 x w; split <;> omega)).symm)
        · refine s_iload E dX8_friends_69 rfl ?_
          refine s_if_eq E 89 dX8_friends_71 (by decide) (by omega) (fun h71 => ?_) (fun h71 => ?_)
          · exact absurd h71 (by decide)
          · refine s_aload_n E dX8_friends_74 rfl ?_
            refine s_iload E dX8_friends_75 rfl ?_
            refine s_callVi E (c_X8_floorOf _ _ hs) dX8_friends_77 mf_X8_floorOf ml_X8_149 rfl (Nat.le_of_ble_eq_true rfl) (Nat.le_of_ble_eq_true rfl) (by decide) sh79 rfl rfl (fun r77 M77 h77 => ?_)
            obtain ⟨e77, f77⟩ := h77; subst r77; subst M77
            refine s_iload_n E dX8_friends_80 rfl ?_
            refine s_icmp_lt E 89 dX8_friends_81 (by decide) (by omega) (by omega) (fun h81 => ?_) (fun h81 => ?_)
            · refine s_iload_n E dX8_friends_89 rfl ?_
              refine s_istore_n (ls' := [_, _, _, _, _, _]) E dX8_friends_90 (Nat.le_of_ble_eq_true rfl) rfl ?_
              refine s_iinc (ls' := [_, _, _, _, _, _]) E dX8_friends_91 rfl rfl ?_
              refine s_goto E 29 dX8_friends_94 (by decide) ?_
              exact ih _ _ _ (by omega) (by omega) (by omega) (by rw [← g2]; exact (frl_go (by omega) (by have hb := sb_01 x w; split <;> omega)).symm)
            · refine s_iload E dX8_friends_84 rfl ?_
              refine s_goto E 90 dX8_friends_86 (by decide) ?_
              refine s_istore_n (ls' := [_, _, _, _, _, _]) E dX8_friends_90 (Nat.le_of_ble_eq_true rfl) rfl ?_
              refine s_iinc (ls' := [_, _, _, _, _, _]) E dX8_friends_91 rfl rfl ?_
              refine s_goto E 29 dX8_friends_94 (by decide) ?_
              exact ih _ _ _ (by omega) (by omega) (by omega) (by rw [← g2]; exact (frl_go (by omega) (by have hb := sb_01 x w; split <;> omega)).symm)
      · refine s_iload E dX8_friends_40 rfl ?_
        refine s_callSi E (c_X8_bits _ _) dX8_friends_42 mf_X8_bits ml_X8_152 rfl (Nat.le_of_ble_eq_true rfl) (Nat.le_of_ble_eq_true rfl) rfl (fun r42 M42 h42 => ?_)
        obtain ⟨e42, f42⟩ := h42; subst r42; subst M42
        refine s_iload_n E dX8_friends_45 rfl ?_
        refine s_callSi E (c_X8_bits _ _) dX8_friends_46 mf_X8_bits ml_X8_152 rfl (Nat.le_of_ble_eq_true rfl) (Nat.le_of_ble_eq_true rfl) rfl (fun r46 M46 h46 => ?_)
        obtain ⟨e46, f46⟩ := h46; subst r46; subst M46
        refine s_icmp_ge E 56 dX8_friends_49 (by decide) (by omega) (by omega) (fun h49 => ?_) (fun h49 => ?_)
        · refine s_iconst E dX8_friends_56 ?_
          refine s_istore (ls' := [_, _, _, _, _, _]) E dX8_friends_57 (Nat.le_of_ble_eq_true rfl) rfl ?_
          have q59 : iAnd (iShr x w) 1 = sb x w := rfl
          refine s_iload E dX8_friends_59 rfl ?_
          refine s_iload_n E dX8_friends_61 rfl ?_
          refine s_ishr E dX8_friends_62 ?_
          refine s_iconst E dX8_friends_63 ?_
          refine s_iand E dX8_friends_64 ?_
          refine s_iconst E dX8_friends_65 ?_
          refine s_icmp_ne E 89 dX8_friends_66 (by decide) (inI_and _ _) (by decide) (fun h66 => ?_) (fun h66 => ?_)
          · refine s_iload_n E dX8_friends_89 rfl ?_
            refine s_istore_n (ls' := [_, _, _, _, _, _]) E dX8_friends_90 (Nat.le_of_ble_eq_true rfl) rfl ?_
            refine s_iinc (ls' := [_, _, _, _, _, _]) E dX8_friends_91 rfl rfl ?_
            refine s_goto E 29 dX8_friends_94 (by decide) ?_
            exact ih _ _ _ (by omega) (by omega) (by omega) (by rw [← g2]; exact (frl_go (by omega) (by have hb := sb_01 x w; split <;> omega)).symm)
          · refine s_iload E dX8_friends_69 rfl ?_
            refine s_if_eq E 89 dX8_friends_71 (by decide) (by omega) (fun h71 => ?_) (fun h71 => ?_)
            · refine s_iload_n E dX8_friends_89 rfl ?_
              refine s_istore_n (ls' := [_, _, _, _, _, _]) E dX8_friends_90 (Nat.le_of_ble_eq_true rfl) rfl ?_
              refine s_iinc (ls' := [_, _, _, _, _, _]) E dX8_friends_91 rfl rfl ?_
              refine s_goto E 29 dX8_friends_94 (by decide) ?_
              exact ih _ _ _ (by omega) (by omega) (by omega) (by rw [← g2]; exact (frl_go (by omega) (by have hb := sb_01 x w; split <;> omega)).symm)
            · exact absurd h71 (by decide)
        · refine s_iconst E dX8_friends_52 ?_
          refine s_goto E 57 dX8_friends_53 (by decide) ?_
          refine s_istore (ls' := [_, _, _, _, _, _]) E dX8_friends_57 (Nat.le_of_ble_eq_true rfl) rfl ?_
          have q59 : iAnd (iShr x w) 1 = sb x w := rfl
          refine s_iload E dX8_friends_59 rfl ?_
          refine s_iload_n E dX8_friends_61 rfl ?_
          refine s_ishr E dX8_friends_62 ?_
          refine s_iconst E dX8_friends_63 ?_
          refine s_iand E dX8_friends_64 ?_
          refine s_iconst E dX8_friends_65 ?_
          refine s_icmp_ne E 89 dX8_friends_66 (by decide) (inI_and _ _) (by decide) (fun h66 => ?_) (fun h66 => ?_)
          · refine s_iload_n E dX8_friends_89 rfl ?_
            refine s_istore_n (ls' := [_, _, _, _, _, _]) E dX8_friends_90 (Nat.le_of_ble_eq_true rfl) rfl ?_
            refine s_iinc (ls' := [_, _, _, _, _, _]) E dX8_friends_91 rfl rfl ?_
            refine s_goto E 29 dX8_friends_94 (by decide) ?_
            exact ih _ _ _ (by omega) (by omega) (by omega) (by rw [← g2]; exact (frl_go (by omega) (by have hb := sb_01 x w; split <;> omega)).symm)
          · refine s_iload E dX8_friends_69 rfl ?_
            refine s_if_eq E 89 dX8_friends_71 (by decide) (by omega) (fun h71 => ?_) (fun h71 => ?_)
            · exact absurd h71 (by decide)
            · refine s_aload_n E dX8_friends_74 rfl ?_
              refine s_iload E dX8_friends_75 rfl ?_
              refine s_callVi E (c_X8_floorOf _ _ hs) dX8_friends_77 mf_X8_floorOf ml_X8_149 rfl (Nat.le_of_ble_eq_true rfl) (Nat.le_of_ble_eq_true rfl) (by decide) sh79 rfl rfl (fun r77 M77 h77 => ?_)
              obtain ⟨e77, f77⟩ := h77; subst r77; subst M77
              refine s_iload_n E dX8_friends_80 rfl ?_
              refine s_icmp_lt E 89 dX8_friends_81 (by decide) (by omega) (by omega) (fun h81 => ?_) (fun h81 => ?_)
              · refine s_iload_n E dX8_friends_89 rfl ?_
                refine s_istore_n (ls' := [_, _, _, _, _, _]) E dX8_friends_90 (Nat.le_of_ble_eq_true rfl) rfl ?_
                refine s_iinc (ls' := [_, _, _, _, _, _]) E dX8_friends_91 rfl rfl ?_
                refine s_goto E 29 dX8_friends_94 (by decide) ?_
                exact ih _ _ _ (by omega) (by omega) (by omega) (by rw [← g2]; exact (frl_go (by omega) (by have hb := sb_01 x w; split <;> omega)).symm)
              · refine s_iload E dX8_friends_84 rfl ?_
                refine s_goto E 90 dX8_friends_86 (by decide) ?_
                refine s_istore_n (ls' := [_, _, _, _, _, _]) E dX8_friends_90 (Nat.le_of_ble_eq_true rfl) rfl ?_
                refine s_iinc (ls' := [_, _, _, _, _, _]) E dX8_friends_91 rfl rfl ?_
                refine s_goto E 29 dX8_friends_94 (by decide) ?_
                exact ih _ _ _ (by omega) (by omega) (by omega) (by rw [← g2]; exact (frl_go (by omega) (by have hb := sb_01 x w; split <;> omega)).symm)

set_option maxRecDepth 100000 in
set_option maxHeartbeats 4000000 in
theorem c_X8_friends (M : Mm) (w z : Int) (hw : inI w) (hz : inI z) (hs : ∀ k, 0 ≤ k → k < 6 → 0 ≤ M 80 (4 * k) ∧ M 80 (4 * k) ≤ 999) : CtI yX8_friends cX8_friends 6 .int 3 SH [rv 79, iv w, iv z] M (fun r M' => r = (if 0 ≤ w ∧ w < 6 then (if 0 ≤ z ∧ z ≤ 999 then frl (flr (fun k => M 80 (4 * k))) w z 63 1 (-6) else -2) else -1) ∧ M' = M) := by
  refine CtI.of rfl (Nat.le_of_ble_eq_true rfl) (Or.inl rfl) (fun v as E hret => ?_)
  show Ws v as SH 0 0 0 [some (rv 79), some (iv w), some (iv z), none, none, none] [] M
  refine s_iload_n E dX8_friends_0 rfl ?_
  refine s_callSi E (c_X8_isOne _ _ (by omega)) dX8_friends_1 mf_X8_isOne ml_X8_67 rfl (Nat.le_of_ble_eq_true rfl) (Nat.le_of_ble_eq_true rfl) rfl (fun r1 M1 h1 => ?_)
  obtain ⟨e1, f1⟩ := h1; subst r1; subst M1
  refine s_ifneB E 9 dX8_friends_4 (by decide) (fun h4 => ?_) (fun h4 => ?_)
  · refine s_iload_n E dX8_friends_9 rfl ?_
    refine s_iconst E dX8_friends_10 ?_
    refine s_sipush E dX8_friends_11 rfl ?_
    refine s_callSi E (c_X8_in _ _ _ _ (by omega) (by omega) (by omega)) dX8_friends_14 mf_X8_in ml_X8_63 rfl (Nat.le_of_ble_eq_true rfl) (Nat.le_of_ble_eq_true rfl) rfl (fun r14 M14 h14 => ?_)
    obtain ⟨e14, f14⟩ := h14; subst r14; subst M14
    refine s_ifneB E 23 dX8_friends_17 (by decide) (fun h17 => ?_) (fun h17 => ?_)
    · refine s_bipush E dX8_friends_23 rfl ?_
      refine s_istore_n (ls' := [_, _, _, _, _, _]) E dX8_friends_25 (Nat.le_of_ble_eq_true rfl) rfl ?_
      refine s_iconst E dX8_friends_26 ?_
      refine s_istore (ls' := [_, _, _, _, _, _]) E dX8_friends_27 (Nat.le_of_ble_eq_true rfl) rfl ?_
      exact lp_X8_fr M w z (by omega) (by omega) hs E (fun r M' h => hret r M' ⟨by rw [if_pos (by omega), if_pos (by omega)]; exact h.1, h.2⟩) 64 (-6) 1 _ (by decide) (by decide) (by decide) rfl
    · refine s_bipush E dX8_friends_20 rfl ?_
      refine hret _ _ ?_ (fun q => by cases q) _ _ dX8_friends_22
      exact ⟨by (repeat' split) <;> first | rfl | omega, rfl⟩
  · refine s_iconst E dX8_friends_7 ?_
    refine hret _ _ ?_ (fun q => by cases q) _ _ dX8_friends_8
    exact ⟨by (repeat' split) <;> first | rfl | omega, rfl⟩
end
