set_option maxRecDepth 100000 in
set_option maxHeartbeats 4000000 in
theorem lw_ent {v : Ev} {L d : Nat} {xs : Nat → Int32} {yy : Nat} (E : Cx v cL_law 4 yL_law.cls d) (G : GX v) (hd : 18 ≤ d) (hRM : RMk 95 3875 v) (hX : SX L xs v) (hL : L ≤ 2048) (hSF : SFy yy v) (kend : ∀ (as : List Nat) (M : Mm) (i : Int), Ws v as SH 95 3875 708 [some (rv (-1)), some (rv 0), some (rv 79), some (iv i)] [] M) : Ws v [] [] 0 0 0 [some (rv (-1)), none, none, none] [] (fun _ _ => 0) := by
  have hz : Zr (fun _ _ => 0) 1 := fun _ _ _ => rfl
  refine s_new (n := 0) (wz := 0) (ci := 7) (fs := [some none, some none, some none, some none, some none, some none, some none, some none]) (sh' := S_X7_init_0) E dL_law_0 rfl inb_X7 tyX7_ok cn_L_7 rfl rfl rfl rfl (fun j => rfl) rfl rfl (hRM.le (Nat.le_of_ble_eq_true rfl) (Nat.le_of_ble_eq_true rfl)) rfl rfl (fun q0 => ?_)
  refine s_dup E dL_law_3 ?_
  refine s_callG E G (k_X7_0 (fun _ _ => 0) (fun _ _ _ => rfl)) dL_law_4 mi_X7 ml_L_9 rfl (by decide) (by decide) (by omega) (Nat.le_of_ble_eq_true rfl) (hRM.le (Nat.le_of_ble_eq_true rfl) (Nat.le_of_ble_eq_true rfl)) rfl (fun t4 M4 h4 => ?_)
  have hz4 : Zr M4 79 := fun k j hk => by
    rw [h4 k (by omega) (by omega) (by omega)]
    exact kM_z (kM_z (kM_z (hz.mono (m := 79) (by omega)) (by decide)) (by decide)) (by decide) k j hk
  refine s_astore_n (ls' := [_, _, _, _]) E dL_law_7 (Nat.le_of_ble_eq_true rfl) rfl ?_
  refine s_new (n := 79) (wz := 79) (ci := 8) (fs := [some none, none, none, none, some none, none, some none, some none, some none, some none, none, none, none, some none, some none, some none, some none, some none, some none, some none, some none, some none]) (sh' := S_X7_init_36 ++ S_X8_init_79_0) E dL_law_8 rfl inb_X8 tyX8_ok cn_L_10 rfl (by decide +kernel) (by decide) rfl (fun j => hz4 _ j (Int.le_refl _)) rfl rfl (hRM.le (Nat.le_of_ble_eq_true rfl) (Nat.le_of_ble_eq_true rfl)) rfl rfl (fun q8 => ?_)
  refine s_dup E dL_law_11 ?_
  refine s_callG E G (k_X8_79 S_X7_init_36 rfl (by decide +kernel) M4 hz4) dL_law_12 mi_X8 ml_L_12 rfl (by decide) (by decide) (by omega) (Nat.le_of_ble_eq_true rfl) (hRM.le (Nat.le_of_ble_eq_true rfl) (Nat.le_of_ble_eq_true rfl)) rfl (fun t12 M12 h12 => ?_)
  subst h12
  rw [show S_X7_init_36 ++ S_X8_init_79_30 = SH from rfl]
  refine s_astore_n (ls' := [_, _, _, _]) E dL_law_15 (Nat.le_of_ble_eq_true rfl) rfl ?_
  refine s_iconst E dL_law_16 ?_
  refine s_istore_n (ls' := [_, _, _, _]) E dL_law_17 (Nat.le_of_ble_eq_true rfl) rfl ?_
  have hR : Rel (mM M4) := Rel_0.keep (M1st rfl h4)
  exact lw_loop E hd hRM hX hL hSF (fun M i => kend _ M i) _ _ 0 (Nat.lt_succ_self _) (Int.le_refl _) (by omega) hR
