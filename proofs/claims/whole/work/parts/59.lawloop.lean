set_option maxRecDepth 100000 in
set_option maxHeartbeats 4000000 in
theorem lw_loop {v : Ev} {as : List Nat} {mc ms L d : Nat} {xs : Nat → Int32} {yy : Nat} (E : Cx v cL_law 4 yL_law.cls d) (hd : 18 ≤ d) (hRM : RMk mc ms v) (hX : SX L xs v) (hL : L ≤ 2048) (hSF : SFy yy v) (kend : ∀ (M : Mm) (i : Int), Ws v as SH mc ms 708 [some (rv (-1)), some (rv 0), some (rv 79), some (iv i)] [] M) : ∀ (N : Nat) (M : Mm) (i : Int), ((L : Int) + 4 - i).toNat < N → 0 ≤ i → i ≤ (L : Int) + 4 → Rel M → Ws v as SH mc ms 18 [some (rv (-1)), some (rv 0), some (rv 79), some (iv i)] [] M := by
  intro N
  induction N with
  | zero =>
    intro M i hN
    exact absurd hN (Nat.not_lt_zero _)
  | succ N ih =>
    intro M i hN h0 h1 hR
    by_cases hi4 : i + 3 < (L : Int)
    · have k702 : ∀ M', Rel M' → Ws v as SH mc ms 702 [some (rv (-1)), some (rv 0), some (rv 79), some (iv i)] [] M' := fun M' hR' => by
        refine s_iinc (ls' := [_, _, _, _]) E dL_law_702 rfl rfl ?_
        refine s_goto E 18 dL_law_705 (by decide) ?_
        exact ih M' (i + 4) (by omega) (by omega) (by omega) hR'
      refine s_iload_n E dL_law_18 rfl ?_
      refine s_aload_n E dL_law_19 rfl ?_
      refine s_slen E hX dL_law_20 ?_
      refine s_iconst E dL_law_21 ?_
      refine s_isub E dL_law_22 ?_
      refine s_icmp_gt E 708 dL_law_23 (by decide) (by omega) (by omega) (fun h23 => ?_) (fun h23 => ?_)
      · exact kend M i
      · refine s_aload_n E dL_law_26 rfl ?_
        refine s_iload_n E dL_law_27 rfl ?_
        refine s_sld E hX hL dL_law_28 (by omega) ?_
        refine s_bipush E dL_law_29 rfl ?_
        refine s_iand E dL_law_31 ?_
        refine s_tcase E (0) 136 dL_law_32 (by decide) rfl (by decide) (fun h32_0 => ?_) (fun h32_0 => ?_)
        · exact lw_set E hd hRM hX hL hSF M i (by omega) hR k702
        refine s_tcase E (1) 179 dL_law_32 (by decide) rfl (by decide) (fun h32_1 => ?_) (fun h32_1 => ?_)
        · exact lw_law E hd hRM hX hL hSF M i (by omega) hR k702
        refine s_tcase E (2) 212 dL_law_32 (by decide) rfl (by decide) (fun h32_2 => ?_) (fun h32_2 => ?_)
        · exact lw_say E hd hRM hX hL hSF M i (by omega) hR k702
        refine s_tcase E (3) 235 dL_law_32 (by decide) rfl (by decide) (fun h32_3 => ?_) (fun h32_3 => ?_)
        · exact lw_wipe E hd hRM hX hL hSF M i (by omega) hR k702
        refine s_tcase E (4) 248 dL_law_32 (by decide) rfl (by decide) (fun h32_4 => ?_) (fun h32_4 => ?_)
        · exact lw_fault E hd hRM hX hL hSF M i (by omega) hR k702
        refine s_tcase E (5) 271 dL_law_32 (by decide) rfl (by decide) (fun h32_5 => ?_) (fun h32_5 => ?_)
        · exact lw_sits E hd hRM hX hL hSF M i (by omega) hR k702
        refine s_tcase E (6) 294 dL_law_32 (by decide) rfl (by decide) (fun h32_6 => ?_) (fun h32_6 => ?_)
        · exact lw_sit E hd hRM hX hL hSF M i (by omega) hR k702
        refine s_tcase E (7) 307 dL_law_32 (by decide) rfl (by decide) (fun h32_7 => ?_) (fun h32_7 => ?_)
        · exact lw_matter E hd hRM hX hL hSF M i (by omega) hR k702
        refine s_tcase E (8) 350 dL_law_32 (by decide) rfl (by decide) (fun h32_8 => ?_) (fun h32_8 => ?_)
        · exact lw_about E hd hRM hX hL hSF M i (by omega) hR k702
        refine s_tcase E (9) 383 dL_law_32 (by decide) rfl (by decide) (fun h32_9 => ?_) (fun h32_9 => ?_)
        · exact lw_clear E hd hRM hX hL hSF M i (by omega) hR k702
        refine s_tcase E (10) 396 dL_law_32 (by decide) rfl (by decide) (fun h32_10 => ?_) (fun h32_10 => ?_)
        · exact lw_least E hd hRM hX hL hSF M i (by omega) hR k702
        refine s_tcase E (11) 419 dL_law_32 (by decide) rfl (by decide) (fun h32_11 => ?_) (fun h32_11 => ?_)
        · exact lw_dealt E hd hRM hX hL hSF M i (by omega) hR k702
        refine s_tcase E (12) 452 dL_law_32 (by decide) rfl (by decide) (fun h32_12 => ?_) (fun h32_12 => ?_)
        · exact lw_lend E hd hRM hX hL hSF M i (by omega) hR k702
        refine s_tcase E (13) 495 dL_law_32 (by decide) rfl (by decide) (fun h32_13 => ?_) (fun h32_13 => ?_)
        · exact lw_net E hd hRM hX hL hSF M i (by omega) hR k702
        refine s_tcase E (14) 518 dL_law_32 (by decide) rfl (by decide) (fun h32_14 => ?_) (fun h32_14 => ?_)
        · exact lw_gifts E hd hRM hX hL hSF M i (by omega) hR k702
        refine s_tcase E (15) 531 dL_law_32 (by decide) rfl (by decide) (fun h32_15 => ?_) (fun h32_15 => ?_)
        · exact lw_filled E hd hRM hX hL hSF M i (by omega) hR k702
        refine s_tcase E (16) 564 dL_law_32 (by decide) rfl (by decide) (fun h32_16 => ?_) (fun h32_16 => ?_)
        · exact lw_lie E hd hRM hX hL hSF M i (by omega) hR k702
        refine s_tcase E (17) 577 dL_law_32 (by decide) rfl (by decide) (fun h32_17 => ?_) (fun h32_17 => ?_)
        · exact lw_floor E hd hRM hX hL hSF M i (by omega) hR k702
        refine s_tcase E (18) 600 dL_law_32 (by decide) rfl (by decide) (fun h32_18 => ?_) (fun h32_18 => ?_)
        · exact lw_friends E hd hRM hX hL hSF M i (by omega) hR k702
        refine s_tcase E (19) 633 dL_law_32 (by decide) rfl (by decide) (fun h32_19 => ?_) (fun h32_19 => ?_)
        · by_cases q0 : xz xs (i + 1) = 0
          · exact lw_image_0 E hd hRM hX hL hSF M i (by omega) hR q0 k702
          · by_cases q1 : xz xs (i + 1) = 1
            · exact lw_image_1 E hd hRM hX hL hSF M i (by omega) hR q1 k702
            · exact lw_image_x E hd hRM hX hL hSF M i (by omega) hR (by omega) k702
        refine s_tcase E (20) 656 dL_law_32 (by decide) rfl (by decide) (fun h32_20 => ?_) (fun h32_20 => ?_)
        · by_cases q0 : xz xs (i + 1) = 0
          · exact lw_restore_0 E hd hRM hX hL hSF M i (by omega) hR q0 k702
          · by_cases q1 : xz xs (i + 1) = 1
            · exact lw_restore_1 E hd hRM hX hL hSF M i (by omega) hR q1 k702
            · exact lw_restore_x E hd hRM hX hL hSF M i (by omega) hR (by omega) k702
        refine s_tcase E (21) 679 dL_law_32 (by decide) rfl (by decide) (fun h32_21 => ?_) (fun h32_21 => ?_)
        · exact lw_told E hd hRM hX hL hSF M i (by omega) hR k702
        refine s_tout E 702 dL_law_32 ((inI_and _ _)) (by omega) (by decide) ?_
        exact k702 M hR
    · have k702 : True := trivial
      refine s_iload_n E dL_law_18 rfl ?_
      refine s_aload_n E dL_law_19 rfl ?_
      refine s_slen E hX dL_law_20 ?_
      refine s_iconst E dL_law_21 ?_
      refine s_isub E dL_law_22 ?_
      refine s_icmp_gt E 708 dL_law_23 (by decide) (by omega) (by omega) (fun h23 => ?_) (fun h23 => ?_)
      · exact kend M i
      · exfalso; omega