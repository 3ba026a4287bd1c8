def fX7_begin (u : zs_T) (v1 : Int32) (v2 : Int32) : Option zs_T :=
  (if zf_z v2 then some (zs_si (zs_sa (zs_si (zs_si (zs_si (zs_si u 14 v1) 15 0) 16 v2) 17 0) 18 (zf_fill 12 0 (zs_a (zs_si (zs_si (zs_si (zs_si u 14 v1) 15 0) 16 v2) 17 0) 18))) 18 1) else none)
set_option maxHeartbeats 4000000 in
set_option maxRecDepth 100000 in
theorem kX7_begin (l : Launch) (D : va_G) (q : Nat → Nat) (cs : Nat → ClassId) (u : zs_T) (v1 : Int32) (v2 : Int32) (z : zs_T) (hf : fX7_begin u v1 v2 = some z) : zg_Cv l yX7_begin cX7_begin 3 none 1 D cs (wX q cs) u [.ref (q 6), .int v1, .int v2] z := by
  refine zg_Cv_of (own := RX7) (by decide) rfl wX_ad (Nat.le_of_ble_eq_true rfl) ?_
  intro p e s m args below meth c A Q C hret w ls hl
  obtain ⟨hx, hb, -⟩ := id C
  have hl : lv_has ls 3 [(0, .ref (q 6)), (1, .int v1), (2, .int v2)] := hl
  generalize hH : s.heap = H at w ⊢
  generalize hLc : ([] : List Loc) = locs at w ⊢
  unfold fX7_begin at hf
  refine lv_aload_n hx hb dX7_begin_0 rfl (lv_at hl 0 rfl) ?_
  refine lv_iload_n hx hb dX7_begin_1 rfl (lv_at hl 1 rfl) ?_
  refine xp_6_0 C w lf_7_9 dX7_begin_2 (fun H locs w => ?_)
  refine lv_aload_n hx hb dX7_begin_5 rfl (lv_at hl 0 rfl) ?_
  refine lv_iconst (v := 0) hx hb dX7_begin_6 (by decide) ?_
  refine xp_6_1 C w (by rfl) lf_7_15 dX7_begin_7 (fun H locs w => ?_)
  refine lv_aload_n hx hb dX7_begin_10 rfl (lv_at hl 0 rfl) ?_
  refine lv_iload_n hx hb dX7_begin_11 rfl (lv_at hl 2 rfl) ?_
  obtain ⟨hz, hf⟩ := zf_gd hf
  refine xp_6_2 C w hz lf_7_19 dX7_begin_12 (fun H locs w => ?_)
  refine lv_aload_n hx hb dX7_begin_15 rfl (lv_at hl 0 rfl) ?_
  refine lv_iconst (v := 0) hx hb dX7_begin_16 (by decide) ?_
  refine xp_6_3 C w lf_7_22 dX7_begin_17 (fun H locs w => ?_)
  refine lv_aload_n hx hb dX7_begin_20 rfl (lv_at hl 0 rfl) ?_
  refine xg_6_4 C w lf_7_25 dX7_begin_21 ?_
  refine lv_iconst (v := 0) hx hb dX7_begin_24 (by decide) ?_
  refine zc_rv wX_ad w (zc_S C w (kA_fill l D cs (wX q cs) wX_ad (q 27) 27 18 12 (by decide) (fun _ => wX_c27) (fun _ _ => wX_s27) _ 0 _) cf_A_fill ci_A_fill lm_7_75 ⟨Nat.le_of_ble_eq_true rfl, Nat.le_of_ble_eq_true rfl⟩ hl.1 rfl (Nat.le_of_ble_eq_true rfl) dX7_begin_25 ⟨Nat.le_refl _, Nat.le_refl _⟩) (fun H locs w => ?_)
  refine lv_aload_n hx hb dX7_begin_28 rfl (lv_at hl 0 rfl) ?_
  refine lv_iconst (v := 1) hx hb dX7_begin_29 (by decide) ?_
  refine xp_6_5 C w lf_7_29 dX7_begin_30 (fun H locs w => ?_)
  exact hret _ _ _ _ _ hf w dX7_begin_33
def fX7_fits (u : zs_T) (v1 : Int32) (v2 : Int32) : Option Int32 :=
  (if v1 = 0 then (if zs_i u 15 = 0 then (if zs_i u 16 = 0 then some 1 else some 0) else some 0) else (if v1 = 1 then (if zf_z (zs_i u 15) then some (zs_i u 15) else none) else (if v1 = 2 then (if zf_z (zs_i u 15) then some (zs_i u 15) else none) else (if zs_i u 16 = 0 then (if v2 = zs_i u 14 then some 0 else some 1) else some 0))))
set_option maxHeartbeats 4000000 in
set_option maxRecDepth 100000 in
theorem kX7_fits (l : Launch) (D : va_G) (q : Nat → Nat) (cs : Nat → ClassId) (u : zs_T) (v1 : Int32) (v2 : Int32) (z : Int32) (hf : fX7_fits u v1 v2 = some z) : zg_Ci l yX7_fits cX7_fits 3 (some .boolean) 0 D cs (wX q cs) u [.ref (q 6), .int v1, .int v2] z u := by
  refine zg_Cz_of (own := RX7) (by decide) rfl wX_ad (Nat.le_of_ble_eq_true rfl) ?_
  intro p e s m args below meth c A Q C hret w ls hl
  obtain ⟨hx, hb, -⟩ := id C
  have hl : lv_has ls 3 [(0, .ref (q 6)), (1, .int v1), (2, .int v2)] := hl
  generalize hH : s.heap = H at w ⊢
  generalize hLc : ([] : List Loc) = locs at w ⊢
  unfold fX7_fits at hf
  refine lv_iload_n hx hb dX7_fits_0 rfl (lv_at hl 1 rfl) ?_
  by_cases hs1 : v1 = 0
  · replace hf := zf_t hs1 hf
    refine lv_tableIn (off := 27) (tgt := 28) hx hb dX7_fits_1 (by rw [hs1]; decide) (by rw [hs1]; decide) (by rw [hs1]; rfl) (by decide) ?_
    refine lv_aload_n hx hb dX7_fits_28 rfl (lv_at hl 0 rfl) ?_
    refine xg_6_1 C w lf_7_15 dX7_fits_29 ?_
    refine lv_if_ne (tgt := 46) hx hb dX7_fits_32 (by decide) (fun h => ?_) (fun h => ?_)
    · replace hf := zf_f h hf
      refine lv_iconst (v := 0) hx hb dX7_fits_46 (by decide) ?_
      exact hret _ _ _ _ _ _ (by rfl) (zf_pr hf) w dX7_fits_47
    · replace hf := zf_t h hf
      refine lv_aload_n hx hb dX7_fits_35 rfl (lv_at hl 0 rfl) ?_
      refine xg_6_2 C w lf_7_19 dX7_fits_36 ?_
      refine lv_if_ne (tgt := 46) hx hb dX7_fits_39 (by decide) (fun h => ?_) (fun h => ?_)
      · replace hf := zf_f h hf
        refine lv_iconst (v := 0) hx hb dX7_fits_46 (by decide) ?_
        exact hret _ _ _ _ _ _ (by rfl) (zf_pr hf) w dX7_fits_47
      · replace hf := zf_t h hf
        refine lv_iconst (v := 1) hx hb dX7_fits_42 (by decide) ?_
        refine lv_goto (tgt := 47) hx hb dX7_fits_43 (by decide) ?_
        exact hret _ _ _ _ _ _ (by rfl) (zf_pr hf) w dX7_fits_47
  · replace hf := zf_f hs1 hf
    by_cases hs2 : v1 = 1
    · replace hf := zf_t hs2 hf
      refine lv_tableIn (off := 47) (tgt := 48) hx hb dX7_fits_1 (by rw [hs2]; decide) (by rw [hs2]; decide) (by rw [hs2]; rfl) (by decide) ?_
      refine lv_aload_n hx hb dX7_fits_48 rfl (lv_at hl 0 rfl) ?_
      refine xg_6_1 C w lf_7_15 dX7_fits_49 ?_
      obtain ⟨hz, hf⟩ := zf_gd hf
      exact hret _ _ _ _ _ _ hz (zf_pr hf) w dX7_fits_52
    · replace hf := zf_f hs2 hf
      by_cases hs3 : v1 = 2
      · replace hf := zf_t hs3 hf
        refine lv_tableIn (off := 47) (tgt := 48) hx hb dX7_fits_1 (by rw [hs3]; decide) (by rw [hs3]; decide) (by rw [hs3]; rfl) (by decide) ?_
        refine lv_aload_n hx hb dX7_fits_48 rfl (lv_at hl 0 rfl) ?_
        refine xg_6_1 C w lf_7_15 dX7_fits_49 ?_
        obtain ⟨hz, hf⟩ := zf_gd hf
        exact hret _ _ _ _ _ _ hz (zf_pr hf) w dX7_fits_52
      · replace hf := zf_f hs3 hf
        have e_hs1 : v1.toInt ≠ 0 := zf_ne hs1
        have e_hs2 : v1.toInt ≠ 1 := zf_ne hs2
        have e_hs3 : v1.toInt ≠ 2 := zf_ne hs3
        refine lv_tableOut (tgt := 53) hx hb dX7_fits_1 (by omega) (by decide) ?_
        refine lv_aload_n hx hb dX7_fits_53 rfl (lv_at hl 0 rfl) ?_
        refine xg_6_2 C w lf_7_19 dX7_fits_54 ?_
        refine lv_if_ne (tgt := 72) hx hb dX7_fits_57 (by decide) (fun h => ?_) (fun h => ?_)
        · replace hf := zf_f h hf
          refine lv_iconst (v := 0) hx hb dX7_fits_72 (by decide) ?_
          exact hret _ _ _ _ _ _ (by rfl) (zf_pr hf) w dX7_fits_73
        · replace hf := zf_t h hf
          refine lv_iload_n hx hb dX7_fits_60 rfl (lv_at hl 2 rfl) ?_
          refine lv_aload_n hx hb dX7_fits_61 rfl (lv_at hl 0 rfl) ?_
          refine xg_6_0 C w lf_7_9 dX7_fits_62 ?_
          refine lv_icmp_eq (tgt := 72) hx hb dX7_fits_65 (by decide) (fun h => ?_) (fun h => ?_)
          · replace hf := zf_t h hf
            refine lv_iconst (v := 0) hx hb dX7_fits_72 (by decide) ?_
            exact hret _ _ _ _ _ _ (by rfl) (zf_pr hf) w dX7_fits_73
          · replace hf := zf_f h hf
            refine lv_iconst (v := 1) hx hb dX7_fits_68 (by decide) ?_
            refine lv_goto (tgt := 73) hx hb dX7_fits_69 (by decide) ?_
            exact hret _ _ _ _ _ _ (by rfl) (zf_pr hf) w dX7_fits_73
def fX7_tallyBefore (u : zs_T) (v1 : Int32) : Option zs_T :=
  (if 0 < v1 - (zs_i u 18) then (if zf_in (zs_i u 14) 12 then (if zf_in (zs_i u 14) 12 then (if zs_i (zs_sa u 18 (upd (zs_a u 18) (zs_i u 14).toNatClampNeg ((zs_a u 18 (zs_i u 14).toNatClampNeg) + (v1 - (zs_i u 18))))) 15 = 0 then some (zs_si (zs_sa u 18 (upd (zs_a u 18) (zs_i u 14).toNatClampNeg ((zs_a u 18 (zs_i u 14).toNatClampNeg) + (v1 - (zs_i u 18))))) 18 v1) else some (zs_si (zs_si (zs_sa u 18 (upd (zs_a u 18) (zs_i u 14).toNatClampNeg ((zs_a u 18 (zs_i u 14).toNatClampNeg) + (v1 - (zs_i u 18))))) 17 ((zs_i (zs_sa u 18 (upd (zs_a u 18) (zs_i u 14).toNatClampNeg ((zs_a u 18 (zs_i u 14).toNatClampNeg) + (v1 - (zs_i u 18))))) 17) + (v1 - (zs_i u 18)))) 18 v1)) else none) else none) else some u)
set_option maxHeartbeats 4000000 in
set_option maxRecDepth 100000 in
theorem kX7_tallyBefore (l : Launch) (D : va_G) (q : Nat → Nat) (cs : Nat → ClassId) (u : zs_T) (v1 : Int32) (z : zs_T) (hf : fX7_tallyBefore u v1 = some z) : zg_Cv l yX7_tallyBefore cX7_tallyBefore 3 none 0 D cs (wX q cs) u [.ref (q 6), .int v1] z := by
  refine zg_Cv_of (own := RX7) (by decide) rfl wX_ad (Nat.le_of_ble_eq_true rfl) ?_
  intro p e s m args below meth c A Q C hret w ls hl
  obtain ⟨hx, hb, -⟩ := id C
  have hl : lv_has ls 3 [(0, .ref (q 6)), (1, .int v1)] := hl
  generalize hH : s.heap = H at w ⊢
  generalize hLc : ([] : List Loc) = locs at w ⊢
  unfold fX7_tallyBefore at hf
  refine lv_iload_n hx hb dX7_tallyBefore_0 rfl (lv_at hl 1 rfl) ?_
  refine lv_aload_n hx hb dX7_tallyBefore_1 rfl (lv_at hl 0 rfl) ?_
  refine xg_6_5 C w lf_7_29 dX7_tallyBefore_2 ?_
  refine lv_isub hx hb dX7_tallyBefore_5 ?_
  refine lv_istore_n (lv' := [(2, .int (v1 - (zs_i u 18))), (0, .ref (q 6)), (1, .int v1)]) hx hb dX7_tallyBefore_6 rfl hl (by decide) rfl (fun ls hl => ?_)
  refine lv_iload_n hx hb dX7_tallyBefore_7 rfl (lv_at hl 0 rfl) ?_
  refine lv_if_gt (tgt := 12) hx hb dX7_tallyBefore_8 (by decide) (fun h => ?_) (fun h => ?_)
  · replace hf := zf_t h hf
    refine lv_aload_n hx hb dX7_tallyBefore_12 rfl (lv_at hl 1 rfl) ?_
    refine xg_6_4 C w lf_7_25 dX7_tallyBefore_13 ?_
    refine lv_aload_n hx hb dX7_tallyBefore_16 rfl (lv_at hl 1 rfl) ?_
    refine xg_6_0 C w lf_7_9 dX7_tallyBefore_17 ?_
    refine lv_dup2_11 hx hb dX7_tallyBefore_20 rfl rfl ?_
    obtain ⟨hi, hf⟩ := zf_gd hf
    refine xa_27 C w hi dX7_tallyBefore_21 ?_
    refine lv_iload_n hx hb dX7_tallyBefore_22 rfl (lv_at hl 0 rfl) ?_
    refine lv_iadd hx hb dX7_tallyBefore_23 ?_
    obtain ⟨hi, hf⟩ := zf_gd hf
    refine xs_27 C w hi dX7_tallyBefore_24 (fun H locs w => ?_)
    refine lv_aload_n hx hb dX7_tallyBefore_25 rfl (lv_at hl 1 rfl) ?_
    refine xg_6_1 C w lf_7_15 dX7_tallyBefore_26 ?_
    refine lv_if_eq (tgt := 42) hx hb dX7_tallyBefore_29 (by decide) (fun h => ?_) (fun h => ?_)
    · replace hf := zf_t h hf
      refine lv_aload_n hx hb dX7_tallyBefore_42 rfl (lv_at hl 1 rfl) ?_
      refine lv_iload_n hx hb dX7_tallyBefore_43 rfl (lv_at hl 2 rfl) ?_
      refine xp_6_5 C w lf_7_29 dX7_tallyBefore_44 (fun H locs w => ?_)
      exact hret _ _ _ _ _ hf w dX7_tallyBefore_47
    · replace hf := zf_f h hf
      refine lv_aload_n hx hb dX7_tallyBefore_32 rfl (lv_at hl 1 rfl) ?_
      refine lv_dup hx hb dX7_tallyBefore_33 rfl ?_
      refine xg_6_3 C w lf_7_22 dX7_tallyBefore_34 ?_
      refine lv_iload_n hx hb dX7_tallyBefore_37 rfl (lv_at hl 0 rfl) ?_
      refine lv_iadd hx hb dX7_tallyBefore_38 ?_
      refine xp_6_3 C w lf_7_22 dX7_tallyBefore_39 (fun H locs w => ?_)
      refine lv_aload_n hx hb dX7_tallyBefore_42 rfl (lv_at hl 1 rfl) ?_
      refine lv_iload_n hx hb dX7_tallyBefore_43 rfl (lv_at hl 2 rfl) ?_
      refine xp_6_5 C w lf_7_29 dX7_tallyBefore_44 (fun H locs w => ?_)
      exact hret _ _ _ _ _ hf w dX7_tallyBefore_47
  · replace hf := zf_f h hf
    exact hret _ _ _ _ _ hf w dX7_tallyBefore_11
def fX7_follow (u : zs_T) (v1 : Int32) (v2 : Int32) : Option zs_T :=
  (if v1 = 3 then some (zs_si u 14 v2) else (if v1 = 0 then (if v1 = 2 then some (zs_si (zs_si u 15 1) 16 1) else some (zs_si (zs_si u 15 1) 16 0)) else (if v1 = 2 then some (zs_si (zs_si u 15 0) 16 1) else some (zs_si (zs_si u 15 0) 16 0))))
set_option maxHeartbeats 4000000 in
set_option maxRecDepth 100000 in
theorem kX7_follow (l : Launch) (D : va_G) (q : Nat → Nat) (cs : Nat → ClassId) (u : zs_T) (v1 : Int32) (v2 : Int32) (z : zs_T) (hf : fX7_follow u v1 v2 = some z) : zg_Cv l yX7_follow cX7_follow 3 none 0 D cs (wX q cs) u [.ref (q 6), .int v1, .int v2] z := by
  refine zg_Cv_of (own := RX7) (by decide) rfl wX_ad (Nat.le_of_ble_eq_true rfl) ?_
  intro p e s m args below meth c A Q C hret w ls hl
  obtain ⟨hx, hb, -⟩ := id C
  have hl : lv_has ls 3 [(0, .ref (q 6)), (1, .int v1), (2, .int v2)] := hl
  generalize hH : s.heap = H at w ⊢
  generalize hLc : ([] : List Loc) = locs at w ⊢
  unfold fX7_follow at hf
  refine lv_iload_n hx hb dX7_follow_0 rfl (lv_at hl 1 rfl) ?_
  refine lv_iconst (v := 3) hx hb dX7_follow_1 (by decide) ?_
  refine lv_icmp_ne (tgt := 11) hx hb dX7_follow_2 (by decide) (fun h => ?_) (fun h => ?_)
  · replace hf := zf_f h hf
    refine lv_aload_n hx hb dX7_follow_11 rfl (lv_at hl 0 rfl) ?_
    refine lv_iload_n hx hb dX7_follow_12 rfl (lv_at hl 1 rfl) ?_
    refine lv_if_ne (tgt := 20) hx hb dX7_follow_13 (by decide) (fun h => ?_) (fun h => ?_)
    · replace hf := zf_f h hf
      refine lv_iconst (v := 0) hx hb dX7_follow_20 (by decide) ?_
      refine xp_6_1 C w (by rfl) lf_7_15 dX7_follow_21 (fun H locs w => ?_)
      refine lv_aload_n hx hb dX7_follow_24 rfl (lv_at hl 0 rfl) ?_
      refine lv_iload_n hx hb dX7_follow_25 rfl (lv_at hl 1 rfl) ?_
      refine lv_iconst (v := 2) hx hb dX7_follow_26 (by decide) ?_
      refine lv_icmp_ne (tgt := 34) hx hb dX7_follow_27 (by decide) (fun h => ?_) (fun h => ?_)
      · replace hf := zf_f h hf
        refine lv_iconst (v := 0) hx hb dX7_follow_34 (by decide) ?_
        refine xp_6_2 C w (by rfl) lf_7_19 dX7_follow_35 (fun H locs w => ?_)
        exact hret _ _ _ _ _ hf w dX7_follow_38
      · replace hf := zf_t h hf
        refine lv_iconst (v := 1) hx hb dX7_follow_30 (by decide) ?_
        refine lv_goto (tgt := 35) hx hb dX7_follow_31 (by decide) ?_
        refine xp_6_2 C w (by rfl) lf_7_19 dX7_follow_35 (fun H locs w => ?_)
        exact hret _ _ _ _ _ hf w dX7_follow_38
    · replace hf := zf_t h hf
      refine lv_iconst (v := 1) hx hb dX7_follow_16 (by decide) ?_
      refine lv_goto (tgt := 21) hx hb dX7_follow_17 (by decide) ?_
      refine xp_6_1 C w (by rfl) lf_7_15 dX7_follow_21 (fun H locs w => ?_)
      refine lv_aload_n hx hb dX7_follow_24 rfl (lv_at hl 0 rfl) ?_
      refine lv_iload_n hx hb dX7_follow_25 rfl (lv_at hl 1 rfl) ?_
      refine lv_iconst (v := 2) hx hb dX7_follow_26 (by decide) ?_
      refine lv_icmp_ne (tgt := 34) hx hb dX7_follow_27 (by decide) (fun h => ?_) (fun h => ?_)
      · replace hf := zf_f h hf
        refine lv_iconst (v := 0) hx hb dX7_follow_34 (by decide) ?_
        refine xp_6_2 C w (by rfl) lf_7_19 dX7_follow_35 (fun H locs w => ?_)
        exact hret _ _ _ _ _ hf w dX7_follow_38
      · replace hf := zf_t h hf
        refine lv_iconst (v := 1) hx hb dX7_follow_30 (by decide) ?_
        refine lv_goto (tgt := 35) hx hb dX7_follow_31 (by decide) ?_
        refine xp_6_2 C w (by rfl) lf_7_19 dX7_follow_35 (fun H locs w => ?_)
        exact hret _ _ _ _ _ hf w dX7_follow_38
  · replace hf := zf_t h hf
    refine lv_aload_n hx hb dX7_follow_5 rfl (lv_at hl 0 rfl) ?_
    refine lv_iload_n hx hb dX7_follow_6 rfl (lv_at hl 2 rfl) ?_
    refine xp_6_0 C w lf_7_9 dX7_follow_7 (fun H locs w => ?_)
    exact hret _ _ _ _ _ hf w dX7_follow_10
def fX7_replay_j130 (N : Nat) (u : zs_T) (v4 : Int32) : Option (Int32 × zs_T) :=
  (zf_bv (fX7_tallyBefore u (v4 + 1)) fun u4 => some (1, u4))
def fX7_replay_j49 (N : Nat) (u : zs_T) (v4 : Int32) : Option (Int32 × zs_T) :=
  (zf_bv (fX7_tallyBefore u (v4 + 1)) fun u12 => some (1, u12))
def fX7_replay_b19 (N : Nat) (v2 : Int32) (v3 : Int32) (v4 : Int32) (ag19 : zs_T → Int32 → Option (Int32 × zs_T)) (u : zs_T) (v5 : Int32) : Option (Int32 × zs_T) :=
  (if zs_i u 13 ≤ v5 then fX7_replay_j130 N u v4 else (if zf_in v5 100 then (if zf_in (zs_a u 17 v5.toNatClampNeg) 100 then (if zs_a u 15 (zs_a u 17 v5.toNatClampNeg).toNatClampNeg ≤ v4 then (if v3 ≤ zs_a u 17 v5.toNatClampNeg then ag19 u (v5 + 1) else (if zf_in (zs_a u 17 v5.toNatClampNeg) 100 then (if zs_a u 14 (zs_a u 17 v5.toNatClampNeg).toNatClampNeg = v2 then (if zf_in (zs_a u 17 v5.toNatClampNeg) 100 then (if zf_in (zs_a u 17 v5.toNatClampNeg) 100 then (zf_bp (fX7_fits u (zs_a u 13 (zs_a u 17 v5.toNatClampNeg).toNatClampNeg) (zs_a u 16 (zs_a u 17 v5.toNatClampNeg).toNatClampNeg)) fun r5 => (if r5 = 0 then some (0, u) else (if zf_in (zs_a u 17 v5.toNatClampNeg) 100 then (zf_bv (fX7_tallyBefore u (zs_a u 15 (zs_a u 17 v5.toNatClampNeg).toNatClampNeg)) fun u8 => (if zf_in (zs_a u 17 v5.toNatClampNeg) 100 then (if zf_in (zs_a u 17 v5.toNatClampNeg) 100 then (zf_bv (fX7_follow u8 (zs_a u8 13 (zs_a u 17 v5.toNatClampNeg).toNatClampNeg) (zs_a u8 16 (zs_a u 17 v5.toNatClampNeg).toNatClampNeg)) fun u10 => ag19 u10 (v5 + 1)) else none) else none)) else none))) else none) else none) else ag19 u (v5 + 1)) else none)) else fX7_replay_j49 N u v4) else none) else none))
def fX7_replay (N : Nat) (u : zs_T) (v2 : Int32) (v3 : Int32) (v4 : Int32) : Option (Int32 × zs_T) :=
  (if zf_in v2 80 then (if zf_in v2 80 then (zf_bv (fX7_begin u (zs_a u 11 v2.toNatClampNeg) (zs_a u 12 v2.toNatClampNeg)) fun u2 => zf_loop (fun ag x => fX7_replay_b19 N v2 v3 v4 (fun u v5 => ag (u, v5)) x.1 x.2) N (u2, 0)) else none) else none)
set_option maxHeartbeats 4000000 in
set_option maxRecDepth 100000 in
theorem kX7_replay (l : Launch) (D : va_G) (q : Nat → Nat) (cs : Nat → ClassId) (N : Nat) (u : zs_T) (v2 : Int32) (v3 : Int32) (v4 : Int32) (z : (Int32 × zs_T)) (hf : fX7_replay N u v2 v3 v4 = some z) : zg_Ci l yX7_replay cX7_replay 7 (some .boolean) 2 D cs (wX q cs) u [.ref (q 6), .ref (q 5), .int v2, .int v3, .int v4] z.1 z.2 := by
  refine zg_Cz_of (own := RX7) (by decide) rfl wX_ad (Nat.le_of_ble_eq_true rfl) ?_
  intro p e s m args below meth c A Q C hret w ls hl
  obtain ⟨hx, hb, -⟩ := id C
  have hl : lv_has ls 7 [(0, .ref (q 6)), (1, .ref (q 5)), (2, .int v2), (3, .int v3), (4, .int v4)] := hl
  generalize hH : s.heap = H at w ⊢
  generalize hLc : ([] : List Loc) = locs at w ⊢
  have hj130 : ∀ (u : zs_T) (v4 : Int32) (H : Heap) (locs : List Loc) (ls : Array Slot), zg_W D cs A s (wX q cs u) H locs → lv_has ls 7 [(0, .ref (q 6)), (4, .int v4)] → fX7_replay_j130 N u v4 = some z → W p l e (zg_rm 2) s m args below meth c H locs 0 0 Q (F0 m 130 ls []) := by
    intro u v4 H locs ls w hl hf
    unfold fX7_replay_j130 at hf
    refine lv_aload_n hx hb dX7_replay_130 rfl (lv_at hl 0 rfl) ?_
    refine lv_iload hx hb dX7_replay_131 (lv_at hl 1 rfl) ?_
    refine lv_iconst (v := 1) hx hb dX7_replay_133 (by decide) ?_
    refine lv_iadd hx hb dX7_replay_134 ?_
    obtain ⟨u4, hc, hf⟩ := zf_bv_ex hf
    refine zc_rv wX_ad w (zc_V C w (kX7_tallyBefore l D q cs _ _ _ hc _) cf_7_tallyBefore ci_7_tallyBefore lm_7_67 rcX_6 ⟨Nat.le_of_ble_eq_true rfl, Nat.le_of_ble_eq_true rfl⟩ hl.1 rfl (Nat.le_of_ble_eq_true rfl) dX7_replay_135 ⟨Nat.le_refl _, Nat.le_refl _⟩) (fun H locs w => ?_)
    refine lv_iconst (v := 1) hx hb dX7_replay_138 (by decide) ?_
    exact hret _ _ _ _ _ _ (by rfl) hf w dX7_replay_139
  have hj49 : ∀ (u : zs_T) (v4 : Int32) (H : Heap) (locs : List Loc) (ls : Array Slot), zg_W D cs A s (wX q cs u) H locs → lv_has ls 7 [(0, .ref (q 6)), (4, .int v4)] → fX7_replay_j49 N u v4 = some z → W p l e (zg_rm 2) s m args below meth c H locs 0 0 Q (F0 m 49 ls []) := by
    intro u v4 H locs ls w hl hf
    unfold fX7_replay_j49 at hf
    refine lv_goto (tgt := 130) hx hb dX7_replay_49 (by decide) ?_
    refine lv_aload_n hx hb dX7_replay_130 rfl (lv_at hl 0 rfl) ?_
    refine lv_iload hx hb dX7_replay_131 (lv_at hl 1 rfl) ?_
    refine lv_iconst (v := 1) hx hb dX7_replay_133 (by decide) ?_
    refine lv_iadd hx hb dX7_replay_134 ?_
    obtain ⟨u12, hc, hf⟩ := zf_bv_ex hf
    refine zc_rv wX_ad w (zc_V C w (kX7_tallyBefore l D q cs _ _ _ hc _) cf_7_tallyBefore ci_7_tallyBefore lm_7_67 rcX_6 ⟨Nat.le_of_ble_eq_true rfl, Nat.le_of_ble_eq_true rfl⟩ hl.1 rfl (Nat.le_of_ble_eq_true rfl) dX7_replay_135 ⟨Nat.le_refl _, Nat.le_refl _⟩) (fun H locs w => ?_)
    refine lv_iconst (v := 1) hx hb dX7_replay_138 (by decide) ?_
    exact hret _ _ _ _ _ _ (by rfl) hf w dX7_replay_139
  unfold fX7_replay at hf
  refine lv_aload_n hx hb dX7_replay_0 rfl (lv_at hl 0 rfl) ?_
  refine lv_aload_n hx hb dX7_replay_1 rfl (lv_at hl 1 rfl) ?_
  refine xg_5_0 C w lf_7_32 dX7_replay_2 ?_
  refine lv_iload_n hx hb dX7_replay_5 rfl (lv_at hl 2 rfl) ?_
  obtain ⟨hi, hf⟩ := zf_gd hf
  refine xa_20 C w hi dX7_replay_6 ?_
  refine lv_aload_n hx hb dX7_replay_7 rfl (lv_at hl 1 rfl) ?_
  refine xg_5_1 C w lf_7_37 dX7_replay_8 ?_
  refine lv_iload_n hx hb dX7_replay_11 rfl (lv_at hl 2 rfl) ?_
  obtain ⟨hi, hf⟩ := zf_gd hf
  refine xa_21 C w hi dX7_replay_12 ?_
  obtain ⟨u2, hc, hf⟩ := zf_bv_ex hf
  refine zc_rv wX_ad w (zc_V C w (kX7_begin l D q cs _ _ _ _ hc _) cf_7_begin ci_7_begin lm_7_41 rcX_6 ⟨Nat.le_of_ble_eq_true rfl, Nat.le_of_ble_eq_true rfl⟩ hl.1 rfl (Nat.le_of_ble_eq_true rfl) dX7_replay_13 ⟨Nat.le_refl _, Nat.le_refl _⟩) (fun H locs w => ?_)
  refine lv_iconst (v := 0) hx hb dX7_replay_16 (by decide) ?_
  refine lv_istore (lv' := [(5, .int 0), (0, .ref (q 6)), (1, .ref (q 5)), (2, .int v2), (3, .int v3), (4, .int v4)]) hx hb dX7_replay_17 hl (by decide) rfl (fun ls hl => ?_)
  have lp19 : ∀ (v2 : Int32) (v3 : Int32) (v4 : Int32) (n : Nat) (x : zs_T × Int32), zf_loop (fun ag x => fX7_replay_b19 N v2 v3 v4 (fun u v5 => ag (u, v5)) x.1 x.2) n x = some z → ∀ (H : Heap) (locs : List Loc) (ls : Array Slot), zg_W D cs A s (wX q cs x.1) H locs → lv_has ls 7 [(0, .ref (q 6)), (1, .ref (q 5)), (2, .int v2), (3, .int v3), (4, .int v4), (5, .int x.2)] → W p l e (zg_rm 2) s m args below meth c H locs 0 0 Q (F0 m 19 ls []) := by
    intro v2 v3 v4
    refine zf_loop_W (fun x : zs_T × Int32 => ∀ (H : Heap) (locs : List Loc) (ls : Array Slot), zg_W D cs A s (wX q cs x.1) H locs → lv_has ls 7 [(0, .ref (q 6)), (1, .ref (q 5)), (2, .int v2), (3, .int v3), (4, .int v4), (5, .int x.2)] → W p l e (zg_rm 2) s m args below meth c H locs 0 0 Q (F0 m 19 ls [])) ?_
    intro ag19 x hag19 hf
    obtain ⟨u, v5⟩ := x
    intro H locs ls w hl
    replace hf : fX7_replay_b19 N v2 v3 v4 (fun u v5 => ag19 (u, v5)) u v5 = some z := hf
    replace hl : lv_has ls 7 [(0, .ref (q 6)), (1, .ref (q 5)), (2, .int v2), (3, .int v3), (4, .int v4), (5, .int v5)] := hl
    replace w : zg_W D cs A s (wX q cs u) H locs := w
    unfold fX7_replay_b19 at hf
    refine lv_iload hx hb dX7_replay_19 (lv_at hl 5 rfl) ?_
    refine lv_aload_n hx hb dX7_replay_21 rfl (lv_at hl 1 rfl) ?_
    refine xg_5_8 C w lf_7_45 dX7_replay_22 ?_
    refine lv_icmp_ge (tgt := 130) hx hb dX7_replay_25 (by decide) (fun h => ?_) (fun h => ?_)
    · replace hf := zf_t h hf
      exact hj130 _ _ H locs ls w (lv_sub hl [0, 4] rfl) hf
    · replace hf := zf_f h hf
      refine lv_aload_n hx hb dX7_replay_28 rfl (lv_at hl 1 rfl) ?_
      refine xg_5_7 C w lf_7_48 dX7_replay_29 ?_
      refine lv_iload hx hb dX7_replay_32 (lv_at hl 5 rfl) ?_
      obtain ⟨hi, hf⟩ := zf_gd hf
      refine xa_26 C w hi dX7_replay_34 ?_
      refine lv_istore (lv' := [(6, .int (zs_a u 17 v5.toNatClampNeg)), (0, .ref (q 6)), (1, .ref (q 5)), (2, .int v2), (3, .int v3), (4, .int v4), (5, .int v5)]) hx hb dX7_replay_35 hl (by decide) rfl (fun ls hl => ?_)
      refine lv_aload_n hx hb dX7_replay_37 rfl (lv_at hl 2 rfl) ?_
      refine xg_5_5 C w lf_7_51 dX7_replay_38 ?_
      refine lv_iload hx hb dX7_replay_41 (lv_at hl 0 rfl) ?_
      obtain ⟨hi, hf⟩ := zf_gd hf
      refine xa_24 C w hi dX7_replay_43 ?_
      refine lv_iload hx hb dX7_replay_44 (lv_at hl 5 rfl) ?_
      refine lv_icmp_le (tgt := 52) hx hb dX7_replay_46 (by decide) (fun h => ?_) (fun h => ?_)
      · replace hf := zf_t h hf
        refine lv_iload hx hb dX7_replay_52 (lv_at hl 0 rfl) ?_
        refine lv_iload_n hx hb dX7_replay_54 rfl (lv_at hl 4 rfl) ?_
        refine lv_icmp_ge (tgt := 124) hx hb dX7_replay_55 (by decide) (fun h => ?_) (fun h => ?_)
        · replace hf := zf_t h hf
          refine lv_iinc (v := v5 + 1) (lv' := [(5, .int (v5 + 1)), (6, .int (zs_a u 17 v5.toNatClampNeg)), (0, .ref (q 6)), (1, .ref (q 5)), (2, .int v2), (3, .int v3), (4, .int v4)]) hx hb dX7_replay_124 hl (k := 6) rfl rfl (by decide) rfl (fun ls hl => ?_)
          refine lv_goto (tgt := 19) hx hb dX7_replay_127 (by decide) ?_
          exact hag19 (u, v5 + 1) hf H locs ls w (lv_sub hl [2, 3, 4, 5, 6, 0] rfl)
        · replace hf := zf_f h hf
          refine lv_aload_n hx hb dX7_replay_58 rfl (lv_at hl 2 rfl) ?_
          refine xg_5_4 C w lf_7_54 dX7_replay_59 ?_
          refine lv_iload hx hb dX7_replay_62 (lv_at hl 0 rfl) ?_
          obtain ⟨hi, hf⟩ := zf_gd hf
          refine xa_23 C w hi dX7_replay_64 ?_
          refine lv_iload_n hx hb dX7_replay_65 rfl (lv_at hl 3 rfl) ?_
          refine lv_icmp_eq (tgt := 72) hx hb dX7_replay_66 (by decide) (fun h => ?_) (fun h => ?_)
          · replace hf := zf_t h hf
            refine lv_aload_n hx hb dX7_replay_72 rfl (lv_at hl 1 rfl) ?_
            refine lv_aload_n hx hb dX7_replay_73 rfl (lv_at hl 2 rfl) ?_
            refine xg_5_3 C w lf_7_57 dX7_replay_74 ?_
            refine lv_iload hx hb dX7_replay_77 (lv_at hl 0 rfl) ?_
            obtain ⟨hi, hf⟩ := zf_gd hf
            refine xa_22 C w hi dX7_replay_79 ?_
            refine lv_aload_n hx hb dX7_replay_80 rfl (lv_at hl 2 rfl) ?_
            refine xg_5_6 C w lf_7_60 dX7_replay_81 ?_
            refine lv_iload hx hb dX7_replay_84 (lv_at hl 0 rfl) ?_
            obtain ⟨hi, hf⟩ := zf_gd hf
            refine xa_25 C w hi dX7_replay_86 ?_
            obtain ⟨r5, hc, hf⟩ := zf_bp_ex hf
            refine zc_ri wX_ad w (zc_V C w (kX7_fits l D q cs _ _ _ _ hc _) cf_7_fits ci_7_fits lm_7_63 rcX_6 ⟨Nat.le_of_ble_eq_true rfl, Nat.le_of_ble_eq_true rfl⟩ hl.1 rfl (Nat.le_of_ble_eq_true rfl) dX7_replay_87 ⟨Nat.le_refl _, Nat.le_refl _⟩) (fun H locs w => ?_)
            refine lv_if_ne (tgt := 95) hx hb dX7_replay_90 (by decide) (fun h => ?_) (fun h => ?_)
            · replace hf := zf_f h hf
              refine lv_aload_n hx hb dX7_replay_95 rfl (lv_at hl 1 rfl) ?_
              refine lv_aload_n hx hb dX7_replay_96 rfl (lv_at hl 2 rfl) ?_
              refine xg_5_5 C w lf_7_51 dX7_replay_97 ?_
              refine lv_iload hx hb dX7_replay_100 (lv_at hl 0 rfl) ?_
              obtain ⟨hi, hf⟩ := zf_gd hf
              refine xa_24 C w hi dX7_replay_102 ?_
              obtain ⟨u8, hc, hf⟩ := zf_bv_ex hf
              refine zc_rv wX_ad w (zc_V C w (kX7_tallyBefore l D q cs _ _ _ hc _) cf_7_tallyBefore ci_7_tallyBefore lm_7_67 rcX_6 ⟨Nat.le_of_ble_eq_true rfl, Nat.le_of_ble_eq_true rfl⟩ hl.1 rfl (Nat.le_of_ble_eq_true rfl) dX7_replay_103 ⟨Nat.le_refl _, Nat.le_refl _⟩) (fun H locs w => ?_)
              refine lv_aload_n hx hb dX7_replay_106 rfl (lv_at hl 1 rfl) ?_
              refine lv_aload_n hx hb dX7_replay_107 rfl (lv_at hl 2 rfl) ?_
              refine xg_5_3 C w lf_7_57 dX7_replay_108 ?_
              refine lv_iload hx hb dX7_replay_111 (lv_at hl 0 rfl) ?_
              obtain ⟨hi, hf⟩ := zf_gd hf
              refine xa_22 C w hi dX7_replay_113 ?_
              refine lv_aload_n hx hb dX7_replay_114 rfl (lv_at hl 2 rfl) ?_
              refine xg_5_6 C w lf_7_60 dX7_replay_115 ?_
              refine lv_iload hx hb dX7_replay_118 (lv_at hl 0 rfl) ?_
              obtain ⟨hi, hf⟩ := zf_gd hf
              refine xa_25 C w hi dX7_replay_120 ?_
              obtain ⟨u10, hc, hf⟩ := zf_bv_ex hf
              refine zc_rv wX_ad w (zc_V C w (kX7_follow l D q cs _ _ _ _ hc _) cf_7_follow ci_7_follow lm_7_71 rcX_6 ⟨Nat.le_of_ble_eq_true rfl, Nat.le_of_ble_eq_true rfl⟩ hl.1 rfl (Nat.le_of_ble_eq_true rfl) dX7_replay_121 ⟨Nat.le_refl _, Nat.le_refl _⟩) (fun H locs w => ?_)
              refine lv_iinc (v := v5 + 1) (lv' := [(5, .int (v5 + 1)), (6, .int (zs_a u 17 v5.toNatClampNeg)), (0, .ref (q 6)), (1, .ref (q 5)), (2, .int v2), (3, .int v3), (4, .int v4)]) hx hb dX7_replay_124 hl (k := 6) rfl rfl (by decide) rfl (fun ls hl => ?_)
              refine lv_goto (tgt := 19) hx hb dX7_replay_127 (by decide) ?_
              exact hag19 (u10, v5 + 1) hf H locs ls w (lv_sub hl [2, 3, 4, 5, 6, 0] rfl)
            · replace hf := zf_t h hf
              refine lv_iconst (v := 0) hx hb dX7_replay_93 (by decide) ?_
              exact hret _ _ _ _ _ _ (by rfl) hf w dX7_replay_94
          · replace hf := zf_f h hf
            refine lv_goto (tgt := 124) hx hb dX7_replay_69 (by decide) ?_
            refine lv_iinc (v := v5 + 1) (lv' := [(5, .int (v5 + 1)), (6, .int (zs_a u 17 v5.toNatClampNeg)), (0, .ref (q 6)), (1, .ref (q 5)), (2, .int v2), (3, .int v3), (4, .int v4)]) hx hb dX7_replay_124 hl (k := 6) rfl rfl (by decide) rfl (fun ls hl => ?_)
            refine lv_goto (tgt := 19) hx hb dX7_replay_127 (by decide) ?_
            exact hag19 (u, v5 + 1) hf H locs ls w (lv_sub hl [2, 3, 4, 5, 6, 0] rfl)
      · replace hf := zf_f h hf
        exact hj49 _ _ H locs ls w (lv_sub hl [1, 5] rfl) hf
  exact lp19 _ _ _ _ _ hf H locs ls w (lv_sub hl [1, 2, 3, 4, 5, 0] rfl)
