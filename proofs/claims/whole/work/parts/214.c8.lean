def fX8_part (N : Nat) (u : zs_T) (v1 : Int32) (v2 : Int32) : Option (Int32 × zs_T) :=
  (zf_bp (fX4_isKnowing u v1) fun r1 => (if r1 = 0 then some ((-1), u) else (zf_bp (fX8_isOwner v2) fun r3 => (if r3 = 0 then some ((-1), u) else (zf_bv (fX0_shareOut N u v1 (zs_i u 1)) fun u6 => (if zf_in v2 12 then some (zs_a u6 20 v2.toNatClampNeg, u6) else none))))))
set_option maxHeartbeats 4000000 in
set_option maxRecDepth 100000 in
theorem kX8_part (l : Launch) (D : va_G) (q : Nat → Nat) (cs : Nat → ClassId) (N : Nat) (u : zs_T) (v1 : Int32) (v2 : Int32) (z : (Int32 × zs_T)) (hf : fX8_part N u v1 v2 = some z) : zg_Ci l yX8_part cX8_part 3 (some .int) 5 D cs (wX q cs) u [.ref (q 0), .int v1, .int v2] z.1 z.2 := by
  refine zg_Ci_of (own := RX8) (by decide) rfl wX_ad (Nat.le_of_ble_eq_true rfl) ?_
  intro p e s m args below meth c A Q C hret w ls hl
  obtain ⟨hx, hb, -⟩ := id C
  have hl : lv_has ls 3 [(0, .ref (q 0)), (1, .int v1), (2, .int v2)] := hl
  generalize hH : s.heap = H at w ⊢
  generalize hLc : ([] : List Loc) = locs at w ⊢
  unfold fX8_part at hf
  refine lv_aload_n hx hb dX8_part_0 rfl (lv_at hl 0 rfl) ?_
  refine xg_0_4 C w lf_8_40 dX8_part_1 ?_
  refine lv_iload_n hx hb dX8_part_4 rfl (lv_at hl 1 rfl) ?_
  obtain ⟨r1, hc, hf⟩ := zf_bp_ex hf
  refine zc_ri wX_ad w (zc_V C w (kX4_isKnowing l D q cs _ _ _ hc _) cf_4_isKnowing ci_4_isKnowing lm_8_176 rcX_5 ⟨Nat.le_of_ble_eq_true rfl, Nat.le_of_ble_eq_true rfl⟩ hl.1 rfl (Nat.le_of_ble_eq_true rfl) dX8_part_5 ⟨Nat.le_refl _, Nat.le_refl _⟩) (fun H locs w => ?_)
  refine lv_if_eq (tgt := 18) hx hb dX8_part_8 (by decide) (fun h => ?_) (fun h => ?_)
  · replace hf := zf_t h hf
    refine lv_iconst (v := (-1)) hx hb dX8_part_18 (by decide) ?_
    exact hret _ _ _ _ _ _ hf w dX8_part_19
  · replace hf := zf_f h hf
    refine lv_iload_n hx hb dX8_part_11 rfl (lv_at hl 2 rfl) ?_
    obtain ⟨r3, hc, hf⟩ := zf_bp_ex hf
    refine zc_ri wX_ad w (zc_S C w (kX8_isOwner l D q cs _ _ _ hc _) cf_8_isOwner ci_8_isOwner lm_8_111 ⟨Nat.le_of_ble_eq_true rfl, Nat.le_of_ble_eq_true rfl⟩ hl.1 rfl (Nat.le_of_ble_eq_true rfl) dX8_part_12 ⟨Nat.le_refl _, Nat.le_refl _⟩) (fun H locs w => ?_)
    refine lv_if_ne (tgt := 20) hx hb dX8_part_15 (by decide) (fun h => ?_) (fun h => ?_)
    · replace hf := zf_f h hf
      refine lv_aload_n hx hb dX8_part_20 rfl (lv_at hl 0 rfl) ?_
      refine xg_0_6 C w lf_8_54 dX8_part_21 ?_
      refine lv_aload_n hx hb dX8_part_24 rfl (lv_at hl 0 rfl) ?_
      refine xg_0_4 C w lf_8_40 dX8_part_25 ?_
      refine lv_aload_n hx hb dX8_part_28 rfl (lv_at hl 0 rfl) ?_
      refine xg_0_1 C w lf_8_19 dX8_part_29 ?_
      refine lv_aload_n hx hb dX8_part_32 rfl (lv_at hl 0 rfl) ?_
      refine xg_0_5 C w lf_8_47 dX8_part_33 ?_
      refine lv_iload_n hx hb dX8_part_36 rfl (lv_at hl 1 rfl) ?_
      refine lv_aload_n hx hb dX8_part_37 rfl (lv_at hl 0 rfl) ?_
      refine xg_0_9 C w lf_8_69 dX8_part_38 ?_
      obtain ⟨u6, hc, hf⟩ := zf_bv_ex hf
      refine zc_rv wX_ad w (zc_V C w (kX0_shareOut l D q cs N _ _ _ _ hc _) cf_0_shareOut ci_0_shareOut lm_8_143 rcX_7 ⟨Nat.le_of_ble_eq_true rfl, Nat.le_of_ble_eq_true rfl⟩ hl.1 rfl (Nat.le_of_ble_eq_true rfl) dX8_part_41 ⟨Nat.le_refl _, Nat.le_refl _⟩) (fun H locs w => ?_)
      refine lv_aload_n hx hb dX8_part_44 rfl (lv_at hl 0 rfl) ?_
      refine xg_0_6 C w lf_8_54 dX8_part_45 ?_
      refine xg_7_1 C w lf_8_147 dX8_part_48 ?_
      refine lv_iload_n hx hb dX8_part_51 rfl (lv_at hl 2 rfl) ?_
      obtain ⟨hi, hf⟩ := zf_gd hf
      refine xa_29 C w hi dX8_part_52 ?_
      exact hret _ _ _ _ _ _ hf w dX8_part_53
    · replace hf := zf_t h hf
      refine lv_iconst (v := (-1)) hx hb dX8_part_18 (by decide) ?_
      exact hret _ _ _ _ _ _ hf w dX8_part_19
def fX8_way (N : Nat) (u : zs_T) (v1 : Int32) (v2 : Int32) : Option (Int32 × zs_T) :=
  (zf_bp (fX8_within v1 1 8) fun r1 => (if r1 = 0 then some ((-1), u) else (zf_bp (fX8_isWarmth v2) fun r3 => (if r3 = 0 then some ((-1), u) else (zf_bp (fX4_upOn N u (zs_i u 1)) fun r5 => (zf_bi (fX3_findBest N u r5 v1 v2) fun r7 u8 => some (r7, u8)))))))
set_option maxHeartbeats 4000000 in
set_option maxRecDepth 100000 in
theorem kX8_way (l : Launch) (D : va_G) (q : Nat → Nat) (cs : Nat → ClassId) (N : Nat) (u : zs_T) (v1 : Int32) (v2 : Int32) (z : (Int32 × zs_T)) (hf : fX8_way N u v1 v2 = some z) : zg_Ci l yX8_way cX8_way 3 (some .int) 14 D cs (wX q cs) u [.ref (q 0), .int v1, .int v2] z.1 z.2 := by
  refine zg_Ci_of (own := RX8) (by decide) rfl wX_ad (Nat.le_of_ble_eq_true rfl) ?_
  intro p e s m args below meth c A Q C hret w ls hl
  obtain ⟨hx, hb, -⟩ := id C
  have hl : lv_has ls 3 [(0, .ref (q 0)), (1, .int v1), (2, .int v2)] := hl
  generalize hH : s.heap = H at w ⊢
  generalize hLc : ([] : List Loc) = locs at w ⊢
  unfold fX8_way at hf
  refine lv_iload_n hx hb dX8_way_0 rfl (lv_at hl 1 rfl) ?_
  refine lv_iconst (v := 1) hx hb dX8_way_1 (by decide) ?_
  refine lv_bipush (v := 8) hx hb dX8_way_2 (by decide) ?_
  obtain ⟨r1, hc, hf⟩ := zf_bp_ex hf
  refine zc_ri wX_ad w (zc_S C w (kX8_within l D q cs _ _ _ _ _ hc _) cf_8_within ci_8_within lm_8_79 ⟨Nat.le_of_ble_eq_true rfl, Nat.le_of_ble_eq_true rfl⟩ hl.1 rfl (Nat.le_of_ble_eq_true rfl) dX8_way_4 ⟨Nat.le_refl _, Nat.le_refl _⟩) (fun H locs w => ?_)
  refine lv_if_eq (tgt := 17) hx hb dX8_way_7 (by decide) (fun h => ?_) (fun h => ?_)
  · replace hf := zf_t h hf
    refine lv_iconst (v := (-1)) hx hb dX8_way_17 (by decide) ?_
    exact hret _ _ _ _ _ _ hf w dX8_way_18
  · replace hf := zf_f h hf
    refine lv_iload_n hx hb dX8_way_10 rfl (lv_at hl 2 rfl) ?_
    obtain ⟨r3, hc, hf⟩ := zf_bp_ex hf
    refine zc_ri wX_ad w (zc_S C w (kX8_isWarmth l D q cs _ _ _ hc _) cf_8_isWarmth ci_8_isWarmth lm_8_122 ⟨Nat.le_of_ble_eq_true rfl, Nat.le_of_ble_eq_true rfl⟩ hl.1 rfl (Nat.le_of_ble_eq_true rfl) dX8_way_11 ⟨Nat.le_refl _, Nat.le_refl _⟩) (fun H locs w => ?_)
    refine lv_if_ne (tgt := 19) hx hb dX8_way_14 (by decide) (fun h => ?_) (fun h => ?_)
    · replace hf := zf_f h hf
      refine lv_aload_n hx hb dX8_way_19 rfl (lv_at hl 0 rfl) ?_
      refine xg_0_3 C w lf_8_33 dX8_way_20 ?_
      refine lv_aload_n hx hb dX8_way_23 rfl (lv_at hl 0 rfl) ?_
      refine xg_0_2 C w lf_8_26 dX8_way_24 ?_
      refine lv_aload_n hx hb dX8_way_27 rfl (lv_at hl 0 rfl) ?_
      refine xg_0_4 C w lf_8_40 dX8_way_28 ?_
      refine lv_aload_n hx hb dX8_way_31 rfl (lv_at hl 0 rfl) ?_
      refine xg_0_9 C w lf_8_69 dX8_way_32 ?_
      obtain ⟨r5, hc, hf⟩ := zf_bp_ex hf
      refine zc_ri wX_ad w (zc_V C w (kX4_upOn l D q cs N _ _ _ hc _) cf_4_upOn ci_4_upOn lm_8_125 rcX_5 ⟨Nat.le_of_ble_eq_true rfl, Nat.le_of_ble_eq_true rfl⟩ hl.1 rfl (Nat.le_of_ble_eq_true rfl) dX8_way_35 ⟨Nat.le_refl _, Nat.le_refl _⟩) (fun H locs w => ?_)
      refine lv_iload_n hx hb dX8_way_38 rfl (lv_at hl 1 rfl) ?_
      refine lv_iload_n hx hb dX8_way_39 rfl (lv_at hl 2 rfl) ?_
      obtain ⟨r7, u8, hc, hf⟩ := zf_bi_ex hf
      refine zc_ri wX_ad w (zc_V C w (kX3_findBest l D q cs N _ _ _ _ _ hc _) cf_3_findBest ci_3_findBest lm_8_197 rcX_4 ⟨Nat.le_of_ble_eq_true rfl, Nat.le_of_ble_eq_true rfl⟩ hl.1 rfl (Nat.le_of_ble_eq_true rfl) dX8_way_40 ⟨Nat.le_refl _, Nat.le_refl _⟩) (fun H locs w => ?_)
      exact hret _ _ _ _ _ _ hf w dX8_way_43
    · replace hf := zf_t h hf
      refine lv_iconst (v := (-1)) hx hb dX8_way_17 (by decide) ?_
      exact hret _ _ _ _ _ _ hf w dX8_way_18
def fX8_step (u : zs_T) (v1 : Int32) : Option Int32 :=
  (zf_bp (fX8_within v1 0 ((zs_i u 7) - 1)) fun r1 => (if r1 = 0 then some (-1) else (if zf_in v1 8 then some (zs_a u 6 v1.toNatClampNeg) else none)))
set_option maxHeartbeats 4000000 in
set_option maxRecDepth 100000 in
theorem kX8_step (l : Launch) (D : va_G) (q : Nat → Nat) (cs : Nat → ClassId) (u : zs_T) (v1 : Int32) (z : Int32) (hf : fX8_step u v1 = some z) : zg_Ci l yX8_step cX8_step 2 (some .int) 1 D cs (wX q cs) u [.ref (q 0), .int v1] z u := by
  refine zg_Ci_of (own := RX8) (by decide) rfl wX_ad (Nat.le_of_ble_eq_true rfl) ?_
  intro p e s m args below meth c A Q C hret w ls hl
  obtain ⟨hx, hb, -⟩ := id C
  have hl : lv_has ls 2 [(0, .ref (q 0)), (1, .int v1)] := hl
  generalize hH : s.heap = H at w ⊢
  generalize hLc : ([] : List Loc) = locs at w ⊢
  unfold fX8_step at hf
  refine lv_iload_n hx hb dX8_step_0 rfl (lv_at hl 1 rfl) ?_
  refine lv_iconst (v := 0) hx hb dX8_step_1 (by decide) ?_
  refine lv_aload_n hx hb dX8_step_2 rfl (lv_at hl 0 rfl) ?_
  refine xg_0_3 C w lf_8_33 dX8_step_3 ?_
  refine xg_4_1 C w lf_8_201 dX8_step_6 ?_
  refine lv_iconst (v := 1) hx hb dX8_step_9 (by decide) ?_
  refine lv_isub hx hb dX8_step_10 ?_
  obtain ⟨r1, hc, hf⟩ := zf_bp_ex hf
  refine zc_ri wX_ad w (zc_S C w (kX8_within l D q cs _ _ _ _ _ hc _) cf_8_within ci_8_within lm_8_79 ⟨Nat.le_of_ble_eq_true rfl, Nat.le_of_ble_eq_true rfl⟩ hl.1 rfl (Nat.le_of_ble_eq_true rfl) dX8_step_11 ⟨Nat.le_refl _, Nat.le_refl _⟩) (fun H locs w => ?_)
  refine lv_if_eq (tgt := 29) hx hb dX8_step_14 (by decide) (fun h => ?_) (fun h => ?_)
  · replace hf := zf_t h hf
    refine lv_iconst (v := (-1)) hx hb dX8_step_29 (by decide) ?_
    exact hret _ _ _ _ _ _ (zf_pr hf) w dX8_step_30
  · replace hf := zf_f h hf
    refine lv_aload_n hx hb dX8_step_17 rfl (lv_at hl 0 rfl) ?_
    refine xg_0_3 C w lf_8_33 dX8_step_18 ?_
    refine xg_4_0 C w lf_8_204 dX8_step_21 ?_
    refine lv_iload_n hx hb dX8_step_24 rfl (lv_at hl 1 rfl) ?_
    obtain ⟨hi, hf⟩ := zf_gd hf
    refine xa_15 C w hi dX8_step_25 ?_
    refine lv_goto (tgt := 30) hx hb dX8_step_26 (by decide) ?_
    exact hret _ _ _ _ _ _ (zf_pr hf) w dX8_step_30
def fX8_grass (u : zs_T) (v1 : Int32) (v2 : Int32) : Option Int32 :=
  (zf_bp (fX2_has u v1) fun r1 => (if r1 = 0 then some (-1) else (if v2 = 0 then (if zf_in v1 6 then some (zs_a u 3 v1.toNatClampNeg) else none) else (if v2 = 1 then (if zf_in v1 6 then some (zs_a u 4 v1.toNatClampNeg) else none) else (if v2 = 2 then (if zf_in v1 6 then some (zs_a u 5 v1.toNatClampNeg) else none) else some (-1))))))
set_option maxHeartbeats 4000000 in
set_option maxRecDepth 100000 in
theorem kX8_grass (l : Launch) (D : va_G) (q : Nat → Nat) (cs : Nat → ClassId) (u : zs_T) (v1 : Int32) (v2 : Int32) (z : Int32) (hf : fX8_grass u v1 v2 = some z) : zg_Ci l yX8_grass cX8_grass 3 (some .int) 2 D cs (wX q cs) u [.ref (q 0), .int v1, .int v2] z u := by
  refine zg_Ci_of (own := RX8) (by decide) rfl wX_ad (Nat.le_of_ble_eq_true rfl) ?_
  intro p e s m args below meth c A Q C hret w ls hl
  obtain ⟨hx, hb, -⟩ := id C
  have hl : lv_has ls 3 [(0, .ref (q 0)), (1, .int v1), (2, .int v2)] := hl
  generalize hH : s.heap = H at w ⊢
  generalize hLc : ([] : List Loc) = locs at w ⊢
  unfold fX8_grass at hf
  refine lv_aload_n hx hb dX8_grass_0 rfl (lv_at hl 0 rfl) ?_
  refine xg_0_2 C w lf_8_26 dX8_grass_1 ?_
  refine lv_iload_n hx hb dX8_grass_4 rfl (lv_at hl 1 rfl) ?_
  obtain ⟨r1, hc, hf⟩ := zf_bp_ex hf
  refine zc_ri wX_ad w (zc_V C w (kX2_has l D q cs _ _ _ hc _) cf_2_has ci_2_has lm_8_96 rcX_3 ⟨Nat.le_of_ble_eq_true rfl, Nat.le_of_ble_eq_true rfl⟩ hl.1 rfl (Nat.le_of_ble_eq_true rfl) dX8_grass_5 ⟨Nat.le_refl _, Nat.le_refl _⟩) (fun H locs w => ?_)
  refine lv_if_ne (tgt := 13) hx hb dX8_grass_8 (by decide) (fun h => ?_) (fun h => ?_)
  · replace hf := zf_f h hf
    refine lv_iload_n hx hb dX8_grass_13 rfl (lv_at hl 2 rfl) ?_
    by_cases hs3 : v2 = 0
    · replace hf := zf_t hs3 hf
      refine lv_tableIn (off := 26) (tgt := 40) hx hb dX8_grass_14 (by rw [hs3]; decide) (by rw [hs3]; decide) (by rw [hs3]; rfl) (by decide) ?_
      refine lv_aload_n hx hb dX8_grass_40 rfl (lv_at hl 0 rfl) ?_
      refine xg_0_2 C w lf_8_26 dX8_grass_41 ?_
      refine xg_3_0 C w lf_8_101 dX8_grass_44 ?_
      refine lv_iload_n hx hb dX8_grass_47 rfl (lv_at hl 1 rfl) ?_
      obtain ⟨hi, hf⟩ := zf_gd hf
      refine xa_12 C w hi dX8_grass_48 ?_
      exact hret _ _ _ _ _ _ (zf_pr hf) w dX8_grass_49
    · replace hf := zf_f hs3 hf
      by_cases hs4 : v2 = 1
      · replace hf := zf_t hs4 hf
        refine lv_tableIn (off := 36) (tgt := 50) hx hb dX8_grass_14 (by rw [hs4]; decide) (by rw [hs4]; decide) (by rw [hs4]; rfl) (by decide) ?_
        refine lv_aload_n hx hb dX8_grass_50 rfl (lv_at hl 0 rfl) ?_
        refine xg_0_2 C w lf_8_26 dX8_grass_51 ?_
        refine xg_3_1 C w lf_8_105 dX8_grass_54 ?_
        refine lv_iload_n hx hb dX8_grass_57 rfl (lv_at hl 1 rfl) ?_
        obtain ⟨hi, hf⟩ := zf_gd hf
        refine xa_13 C w hi dX8_grass_58 ?_
        exact hret _ _ _ _ _ _ (zf_pr hf) w dX8_grass_59
      · replace hf := zf_f hs4 hf
        by_cases hs5 : v2 = 2
        · replace hf := zf_t hs5 hf
          refine lv_tableIn (off := 46) (tgt := 60) hx hb dX8_grass_14 (by rw [hs5]; decide) (by rw [hs5]; decide) (by rw [hs5]; rfl) (by decide) ?_
          refine lv_aload_n hx hb dX8_grass_60 rfl (lv_at hl 0 rfl) ?_
          refine xg_0_2 C w lf_8_26 dX8_grass_61 ?_
          refine xg_3_2 C w lf_8_108 dX8_grass_64 ?_
          refine lv_iload_n hx hb dX8_grass_67 rfl (lv_at hl 1 rfl) ?_
          obtain ⟨hi, hf⟩ := zf_gd hf
          refine xa_14 C w hi dX8_grass_68 ?_
          exact hret _ _ _ _ _ _ (zf_pr hf) w dX8_grass_69
        · replace hf := zf_f hs5 hf
          have e_hs3 : v2.toInt ≠ 0 := zf_ne hs3
          have e_hs4 : v2.toInt ≠ 1 := zf_ne hs4
          have e_hs5 : v2.toInt ≠ 2 := zf_ne hs5
          refine lv_tableOut (tgt := 70) hx hb dX8_grass_14 (by omega) (by decide) ?_
          refine lv_iconst (v := (-1)) hx hb dX8_grass_70 (by decide) ?_
          exact hret _ _ _ _ _ _ (zf_pr hf) w dX8_grass_71
  · replace hf := zf_t h hf
    refine lv_iconst (v := (-1)) hx hb dX8_grass_11 (by decide) ?_
    exact hret _ _ _ _ _ _ (zf_pr hf) w dX8_grass_12
def fX8_told (N : Nat) (u : zs_T) (v1 : Int32) (v2 : Int32) : Option (Int64 × zs_T) :=
  (zf_bp (fX8_isOwner v1) fun r1 => (if r1 = 0 then some ((-1), u) else (if v2 = 0 then (zf_bi (fX4_livingOf N u v1 (zs_i u 1)) fun r4 u5 => some (r4.toInt64, u5)) else (if v2 = 1 then (if zf_in v1 12 then some (zs_b u 0 v1.toNatClampNeg, u) else none) else (if v2 = 2 then (if zf_in v1 12 then some ((zs_a u 21 v1.toNatClampNeg).toInt64, u) else none) else (if v2 = 3 then (if zf_in v1 12 then some (zs_b u 1 v1.toNatClampNeg, u) else none) else (if v2 = 4 then (if zf_in v1 12 then some (zs_b u 2 v1.toNatClampNeg, u) else none) else (if v2 = 5 then (zf_bp (fX1_placeOf N u v1) fun r11 => some (r11.toInt64, u)) else some ((-1), u)))))))))
set_option maxHeartbeats 4000000 in
set_option maxRecDepth 100000 in
theorem kX8_told (l : Launch) (D : va_G) (q : Nat → Nat) (cs : Nat → ClassId) (N : Nat) (u : zs_T) (v1 : Int32) (v2 : Int32) (z : (Int64 × zs_T)) (hf : fX8_told N u v1 v2 = some z) : zg_Cl l yX8_told cX8_told 3 (some .long) 4 D cs (wX q cs) u [.ref (q 0), .int v1, .int v2] z.1 z.2 := by
  refine zg_Cl_of (own := RX8) (by decide) rfl wX_ad (Nat.le_of_ble_eq_true rfl) ?_
  intro p e s m args below meth c A Q C hret w ls hl
  obtain ⟨hx, hb, -⟩ := id C
  have hl : lv_has ls 3 [(0, .ref (q 0)), (1, .int v1), (2, .int v2)] := hl
  generalize hH : s.heap = H at w ⊢
  generalize hLc : ([] : List Loc) = locs at w ⊢
  unfold fX8_told at hf
  refine lv_iload_n hx hb dX8_told_0 rfl (lv_at hl 1 rfl) ?_
  obtain ⟨r1, hc, hf⟩ := zf_bp_ex hf
  refine zc_ri wX_ad w (zc_S C w (kX8_isOwner l D q cs _ _ _ hc _) cf_8_isOwner ci_8_isOwner lm_8_111 ⟨Nat.le_of_ble_eq_true rfl, Nat.le_of_ble_eq_true rfl⟩ hl.1 rfl (Nat.le_of_ble_eq_true rfl) dX8_told_1 ⟨Nat.le_refl _, Nat.le_refl _⟩) (fun H locs w => ?_)
  refine lv_if_ne (tgt := 11) hx hb dX8_told_4 (by decide) (fun h => ?_) (fun h => ?_)
  · replace hf := zf_f h hf
    refine lv_iload_n hx hb dX8_told_11 rfl (lv_at hl 2 rfl) ?_
    by_cases hs3 : v2 = 0
    · replace hf := zf_t hs3 hf
      refine lv_tableIn (off := 40) (tgt := 52) hx hb dX8_told_12 (by rw [hs3]; decide) (by rw [hs3]; decide) (by rw [hs3]; rfl) (by decide) ?_
      refine lv_aload_n hx hb dX8_told_52 rfl (lv_at hl 0 rfl) ?_
      refine xg_0_4 C w lf_8_40 dX8_told_53 ?_
      refine lv_iload_n hx hb dX8_told_56 rfl (lv_at hl 1 rfl) ?_
      refine lv_aload_n hx hb dX8_told_57 rfl (lv_at hl 0 rfl) ?_
      refine xg_0_9 C w lf_8_69 dX8_told_58 ?_
      refine lv_aload_n hx hb dX8_told_61 rfl (lv_at hl 0 rfl) ?_
      refine xg_0_5 C w lf_8_47 dX8_told_62 ?_
      obtain ⟨r4, u5, hc, hf⟩ := zf_bi_ex hf
      refine zc_ri wX_ad w (zc_V C w (kX4_livingOf l D q cs N _ _ _ _ hc _) cf_4_livingOf ci_4_livingOf lm_8_209 rcX_5 ⟨Nat.le_of_ble_eq_true rfl, Nat.le_of_ble_eq_true rfl⟩ hl.1 rfl (Nat.le_of_ble_eq_true rfl) dX8_told_65 ⟨Nat.le_refl _, Nat.le_refl _⟩) (fun H locs w => ?_)
      refine lv_i2l hx hb dX8_told_68 rfl ?_
      exact hret _ _ _ _ _ _ hf w dX8_told_69
    · replace hf := zf_f hs3 hf
      by_cases hs6 : v2 = 1
      · replace hf := zf_t hs6 hf
        refine lv_tableIn (off := 58) (tgt := 70) hx hb dX8_told_12 (by rw [hs6]; decide) (by rw [hs6]; decide) (by rw [hs6]; rfl) (by decide) ?_
        refine lv_aload_n hx hb dX8_told_70 rfl (lv_at hl 0 rfl) ?_
        refine xg_0_7 C w lf_8_61 dX8_told_71 ?_
        refine xg_8_0 C w lf_8_213 dX8_told_74 ?_
        refine lv_iload_n hx hb dX8_told_77 rfl (lv_at hl 1 rfl) ?_
        obtain ⟨hi, hf⟩ := zf_gd hf
        refine xa_30 C w hi dX8_told_78 ?_
        exact hret _ _ _ _ _ _ hf w dX8_told_79
      · replace hf := zf_f hs6 hf
        by_cases hs7 : v2 = 2
        · replace hf := zf_t hs7 hf
          refine lv_tableIn (off := 68) (tgt := 80) hx hb dX8_told_12 (by rw [hs7]; decide) (by rw [hs7]; decide) (by rw [hs7]; rfl) (by decide) ?_
          refine lv_aload_n hx hb dX8_told_80 rfl (lv_at hl 0 rfl) ?_
          refine xg_0_7 C w lf_8_61 dX8_told_81 ?_
          refine xg_8_1 C w lf_8_216 dX8_told_84 ?_
          refine lv_iload_n hx hb dX8_told_87 rfl (lv_at hl 1 rfl) ?_
          obtain ⟨hi, hf⟩ := zf_gd hf
          refine xa_31 C w hi dX8_told_88 ?_
          refine lv_i2l hx hb dX8_told_89 rfl ?_
          exact hret _ _ _ _ _ _ hf w dX8_told_90
        · replace hf := zf_f hs7 hf
          by_cases hs8 : v2 = 3
          · replace hf := zf_t hs8 hf
            refine lv_tableIn (off := 79) (tgt := 91) hx hb dX8_told_12 (by rw [hs8]; decide) (by rw [hs8]; decide) (by rw [hs8]; rfl) (by decide) ?_
            refine lv_aload_n hx hb dX8_told_91 rfl (lv_at hl 0 rfl) ?_
            refine xg_0_7 C w lf_8_61 dX8_told_92 ?_
            refine xg_8_2 C w lf_8_172 dX8_told_95 ?_
            refine lv_iload_n hx hb dX8_told_98 rfl (lv_at hl 1 rfl) ?_
            obtain ⟨hi, hf⟩ := zf_gd hf
            refine xa_32 C w hi dX8_told_99 ?_
            exact hret _ _ _ _ _ _ hf w dX8_told_100
          · replace hf := zf_f hs8 hf
            by_cases hs9 : v2 = 4
            · replace hf := zf_t hs9 hf
              refine lv_tableIn (off := 89) (tgt := 101) hx hb dX8_told_12 (by rw [hs9]; decide) (by rw [hs9]; decide) (by rw [hs9]; rfl) (by decide) ?_
              refine lv_aload_n hx hb dX8_told_101 rfl (lv_at hl 0 rfl) ?_
              refine xg_0_7 C w lf_8_61 dX8_told_102 ?_
              refine xg_8_3 C w lf_8_219 dX8_told_105 ?_
              refine lv_iload_n hx hb dX8_told_108 rfl (lv_at hl 1 rfl) ?_
              obtain ⟨hi, hf⟩ := zf_gd hf
              refine xa_33 C w hi dX8_told_109 ?_
              exact hret _ _ _ _ _ _ hf w dX8_told_110
            · replace hf := zf_f hs9 hf
              by_cases hs10 : v2 = 5
              · replace hf := zf_t hs10 hf
                refine lv_tableIn (off := 99) (tgt := 111) hx hb dX8_told_12 (by rw [hs10]; decide) (by rw [hs10]; decide) (by rw [hs10]; rfl) (by decide) ?_
                refine lv_aload_n hx hb dX8_told_111 rfl (lv_at hl 0 rfl) ?_
                refine xg_0_7 C w lf_8_61 dX8_told_112 ?_
                refine lv_iload_n hx hb dX8_told_115 rfl (lv_at hl 1 rfl) ?_
                obtain ⟨r11, hc, hf⟩ := zf_bp_ex hf
                refine zc_ri wX_ad w (zc_V C w (kX1_placeOf l D q cs N _ _ _ hc _) cf_1_placeOf ci_1_placeOf lm_8_222 rcX_8 ⟨Nat.le_of_ble_eq_true rfl, Nat.le_of_ble_eq_true rfl⟩ hl.1 rfl (Nat.le_of_ble_eq_true rfl) dX8_told_116 ⟨Nat.le_refl _, Nat.le_refl _⟩) (fun H locs w => ?_)
                refine lv_i2l hx hb dX8_told_119 rfl ?_
                exact hret _ _ _ _ _ _ hf w dX8_told_120
              · replace hf := zf_f hs10 hf
                have e_hs3 : v2.toInt ≠ 0 := zf_ne hs3
                have e_hs6 : v2.toInt ≠ 1 := zf_ne hs6
                have e_hs7 : v2.toInt ≠ 2 := zf_ne hs7
                have e_hs8 : v2.toInt ≠ 3 := zf_ne hs8
                have e_hs9 : v2.toInt ≠ 4 := zf_ne hs9
                have e_hs10 : v2.toInt ≠ 5 := zf_ne hs10
                refine lv_tableOut (tgt := 121) hx hb dX8_told_12 (by omega) (by decide) ?_
                refine zr_ldc2 C lc_8_207 dX8_told_121 ?_
                exact hret _ _ _ _ _ _ hf w dX8_told_124
  · replace hf := zf_t h hf
    refine zr_ldc2 C lc_8_207 dX8_told_7 ?_
    exact hret _ _ _ _ _ _ hf w dX8_told_10
def fX8_entry (u : zs_T) (v1 : Int32) (v2 : Int32) : Option Int32 :=
  (zf_bp (fX8_within v1 0 ((zs_i u 13) - 1)) fun r1 => (if r1 = 0 then some (-1) else (if v2 = 0 then (if zf_in v1 100 then some (zs_a u 13 v1.toNatClampNeg) else none) else (if v2 = 1 then (if zf_in v1 100 then some (zs_a u 14 v1.toNatClampNeg) else none) else (if v2 = 2 then (if zf_in v1 100 then some (zs_a u 15 v1.toNatClampNeg) else none) else (if v2 = 3 then (if zf_in v1 100 then some (zs_a u 16 v1.toNatClampNeg) else none) else some (-1)))))))
set_option maxHeartbeats 4000000 in
set_option maxRecDepth 100000 in
theorem kX8_entry (l : Launch) (D : va_G) (q : Nat → Nat) (cs : Nat → ClassId) (u : zs_T) (v1 : Int32) (v2 : Int32) (z : Int32) (hf : fX8_entry u v1 v2 = some z) : zg_Ci l yX8_entry cX8_entry 3 (some .int) 1 D cs (wX q cs) u [.ref (q 0), .int v1, .int v2] z u := by
  refine zg_Ci_of (own := RX8) (by decide) rfl wX_ad (Nat.le_of_ble_eq_true rfl) ?_
  intro p e s m args below meth c A Q C hret w ls hl
  obtain ⟨hx, hb, -⟩ := id C
  have hl : lv_has ls 3 [(0, .ref (q 0)), (1, .int v1), (2, .int v2)] := hl
  generalize hH : s.heap = H at w ⊢
  generalize hLc : ([] : List Loc) = locs at w ⊢
  unfold fX8_entry at hf
  refine lv_iload_n hx hb dX8_entry_0 rfl (lv_at hl 1 rfl) ?_
  refine lv_iconst (v := 0) hx hb dX8_entry_1 (by decide) ?_
  refine lv_aload_n hx hb dX8_entry_2 rfl (lv_at hl 0 rfl) ?_
  refine xg_0_4 C w lf_8_40 dX8_entry_3 ?_
  refine xg_5_8 C w lf_8_90 dX8_entry_6 ?_
  refine lv_iconst (v := 1) hx hb dX8_entry_9 (by decide) ?_
  refine lv_isub hx hb dX8_entry_10 ?_
  obtain ⟨r1, hc, hf⟩ := zf_bp_ex hf
  refine zc_ri wX_ad w (zc_S C w (kX8_within l D q cs _ _ _ _ _ hc _) cf_8_within ci_8_within lm_8_79 ⟨Nat.le_of_ble_eq_true rfl, Nat.le_of_ble_eq_true rfl⟩ hl.1 rfl (Nat.le_of_ble_eq_true rfl) dX8_entry_11 ⟨Nat.le_refl _, Nat.le_refl _⟩) (fun H locs w => ?_)
  refine lv_if_ne (tgt := 19) hx hb dX8_entry_14 (by decide) (fun h => ?_) (fun h => ?_)
  · replace hf := zf_f h hf
    refine lv_iload_n hx hb dX8_entry_19 rfl (lv_at hl 2 rfl) ?_
    by_cases hs3 : v2 = 0
    · replace hf := zf_t hs3 hf
      refine lv_tableIn (off := 32) (tgt := 52) hx hb dX8_entry_20 (by rw [hs3]; decide) (by rw [hs3]; decide) (by rw [hs3]; rfl) (by decide) ?_
      refine lv_aload_n hx hb dX8_entry_52 rfl (lv_at hl 0 rfl) ?_
      refine xg_0_4 C w lf_8_40 dX8_entry_53 ?_
      refine xg_5_3 C w lf_8_225 dX8_entry_56 ?_
      refine lv_iload_n hx hb dX8_entry_59 rfl (lv_at hl 1 rfl) ?_
      obtain ⟨hi, hf⟩ := zf_gd hf
      refine xa_22 C w hi dX8_entry_60 ?_
      exact hret _ _ _ _ _ _ (zf_pr hf) w dX8_entry_61
    · replace hf := zf_f hs3 hf
      by_cases hs4 : v2 = 1
      · replace hf := zf_t hs4 hf
        refine lv_tableIn (off := 42) (tgt := 62) hx hb dX8_entry_20 (by rw [hs4]; decide) (by rw [hs4]; decide) (by rw [hs4]; rfl) (by decide) ?_
        refine lv_aload_n hx hb dX8_entry_62 rfl (lv_at hl 0 rfl) ?_
        refine xg_0_4 C w lf_8_40 dX8_entry_63 ?_
        refine xg_5_4 C w lf_8_228 dX8_entry_66 ?_
        refine lv_iload_n hx hb dX8_entry_69 rfl (lv_at hl 1 rfl) ?_
        obtain ⟨hi, hf⟩ := zf_gd hf
        refine xa_23 C w hi dX8_entry_70 ?_
        exact hret _ _ _ _ _ _ (zf_pr hf) w dX8_entry_71
      · replace hf := zf_f hs4 hf
        by_cases hs5 : v2 = 2
        · replace hf := zf_t hs5 hf
          refine lv_tableIn (off := 52) (tgt := 72) hx hb dX8_entry_20 (by rw [hs5]; decide) (by rw [hs5]; decide) (by rw [hs5]; rfl) (by decide) ?_
          refine lv_aload_n hx hb dX8_entry_72 rfl (lv_at hl 0 rfl) ?_
          refine xg_0_4 C w lf_8_40 dX8_entry_73 ?_
          refine xg_5_5 C w lf_8_231 dX8_entry_76 ?_
          refine lv_iload_n hx hb dX8_entry_79 rfl (lv_at hl 1 rfl) ?_
          obtain ⟨hi, hf⟩ := zf_gd hf
          refine xa_24 C w hi dX8_entry_80 ?_
          exact hret _ _ _ _ _ _ (zf_pr hf) w dX8_entry_81
        · replace hf := zf_f hs5 hf
          by_cases hs6 : v2 = 3
          · replace hf := zf_t hs6 hf
            refine lv_tableIn (off := 62) (tgt := 82) hx hb dX8_entry_20 (by rw [hs6]; decide) (by rw [hs6]; decide) (by rw [hs6]; rfl) (by decide) ?_
            refine lv_aload_n hx hb dX8_entry_82 rfl (lv_at hl 0 rfl) ?_
            refine xg_0_4 C w lf_8_40 dX8_entry_83 ?_
            refine xg_5_6 C w lf_8_234 dX8_entry_86 ?_
            refine lv_iload_n hx hb dX8_entry_89 rfl (lv_at hl 1 rfl) ?_
            obtain ⟨hi, hf⟩ := zf_gd hf
            refine xa_25 C w hi dX8_entry_90 ?_
            exact hret _ _ _ _ _ _ (zf_pr hf) w dX8_entry_91
          · replace hf := zf_f hs6 hf
            have e_hs3 : v2.toInt ≠ 0 := zf_ne hs3
            have e_hs4 : v2.toInt ≠ 1 := zf_ne hs4
            have e_hs5 : v2.toInt ≠ 2 := zf_ne hs5
            have e_hs6 : v2.toInt ≠ 3 := zf_ne hs6
            refine lv_tableOut (tgt := 92) hx hb dX8_entry_20 (by omega) (by decide) ?_
            refine lv_iconst (v := (-1)) hx hb dX8_entry_92 (by decide) ?_
            exact hret _ _ _ _ _ _ (zf_pr hf) w dX8_entry_93
  · replace hf := zf_t h hf
    refine lv_iconst (v := (-1)) hx hb dX8_entry_17 (by decide) ?_
    exact hret _ _ _ _ _ _ (zf_pr hf) w dX8_entry_18
def fX8_rule (u : zs_T) (v1 : Int32) : Option Int32 :=
  (zf_bp (fX8_within v1 0 3) fun r1 => (if r1 = 0 then some (-1) else (if zf_in v1 4 then some (zs_a u 1 v1.toNatClampNeg) else none)))
set_option maxHeartbeats 4000000 in
set_option maxRecDepth 100000 in
theorem kX8_rule (l : Launch) (D : va_G) (q : Nat → Nat) (cs : Nat → ClassId) (u : zs_T) (v1 : Int32) (z : Int32) (hf : fX8_rule u v1 = some z) : zg_Ci l yX8_rule cX8_rule 2 (some .int) 1 D cs (wX q cs) u [.ref (q 0), .int v1] z u := by
  refine zg_Ci_of (own := RX8) (by decide) rfl wX_ad (Nat.le_of_ble_eq_true rfl) ?_
  intro p e s m args below meth c A Q C hret w ls hl
  obtain ⟨hx, hb, -⟩ := id C
  have hl : lv_has ls 2 [(0, .ref (q 0)), (1, .int v1)] := hl
  generalize hH : s.heap = H at w ⊢
  generalize hLc : ([] : List Loc) = locs at w ⊢
  unfold fX8_rule at hf
  refine lv_iload_n hx hb dX8_rule_0 rfl (lv_at hl 1 rfl) ?_
  refine lv_iconst (v := 0) hx hb dX8_rule_1 (by decide) ?_
  refine lv_iconst (v := 3) hx hb dX8_rule_2 (by decide) ?_
  obtain ⟨r1, hc, hf⟩ := zf_bp_ex hf
  refine zc_ri wX_ad w (zc_S C w (kX8_within l D q cs _ _ _ _ _ hc _) cf_8_within ci_8_within lm_8_79 ⟨Nat.le_of_ble_eq_true rfl, Nat.le_of_ble_eq_true rfl⟩ hl.1 rfl (Nat.le_of_ble_eq_true rfl) dX8_rule_3 ⟨Nat.le_refl _, Nat.le_refl _⟩) (fun H locs w => ?_)
  refine lv_if_eq (tgt := 21) hx hb dX8_rule_6 (by decide) (fun h => ?_) (fun h => ?_)
  · replace hf := zf_t h hf
    refine lv_iconst (v := (-1)) hx hb dX8_rule_21 (by decide) ?_
    exact hret _ _ _ _ _ _ (zf_pr hf) w dX8_rule_22
  · replace hf := zf_f h hf
    refine lv_aload_n hx hb dX8_rule_9 rfl (lv_at hl 0 rfl) ?_
    refine xg_0_1 C w lf_8_19 dX8_rule_10 ?_
    refine xg_2_0 C w lf_8_154 dX8_rule_13 ?_
    refine lv_iload_n hx hb dX8_rule_16 rfl (lv_at hl 1 rfl) ?_
    obtain ⟨hi, hf⟩ := zf_gd hf
    refine xa_10 C w hi dX8_rule_17 ?_
    refine lv_goto (tgt := 22) hx hb dX8_rule_18 (by decide) ?_
    exact hret _ _ _ _ _ _ (zf_pr hf) w dX8_rule_22
