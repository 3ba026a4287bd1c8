def fX8_milking (u : zs_T) (v1 : Int32) : Option (Int32 × zs_T) :=
  (zf_bp (fX8_within v1 1 150) fun r1 => (if r1 = 0 then some (0, u) else (if zs_i u 19 = (-1) then some (1, zs_si u 19 v1) else some (0, u))))
set_option maxHeartbeats 4000000 in
set_option maxRecDepth 100000 in
theorem kX8_milking (l : Launch) (D : va_G) (q : Nat → Nat) (cs : Nat → ClassId) (u : zs_T) (v1 : Int32) (z : (Int32 × zs_T)) (hf : fX8_milking u v1 = some z) : zg_Ci l yX8_milking cX8_milking 2 (some .boolean) 1 D cs (wX q cs) u [.ref (q 0), .int v1] z.1 z.2 := by
  refine zg_Cz_of (own := RX8) (by decide) rfl wX_ad (Nat.le_of_ble_eq_true rfl) ?_
  intro p e s m args below meth c A Q C hret w ls hl
  obtain ⟨hx, hb, -⟩ := id C
  have hl : lv_has ls 2 [(0, .ref (q 0)), (1, .int v1)] := hl
  generalize hH : s.heap = H at w ⊢
  generalize hLc : ([] : List Loc) = locs at w ⊢
  unfold fX8_milking at hf
  refine lv_iload_n hx hb dX8_milking_0 rfl (lv_at hl 1 rfl) ?_
  refine lv_iconst (v := 1) hx hb dX8_milking_1 (by decide) ?_
  refine lv_sipush (v := 150) hx hb dX8_milking_2 (by decide) ?_
  obtain ⟨r1, hc, hf⟩ := zf_bp_ex hf
  refine zc_ri wX_ad w (zc_S C w (kX8_within l D q cs _ _ _ _ _ hc _) cf_8_within ci_8_within lm_8_79 ⟨Nat.le_of_ble_eq_true rfl, Nat.le_of_ble_eq_true rfl⟩ hl.1 rfl (Nat.le_of_ble_eq_true rfl) dX8_milking_5 ⟨Nat.le_refl _, Nat.le_refl _⟩) (fun H locs w => ?_)
  refine lv_if_eq (tgt := 22) hx hb dX8_milking_8 (by decide) (fun h => ?_) (fun h => ?_)
  · replace hf := zf_t h hf
    refine lv_iconst (v := 0) hx hb dX8_milking_22 (by decide) ?_
    exact hret _ _ _ _ _ _ (by rfl) hf w dX8_milking_23
  · replace hf := zf_f h hf
    refine lv_aload_n hx hb dX8_milking_11 rfl (lv_at hl 0 rfl) ?_
    refine xg_0_6 C w lf_8_54 dX8_milking_12 ?_
    refine xg_7_2 C w lf_8_137 dX8_milking_15 ?_
    refine lv_iconst (v := (-1)) hx hb dX8_milking_18 (by decide) ?_
    refine lv_icmp_eq (tgt := 24) hx hb dX8_milking_19 (by decide) (fun h => ?_) (fun h => ?_)
    · replace hf := zf_t h hf
      refine lv_aload_n hx hb dX8_milking_24 rfl (lv_at hl 0 rfl) ?_
      refine xg_0_6 C w lf_8_54 dX8_milking_25 ?_
      refine lv_iload_n hx hb dX8_milking_28 rfl (lv_at hl 1 rfl) ?_
      refine xp_7_2 C w lf_8_137 dX8_milking_29 (fun H locs w => ?_)
      refine lv_iconst (v := 1) hx hb dX8_milking_32 (by decide) ?_
      exact hret _ _ _ _ _ _ (by rfl) hf w dX8_milking_33
    · replace hf := zf_f h hf
      refine lv_iconst (v := 0) hx hb dX8_milking_22 (by decide) ?_
      exact hret _ _ _ _ _ _ (by rfl) hf w dX8_milking_23
def fX8_milk (u : zs_T) (v1 : Int32) (v2 : Int32) : Option (Int32 × zs_T) :=
  (zf_bp (fX4_has u v1) fun r1 => (if r1 = 0 then some (0, u) else (zf_bp (fX8_within v2 0 5000) fun r3 => (if r3 = 0 then some (0, u) else (if zs_i u 19 = (-1) then some (0, u) else (if zf_in v1 80 then some (1, zs_sa u 19 (upd (zs_a u 19) v1.toNatClampNeg v2)) else none))))))
set_option maxHeartbeats 4000000 in
set_option maxRecDepth 100000 in
theorem kX8_milk (l : Launch) (D : va_G) (q : Nat → Nat) (cs : Nat → ClassId) (u : zs_T) (v1 : Int32) (v2 : Int32) (z : (Int32 × zs_T)) (hf : fX8_milk u v1 v2 = some z) : zg_Ci l yX8_milk cX8_milk 3 (some .boolean) 2 D cs (wX q cs) u [.ref (q 0), .int v1, .int v2] z.1 z.2 := by
  refine zg_Cz_of (own := RX8) (by decide) rfl wX_ad (Nat.le_of_ble_eq_true rfl) ?_
  intro p e s m args below meth c A Q C hret w ls hl
  obtain ⟨hx, hb, -⟩ := id C
  have hl : lv_has ls 3 [(0, .ref (q 0)), (1, .int v1), (2, .int v2)] := hl
  generalize hH : s.heap = H at w ⊢
  generalize hLc : ([] : List Loc) = locs at w ⊢
  unfold fX8_milk at hf
  refine lv_aload_n hx hb dX8_milk_0 rfl (lv_at hl 0 rfl) ?_
  refine xg_0_4 C w lf_8_40 dX8_milk_1 ?_
  refine lv_iload_n hx hb dX8_milk_4 rfl (lv_at hl 1 rfl) ?_
  obtain ⟨r1, hc, hf⟩ := zf_bp_ex hf
  refine zc_ri wX_ad w (zc_V C w (kX4_has l D q cs _ _ _ hc _) cf_4_has ci_4_has lm_8_132 rcX_5 ⟨Nat.le_of_ble_eq_true rfl, Nat.le_of_ble_eq_true rfl⟩ hl.1 rfl (Nat.le_of_ble_eq_true rfl) dX8_milk_5 ⟨Nat.le_refl _, Nat.le_refl _⟩) (fun H locs w => ?_)
  refine lv_if_eq (tgt := 33) hx hb dX8_milk_8 (by decide) (fun h => ?_) (fun h => ?_)
  · replace hf := zf_t h hf
    refine lv_iconst (v := 0) hx hb dX8_milk_33 (by decide) ?_
    exact hret _ _ _ _ _ _ (by rfl) hf w dX8_milk_34
  · replace hf := zf_f h hf
    refine lv_iload_n hx hb dX8_milk_11 rfl (lv_at hl 2 rfl) ?_
    refine lv_iconst (v := 0) hx hb dX8_milk_12 (by decide) ?_
    refine lv_sipush (v := 5000) hx hb dX8_milk_13 (by decide) ?_
    obtain ⟨r3, hc, hf⟩ := zf_bp_ex hf
    refine zc_ri wX_ad w (zc_S C w (kX8_within l D q cs _ _ _ _ _ hc _) cf_8_within ci_8_within lm_8_79 ⟨Nat.le_of_ble_eq_true rfl, Nat.le_of_ble_eq_true rfl⟩ hl.1 rfl (Nat.le_of_ble_eq_true rfl) dX8_milk_16 ⟨Nat.le_refl _, Nat.le_refl _⟩) (fun H locs w => ?_)
    refine lv_if_eq (tgt := 33) hx hb dX8_milk_19 (by decide) (fun h => ?_) (fun h => ?_)
    · replace hf := zf_t h hf
      refine lv_iconst (v := 0) hx hb dX8_milk_33 (by decide) ?_
      exact hret _ _ _ _ _ _ (by rfl) hf w dX8_milk_34
    · replace hf := zf_f h hf
      refine lv_aload_n hx hb dX8_milk_22 rfl (lv_at hl 0 rfl) ?_
      refine xg_0_6 C w lf_8_54 dX8_milk_23 ?_
      refine xg_7_2 C w lf_8_137 dX8_milk_26 ?_
      refine lv_iconst (v := (-1)) hx hb dX8_milk_29 (by decide) ?_
      refine lv_icmp_ne (tgt := 35) hx hb dX8_milk_30 (by decide) (fun h => ?_) (fun h => ?_)
      · replace hf := zf_f h hf
        refine lv_aload_n hx hb dX8_milk_35 rfl (lv_at hl 0 rfl) ?_
        refine xg_0_6 C w lf_8_54 dX8_milk_36 ?_
        refine xg_7_0 C w lf_8_140 dX8_milk_39 ?_
        refine lv_iload_n hx hb dX8_milk_42 rfl (lv_at hl 1 rfl) ?_
        refine lv_iload_n hx hb dX8_milk_43 rfl (lv_at hl 2 rfl) ?_
        obtain ⟨hi, hf⟩ := zf_gd hf
        refine xs_28 C w hi dX8_milk_44 (fun H locs w => ?_)
        refine lv_iconst (v := 1) hx hb dX8_milk_45 (by decide) ?_
        exact hret _ _ _ _ _ _ (by rfl) hf w dX8_milk_46
      · replace hf := zf_t h hf
        refine lv_iconst (v := 0) hx hb dX8_milk_33 (by decide) ?_
        exact hret _ _ _ _ _ _ (by rfl) hf w dX8_milk_34
def fX8_beginNextYear (N : Nat) (u : zs_T) : Option zs_T :=
  (zf_bv (fX4_beginYear N u (zs_i u 1)) fun u2 => (zf_bv (fX0_beginYear u2) fun u4 => some (zs_si (zs_si (zs_si u4 6 0) 1 0) 0 ((zs_i (zs_si (zs_si u4 6 0) 1 0) 0) + 1))))
set_option maxHeartbeats 4000000 in
set_option maxRecDepth 100000 in
theorem kX8_beginNextYear (l : Launch) (D : va_G) (q : Nat → Nat) (cs : Nat → ClassId) (N : Nat) (u : zs_T) (z : zs_T) (hf : fX8_beginNextYear N u = some z) : zg_Cv l yX8_beginNextYear cX8_beginNextYear 1 none 4 D cs (wX q cs) u [.ref (q 0)] z := by
  refine zg_Cv_of (own := RX8) (by decide) rfl wX_ad (Nat.le_of_ble_eq_true rfl) ?_
  intro p e s m args below meth c A Q C hret w ls hl
  obtain ⟨hx, hb, -⟩ := id C
  have hl : lv_has ls 1 [(0, .ref (q 0))] := hl
  generalize hH : s.heap = H at w ⊢
  generalize hLc : ([] : List Loc) = locs at w ⊢
  unfold fX8_beginNextYear at hf
  refine lv_aload_n hx hb dX8_beginNextYear_0 rfl (lv_at hl 0 rfl) ?_
  refine xg_0_4 C w lf_8_40 dX8_beginNextYear_1 ?_
  refine lv_aload_n hx hb dX8_beginNextYear_4 rfl (lv_at hl 0 rfl) ?_
  refine xg_0_9 C w lf_8_69 dX8_beginNextYear_5 ?_
  refine lv_aload_n hx hb dX8_beginNextYear_8 rfl (lv_at hl 0 rfl) ?_
  refine xg_0_5 C w lf_8_47 dX8_beginNextYear_9 ?_
  obtain ⟨u2, hc, hf⟩ := zf_bv_ex hf
  refine zc_rv wX_ad w (zc_V C w (kX4_beginYear l D q cs N _ _ _ hc _) cf_4_beginYear ci_4_beginYear lm_8_257 rcX_5 ⟨Nat.le_of_ble_eq_true rfl, Nat.le_of_ble_eq_true rfl⟩ hl.1 rfl (Nat.le_of_ble_eq_true rfl) dX8_beginNextYear_12 ⟨Nat.le_refl _, Nat.le_refl _⟩) (fun H locs w => ?_)
  refine lv_aload_n hx hb dX8_beginNextYear_15 rfl (lv_at hl 0 rfl) ?_
  refine xg_0_6 C w lf_8_54 dX8_beginNextYear_16 ?_
  obtain ⟨u4, hc, hf⟩ := zf_bv_ex hf
  refine zc_rv wX_ad w (zc_V C w (kX0_beginYear l D q cs _ _ hc _) cf_0_beginYear ci_0_beginYear lm_8_261 rcX_7 ⟨Nat.le_of_ble_eq_true rfl, Nat.le_of_ble_eq_true rfl⟩ hl.1 rfl (Nat.le_of_ble_eq_true rfl) dX8_beginNextYear_19 ⟨Nat.le_refl _, Nat.le_refl _⟩) (fun H locs w => ?_)
  refine lv_aload_n hx hb dX8_beginNextYear_22 rfl (lv_at hl 0 rfl) ?_
  refine xg_0_2 C w lf_8_26 dX8_beginNextYear_23 ?_
  refine lv_iconst (v := 0) hx hb dX8_beginNextYear_26 (by decide) ?_
  refine xp_3_6 C w lf_8_243 dX8_beginNextYear_27 (fun H locs w => ?_)
  refine lv_aload_n hx hb dX8_beginNextYear_30 rfl (lv_at hl 0 rfl) ?_
  refine lv_iconst (v := 0) hx hb dX8_beginNextYear_31 (by decide) ?_
  refine xp_0_9 C w lf_8_69 dX8_beginNextYear_32 (fun H locs w => ?_)
  refine lv_aload_n hx hb dX8_beginNextYear_35 rfl (lv_at hl 0 rfl) ?_
  refine lv_dup hx hb dX8_beginNextYear_36 rfl ?_
  refine xg_0_8 C w lf_8_65 dX8_beginNextYear_37 ?_
  refine lv_iconst (v := 1) hx hb dX8_beginNextYear_40 (by decide) ?_
  refine lv_iadd hx hb dX8_beginNextYear_41 ?_
  refine xp_0_8 C w lf_8_65 dX8_beginNextYear_42 (fun H locs w => ?_)
  exact hret _ _ _ _ _ hf w dX8_beginNextYear_45
def fX8_close_j30 (N : Nat) (u : zs_T) (v1 : Int32) (t0 : Int32) : Option (Int32 × zs_T) :=
  (zf_bp (fX8_within v1 0 1000) fun r1 => (if r1 = 0 then some ((-1), u) else (if zs_i u 5 = (-1) then (if t0 = 0 then some ((-1), u) else (zf_bv (fX0_shareOut N u (zs_i u 13) (zs_i u 1)) fun u4 => (zf_bi (fX1_partCheeses N u4 v1) fun r5 u6 => (zf_bv (fX1_oweWork N u6 (zs_a u6 1 (2 : Int32).toNatClampNeg)) fun u8 => (zf_bv (fX1_payLosses N u8 (zs_i u8 1) (zs_a u8 1 (3 : Int32).toNatClampNeg)) fun u10 => (zf_bv (fX1_payIn N u10) fun u12 => (zf_bv (fX8_beginNextYear N u12) fun u14 => some (r5, u14)))))))) else some ((-1), u))))
def fX8_close_j29 (N : Nat) (u : zs_T) (v1 : Int32) : Option (Int32 × zs_T) :=
  fX8_close_j30 N u v1 0
def fX8_close (N : Nat) (u : zs_T) (v1 : Int32) : Option (Int32 × zs_T) :=
  (if zs_i u 19 = (-1) then fX8_close_j29 N u v1 else (if zs_i u 1 < zs_i u 19 then fX8_close_j29 N u v1 else fX8_close_j30 N u v1 1))
set_option maxHeartbeats 4000000 in
set_option maxRecDepth 100000 in
theorem kX8_close (l : Launch) (D : va_G) (q : Nat → Nat) (cs : Nat → ClassId) (N : Nat) (u : zs_T) (v1 : Int32) (z : (Int32 × zs_T)) (hf : fX8_close N u v1 = some z) : zg_Ci l yX8_close cX8_close 4 (some .int) 5 D cs (wX q cs) u [.ref (q 0), .int v1] z.1 z.2 := by
  refine zg_Ci_of (own := RX8) (by decide) rfl wX_ad (Nat.le_of_ble_eq_true rfl) ?_
  intro p e s m args below meth c A Q C hret w ls hl
  obtain ⟨hx, hb, -⟩ := id C
  have hl : lv_has ls 4 [(0, .ref (q 0)), (1, .int v1)] := hl
  generalize hH : s.heap = H at w ⊢
  generalize hLc : ([] : List Loc) = locs at w ⊢
  have hj30 : ∀ (u : zs_T) (v1 : Int32) (t0 : Int32) (H : Heap) (locs : List Loc) (ls : Array Slot), zg_W D cs A s (wX q cs u) H locs → lv_has ls 4 [(0, .ref (q 0)), (1, .int v1)] → fX8_close_j30 N u v1 t0 = some z → W p l e (zg_rm 5) s m args below meth c H locs 0 0 Q (F0 m 30 ls [.int t0]) := by
    intro u v1 t0 H locs ls w hl hf
    unfold fX8_close_j30 at hf
    refine lv_istore_n (lv' := [(2, .int t0), (0, .ref (q 0)), (1, .int v1)]) hx hb dX8_close_30 rfl hl (by decide) rfl (fun ls hl => ?_)
    refine lv_iload_n hx hb dX8_close_31 rfl (lv_at hl 2 rfl) ?_
    refine lv_iconst (v := 0) hx hb dX8_close_32 (by decide) ?_
    refine lv_sipush (v := 1000) hx hb dX8_close_33 (by decide) ?_
    obtain ⟨r1, hc, hf⟩ := zf_bp_ex hf
    refine zc_ri wX_ad w (zc_S C w (kX8_within l D q cs _ _ _ _ _ hc _) cf_8_within ci_8_within lm_8_79 ⟨Nat.le_of_ble_eq_true rfl, Nat.le_of_ble_eq_true rfl⟩ hl.1 rfl (Nat.le_of_ble_eq_true rfl) dX8_close_36 ⟨Nat.le_refl _, Nat.le_refl _⟩) (fun H locs w => ?_)
    refine lv_if_eq (tgt := 57) hx hb dX8_close_39 (by decide) (fun h => ?_) (fun h => ?_)
    · replace hf := zf_t h hf
      refine lv_iconst (v := (-1)) hx hb dX8_close_57 (by decide) ?_
      exact hret _ _ _ _ _ _ hf w dX8_close_58
    · replace hf := zf_f h hf
      refine lv_aload_n hx hb dX8_close_42 rfl (lv_at hl 1 rfl) ?_
      refine xg_0_2 C w lf_8_26 dX8_close_43 ?_
      refine xg_3_5 C w lf_8_87 dX8_close_46 ?_
      refine lv_iconst (v := (-1)) hx hb dX8_close_49 (by decide) ?_
      refine lv_icmp_ne (tgt := 57) hx hb dX8_close_50 (by decide) (fun h => ?_) (fun h => ?_)
      · replace hf := zf_f h hf
        refine lv_iconst (v := (-1)) hx hb dX8_close_57 (by decide) ?_
        exact hret _ _ _ _ _ _ hf w dX8_close_58
      · replace hf := zf_t h hf
        refine lv_iload_n hx hb dX8_close_53 rfl (lv_at hl 0 rfl) ?_
        refine lv_if_ne (tgt := 59) hx hb dX8_close_54 (by decide) (fun h => ?_) (fun h => ?_)
        · replace hf := zf_f h hf
          refine lv_aload_n hx hb dX8_close_59 rfl (lv_at hl 1 rfl) ?_
          refine xg_0_6 C w lf_8_54 dX8_close_60 ?_
          refine lv_aload_n hx hb dX8_close_63 rfl (lv_at hl 1 rfl) ?_
          refine xg_0_4 C w lf_8_40 dX8_close_64 ?_
          refine lv_aload_n hx hb dX8_close_67 rfl (lv_at hl 1 rfl) ?_
          refine xg_0_1 C w lf_8_19 dX8_close_68 ?_
          refine lv_aload_n hx hb dX8_close_71 rfl (lv_at hl 1 rfl) ?_
          refine xg_0_5 C w lf_8_47 dX8_close_72 ?_
          refine lv_aload_n hx hb dX8_close_75 rfl (lv_at hl 1 rfl) ?_
          refine xg_0_4 C w lf_8_40 dX8_close_76 ?_
          refine xg_5_8 C w lf_8_90 dX8_close_79 ?_
          refine lv_aload_n hx hb dX8_close_82 rfl (lv_at hl 1 rfl) ?_
          refine xg_0_9 C w lf_8_69 dX8_close_83 ?_
          obtain ⟨u4, hc, hf⟩ := zf_bv_ex hf
          refine zc_rv wX_ad w (zc_V C w (kX0_shareOut l D q cs N _ _ _ _ hc _) cf_0_shareOut ci_0_shareOut lm_8_143 rcX_7 ⟨Nat.le_of_ble_eq_true rfl, Nat.le_of_ble_eq_true rfl⟩ hl.1 rfl (Nat.le_of_ble_eq_true rfl) dX8_close_86 ⟨Nat.le_refl _, Nat.le_refl _⟩) (fun H locs w => ?_)
          refine lv_aload_n hx hb dX8_close_89 rfl (lv_at hl 1 rfl) ?_
          refine xg_0_7 C w lf_8_61 dX8_close_90 ?_
          refine lv_aload_n hx hb dX8_close_93 rfl (lv_at hl 1 rfl) ?_
          refine xg_0_6 C w lf_8_54 dX8_close_94 ?_
          refine xg_7_1 C w lf_8_147 dX8_close_97 ?_
          refine lv_iload_n hx hb dX8_close_100 rfl (lv_at hl 2 rfl) ?_
          obtain ⟨r5, u6, hc, hf⟩ := zf_bi_ex hf
          refine zc_ri wX_ad w (zc_V C w (kX1_partCheeses l D q cs N _ _ _ hc _) cf_1_partCheeses ci_1_partCheeses lm_8_150 rcX_8 ⟨Nat.le_of_ble_eq_true rfl, Nat.le_of_ble_eq_true rfl⟩ hl.1 rfl (Nat.le_of_ble_eq_true rfl) dX8_close_101 ⟨Nat.le_refl _, Nat.le_refl _⟩) (fun H locs w => ?_)
          refine lv_istore_n (lv' := [(3, .int r5), (2, .int t0), (0, .ref (q 0)), (1, .int v1)]) hx hb dX8_close_104 rfl hl (by decide) rfl (fun ls hl => ?_)
          refine lv_aload_n hx hb dX8_close_105 rfl (lv_at hl 2 rfl) ?_
          refine xg_0_7 C w lf_8_61 dX8_close_106 ?_
          refine lv_aload_n hx hb dX8_close_109 rfl (lv_at hl 2 rfl) ?_
          refine xg_0_6 C w lf_8_54 dX8_close_110 ?_
          refine xg_7_1 C w lf_8_147 dX8_close_113 ?_
          refine lv_aload_n hx hb dX8_close_116 rfl (lv_at hl 2 rfl) ?_
          refine xg_0_1 C w lf_8_19 dX8_close_117 ?_
          refine xg_2_0 C w lf_8_154 dX8_close_120 ?_
          refine lv_iconst (v := 2) hx hb dX8_close_123 (by decide) ?_
          refine xa_10 C w (by decide) dX8_close_124 ?_
          obtain ⟨u8, hc, hf⟩ := zf_bv_ex hf
          refine zc_rv wX_ad w (zc_V C w (kX1_oweWork l D q cs N _ _ _ hc _) cf_1_oweWork ci_1_oweWork lm_8_157 rcX_8 ⟨Nat.le_of_ble_eq_true rfl, Nat.le_of_ble_eq_true rfl⟩ hl.1 rfl (Nat.le_of_ble_eq_true rfl) dX8_close_125 ⟨Nat.le_refl _, Nat.le_refl _⟩) (fun H locs w => ?_)
          refine lv_aload_n hx hb dX8_close_128 rfl (lv_at hl 2 rfl) ?_
          refine xg_0_7 C w lf_8_61 dX8_close_129 ?_
          refine lv_aload_n hx hb dX8_close_132 rfl (lv_at hl 2 rfl) ?_
          refine xg_0_4 C w lf_8_40 dX8_close_133 ?_
          refine lv_aload_n hx hb dX8_close_136 rfl (lv_at hl 2 rfl) ?_
          refine xg_0_5 C w lf_8_47 dX8_close_137 ?_
          refine lv_aload_n hx hb dX8_close_140 rfl (lv_at hl 2 rfl) ?_
          refine xg_0_9 C w lf_8_69 dX8_close_141 ?_
          refine lv_aload_n hx hb dX8_close_144 rfl (lv_at hl 2 rfl) ?_
          refine xg_0_1 C w lf_8_19 dX8_close_145 ?_
          refine xg_2_0 C w lf_8_154 dX8_close_148 ?_
          refine lv_iconst (v := 3) hx hb dX8_close_151 (by decide) ?_
          refine xa_10 C w (by decide) dX8_close_152 ?_
          obtain ⟨u10, hc, hf⟩ := zf_bv_ex hf
          refine zc_rv wX_ad w (zc_V C w (kX1_payLosses l D q cs N _ _ _ _ hc _) cf_1_payLosses ci_1_payLosses lm_8_161 rcX_8 ⟨Nat.le_of_ble_eq_true rfl, Nat.le_of_ble_eq_true rfl⟩ hl.1 rfl (Nat.le_of_ble_eq_true rfl) dX8_close_153 ⟨Nat.le_refl _, Nat.le_refl _⟩) (fun H locs w => ?_)
          refine lv_aload_n hx hb dX8_close_156 rfl (lv_at hl 2 rfl) ?_
          refine xg_0_7 C w lf_8_61 dX8_close_157 ?_
          refine lv_aload_n hx hb dX8_close_160 rfl (lv_at hl 2 rfl) ?_
          refine xg_0_6 C w lf_8_54 dX8_close_161 ?_
          refine xg_7_1 C w lf_8_147 dX8_close_164 ?_
          obtain ⟨u12, hc, hf⟩ := zf_bv_ex hf
          refine zc_rv wX_ad w (zc_V C w (kX1_payIn l D q cs N _ _ hc _) cf_1_payIn ci_1_payIn lm_8_165 rcX_8 ⟨Nat.le_of_ble_eq_true rfl, Nat.le_of_ble_eq_true rfl⟩ hl.1 rfl (Nat.le_of_ble_eq_true rfl) dX8_close_167 ⟨Nat.le_refl _, Nat.le_refl _⟩) (fun H locs w => ?_)
          refine lv_aload_n hx hb dX8_close_170 rfl (lv_at hl 2 rfl) ?_
          obtain ⟨u14, hc, hf⟩ := zf_bv_ex hf
          refine zc_rv wX_ad w (zc_V C w (kX8_beginNextYear l D q cs N _ _ hc _) cf_8_beginNextYear ci_8_beginNextYear lm_8_169 rcX_0 ⟨Nat.le_of_ble_eq_true rfl, Nat.le_of_ble_eq_true rfl⟩ hl.1 rfl (Nat.le_of_ble_eq_true rfl) dX8_close_171 ⟨Nat.le_refl _, Nat.le_refl _⟩) (fun H locs w => ?_)
          refine lv_iload_n hx hb dX8_close_174 rfl (lv_at hl 0 rfl) ?_
          exact hret _ _ _ _ _ _ hf w dX8_close_175
        · replace hf := zf_t h hf
          refine lv_iconst (v := (-1)) hx hb dX8_close_57 (by decide) ?_
          exact hret _ _ _ _ _ _ hf w dX8_close_58
  have hj29 : ∀ (u : zs_T) (v1 : Int32) (H : Heap) (locs : List Loc) (ls : Array Slot), zg_W D cs A s (wX q cs u) H locs → lv_has ls 4 [(0, .ref (q 0)), (1, .int v1)] → fX8_close_j29 N u v1 = some z → W p l e (zg_rm 5) s m args below meth c H locs 0 0 Q (F0 m 29 ls []) := by
    intro u v1 H locs ls w hl hf
    unfold fX8_close_j29 at hf
    refine lv_iconst (v := 0) hx hb dX8_close_29 (by decide) ?_
    exact hj30 _ _ _ H locs ls w (lv_sub hl [0, 1] rfl) hf
  unfold fX8_close at hf
  refine lv_aload_n hx hb dX8_close_0 rfl (lv_at hl 0 rfl) ?_
  refine xg_0_6 C w lf_8_54 dX8_close_1 ?_
  refine xg_7_2 C w lf_8_137 dX8_close_4 ?_
  refine lv_iconst (v := (-1)) hx hb dX8_close_7 (by decide) ?_
  refine lv_icmp_eq (tgt := 29) hx hb dX8_close_8 (by decide) (fun h => ?_) (fun h => ?_)
  · replace hf := zf_t h hf
    exact hj29 _ _ H locs ls w (lv_sub hl [0, 1] rfl) hf
  · replace hf := zf_f h hf
    refine lv_aload_n hx hb dX8_close_11 rfl (lv_at hl 0 rfl) ?_
    refine xg_0_6 C w lf_8_54 dX8_close_12 ?_
    refine xg_7_2 C w lf_8_137 dX8_close_15 ?_
    refine lv_aload_n hx hb dX8_close_18 rfl (lv_at hl 0 rfl) ?_
    refine xg_0_9 C w lf_8_69 dX8_close_19 ?_
    refine lv_icmp_gt (tgt := 29) hx hb dX8_close_22 (by decide) (fun h => ?_) (fun h => ?_)
    · replace hf := zf_t h hf
      exact hj29 _ _ H locs ls w (lv_sub hl [0, 1] rfl) hf
    · replace hf := zf_f h hf
      refine lv_iconst (v := 1) hx hb dX8_close_25 (by decide) ?_
      refine lv_goto (tgt := 30) hx hb dX8_close_26 (by decide) ?_
      exact hj30 _ _ _ H locs ls w (lv_sub hl [0, 1] rfl) hf
def fX8_work (u : zs_T) (v1 : Int32) (v2 : Int32) : Option (Int32 × zs_T) :=
  (zf_bp (fX8_isOwner v1) fun r1 => (if r1 = 0 then some (0, u) else (zf_bp (fX8_within v2 1 1000) fun r3 => (if r3 = 0 then some (0, u) else (if zf_in v1 12 then (if zf_in v1 12 then some (1, zs_sb u 1 (vp_updL (zs_b u 1) v1.toNatClampNeg ((zs_b u 1 v1.toNatClampNeg) - v2.toInt64))) else none) else none)))))
set_option maxHeartbeats 4000000 in
set_option maxRecDepth 100000 in
theorem kX8_work (l : Launch) (D : va_G) (q : Nat → Nat) (cs : Nat → ClassId) (u : zs_T) (v1 : Int32) (v2 : Int32) (z : (Int32 × zs_T)) (hf : fX8_work u v1 v2 = some z) : zg_Ci l yX8_work cX8_work 3 (some .boolean) 2 D cs (wX q cs) u [.ref (q 0), .int v1, .int v2] z.1 z.2 := by
  refine zg_Cz_of (own := RX8) (by decide) rfl wX_ad (Nat.le_of_ble_eq_true rfl) ?_
  intro p e s m args below meth c A Q C hret w ls hl
  obtain ⟨hx, hb, -⟩ := id C
  have hl : lv_has ls 3 [(0, .ref (q 0)), (1, .int v1), (2, .int v2)] := hl
  generalize hH : s.heap = H at w ⊢
  generalize hLc : ([] : List Loc) = locs at w ⊢
  unfold fX8_work at hf
  refine lv_iload_n hx hb dX8_work_0 rfl (lv_at hl 1 rfl) ?_
  obtain ⟨r1, hc, hf⟩ := zf_bp_ex hf
  refine zc_ri wX_ad w (zc_S C w (kX8_isOwner l D q cs _ _ _ hc _) cf_8_isOwner ci_8_isOwner lm_8_111 ⟨Nat.le_of_ble_eq_true rfl, Nat.le_of_ble_eq_true rfl⟩ hl.1 rfl (Nat.le_of_ble_eq_true rfl) dX8_work_1 ⟨Nat.le_refl _, Nat.le_refl _⟩) (fun H locs w => ?_)
  refine lv_if_eq (tgt := 18) hx hb dX8_work_4 (by decide) (fun h => ?_) (fun h => ?_)
  · replace hf := zf_t h hf
    refine lv_iconst (v := 0) hx hb dX8_work_18 (by decide) ?_
    exact hret _ _ _ _ _ _ (by rfl) hf w dX8_work_19
  · replace hf := zf_f h hf
    refine lv_iload_n hx hb dX8_work_7 rfl (lv_at hl 2 rfl) ?_
    refine lv_iconst (v := 1) hx hb dX8_work_8 (by decide) ?_
    refine lv_sipush (v := 1000) hx hb dX8_work_9 (by decide) ?_
    obtain ⟨r3, hc, hf⟩ := zf_bp_ex hf
    refine zc_ri wX_ad w (zc_S C w (kX8_within l D q cs _ _ _ _ _ hc _) cf_8_within ci_8_within lm_8_79 ⟨Nat.le_of_ble_eq_true rfl, Nat.le_of_ble_eq_true rfl⟩ hl.1 rfl (Nat.le_of_ble_eq_true rfl) dX8_work_12 ⟨Nat.le_refl _, Nat.le_refl _⟩) (fun H locs w => ?_)
    refine lv_if_ne (tgt := 20) hx hb dX8_work_15 (by decide) (fun h => ?_) (fun h => ?_)
    · replace hf := zf_f h hf
      refine lv_aload_n hx hb dX8_work_20 rfl (lv_at hl 0 rfl) ?_
      refine xg_0_7 C w lf_8_61 dX8_work_21 ?_
      refine xg_8_2 C w lf_8_172 dX8_work_24 ?_
      refine lv_iload_n hx hb dX8_work_27 rfl (lv_at hl 1 rfl) ?_
      refine lv_dup2_11 hx hb dX8_work_28 rfl rfl ?_
      obtain ⟨hi, hf⟩ := zf_gd hf
      refine xa_32 C w hi dX8_work_29 ?_
      refine lv_iload_n hx hb dX8_work_30 rfl (lv_at hl 2 rfl) ?_
      refine lv_i2l hx hb dX8_work_31 rfl ?_
      refine lv_lsub hx hb dX8_work_32 ?_
      obtain ⟨hi, hf⟩ := zf_gd hf
      refine xs_32 C w hi dX8_work_33 (fun H locs w => ?_)
      refine lv_iconst (v := 1) hx hb dX8_work_34 (by decide) ?_
      exact hret _ _ _ _ _ _ (by rfl) hf w dX8_work_35
    · replace hf := zf_t h hf
      refine lv_iconst (v := 0) hx hb dX8_work_18 (by decide) ?_
      exact hret _ _ _ _ _ _ (by rfl) hf w dX8_work_19
def fX8_look (N : Nat) (u : zs_T) (v1 : Int32) (v2 : Int32) (v3 : Int32) (v4 : Int32) : Option (Int32 × zs_T) :=
  (zf_bp (fX4_isKnowing u v1) fun r1 => (if r1 = 0 then some ((-1), u) else (zf_bp (fX8_within v2 0 150) fun r3 => (if r3 = 0 then some ((-1), u) else (zf_bp (fX4_has u v3) fun r5 => (if r5 = 0 then some ((-1), u) else (zf_bi (fX7_replay N u v3 v1 v2) fun r7 u8 => (if v4 = 0 then (if zs_i u8 16 = 0 then (if zs_i u8 15 = 0 then some (0, u8) else some (1, u8)) else some (2, u8)) else (if v4 = 1 then some (zs_i u8 14, u8) else some ((-1), u8))))))))))
set_option maxHeartbeats 4000000 in
set_option maxRecDepth 100000 in
theorem kX8_look (l : Launch) (D : va_G) (q : Nat → Nat) (cs : Nat → ClassId) (N : Nat) (u : zs_T) (v1 : Int32) (v2 : Int32) (v3 : Int32) (v4 : Int32) (z : (Int32 × zs_T)) (hf : fX8_look N u v1 v2 v3 v4 = some z) : zg_Ci l yX8_look cX8_look 5 (some .int) 3 D cs (wX q cs) u [.ref (q 0), .int v1, .int v2, .int v3, .int v4] z.1 z.2 := by
  refine zg_Ci_of (own := RX8) (by decide) rfl wX_ad (Nat.le_of_ble_eq_true rfl) ?_
  intro p e s m args below meth c A Q C hret w ls hl
  obtain ⟨hx, hb, -⟩ := id C
  have hl : lv_has ls 5 [(0, .ref (q 0)), (1, .int v1), (2, .int v2), (3, .int v3), (4, .int v4)] := hl
  generalize hH : s.heap = H at w ⊢
  generalize hLc : ([] : List Loc) = locs at w ⊢
  unfold fX8_look at hf
  refine lv_aload_n hx hb dX8_look_0 rfl (lv_at hl 0 rfl) ?_
  refine xg_0_4 C w lf_8_40 dX8_look_1 ?_
  refine lv_iload_n hx hb dX8_look_4 rfl (lv_at hl 1 rfl) ?_
  obtain ⟨r1, hc, hf⟩ := zf_bp_ex hf
  refine zc_ri wX_ad w (zc_V C w (kX4_isKnowing l D q cs _ _ _ hc _) cf_4_isKnowing ci_4_isKnowing lm_8_176 rcX_5 ⟨Nat.le_of_ble_eq_true rfl, Nat.le_of_ble_eq_true rfl⟩ hl.1 rfl (Nat.le_of_ble_eq_true rfl) dX8_look_5 ⟨Nat.le_refl _, Nat.le_refl _⟩) (fun H locs w => ?_)
  refine lv_if_eq (tgt := 33) hx hb dX8_look_8 (by decide) (fun h => ?_) (fun h => ?_)
  · replace hf := zf_t h hf
    refine lv_iconst (v := (-1)) hx hb dX8_look_33 (by decide) ?_
    exact hret _ _ _ _ _ _ hf w dX8_look_34
  · replace hf := zf_f h hf
    refine lv_iload_n hx hb dX8_look_11 rfl (lv_at hl 2 rfl) ?_
    refine lv_iconst (v := 0) hx hb dX8_look_12 (by decide) ?_
    refine lv_sipush (v := 150) hx hb dX8_look_13 (by decide) ?_
    obtain ⟨r3, hc, hf⟩ := zf_bp_ex hf
    refine zc_ri wX_ad w (zc_S C w (kX8_within l D q cs _ _ _ _ _ hc _) cf_8_within ci_8_within lm_8_79 ⟨Nat.le_of_ble_eq_true rfl, Nat.le_of_ble_eq_true rfl⟩ hl.1 rfl (Nat.le_of_ble_eq_true rfl) dX8_look_16 ⟨Nat.le_refl _, Nat.le_refl _⟩) (fun H locs w => ?_)
    refine lv_if_eq (tgt := 33) hx hb dX8_look_19 (by decide) (fun h => ?_) (fun h => ?_)
    · replace hf := zf_t h hf
      refine lv_iconst (v := (-1)) hx hb dX8_look_33 (by decide) ?_
      exact hret _ _ _ _ _ _ hf w dX8_look_34
    · replace hf := zf_f h hf
      refine lv_aload_n hx hb dX8_look_22 rfl (lv_at hl 0 rfl) ?_
      refine xg_0_4 C w lf_8_40 dX8_look_23 ?_
      refine lv_iload_n hx hb dX8_look_26 rfl (lv_at hl 3 rfl) ?_
      obtain ⟨r5, hc, hf⟩ := zf_bp_ex hf
      refine zc_ri wX_ad w (zc_V C w (kX4_has l D q cs _ _ _ hc _) cf_4_has ci_4_has lm_8_132 rcX_5 ⟨Nat.le_of_ble_eq_true rfl, Nat.le_of_ble_eq_true rfl⟩ hl.1 rfl (Nat.le_of_ble_eq_true rfl) dX8_look_27 ⟨Nat.le_refl _, Nat.le_refl _⟩) (fun H locs w => ?_)
      refine lv_if_ne (tgt := 35) hx hb dX8_look_30 (by decide) (fun h => ?_) (fun h => ?_)
      · replace hf := zf_f h hf
        refine lv_aload_n hx hb dX8_look_35 rfl (lv_at hl 0 rfl) ?_
        refine xg_0_5 C w lf_8_47 dX8_look_36 ?_
        refine lv_aload_n hx hb dX8_look_39 rfl (lv_at hl 0 rfl) ?_
        refine xg_0_4 C w lf_8_40 dX8_look_40 ?_
        refine lv_iload_n hx hb dX8_look_43 rfl (lv_at hl 3 rfl) ?_
        refine lv_iload_n hx hb dX8_look_44 rfl (lv_at hl 1 rfl) ?_
        refine lv_iload_n hx hb dX8_look_45 rfl (lv_at hl 2 rfl) ?_
        obtain ⟨r7, u8, hc, hf⟩ := zf_bi_ex hf
        refine zc_ri wX_ad w (zc_V C w (kX7_replay l D q cs N _ _ _ _ _ hc _) cf_7_replay ci_7_replay lm_8_179 rcX_6 ⟨Nat.le_of_ble_eq_true rfl, Nat.le_of_ble_eq_true rfl⟩ hl.1 rfl (Nat.le_of_ble_eq_true rfl) dX8_look_46 ⟨Nat.le_refl _, Nat.le_refl _⟩) (fun H locs w => ?_)
        refine lv_pop hx hb dX8_look_49 rfl ?_
        refine lv_iload hx hb dX8_look_50 (lv_at hl 4 rfl) ?_
        by_cases hs9 : v4 = 0
        · replace hf := zf_t hs9 hf
          refine lv_lookup (off := 28) (tgt := 80) hx hb dX8_look_52 (by decide) (by rw [hs9]; decide) (by decide) ?_
          refine lv_aload_n hx hb dX8_look_80 rfl (lv_at hl 0 rfl) ?_
          refine xg_0_5 C w lf_8_47 dX8_look_81 ?_
          refine xg_6_2 C w lf_8_183 dX8_look_84 ?_
          refine lv_if_eq (tgt := 94) hx hb dX8_look_87 (by decide) (fun h => ?_) (fun h => ?_)
          · replace hf := zf_t h hf
            refine lv_aload_n hx hb dX8_look_94 rfl (lv_at hl 0 rfl) ?_
            refine xg_0_5 C w lf_8_47 dX8_look_95 ?_
            refine xg_6_1 C w lf_8_187 dX8_look_98 ?_
            refine lv_if_eq (tgt := 108) hx hb dX8_look_101 (by decide) (fun h => ?_) (fun h => ?_)
            · replace hf := zf_t h hf
              refine lv_iconst (v := 0) hx hb dX8_look_108 (by decide) ?_
              exact hret _ _ _ _ _ _ hf w dX8_look_109
            · replace hf := zf_f h hf
              refine lv_iconst (v := 1) hx hb dX8_look_104 (by decide) ?_
              refine lv_goto (tgt := 109) hx hb dX8_look_105 (by decide) ?_
              exact hret _ _ _ _ _ _ hf w dX8_look_109
          · replace hf := zf_f h hf
            refine lv_iconst (v := 2) hx hb dX8_look_90 (by decide) ?_
            refine lv_goto (tgt := 109) hx hb dX8_look_91 (by decide) ?_
            exact hret _ _ _ _ _ _ hf w dX8_look_109
        · replace hf := zf_f hs9 hf
          by_cases hs10 : v4 = 1
          · replace hf := zf_t hs10 hf
            refine lv_lookup (off := 58) (tgt := 110) hx hb dX8_look_52 (by decide) (by rw [hs10]; decide) (by decide) ?_
            refine lv_aload_n hx hb dX8_look_110 rfl (lv_at hl 0 rfl) ?_
            refine xg_0_5 C w lf_8_47 dX8_look_111 ?_
            refine xg_6_0 C w lf_8_190 dX8_look_114 ?_
            exact hret _ _ _ _ _ _ hf w dX8_look_117
          · replace hf := zf_f hs10 hf
            have e_hs9 : v4.toInt ≠ 0 := zf_ne hs9
            have e_hs10 : v4.toInt ≠ 1 := zf_ne hs10
            refine lv_lookup (off := 66) (tgt := 118) hx hb dX8_look_52 (by decide) (by simp [Op.lookupswitch.offset, e_hs9, Ne.symm e_hs9, e_hs10, Ne.symm e_hs10]) (by decide) ?_
            refine lv_iconst (v := (-1)) hx hb dX8_look_118 (by decide) ?_
            exact hret _ _ _ _ _ _ hf w dX8_look_119
      · replace hf := zf_t h hf
        refine lv_iconst (v := (-1)) hx hb dX8_look_33 (by decide) ?_
        exact hret _ _ _ _ _ _ hf w dX8_look_34
def fX8_credit (N : Nat) (u : zs_T) (v1 : Int32) (v2 : Int32) : Option (Int32 × zs_T) :=
  (zf_bp (fX4_isKnowing u v1) fun r1 => (if r1 = 0 then some ((-1), u) else (zf_bp (fX4_has u v2) fun r3 => (if r3 = 0 then some ((-1), u) else (zf_bi (fX0_creditOf N u v1 v2 (zs_i u 1)) fun r5 u6 => some (r5, u6))))))
set_option maxHeartbeats 4000000 in
set_option maxRecDepth 100000 in
theorem kX8_credit (l : Launch) (D : va_G) (q : Nat → Nat) (cs : Nat → ClassId) (N : Nat) (u : zs_T) (v1 : Int32) (v2 : Int32) (z : (Int32 × zs_T)) (hf : fX8_credit N u v1 v2 = some z) : zg_Ci l yX8_credit cX8_credit 3 (some .int) 4 D cs (wX q cs) u [.ref (q 0), .int v1, .int v2] z.1 z.2 := by
  refine zg_Ci_of (own := RX8) (by decide) rfl wX_ad (Nat.le_of_ble_eq_true rfl) ?_
  intro p e s m args below meth c A Q C hret w ls hl
  obtain ⟨hx, hb, -⟩ := id C
  have hl : lv_has ls 3 [(0, .ref (q 0)), (1, .int v1), (2, .int v2)] := hl
  generalize hH : s.heap = H at w ⊢
  generalize hLc : ([] : List Loc) = locs at w ⊢
  unfold fX8_credit at hf
  refine lv_aload_n hx hb dX8_credit_0 rfl (lv_at hl 0 rfl) ?_
  refine xg_0_4 C w lf_8_40 dX8_credit_1 ?_
  refine lv_iload_n hx hb dX8_credit_4 rfl (lv_at hl 1 rfl) ?_
  obtain ⟨r1, hc, hf⟩ := zf_bp_ex hf
  refine zc_ri wX_ad w (zc_V C w (kX4_isKnowing l D q cs _ _ _ hc _) cf_4_isKnowing ci_4_isKnowing lm_8_176 rcX_5 ⟨Nat.le_of_ble_eq_true rfl, Nat.le_of_ble_eq_true rfl⟩ hl.1 rfl (Nat.le_of_ble_eq_true rfl) dX8_credit_5 ⟨Nat.le_refl _, Nat.le_refl _⟩) (fun H locs w => ?_)
  refine lv_if_eq (tgt := 22) hx hb dX8_credit_8 (by decide) (fun h => ?_) (fun h => ?_)
  · replace hf := zf_t h hf
    refine lv_iconst (v := (-1)) hx hb dX8_credit_22 (by decide) ?_
    exact hret _ _ _ _ _ _ hf w dX8_credit_23
  · replace hf := zf_f h hf
    refine lv_aload_n hx hb dX8_credit_11 rfl (lv_at hl 0 rfl) ?_
    refine xg_0_4 C w lf_8_40 dX8_credit_12 ?_
    refine lv_iload_n hx hb dX8_credit_15 rfl (lv_at hl 2 rfl) ?_
    obtain ⟨r3, hc, hf⟩ := zf_bp_ex hf
    refine zc_ri wX_ad w (zc_V C w (kX4_has l D q cs _ _ _ hc _) cf_4_has ci_4_has lm_8_132 rcX_5 ⟨Nat.le_of_ble_eq_true rfl, Nat.le_of_ble_eq_true rfl⟩ hl.1 rfl (Nat.le_of_ble_eq_true rfl) dX8_credit_16 ⟨Nat.le_refl _, Nat.le_refl _⟩) (fun H locs w => ?_)
    refine lv_if_ne (tgt := 24) hx hb dX8_credit_19 (by decide) (fun h => ?_) (fun h => ?_)
    · replace hf := zf_f h hf
      refine lv_aload_n hx hb dX8_credit_24 rfl (lv_at hl 0 rfl) ?_
      refine xg_0_6 C w lf_8_54 dX8_credit_25 ?_
      refine lv_aload_n hx hb dX8_credit_28 rfl (lv_at hl 0 rfl) ?_
      refine xg_0_4 C w lf_8_40 dX8_credit_29 ?_
      refine lv_aload_n hx hb dX8_credit_32 rfl (lv_at hl 0 rfl) ?_
      refine xg_0_1 C w lf_8_19 dX8_credit_33 ?_
      refine lv_aload_n hx hb dX8_credit_36 rfl (lv_at hl 0 rfl) ?_
      refine xg_0_5 C w lf_8_47 dX8_credit_37 ?_
      refine lv_iload_n hx hb dX8_credit_40 rfl (lv_at hl 1 rfl) ?_
      refine lv_iload_n hx hb dX8_credit_41 rfl (lv_at hl 2 rfl) ?_
      refine lv_aload_n hx hb dX8_credit_42 rfl (lv_at hl 0 rfl) ?_
      refine xg_0_9 C w lf_8_69 dX8_credit_43 ?_
      obtain ⟨r5, u6, hc, hf⟩ := zf_bi_ex hf
      refine zc_ri wX_ad w (zc_V C w (kX0_creditOf l D q cs N _ _ _ _ _ hc _) cf_0_creditOf ci_0_creditOf lm_8_193 rcX_7 ⟨Nat.le_of_ble_eq_true rfl, Nat.le_of_ble_eq_true rfl⟩ hl.1 rfl (Nat.le_of_ble_eq_true rfl) dX8_credit_46 ⟨Nat.le_refl _, Nat.le_refl _⟩) (fun H locs w => ?_)
      exact hret _ _ _ _ _ _ hf w dX8_credit_49
    · replace hf := zf_t h hf
      refine lv_iconst (v := (-1)) hx hb dX8_credit_22 (by decide) ?_
      exact hret _ _ _ _ _ _ hf w dX8_credit_23
