def fX8_feed (N : Nat) (u : zs_T) (v1 : Int32) (v2 : Int32) (v3 : Int32) (v4 : Int32) (v5 : Int32) : Option (Int32 × zs_T) :=
  (if (zs_i u 2) + 20 ≤ 40 then (zf_bv (fX6_append N u v1) fun u2 => (zf_bv (fX6_append N u2 v2) fun u4 => (zf_bv (fX6_append N u4 v3) fun u6 => (zf_bv (fX6_append N u6 v4) fun u8 => (zf_bv (fX6_append N u8 v5) fun u10 => some (zs_i u10 2, u10)))))) else some ((-1), u))
set_option maxHeartbeats 4000000 in
set_option maxRecDepth 100000 in
theorem kX8_feed (l : Launch) (D : va_G) (q : Nat → Nat) (cs : Nat → ClassId) (N : Nat) (u : zs_T) (v1 : Int32) (v2 : Int32) (v3 : Int32) (v4 : Int32) (v5 : Int32) (z : (Int32 × zs_T)) (hf : fX8_feed N u v1 v2 v3 v4 v5 = some z) : zg_Ci l yX8_feed cX8_feed 6 (some .int) 1 D cs (wX q cs) u [.ref (q 0), .int v1, .int v2, .int v3, .int v4, .int v5] z.1 z.2 := by
  refine zg_Ci_of (own := RX8) (by decide) rfl wX_ad (Nat.le_of_ble_eq_true rfl) ?_
  intro p e s m args below meth c A Q C hret w ls hl
  obtain ⟨hx, hb, -⟩ := id C
  have hl : lv_has ls 6 [(0, .ref (q 0)), (1, .int v1), (2, .int v2), (3, .int v3), (4, .int v4), (5, .int v5)] := hl
  generalize hH : s.heap = H at w ⊢
  generalize hLc : ([] : List Loc) = locs at w ⊢
  unfold fX8_feed at hf
  refine lv_aload_n hx hb dX8_feed_0 rfl (lv_at hl 0 rfl) ?_
  refine xg_0_0 C w lf_8_10 dX8_feed_1 ?_
  refine xg_1_1 C w lf_8_72 dX8_feed_4 ?_
  refine lv_bipush (v := 20) hx hb dX8_feed_7 (by decide) ?_
  refine lv_iadd hx hb dX8_feed_9 ?_
  refine lv_bipush (v := 40) hx hb dX8_feed_10 (by decide) ?_
  refine lv_icmp_le (tgt := 17) hx hb dX8_feed_12 (by decide) (fun h => ?_) (fun h => ?_)
  · replace hf := zf_t h hf
    refine lv_aload_n hx hb dX8_feed_17 rfl (lv_at hl 0 rfl) ?_
    refine xg_0_0 C w lf_8_10 dX8_feed_18 ?_
    refine lv_iload_n hx hb dX8_feed_21 rfl (lv_at hl 1 rfl) ?_
    obtain ⟨u2, hc, hf⟩ := zf_bv_ex hf
    refine zc_rv wX_ad w (zc_V C w (kX6_append l D q cs N _ _ _ hc _) cf_6_append ci_6_append lm_8_75 rcX_1 ⟨Nat.le_of_ble_eq_true rfl, Nat.le_of_ble_eq_true rfl⟩ hl.1 rfl (Nat.le_of_ble_eq_true rfl) dX8_feed_22 ⟨Nat.le_refl _, Nat.le_refl _⟩) (fun H locs w => ?_)
    refine lv_aload_n hx hb dX8_feed_25 rfl (lv_at hl 0 rfl) ?_
    refine xg_0_0 C w lf_8_10 dX8_feed_26 ?_
    refine lv_iload_n hx hb dX8_feed_29 rfl (lv_at hl 2 rfl) ?_
    obtain ⟨u4, hc, hf⟩ := zf_bv_ex hf
    refine zc_rv wX_ad w (zc_V C w (kX6_append l D q cs N _ _ _ hc _) cf_6_append ci_6_append lm_8_75 rcX_1 ⟨Nat.le_of_ble_eq_true rfl, Nat.le_of_ble_eq_true rfl⟩ hl.1 rfl (Nat.le_of_ble_eq_true rfl) dX8_feed_30 ⟨Nat.le_refl _, Nat.le_refl _⟩) (fun H locs w => ?_)
    refine lv_aload_n hx hb dX8_feed_33 rfl (lv_at hl 0 rfl) ?_
    refine xg_0_0 C w lf_8_10 dX8_feed_34 ?_
    refine lv_iload_n hx hb dX8_feed_37 rfl (lv_at hl 3 rfl) ?_
    obtain ⟨u6, hc, hf⟩ := zf_bv_ex hf
    refine zc_rv wX_ad w (zc_V C w (kX6_append l D q cs N _ _ _ hc _) cf_6_append ci_6_append lm_8_75 rcX_1 ⟨Nat.le_of_ble_eq_true rfl, Nat.le_of_ble_eq_true rfl⟩ hl.1 rfl (Nat.le_of_ble_eq_true rfl) dX8_feed_38 ⟨Nat.le_refl _, Nat.le_refl _⟩) (fun H locs w => ?_)
    refine lv_aload_n hx hb dX8_feed_41 rfl (lv_at hl 0 rfl) ?_
    refine xg_0_0 C w lf_8_10 dX8_feed_42 ?_
    refine lv_iload hx hb dX8_feed_45 (lv_at hl 4 rfl) ?_
    obtain ⟨u8, hc, hf⟩ := zf_bv_ex hf
    refine zc_rv wX_ad w (zc_V C w (kX6_append l D q cs N _ _ _ hc _) cf_6_append ci_6_append lm_8_75 rcX_1 ⟨Nat.le_of_ble_eq_true rfl, Nat.le_of_ble_eq_true rfl⟩ hl.1 rfl (Nat.le_of_ble_eq_true rfl) dX8_feed_47 ⟨Nat.le_refl _, Nat.le_refl _⟩) (fun H locs w => ?_)
    refine lv_aload_n hx hb dX8_feed_50 rfl (lv_at hl 0 rfl) ?_
    refine xg_0_0 C w lf_8_10 dX8_feed_51 ?_
    refine lv_iload hx hb dX8_feed_54 (lv_at hl 5 rfl) ?_
    obtain ⟨u10, hc, hf⟩ := zf_bv_ex hf
    refine zc_rv wX_ad w (zc_V C w (kX6_append l D q cs N _ _ _ hc _) cf_6_append ci_6_append lm_8_75 rcX_1 ⟨Nat.le_of_ble_eq_true rfl, Nat.le_of_ble_eq_true rfl⟩ hl.1 rfl (Nat.le_of_ble_eq_true rfl) dX8_feed_56 ⟨Nat.le_refl _, Nat.le_refl _⟩) (fun H locs w => ?_)
    refine lv_aload_n hx hb dX8_feed_59 rfl (lv_at hl 0 rfl) ?_
    refine xg_0_0 C w lf_8_10 dX8_feed_60 ?_
    refine xg_1_1 C w lf_8_72 dX8_feed_63 ?_
    exact hret _ _ _ _ _ _ hf w dX8_feed_66
  · replace hf := zf_f h hf
    refine lv_iconst (v := (-1)) hx hb dX8_feed_15 (by decide) ?_
    exact hret _ _ _ _ _ _ hf w dX8_feed_16
def fX8_rules (N : Nat) (u : zs_T) (v1 : Int32) : Option (Int32 × zs_T) :=
  (zf_bp (fX8_within v1 0 (zs_i u 2)) fun r1 => (if r1 = 0 then some ((-1), u) else (zf_bi (fX5_read N u v1) fun r3 u4 => some (r3, zs_si u4 2 0))))
set_option maxHeartbeats 4000000 in
set_option maxRecDepth 100000 in
theorem kX8_rules (l : Launch) (D : va_G) (q : Nat → Nat) (cs : Nat → ClassId) (N : Nat) (u : zs_T) (v1 : Int32) (z : (Int32 × zs_T)) (hf : fX8_rules N u v1 = some z) : zg_Ci l yX8_rules cX8_rules 3 (some .int) 4 D cs (wX q cs) u [.ref (q 0), .int v1] z.1 z.2 := by
  refine zg_Ci_of (own := RX8) (by decide) rfl wX_ad (Nat.le_of_ble_eq_true rfl) ?_
  intro p e s m args below meth c A Q C hret w ls hl
  obtain ⟨hx, hb, -⟩ := id C
  have hl : lv_has ls 3 [(0, .ref (q 0)), (1, .int v1)] := hl
  generalize hH : s.heap = H at w ⊢
  generalize hLc : ([] : List Loc) = locs at w ⊢
  unfold fX8_rules at hf
  refine lv_iload_n hx hb dX8_rules_0 rfl (lv_at hl 1 rfl) ?_
  refine lv_iconst (v := 0) hx hb dX8_rules_1 (by decide) ?_
  refine lv_aload_n hx hb dX8_rules_2 rfl (lv_at hl 0 rfl) ?_
  refine xg_0_0 C w lf_8_10 dX8_rules_3 ?_
  refine xg_1_1 C w lf_8_72 dX8_rules_6 ?_
  obtain ⟨r1, hc, hf⟩ := zf_bp_ex hf
  refine zc_ri wX_ad w (zc_S C w (kX8_within l D q cs _ _ _ _ _ hc _) cf_8_within ci_8_within lm_8_79 ⟨Nat.le_of_ble_eq_true rfl, Nat.le_of_ble_eq_true rfl⟩ hl.1 rfl (Nat.le_of_ble_eq_true rfl) dX8_rules_9 ⟨Nat.le_refl _, Nat.le_refl _⟩) (fun H locs w => ?_)
  refine lv_if_ne (tgt := 17) hx hb dX8_rules_12 (by decide) (fun h => ?_) (fun h => ?_)
  · replace hf := zf_f h hf
    refine lv_aload_n hx hb dX8_rules_17 rfl (lv_at hl 0 rfl) ?_
    refine xg_0_1 C w lf_8_19 dX8_rules_18 ?_
    refine lv_aload_n hx hb dX8_rules_21 rfl (lv_at hl 0 rfl) ?_
    refine xg_0_0 C w lf_8_10 dX8_rules_22 ?_
    refine lv_iload_n hx hb dX8_rules_25 rfl (lv_at hl 1 rfl) ?_
    obtain ⟨r3, u4, hc, hf⟩ := zf_bi_ex hf
    refine zc_ri wX_ad w (zc_V C w (kX5_read l D q cs N _ _ _ hc _) cf_5_read ci_5_read lm_8_83 rcX_2 ⟨Nat.le_of_ble_eq_true rfl, Nat.le_of_ble_eq_true rfl⟩ hl.1 rfl (Nat.le_of_ble_eq_true rfl) dX8_rules_26 ⟨Nat.le_refl _, Nat.le_refl _⟩) (fun H locs w => ?_)
    refine lv_istore_n (lv' := [(2, .int r3), (0, .ref (q 0)), (1, .int v1)]) hx hb dX8_rules_29 rfl hl (by decide) rfl (fun ls hl => ?_)
    refine lv_aload_n hx hb dX8_rules_30 rfl (lv_at hl 1 rfl) ?_
    refine xg_0_0 C w lf_8_10 dX8_rules_31 ?_
    refine lv_iconst (v := 0) hx hb dX8_rules_34 (by decide) ?_
    refine xp_1_1 C w lf_8_72 dX8_rules_35 (fun H locs w => ?_)
    refine lv_iload_n hx hb dX8_rules_38 rfl (lv_at hl 0 rfl) ?_
    exact hret _ _ _ _ _ _ hf w dX8_rules_39
  · replace hf := zf_t h hf
    refine lv_iconst (v := (-1)) hx hb dX8_rules_15 (by decide) ?_
    exact hret _ _ _ _ _ _ hf w dX8_rules_16
def fX8_alp_j41 (u : zs_T) (v1 : Int32) (t0 : Int32) : Option (Int32 × zs_T) :=
  (if t0 = 0 then some (0, u) else (zf_bp (fX8_within v1 1 6) fun r1 => (if r1 = 0 then some (0, u) else (zf_bv (fX2_makeHeights u v1) fun u4 => some (1, u4)))))
def fX8_alp_j40 (u : zs_T) (v1 : Int32) : Option (Int32 × zs_T) :=
  fX8_alp_j41 u v1 0
def fX8_alp (u : zs_T) (v1 : Int32) : Option (Int32 × zs_T) :=
  (if zs_i u 0 = 1 then (if zs_i u 1 = 0 then (if zs_i u 5 = (-1) then (if zs_i u 13 = 0 then fX8_alp_j41 u v1 1 else fX8_alp_j40 u v1) else fX8_alp_j40 u v1) else fX8_alp_j40 u v1) else fX8_alp_j40 u v1)
set_option maxHeartbeats 4000000 in
set_option maxRecDepth 100000 in
theorem kX8_alp (l : Launch) (D : va_G) (q : Nat → Nat) (cs : Nat → ClassId) (u : zs_T) (v1 : Int32) (z : (Int32 × zs_T)) (hf : fX8_alp u v1 = some z) : zg_Ci l yX8_alp cX8_alp 3 (some .boolean) 2 D cs (wX q cs) u [.ref (q 0), .int v1] z.1 z.2 := by
  refine zg_Cz_of (own := RX8) (by decide) rfl wX_ad (Nat.le_of_ble_eq_true rfl) ?_
  intro p e s m args below meth c A Q C hret w ls hl
  obtain ⟨hx, hb, -⟩ := id C
  have hl : lv_has ls 3 [(0, .ref (q 0)), (1, .int v1)] := hl
  generalize hH : s.heap = H at w ⊢
  generalize hLc : ([] : List Loc) = locs at w ⊢
  have hj41 : ∀ (u : zs_T) (v1 : Int32) (t0 : Int32) (H : Heap) (locs : List Loc) (ls : Array Slot), zg_W D cs A s (wX q cs u) H locs → lv_has ls 3 [(0, .ref (q 0)), (1, .int v1)] → fX8_alp_j41 u v1 t0 = some z → W p l e (zg_rm 2) s m args below meth c H locs 0 0 Q (F0 m 41 ls [.int t0]) := by
    intro u v1 t0 H locs ls w hl hf
    unfold fX8_alp_j41 at hf
    refine lv_istore_n (lv' := [(2, .int t0), (0, .ref (q 0)), (1, .int v1)]) hx hb dX8_alp_41 rfl hl (by decide) rfl (fun ls hl => ?_)
    refine lv_iload_n hx hb dX8_alp_42 rfl (lv_at hl 0 rfl) ?_
    refine lv_if_eq (tgt := 56) hx hb dX8_alp_43 (by decide) (fun h => ?_) (fun h => ?_)
    · replace hf := zf_t h hf
      refine lv_iconst (v := 0) hx hb dX8_alp_56 (by decide) ?_
      exact hret _ _ _ _ _ _ (by rfl) hf w dX8_alp_57
    · replace hf := zf_f h hf
      refine lv_iload_n hx hb dX8_alp_46 rfl (lv_at hl 2 rfl) ?_
      refine lv_iconst (v := 1) hx hb dX8_alp_47 (by decide) ?_
      refine lv_bipush (v := 6) hx hb dX8_alp_48 (by decide) ?_
      obtain ⟨r1, hc, hf⟩ := zf_bp_ex hf
      refine zc_ri wX_ad w (zc_S C w (kX8_within l D q cs _ _ _ _ _ hc _) cf_8_within ci_8_within lm_8_79 ⟨Nat.le_of_ble_eq_true rfl, Nat.le_of_ble_eq_true rfl⟩ hl.1 rfl (Nat.le_of_ble_eq_true rfl) dX8_alp_50 ⟨Nat.le_refl _, Nat.le_refl _⟩) (fun H locs w => ?_)
      refine lv_if_ne (tgt := 58) hx hb dX8_alp_53 (by decide) (fun h => ?_) (fun h => ?_)
      · replace hf := zf_f h hf
        refine lv_aload_n hx hb dX8_alp_58 rfl (lv_at hl 1 rfl) ?_
        refine xg_0_2 C w lf_8_26 dX8_alp_59 ?_
        refine lv_iload_n hx hb dX8_alp_62 rfl (lv_at hl 2 rfl) ?_
        obtain ⟨u4, hc, hf⟩ := zf_bv_ex hf
        refine zc_rv wX_ad w (zc_V C w (kX2_makeHeights l D q cs _ _ _ hc _) cf_2_makeHeights ci_2_makeHeights lm_8_93 rcX_3 ⟨Nat.le_of_ble_eq_true rfl, Nat.le_of_ble_eq_true rfl⟩ hl.1 rfl (Nat.le_of_ble_eq_true rfl) dX8_alp_63 ⟨Nat.le_refl _, Nat.le_refl _⟩) (fun H locs w => ?_)
        refine lv_iconst (v := 1) hx hb dX8_alp_66 (by decide) ?_
        exact hret _ _ _ _ _ _ (by rfl) hf w dX8_alp_67
      · replace hf := zf_t h hf
        refine lv_iconst (v := 0) hx hb dX8_alp_56 (by decide) ?_
        exact hret _ _ _ _ _ _ (by rfl) hf w dX8_alp_57
  have hj40 : ∀ (u : zs_T) (v1 : Int32) (H : Heap) (locs : List Loc) (ls : Array Slot), zg_W D cs A s (wX q cs u) H locs → lv_has ls 3 [(0, .ref (q 0)), (1, .int v1)] → fX8_alp_j40 u v1 = some z → W p l e (zg_rm 2) s m args below meth c H locs 0 0 Q (F0 m 40 ls []) := by
    intro u v1 H locs ls w hl hf
    unfold fX8_alp_j40 at hf
    refine lv_iconst (v := 0) hx hb dX8_alp_40 (by decide) ?_
    exact hj41 _ _ _ H locs ls w (lv_sub hl [0, 1] rfl) hf
  unfold fX8_alp at hf
  refine lv_aload_n hx hb dX8_alp_0 rfl (lv_at hl 0 rfl) ?_
  refine xg_0_8 C w lf_8_65 dX8_alp_1 ?_
  refine lv_iconst (v := 1) hx hb dX8_alp_4 (by decide) ?_
  refine lv_icmp_ne (tgt := 40) hx hb dX8_alp_5 (by decide) (fun h => ?_) (fun h => ?_)
  · replace hf := zf_f h hf
    exact hj40 _ _ H locs ls w (lv_sub hl [0, 1] rfl) hf
  · replace hf := zf_t h hf
    refine lv_aload_n hx hb dX8_alp_8 rfl (lv_at hl 0 rfl) ?_
    refine xg_0_9 C w lf_8_69 dX8_alp_9 ?_
    refine lv_if_ne (tgt := 40) hx hb dX8_alp_12 (by decide) (fun h => ?_) (fun h => ?_)
    · replace hf := zf_f h hf
      exact hj40 _ _ H locs ls w (lv_sub hl [0, 1] rfl) hf
    · replace hf := zf_t h hf
      refine lv_aload_n hx hb dX8_alp_15 rfl (lv_at hl 0 rfl) ?_
      refine xg_0_2 C w lf_8_26 dX8_alp_16 ?_
      refine xg_3_5 C w lf_8_87 dX8_alp_19 ?_
      refine lv_iconst (v := (-1)) hx hb dX8_alp_22 (by decide) ?_
      refine lv_icmp_ne (tgt := 40) hx hb dX8_alp_23 (by decide) (fun h => ?_) (fun h => ?_)
      · replace hf := zf_f h hf
        exact hj40 _ _ H locs ls w (lv_sub hl [0, 1] rfl) hf
      · replace hf := zf_t h hf
        refine lv_aload_n hx hb dX8_alp_26 rfl (lv_at hl 0 rfl) ?_
        refine xg_0_4 C w lf_8_40 dX8_alp_27 ?_
        refine xg_5_8 C w lf_8_90 dX8_alp_30 ?_
        refine lv_if_ne (tgt := 40) hx hb dX8_alp_33 (by decide) (fun h => ?_) (fun h => ?_)
        · replace hf := zf_f h hf
          exact hj40 _ _ H locs ls w (lv_sub hl [0, 1] rfl) hf
        · replace hf := zf_t h hf
          refine lv_iconst (v := 1) hx hb dX8_alp_36 (by decide) ?_
          refine lv_goto (tgt := 41) hx hb dX8_alp_37 (by decide) ?_
          exact hj41 _ _ _ H locs ls w (lv_sub hl [0, 1] rfl) hf
def fX8_height (u : zs_T) (v1 : Int32) (v2 : Int32) (v3 : Int32) (v4 : Int32) : Option (Int32 × zs_T) :=
  (zf_bp (fX2_has u v1) fun r1 => (if r1 = 0 then some (0, u) else (zf_bp (fX8_within v2 0 60000) fun r3 => (if r3 = 0 then some (0, u) else (zf_bp (fX8_within v3 1 60000) fun r5 => (if r5 = 0 then some (0, u) else (zf_bp (fX8_within v4 0 100) fun r7 => (if r7 = 0 then some (0, u) else (if zf_in v1 6 then (if zf_in v1 6 then (if zf_in v1 6 then some (1, zs_sa (zs_sa (zs_sa u 3 (upd (zs_a u 3) v1.toNatClampNeg v2)) 4 (upd (zs_a (zs_sa u 3 (upd (zs_a u 3) v1.toNatClampNeg v2)) 4) v1.toNatClampNeg v3)) 5 (upd (zs_a (zs_sa (zs_sa u 3 (upd (zs_a u 3) v1.toNatClampNeg v2)) 4 (upd (zs_a (zs_sa u 3 (upd (zs_a u 3) v1.toNatClampNeg v2)) 4) v1.toNatClampNeg v3)) 5) v1.toNatClampNeg v4)) else none) else none) else none)))))))))
set_option maxHeartbeats 4000000 in
set_option maxRecDepth 100000 in
theorem kX8_height (l : Launch) (D : va_G) (q : Nat → Nat) (cs : Nat → ClassId) (u : zs_T) (v1 : Int32) (v2 : Int32) (v3 : Int32) (v4 : Int32) (z : (Int32 × zs_T)) (hf : fX8_height u v1 v2 v3 v4 = some z) : zg_Ci l yX8_height cX8_height 5 (some .boolean) 2 D cs (wX q cs) u [.ref (q 0), .int v1, .int v2, .int v3, .int v4] z.1 z.2 := by
  refine zg_Cz_of (own := RX8) (by decide) rfl wX_ad (Nat.le_of_ble_eq_true rfl) ?_
  intro p e s m args below meth c A Q C hret w ls hl
  obtain ⟨hx, hb, -⟩ := id C
  have hl : lv_has ls 5 [(0, .ref (q 0)), (1, .int v1), (2, .int v2), (3, .int v3), (4, .int v4)] := hl
  generalize hH : s.heap = H at w ⊢
  generalize hLc : ([] : List Loc) = locs at w ⊢
  unfold fX8_height at hf
  refine lv_aload_n hx hb dX8_height_0 rfl (lv_at hl 0 rfl) ?_
  refine xg_0_2 C w lf_8_26 dX8_height_1 ?_
  refine lv_iload_n hx hb dX8_height_4 rfl (lv_at hl 1 rfl) ?_
  obtain ⟨r1, hc, hf⟩ := zf_bp_ex hf
  refine zc_ri wX_ad w (zc_V C w (kX2_has l D q cs _ _ _ hc _) cf_2_has ci_2_has lm_8_96 rcX_3 ⟨Nat.le_of_ble_eq_true rfl, Nat.le_of_ble_eq_true rfl⟩ hl.1 rfl (Nat.le_of_ble_eq_true rfl) dX8_height_5 ⟨Nat.le_refl _, Nat.le_refl _⟩) (fun H locs w => ?_)
  refine lv_if_eq (tgt := 42) hx hb dX8_height_8 (by decide) (fun h => ?_) (fun h => ?_)
  · replace hf := zf_t h hf
    refine lv_iconst (v := 0) hx hb dX8_height_42 (by decide) ?_
    exact hret _ _ _ _ _ _ (by rfl) hf w dX8_height_43
  · replace hf := zf_f h hf
    refine lv_iload_n hx hb dX8_height_11 rfl (lv_at hl 2 rfl) ?_
    refine lv_iconst (v := 0) hx hb dX8_height_12 (by decide) ?_
    refine zr_ldc C lc_8_100 dX8_height_13 ?_
    obtain ⟨r3, hc, hf⟩ := zf_bp_ex hf
    refine zc_ri wX_ad w (zc_S C w (kX8_within l D q cs _ _ _ _ _ hc _) cf_8_within ci_8_within lm_8_79 ⟨Nat.le_of_ble_eq_true rfl, Nat.le_of_ble_eq_true rfl⟩ hl.1 rfl (Nat.le_of_ble_eq_true rfl) dX8_height_15 ⟨Nat.le_refl _, Nat.le_refl _⟩) (fun H locs w => ?_)
    refine lv_if_eq (tgt := 42) hx hb dX8_height_18 (by decide) (fun h => ?_) (fun h => ?_)
    · replace hf := zf_t h hf
      refine lv_iconst (v := 0) hx hb dX8_height_42 (by decide) ?_
      exact hret _ _ _ _ _ _ (by rfl) hf w dX8_height_43
    · replace hf := zf_f h hf
      refine lv_iload_n hx hb dX8_height_21 rfl (lv_at hl 3 rfl) ?_
      refine lv_iconst (v := 1) hx hb dX8_height_22 (by decide) ?_
      refine zr_ldc C lc_8_100 dX8_height_23 ?_
      obtain ⟨r5, hc, hf⟩ := zf_bp_ex hf
      refine zc_ri wX_ad w (zc_S C w (kX8_within l D q cs _ _ _ _ _ hc _) cf_8_within ci_8_within lm_8_79 ⟨Nat.le_of_ble_eq_true rfl, Nat.le_of_ble_eq_true rfl⟩ hl.1 rfl (Nat.le_of_ble_eq_true rfl) dX8_height_25 ⟨Nat.le_refl _, Nat.le_refl _⟩) (fun H locs w => ?_)
      refine lv_if_eq (tgt := 42) hx hb dX8_height_28 (by decide) (fun h => ?_) (fun h => ?_)
      · replace hf := zf_t h hf
        refine lv_iconst (v := 0) hx hb dX8_height_42 (by decide) ?_
        exact hret _ _ _ _ _ _ (by rfl) hf w dX8_height_43
      · replace hf := zf_f h hf
        refine lv_iload hx hb dX8_height_31 (lv_at hl 4 rfl) ?_
        refine lv_iconst (v := 0) hx hb dX8_height_33 (by decide) ?_
        refine lv_bipush (v := 100) hx hb dX8_height_34 (by decide) ?_
        obtain ⟨r7, hc, hf⟩ := zf_bp_ex hf
        refine zc_ri wX_ad w (zc_S C w (kX8_within l D q cs _ _ _ _ _ hc _) cf_8_within ci_8_within lm_8_79 ⟨Nat.le_of_ble_eq_true rfl, Nat.le_of_ble_eq_true rfl⟩ hl.1 rfl (Nat.le_of_ble_eq_true rfl) dX8_height_36 ⟨Nat.le_refl _, Nat.le_refl _⟩) (fun H locs w => ?_)
        refine lv_if_ne (tgt := 44) hx hb dX8_height_39 (by decide) (fun h => ?_) (fun h => ?_)
        · replace hf := zf_f h hf
          refine lv_aload_n hx hb dX8_height_44 rfl (lv_at hl 0 rfl) ?_
          refine xg_0_2 C w lf_8_26 dX8_height_45 ?_
          refine xg_3_0 C w lf_8_101 dX8_height_48 ?_
          refine lv_iload_n hx hb dX8_height_51 rfl (lv_at hl 1 rfl) ?_
          refine lv_iload_n hx hb dX8_height_52 rfl (lv_at hl 2 rfl) ?_
          obtain ⟨hi, hf⟩ := zf_gd hf
          refine xs_12 C w hi dX8_height_53 (fun H locs w => ?_)
          refine lv_aload_n hx hb dX8_height_54 rfl (lv_at hl 0 rfl) ?_
          refine xg_0_2 C w lf_8_26 dX8_height_55 ?_
          refine xg_3_1 C w lf_8_105 dX8_height_58 ?_
          refine lv_iload_n hx hb dX8_height_61 rfl (lv_at hl 1 rfl) ?_
          refine lv_iload_n hx hb dX8_height_62 rfl (lv_at hl 3 rfl) ?_
          obtain ⟨hi, hf⟩ := zf_gd hf
          refine xs_13 C w hi dX8_height_63 (fun H locs w => ?_)
          refine lv_aload_n hx hb dX8_height_64 rfl (lv_at hl 0 rfl) ?_
          refine xg_0_2 C w lf_8_26 dX8_height_65 ?_
          refine xg_3_2 C w lf_8_108 dX8_height_68 ?_
          refine lv_iload_n hx hb dX8_height_71 rfl (lv_at hl 1 rfl) ?_
          refine lv_iload hx hb dX8_height_72 (lv_at hl 4 rfl) ?_
          obtain ⟨hi, hf⟩ := zf_gd hf
          refine xs_14 C w hi dX8_height_74 (fun H locs w => ?_)
          refine lv_iconst (v := 1) hx hb dX8_height_75 (by decide) ?_
          exact hret _ _ _ _ _ _ (by rfl) hf w dX8_height_76
        · replace hf := zf_t h hf
          refine lv_iconst (v := 0) hx hb dX8_height_42 (by decide) ?_
          exact hret _ _ _ _ _ _ (by rfl) hf w dX8_height_43
def fX8_isOwner (v0 : Int32) : Option Int32 :=
  (zf_bp (fX8_within v0 0 11) fun r1 => (if zf_z r1 then some r1 else none))
set_option maxHeartbeats 4000000 in
set_option maxRecDepth 100000 in
theorem kX8_isOwner (l : Launch) (D : va_G) (q : Nat → Nat) (cs : Nat → ClassId) (u : zs_T) (v0 : Int32) (z : Int32) (hf : fX8_isOwner v0 = some z) : zg_Ci l yX8_isOwner cX8_isOwner 1 (some .boolean) 1 D cs (wX q cs) u [.int v0] z u := by
  refine zg_Cz_of (own := RX8) (by decide) rfl wX_ad (Nat.le_of_ble_eq_true rfl) ?_
  intro p e s m args below meth c A Q C hret w ls hl
  obtain ⟨hx, hb, -⟩ := id C
  have hl : lv_has ls 1 [(0, .int v0)] := hl
  generalize hH : s.heap = H at w ⊢
  generalize hLc : ([] : List Loc) = locs at w ⊢
  unfold fX8_isOwner at hf
  refine lv_iload_n hx hb dX8_isOwner_0 rfl (lv_at hl 0 rfl) ?_
  refine lv_iconst (v := 0) hx hb dX8_isOwner_1 (by decide) ?_
  refine lv_bipush (v := 11) hx hb dX8_isOwner_2 (by decide) ?_
  obtain ⟨r1, hc, hf⟩ := zf_bp_ex hf
  refine zc_ri wX_ad w (zc_S C w (kX8_within l D q cs _ _ _ _ _ hc _) cf_8_within ci_8_within lm_8_79 ⟨Nat.le_of_ble_eq_true rfl, Nat.le_of_ble_eq_true rfl⟩ hl.1 rfl (Nat.le_of_ble_eq_true rfl) dX8_isOwner_4 ⟨Nat.le_refl _, Nat.le_refl _⟩) (fun H locs w => ?_)
  obtain ⟨hz, hf⟩ := zf_gd hf
  exact hret _ _ _ _ _ _ hz (zf_pr hf) w dX8_isOwner_7
def fX8_sheep (u : zs_T) (v1 : Int32) : Option (Int32 × zs_T) :=
  (zf_bp (fX8_isOwner v1) fun r1 => (if r1 = 0 then some ((-1), u) else (if 80 ≤ zs_i u 12 then some ((-1), u) else (if zs_i u 13 ≤ 0 then (zf_bi (fX4_add u v1) fun r3 u4 => some (r3, u4)) else some ((-1), u)))))
set_option maxHeartbeats 4000000 in
set_option maxRecDepth 100000 in
theorem kX8_sheep (l : Launch) (D : va_G) (q : Nat → Nat) (cs : Nat → ClassId) (u : zs_T) (v1 : Int32) (z : (Int32 × zs_T)) (hf : fX8_sheep u v1 = some z) : zg_Ci l yX8_sheep cX8_sheep 2 (some .int) 2 D cs (wX q cs) u [.ref (q 0), .int v1] z.1 z.2 := by
  refine zg_Ci_of (own := RX8) (by decide) rfl wX_ad (Nat.le_of_ble_eq_true rfl) ?_
  intro p e s m args below meth c A Q C hret w ls hl
  obtain ⟨hx, hb, -⟩ := id C
  have hl : lv_has ls 2 [(0, .ref (q 0)), (1, .int v1)] := hl
  generalize hH : s.heap = H at w ⊢
  generalize hLc : ([] : List Loc) = locs at w ⊢
  unfold fX8_sheep at hf
  refine lv_iload_n hx hb dX8_sheep_0 rfl (lv_at hl 1 rfl) ?_
  obtain ⟨r1, hc, hf⟩ := zf_bp_ex hf
  refine zc_ri wX_ad w (zc_S C w (kX8_isOwner l D q cs _ _ _ hc _) cf_8_isOwner ci_8_isOwner lm_8_111 ⟨Nat.le_of_ble_eq_true rfl, Nat.le_of_ble_eq_true rfl⟩ hl.1 rfl (Nat.le_of_ble_eq_true rfl) dX8_sheep_1 ⟨Nat.le_refl _, Nat.le_refl _⟩) (fun H locs w => ?_)
  refine lv_if_eq (tgt := 29) hx hb dX8_sheep_4 (by decide) (fun h => ?_) (fun h => ?_)
  · replace hf := zf_t h hf
    refine lv_iconst (v := (-1)) hx hb dX8_sheep_29 (by decide) ?_
    exact hret _ _ _ _ _ _ hf w dX8_sheep_30
  · replace hf := zf_f h hf
    refine lv_aload_n hx hb dX8_sheep_7 rfl (lv_at hl 0 rfl) ?_
    refine xg_0_4 C w lf_8_40 dX8_sheep_8 ?_
    refine xg_5_2 C w lf_8_114 dX8_sheep_11 ?_
    refine lv_bipush (v := 80) hx hb dX8_sheep_14 (by decide) ?_
    refine lv_icmp_ge (tgt := 29) hx hb dX8_sheep_16 (by decide) (fun h => ?_) (fun h => ?_)
    · replace hf := zf_t h hf
      refine lv_iconst (v := (-1)) hx hb dX8_sheep_29 (by decide) ?_
      exact hret _ _ _ _ _ _ hf w dX8_sheep_30
    · replace hf := zf_f h hf
      refine lv_aload_n hx hb dX8_sheep_19 rfl (lv_at hl 0 rfl) ?_
      refine xg_0_4 C w lf_8_40 dX8_sheep_20 ?_
      refine xg_5_8 C w lf_8_90 dX8_sheep_23 ?_
      refine lv_if_le (tgt := 31) hx hb dX8_sheep_26 (by decide) (fun h => ?_) (fun h => ?_)
      · replace hf := zf_t h hf
        refine lv_aload_n hx hb dX8_sheep_31 rfl (lv_at hl 0 rfl) ?_
        refine xg_0_4 C w lf_8_40 dX8_sheep_32 ?_
        refine lv_iload_n hx hb dX8_sheep_35 rfl (lv_at hl 1 rfl) ?_
        obtain ⟨r3, u4, hc, hf⟩ := zf_bi_ex hf
        refine zc_ri wX_ad w (zc_V C w (kX4_add l D q cs _ _ _ hc _) cf_4_add ci_4_add lm_8_115 rcX_5 ⟨Nat.le_of_ble_eq_true rfl, Nat.le_of_ble_eq_true rfl⟩ hl.1 rfl (Nat.le_of_ble_eq_true rfl) dX8_sheep_36 ⟨Nat.le_refl _, Nat.le_refl _⟩) (fun H locs w => ?_)
        exact hret _ _ _ _ _ _ hf w dX8_sheep_39
      · replace hf := zf_f h hf
        refine lv_iconst (v := (-1)) hx hb dX8_sheep_29 (by decide) ?_
        exact hret _ _ _ _ _ _ hf w dX8_sheep_30
def fX8_move (u : zs_T) (v1 : Int32) : Option (Int32 × zs_T) :=
  (zf_bp (fX2_canReach u v1) fun r1 => (if r1 = 0 then some (0, u) else some (1, zs_si u 5 v1)))
set_option maxHeartbeats 4000000 in
set_option maxRecDepth 100000 in
theorem kX8_move (l : Launch) (D : va_G) (q : Nat → Nat) (cs : Nat → ClassId) (u : zs_T) (v1 : Int32) (z : (Int32 × zs_T)) (hf : fX8_move u v1 = some z) : zg_Ci l yX8_move cX8_move 2 (some .boolean) 3 D cs (wX q cs) u [.ref (q 0), .int v1] z.1 z.2 := by
  refine zg_Cz_of (own := RX8) (by decide) rfl wX_ad (Nat.le_of_ble_eq_true rfl) ?_
  intro p e s m args below meth c A Q C hret w ls hl
  obtain ⟨hx, hb, -⟩ := id C
  have hl : lv_has ls 2 [(0, .ref (q 0)), (1, .int v1)] := hl
  generalize hH : s.heap = H at w ⊢
  generalize hLc : ([] : List Loc) = locs at w ⊢
  unfold fX8_move at hf
  refine lv_aload_n hx hb dX8_move_0 rfl (lv_at hl 0 rfl) ?_
  refine xg_0_2 C w lf_8_26 dX8_move_1 ?_
  refine lv_iload_n hx hb dX8_move_4 rfl (lv_at hl 1 rfl) ?_
  obtain ⟨r1, hc, hf⟩ := zf_bp_ex hf
  refine zc_ri wX_ad w (zc_V C w (kX2_canReach l D q cs _ _ _ hc _) cf_2_canReach ci_2_canReach lm_8_119 rcX_3 ⟨Nat.le_of_ble_eq_true rfl, Nat.le_of_ble_eq_true rfl⟩ hl.1 rfl (Nat.le_of_ble_eq_true rfl) dX8_move_5 ⟨Nat.le_refl _, Nat.le_refl _⟩) (fun H locs w => ?_)
  refine lv_if_ne (tgt := 13) hx hb dX8_move_8 (by decide) (fun h => ?_) (fun h => ?_)
  · replace hf := zf_f h hf
    refine lv_aload_n hx hb dX8_move_13 rfl (lv_at hl 0 rfl) ?_
    refine xg_0_2 C w lf_8_26 dX8_move_14 ?_
    refine lv_iload_n hx hb dX8_move_17 rfl (lv_at hl 1 rfl) ?_
    refine xp_3_5 C w lf_8_87 dX8_move_18 (fun H locs w => ?_)
    refine lv_iconst (v := 1) hx hb dX8_move_21 (by decide) ?_
    exact hret _ _ _ _ _ _ (by rfl) hf w dX8_move_22
  · replace hf := zf_t h hf
    refine lv_iconst (v := 0) hx hb dX8_move_11 (by decide) ?_
    exact hret _ _ _ _ _ _ (by rfl) hf w dX8_move_12
def fX8_isWarmth (v0 : Int32) : Option Int32 :=
  (zf_bp (fX8_within v0 (-30) 40) fun r1 => (if zf_z r1 then some r1 else none))
set_option maxHeartbeats 4000000 in
set_option maxRecDepth 100000 in
theorem kX8_isWarmth (l : Launch) (D : va_G) (q : Nat → Nat) (cs : Nat → ClassId) (u : zs_T) (v0 : Int32) (z : Int32) (hf : fX8_isWarmth v0 = some z) : zg_Ci l yX8_isWarmth cX8_isWarmth 1 (some .boolean) 1 D cs (wX q cs) u [.int v0] z u := by
  refine zg_Cz_of (own := RX8) (by decide) rfl wX_ad (Nat.le_of_ble_eq_true rfl) ?_
  intro p e s m args below meth c A Q C hret w ls hl
  obtain ⟨hx, hb, -⟩ := id C
  have hl : lv_has ls 1 [(0, .int v0)] := hl
  generalize hH : s.heap = H at w ⊢
  generalize hLc : ([] : List Loc) = locs at w ⊢
  unfold fX8_isWarmth at hf
  refine lv_iload_n hx hb dX8_isWarmth_0 rfl (lv_at hl 0 rfl) ?_
  refine lv_bipush (v := (-30)) hx hb dX8_isWarmth_1 (by decide) ?_
  refine lv_bipush (v := 40) hx hb dX8_isWarmth_3 (by decide) ?_
  obtain ⟨r1, hc, hf⟩ := zf_bp_ex hf
  refine zc_ri wX_ad w (zc_S C w (kX8_within l D q cs _ _ _ _ _ hc _) cf_8_within ci_8_within lm_8_79 ⟨Nat.le_of_ble_eq_true rfl, Nat.le_of_ble_eq_true rfl⟩ hl.1 rfl (Nat.le_of_ble_eq_true rfl) dX8_isWarmth_5 ⟨Nat.le_refl _, Nat.le_refl _⟩) (fun H locs w => ?_)
  obtain ⟨hz, hf⟩ := zf_gd hf
  exact hret _ _ _ _ _ _ hz (zf_pr hf) w dX8_isWarmth_8
def fX8_day (N : Nat) (u : zs_T) (v1 : Int32) (v2 : Int32) : Option (Int32 × zs_T) :=
  (zf_bp (fX8_isWarmth v1) fun r1 => (if r1 = 0 then some ((-1), u) else (zf_bp (fX8_within v2 0 300) fun r3 => (if r3 = 0 then some ((-1), u) else (if zs_i u 1 < 150 then (zf_bp (fX4_upOn N (zs_si u 1 ((zs_i u 1) + 1)) (zs_i (zs_si u 1 ((zs_i u 1) + 1)) 1)) fun r5 => (zf_bv (fX2_passDay N (zs_si u 1 ((zs_i u 1) + 1)) v1 v2 r5) fun u8 => some (zs_i u8 1, u8))) else some ((-1), u))))))
set_option maxHeartbeats 4000000 in
set_option maxRecDepth 100000 in
theorem kX8_day (l : Launch) (D : va_G) (q : Nat → Nat) (cs : Nat → ClassId) (N : Nat) (u : zs_T) (v1 : Int32) (v2 : Int32) (z : (Int32 × zs_T)) (hf : fX8_day N u v1 v2 = some z) : zg_Ci l yX8_day cX8_day 3 (some .int) 3 D cs (wX q cs) u [.ref (q 0), .int v1, .int v2] z.1 z.2 := by
  refine zg_Ci_of (own := RX8) (by decide) rfl wX_ad (Nat.le_of_ble_eq_true rfl) ?_
  intro p e s m args below meth c A Q C hret w ls hl
  obtain ⟨hx, hb, -⟩ := id C
  have hl : lv_has ls 3 [(0, .ref (q 0)), (1, .int v1), (2, .int v2)] := hl
  generalize hH : s.heap = H at w ⊢
  generalize hLc : ([] : List Loc) = locs at w ⊢
  unfold fX8_day at hf
  refine lv_iload_n hx hb dX8_day_0 rfl (lv_at hl 1 rfl) ?_
  obtain ⟨r1, hc, hf⟩ := zf_bp_ex hf
  refine zc_ri wX_ad w (zc_S C w (kX8_isWarmth l D q cs _ _ _ hc _) cf_8_isWarmth ci_8_isWarmth lm_8_122 ⟨Nat.le_of_ble_eq_true rfl, Nat.le_of_ble_eq_true rfl⟩ hl.1 rfl (Nat.le_of_ble_eq_true rfl) dX8_day_1 ⟨Nat.le_refl _, Nat.le_refl _⟩) (fun H locs w => ?_)
  refine lv_if_eq (tgt := 28) hx hb dX8_day_4 (by decide) (fun h => ?_) (fun h => ?_)
  · replace hf := zf_t h hf
    refine lv_iconst (v := (-1)) hx hb dX8_day_28 (by decide) ?_
    exact hret _ _ _ _ _ _ hf w dX8_day_29
  · replace hf := zf_f h hf
    refine lv_iload_n hx hb dX8_day_7 rfl (lv_at hl 2 rfl) ?_
    refine lv_iconst (v := 0) hx hb dX8_day_8 (by decide) ?_
    refine lv_sipush (v := 300) hx hb dX8_day_9 (by decide) ?_
    obtain ⟨r3, hc, hf⟩ := zf_bp_ex hf
    refine zc_ri wX_ad w (zc_S C w (kX8_within l D q cs _ _ _ _ _ hc _) cf_8_within ci_8_within lm_8_79 ⟨Nat.le_of_ble_eq_true rfl, Nat.le_of_ble_eq_true rfl⟩ hl.1 rfl (Nat.le_of_ble_eq_true rfl) dX8_day_12 ⟨Nat.le_refl _, Nat.le_refl _⟩) (fun H locs w => ?_)
    refine lv_if_eq (tgt := 28) hx hb dX8_day_15 (by decide) (fun h => ?_) (fun h => ?_)
    · replace hf := zf_t h hf
      refine lv_iconst (v := (-1)) hx hb dX8_day_28 (by decide) ?_
      exact hret _ _ _ _ _ _ hf w dX8_day_29
    · replace hf := zf_f h hf
      refine lv_aload_n hx hb dX8_day_18 rfl (lv_at hl 0 rfl) ?_
      refine xg_0_9 C w lf_8_69 dX8_day_19 ?_
      refine lv_sipush (v := 150) hx hb dX8_day_22 (by decide) ?_
      refine lv_icmp_lt (tgt := 30) hx hb dX8_day_25 (by decide) (fun h => ?_) (fun h => ?_)
      · replace hf := zf_t h hf
        refine lv_aload_n hx hb dX8_day_30 rfl (lv_at hl 0 rfl) ?_
        refine lv_dup hx hb dX8_day_31 rfl ?_
        refine xg_0_9 C w lf_8_69 dX8_day_32 ?_
        refine lv_iconst (v := 1) hx hb dX8_day_35 (by decide) ?_
        refine lv_iadd hx hb dX8_day_36 ?_
        refine xp_0_9 C w lf_8_69 dX8_day_37 (fun H locs w => ?_)
        refine lv_aload_n hx hb dX8_day_40 rfl (lv_at hl 0 rfl) ?_
        refine xg_0_2 C w lf_8_26 dX8_day_41 ?_
        refine lv_iload_n hx hb dX8_day_44 rfl (lv_at hl 1 rfl) ?_
        refine lv_iload_n hx hb dX8_day_45 rfl (lv_at hl 2 rfl) ?_
        refine lv_aload_n hx hb dX8_day_46 rfl (lv_at hl 0 rfl) ?_
        refine xg_0_4 C w lf_8_40 dX8_day_47 ?_
        refine lv_aload_n hx hb dX8_day_50 rfl (lv_at hl 0 rfl) ?_
        refine xg_0_9 C w lf_8_69 dX8_day_51 ?_
        obtain ⟨r5, hc, hf⟩ := zf_bp_ex hf
        refine zc_ri wX_ad w (zc_V C w (kX4_upOn l D q cs N _ _ _ hc _) cf_4_upOn ci_4_upOn lm_8_125 rcX_5 ⟨Nat.le_of_ble_eq_true rfl, Nat.le_of_ble_eq_true rfl⟩ hl.1 rfl (Nat.le_of_ble_eq_true rfl) dX8_day_54 ⟨Nat.le_refl _, Nat.le_refl _⟩) (fun H locs w => ?_)
        obtain ⟨u8, hc, hf⟩ := zf_bv_ex hf
        refine zc_rv wX_ad w (zc_V C w (kX2_passDay l D q cs N _ _ _ _ _ hc _) cf_2_passDay ci_2_passDay lm_8_128 rcX_3 ⟨Nat.le_of_ble_eq_true rfl, Nat.le_of_ble_eq_true rfl⟩ hl.1 rfl (Nat.le_of_ble_eq_true rfl) dX8_day_57 ⟨Nat.le_refl _, Nat.le_refl _⟩) (fun H locs w => ?_)
        refine lv_aload_n hx hb dX8_day_60 rfl (lv_at hl 0 rfl) ?_
        refine xg_0_9 C w lf_8_69 dX8_day_61 ?_
        exact hret _ _ _ _ _ _ hf w dX8_day_64
      · replace hf := zf_f h hf
        refine lv_iconst (v := (-1)) hx hb dX8_day_28 (by decide) ?_
        exact hret _ _ _ _ _ _ hf w dX8_day_29
def fX8_act_j48 (N : Nat) (u : zs_T) (v1 : Int32) (v2 : Int32) (v3 : Int32) (v4 : Int32) : Option (Int32 × zs_T) :=
  (if zs_i u 13 < 100 then (if v1 = 3 then (zf_bi (fX4_enter N u v1 v2 v3 v4) fun r9 u10 => some (r9, u10)) else (zf_bi (fX4_enter N u v1 v2 v3 (-1)) fun r7 u8 => some (r7, u8))) else some ((-1), u))
def fX8_act (N : Nat) (u : zs_T) (v1 : Int32) (v2 : Int32) (v3 : Int32) (v4 : Int32) : Option (Int32 × zs_T) :=
  (zf_bp (fX8_within v1 0 3) fun r1 => (if r1 = 0 then some ((-1), u) else (zf_bp (fX4_has u v2) fun r3 => (if r3 = 0 then some ((-1), u) else (zf_bp (fX8_within v3 1 150) fun r5 => (if r5 = 0 then some ((-1), u) else (if v1 = 3 then (zf_bp (fX8_isOwner v4) fun r11 => (if r11 = 0 then some ((-1), u) else fX8_act_j48 N u v1 v2 v3 v4)) else fX8_act_j48 N u v1 v2 v3 v4)))))))
set_option maxHeartbeats 4000000 in
set_option maxRecDepth 100000 in
theorem kX8_act (l : Launch) (D : va_G) (q : Nat → Nat) (cs : Nat → ClassId) (N : Nat) (u : zs_T) (v1 : Int32) (v2 : Int32) (v3 : Int32) (v4 : Int32) (z : (Int32 × zs_T)) (hf : fX8_act N u v1 v2 v3 v4 = some z) : zg_Ci l yX8_act cX8_act 5 (some .int) 4 D cs (wX q cs) u [.ref (q 0), .int v1, .int v2, .int v3, .int v4] z.1 z.2 := by
  refine zg_Ci_of (own := RX8) (by decide) rfl wX_ad (Nat.le_of_ble_eq_true rfl) ?_
  intro p e s m args below meth c A Q C hret w ls hl
  obtain ⟨hx, hb, -⟩ := id C
  have hl : lv_has ls 5 [(0, .ref (q 0)), (1, .int v1), (2, .int v2), (3, .int v3), (4, .int v4)] := hl
  generalize hH : s.heap = H at w ⊢
  generalize hLc : ([] : List Loc) = locs at w ⊢
  have hj48 : ∀ (u : zs_T) (v1 : Int32) (v2 : Int32) (v3 : Int32) (v4 : Int32) (H : Heap) (locs : List Loc) (ls : Array Slot), zg_W D cs A s (wX q cs u) H locs → lv_has ls 5 [(0, .ref (q 0)), (1, .int v1), (2, .int v2), (3, .int v3), (4, .int v4)] → fX8_act_j48 N u v1 v2 v3 v4 = some z → W p l e (zg_rm 4) s m args below meth c H locs 0 0 Q (F0 m 48 ls []) := by
    intro u v1 v2 v3 v4 H locs ls w hl hf
    unfold fX8_act_j48 at hf
    refine lv_aload_n hx hb dX8_act_48 rfl (lv_at hl 0 rfl) ?_
    refine xg_0_4 C w lf_8_40 dX8_act_49 ?_
    refine xg_5_8 C w lf_8_90 dX8_act_52 ?_
    refine lv_bipush (v := 100) hx hb dX8_act_55 (by decide) ?_
    refine lv_icmp_lt (tgt := 62) hx hb dX8_act_57 (by decide) (fun h => ?_) (fun h => ?_)
    · replace hf := zf_t h hf
      refine lv_aload_n hx hb dX8_act_62 rfl (lv_at hl 0 rfl) ?_
      refine xg_0_4 C w lf_8_40 dX8_act_63 ?_
      refine lv_iload_n hx hb dX8_act_66 rfl (lv_at hl 1 rfl) ?_
      refine lv_iload_n hx hb dX8_act_67 rfl (lv_at hl 2 rfl) ?_
      refine lv_iload_n hx hb dX8_act_68 rfl (lv_at hl 3 rfl) ?_
      refine lv_iload_n hx hb dX8_act_69 rfl (lv_at hl 1 rfl) ?_
      refine lv_iconst (v := 3) hx hb dX8_act_70 (by decide) ?_
      refine lv_icmp_ne (tgt := 79) hx hb dX8_act_71 (by decide) (fun h => ?_) (fun h => ?_)
      · replace hf := zf_f h hf
        refine lv_iconst (v := (-1)) hx hb dX8_act_79 (by decide) ?_
        refine lv_aload_n hx hb dX8_act_80 rfl (lv_at hl 0 rfl) ?_
        refine xg_0_5 C w lf_8_47 dX8_act_81 ?_
        obtain ⟨r7, u8, hc, hf⟩ := zf_bi_ex hf
        refine zc_ri wX_ad w (zc_V C w (kX4_enter l D q cs N _ _ _ _ _ _ hc _) cf_4_enter ci_4_enter lm_8_133 rcX_5 ⟨Nat.le_of_ble_eq_true rfl, Nat.le_of_ble_eq_true rfl⟩ hl.1 rfl (Nat.le_of_ble_eq_true rfl) dX8_act_84 ⟨Nat.le_refl _, Nat.le_refl _⟩) (fun H locs w => ?_)
        exact hret _ _ _ _ _ _ hf w dX8_act_87
      · replace hf := zf_t h hf
        refine lv_iload hx hb dX8_act_74 (lv_at hl 4 rfl) ?_
        refine lv_goto (tgt := 80) hx hb dX8_act_76 (by decide) ?_
        refine lv_aload_n hx hb dX8_act_80 rfl (lv_at hl 0 rfl) ?_
        refine xg_0_5 C w lf_8_47 dX8_act_81 ?_
        obtain ⟨r9, u10, hc, hf⟩ := zf_bi_ex hf
        refine zc_ri wX_ad w (zc_V C w (kX4_enter l D q cs N _ _ _ _ _ _ hc _) cf_4_enter ci_4_enter lm_8_133 rcX_5 ⟨Nat.le_of_ble_eq_true rfl, Nat.le_of_ble_eq_true rfl⟩ hl.1 rfl (Nat.le_of_ble_eq_true rfl) dX8_act_84 ⟨Nat.le_refl _, Nat.le_refl _⟩) (fun H locs w => ?_)
        exact hret _ _ _ _ _ _ hf w dX8_act_87
    · replace hf := zf_f h hf
      refine lv_iconst (v := (-1)) hx hb dX8_act_60 (by decide) ?_
      exact hret _ _ _ _ _ _ hf w dX8_act_61
  unfold fX8_act at hf
  refine lv_iload_n hx hb dX8_act_0 rfl (lv_at hl 1 rfl) ?_
  refine lv_iconst (v := 0) hx hb dX8_act_1 (by decide) ?_
  refine lv_iconst (v := 3) hx hb dX8_act_2 (by decide) ?_
  obtain ⟨r1, hc, hf⟩ := zf_bp_ex hf
  refine zc_ri wX_ad w (zc_S C w (kX8_within l D q cs _ _ _ _ _ hc _) cf_8_within ci_8_within lm_8_79 ⟨Nat.le_of_ble_eq_true rfl, Nat.le_of_ble_eq_true rfl⟩ hl.1 rfl (Nat.le_of_ble_eq_true rfl) dX8_act_3 ⟨Nat.le_refl _, Nat.le_refl _⟩) (fun H locs w => ?_)
  refine lv_if_eq (tgt := 31) hx hb dX8_act_6 (by decide) (fun h => ?_) (fun h => ?_)
  · replace hf := zf_t h hf
    refine lv_iconst (v := (-1)) hx hb dX8_act_31 (by decide) ?_
    exact hret _ _ _ _ _ _ hf w dX8_act_32
  · replace hf := zf_f h hf
    refine lv_aload_n hx hb dX8_act_9 rfl (lv_at hl 0 rfl) ?_
    refine xg_0_4 C w lf_8_40 dX8_act_10 ?_
    refine lv_iload_n hx hb dX8_act_13 rfl (lv_at hl 2 rfl) ?_
    obtain ⟨r3, hc, hf⟩ := zf_bp_ex hf
    refine zc_ri wX_ad w (zc_V C w (kX4_has l D q cs _ _ _ hc _) cf_4_has ci_4_has lm_8_132 rcX_5 ⟨Nat.le_of_ble_eq_true rfl, Nat.le_of_ble_eq_true rfl⟩ hl.1 rfl (Nat.le_of_ble_eq_true rfl) dX8_act_14 ⟨Nat.le_refl _, Nat.le_refl _⟩) (fun H locs w => ?_)
    refine lv_if_eq (tgt := 31) hx hb dX8_act_17 (by decide) (fun h => ?_) (fun h => ?_)
    · replace hf := zf_t h hf
      refine lv_iconst (v := (-1)) hx hb dX8_act_31 (by decide) ?_
      exact hret _ _ _ _ _ _ hf w dX8_act_32
    · replace hf := zf_f h hf
      refine lv_iload_n hx hb dX8_act_20 rfl (lv_at hl 3 rfl) ?_
      refine lv_iconst (v := 1) hx hb dX8_act_21 (by decide) ?_
      refine lv_sipush (v := 150) hx hb dX8_act_22 (by decide) ?_
      obtain ⟨r5, hc, hf⟩ := zf_bp_ex hf
      refine zc_ri wX_ad w (zc_S C w (kX8_within l D q cs _ _ _ _ _ hc _) cf_8_within ci_8_within lm_8_79 ⟨Nat.le_of_ble_eq_true rfl, Nat.le_of_ble_eq_true rfl⟩ hl.1 rfl (Nat.le_of_ble_eq_true rfl) dX8_act_25 ⟨Nat.le_refl _, Nat.le_refl _⟩) (fun H locs w => ?_)
      refine lv_if_ne (tgt := 33) hx hb dX8_act_28 (by decide) (fun h => ?_) (fun h => ?_)
      · replace hf := zf_f h hf
        refine lv_iload_n hx hb dX8_act_33 rfl (lv_at hl 1 rfl) ?_
        refine lv_iconst (v := 3) hx hb dX8_act_34 (by decide) ?_
        refine lv_icmp_ne (tgt := 48) hx hb dX8_act_35 (by decide) (fun h => ?_) (fun h => ?_)
        · replace hf := zf_f h hf
          exact hj48 _ _ _ _ _ H locs ls w (lv_sub hl [0, 1, 2, 3, 4] rfl) hf
        · replace hf := zf_t h hf
          refine lv_iload hx hb dX8_act_38 (lv_at hl 4 rfl) ?_
          obtain ⟨r11, hc, hf⟩ := zf_bp_ex hf
          refine zc_ri wX_ad w (zc_S C w (kX8_isOwner l D q cs _ _ _ hc _) cf_8_isOwner ci_8_isOwner lm_8_111 ⟨Nat.le_of_ble_eq_true rfl, Nat.le_of_ble_eq_true rfl⟩ hl.1 rfl (Nat.le_of_ble_eq_true rfl) dX8_act_40 ⟨Nat.le_refl _, Nat.le_refl _⟩) (fun H locs w => ?_)
          refine lv_if_ne (tgt := 48) hx hb dX8_act_43 (by decide) (fun h => ?_) (fun h => ?_)
          · replace hf := zf_f h hf
            exact hj48 _ _ _ _ _ H locs ls w (lv_sub hl [0, 1, 2, 3, 4] rfl) hf
          · replace hf := zf_t h hf
            refine lv_iconst (v := (-1)) hx hb dX8_act_46 (by decide) ?_
            exact hret _ _ _ _ _ _ hf w dX8_act_47
      · replace hf := zf_t h hf
        refine lv_iconst (v := (-1)) hx hb dX8_act_31 (by decide) ?_
        exact hret _ _ _ _ _ _ hf w dX8_act_32
