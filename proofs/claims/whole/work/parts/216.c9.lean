def fM9_types_b2 (N : Nat) (v1 : Int32) (ag2 : zs_T → Int32 → Option zs_T) (u : zs_T) (v2 : Int32) : Option zs_T :=
  (if v2 < 0 then some u else (if zf_in (zs_i u 0) 40 then ag2 (zs_si (zs_sa u 0 (upd (zs_a u 0) (zs_i u 0).toNatClampNeg (vp_nar .byte ((v1 >>> ((8 * v2) &&& 31)).toInt8.toInt32)))) 0 ((zs_i (zs_sa u 0 (upd (zs_a u 0) (zs_i u 0).toNatClampNeg (vp_nar .byte ((v1 >>> ((8 * v2) &&& 31)).toInt8.toInt32)))) 0) + 1)) (v2 + (-1)) else none))
def fM9_types (N : Nat) (u : zs_T) (v1 : Int32) : Option zs_T :=
  zf_loop (fun ag x => fM9_types_b2 N v1 (fun u v2 => ag (u, v2)) x.1 x.2) N (u, 3)
set_option maxHeartbeats 4000000 in
set_option maxRecDepth 100000 in
theorem kM9_types (l : Launch) (D : va_G) (q : Nat → Nat) (cs : Nat → ClassId) (N : Nat) (u : zs_T) (v1 : Int32) (z : zs_T) (hf : fM9_types N u v1 = some z) : zg_Cv l yX9_types cX9_types 3 none 0 D cs (wM q cs) u [.ref (q 0), .int v1] z := by
  refine zg_Cv_of (own := RX9) (by decide) rfl wM_ad (Nat.le_of_ble_eq_true rfl) ?_
  intro p e s m args below meth c A Q C hret w ls hl
  obtain ⟨hx, hb, -⟩ := id C
  have hl : lv_has ls 3 [(0, .ref (q 0)), (1, .int v1)] := hl
  generalize hH : s.heap = H at w ⊢
  generalize hLc : ([] : List Loc) = locs at w ⊢
  unfold fM9_types at hf
  refine lv_iconst (v := 3) hx hb dX9_types_0 (by decide) ?_
  refine lv_istore_n (lv' := [(2, .int 3), (0, .ref (q 0)), (1, .int v1)]) hx hb dX9_types_1 rfl hl (by decide) rfl (fun ls hl => ?_)
  have lp2 : ∀ (v1 : Int32) (n : Nat) (x : zs_T × Int32), zf_loop (fun ag x => fM9_types_b2 N v1 (fun u v2 => ag (u, v2)) x.1 x.2) n x = some z → ∀ (H : Heap) (locs : List Loc) (ls : Array Slot), zg_W D cs A s (wM q cs x.1) H locs → lv_has ls 3 [(0, .ref (q 0)), (1, .int v1), (2, .int x.2)] → W p l e (zg_rm 0) s m args below meth c H locs 0 0 Q (F0 m 2 ls []) := by
    intro v1
    refine zf_loop_W (fun x : zs_T × Int32 => ∀ (H : Heap) (locs : List Loc) (ls : Array Slot), zg_W D cs A s (wM q cs x.1) H locs → lv_has ls 3 [(0, .ref (q 0)), (1, .int v1), (2, .int x.2)] → W p l e (zg_rm 0) s m args below meth c H locs 0 0 Q (F0 m 2 ls [])) ?_
    intro ag2 x hag2 hf
    obtain ⟨u, v2⟩ := x
    intro H locs ls w hl
    replace hf : fM9_types_b2 N v1 (fun u v2 => ag2 (u, v2)) u v2 = some z := hf
    replace hl : lv_has ls 3 [(0, .ref (q 0)), (1, .int v1), (2, .int v2)] := hl
    replace w : zg_W D cs A s (wM q cs u) H locs := w
    unfold fM9_types_b2 at hf
    refine lv_iload_n hx hb dX9_types_2 rfl (lv_at hl 2 rfl) ?_
    refine lv_if_lt (tgt := 38) hx hb dX9_types_3 (by decide) (fun h => ?_) (fun h => ?_)
    · replace hf := zf_t h hf
      exact hret _ _ _ _ _ hf w dX9_types_38
    · replace hf := zf_f h hf
      refine lv_aload_n hx hb dX9_types_6 rfl (lv_at hl 0 rfl) ?_
      refine mg_0_0 C w lf_9_7 dX9_types_7 ?_
      refine lv_aload_n hx hb dX9_types_10 rfl (lv_at hl 0 rfl) ?_
      refine mg_0_1 C w lf_9_104 dX9_types_11 ?_
      refine lv_iload_n hx hb dX9_types_14 rfl (lv_at hl 1 rfl) ?_
      refine lv_bipush (v := 8) hx hb dX9_types_15 (by decide) ?_
      refine lv_iload_n hx hb dX9_types_17 rfl (lv_at hl 2 rfl) ?_
      refine lv_imul hx hb dX9_types_18 ?_
      refine lv_ishr hx hb dX9_types_19 ?_
      refine lv_i2b hx hb dX9_types_20 rfl ?_
      obtain ⟨hi, hf⟩ := zf_gd hf
      refine ms_1 C w hi dX9_types_21 (fun H locs w => ?_)
      refine lv_aload_n hx hb dX9_types_22 rfl (lv_at hl 0 rfl) ?_
      refine lv_aload_n hx hb dX9_types_23 rfl (lv_at hl 0 rfl) ?_
      refine mg_0_1 C w lf_9_104 dX9_types_24 ?_
      refine lv_iconst (v := 1) hx hb dX9_types_27 (by decide) ?_
      refine lv_iadd hx hb dX9_types_28 ?_
      refine mp_0_1 C w lf_9_104 dX9_types_29 (fun H locs w => ?_)
      refine lv_iinc (v := v2 + (-1)) (lv' := [(2, .int (v2 + (-1))), (0, .ref (q 0)), (1, .int v1)]) hx hb dX9_types_32 hl (k := 2) rfl rfl (by decide) rfl (fun ls hl => ?_)
      refine lv_goto (tgt := 2) hx hb dX9_types_35 (by decide) ?_
      exact hag2 (zs_si (zs_sa u 0 (upd (zs_a u 0) (zs_i u 0).toNatClampNeg (vp_nar .byte ((v1 >>> ((8 * v2) &&& 31)).toInt8.toInt32)))) 0 ((zs_i (zs_sa u 0 (upd (zs_a u 0) (zs_i u 0).toNatClampNeg (vp_nar .byte ((v1 >>> ((8 * v2) &&& 31)).toInt8.toInt32)))) 0) + 1), v2 + (-1)) hf H locs ls w (lv_sub hl [1, 2, 0] rfl)
  exact lp2 _ _ _ hf H locs ls w (lv_sub hl [1, 2, 0] rfl)
def fM9_feed (N : Nat) (u : zs_T) (v1 : Int32) (v2 : Int32) (v3 : Int32) (v4 : Int32) (v5 : Int32) : Option (Int32 × zs_T) :=
  (if (zs_i u 0) + 20 ≤ 40 then (zf_bv (fM9_types N u v1) fun u2 => (zf_bv (fM9_types N u2 v2) fun u4 => (zf_bv (fM9_types N u4 v3) fun u6 => (zf_bv (fM9_types N u6 v4) fun u8 => (zf_bv (fM9_types N u8 v5) fun u10 => some (zs_i u10 0, u10)))))) else some ((-1), u))
set_option maxHeartbeats 4000000 in
set_option maxRecDepth 100000 in
theorem kM9_feed (l : Launch) (D : va_G) (q : Nat → Nat) (cs : Nat → ClassId) (N : Nat) (u : zs_T) (v1 : Int32) (v2 : Int32) (v3 : Int32) (v4 : Int32) (v5 : Int32) (z : (Int32 × zs_T)) (hf : fM9_feed N u v1 v2 v3 v4 v5 = some z) : zg_Ci l yX9_feed cX9_feed 6 (some .int) 1 D cs (wM q cs) u [.ref (q 0), .int v1, .int v2, .int v3, .int v4, .int v5] z.1 z.2 := by
  refine zg_Ci_of (own := RX9) (by decide) rfl wM_ad (Nat.le_of_ble_eq_true rfl) ?_
  intro p e s m args below meth c A Q C hret w ls hl
  obtain ⟨hx, hb, -⟩ := id C
  have hl : lv_has ls 6 [(0, .ref (q 0)), (1, .int v1), (2, .int v2), (3, .int v3), (4, .int v4), (5, .int v5)] := hl
  generalize hH : s.heap = H at w ⊢
  generalize hLc : ([] : List Loc) = locs at w ⊢
  unfold fM9_feed at hf
  refine lv_aload_n hx hb dX9_feed_0 rfl (lv_at hl 0 rfl) ?_
  refine mg_0_1 C w lf_9_104 dX9_feed_1 ?_
  refine lv_bipush (v := 20) hx hb dX9_feed_4 (by decide) ?_
  refine lv_iadd hx hb dX9_feed_6 ?_
  refine lv_bipush (v := 40) hx hb dX9_feed_7 (by decide) ?_
  refine lv_icmp_le (tgt := 14) hx hb dX9_feed_9 (by decide) (fun h => ?_) (fun h => ?_)
  · replace hf := zf_t h hf
    refine lv_aload_n hx hb dX9_feed_14 rfl (lv_at hl 0 rfl) ?_
    refine lv_iload_n hx hb dX9_feed_15 rfl (lv_at hl 1 rfl) ?_
    obtain ⟨u2, hc, hf⟩ := zf_bv_ex hf
    refine zc_rv wM_ad w (zc_V C w (kM9_types l D q cs N _ _ _ hc _) cf_9_types ci_9_types lm_9_107 rcM_0 ⟨Nat.le_of_ble_eq_true rfl, Nat.le_of_ble_eq_true rfl⟩ hl.1 rfl (Nat.le_of_ble_eq_true rfl) dX9_feed_16 ⟨Nat.le_refl _, Nat.le_refl _⟩) (fun H locs w => ?_)
    refine lv_aload_n hx hb dX9_feed_19 rfl (lv_at hl 0 rfl) ?_
    refine lv_iload_n hx hb dX9_feed_20 rfl (lv_at hl 2 rfl) ?_
    obtain ⟨u4, hc, hf⟩ := zf_bv_ex hf
    refine zc_rv wM_ad w (zc_V C w (kM9_types l D q cs N _ _ _ hc _) cf_9_types ci_9_types lm_9_107 rcM_0 ⟨Nat.le_of_ble_eq_true rfl, Nat.le_of_ble_eq_true rfl⟩ hl.1 rfl (Nat.le_of_ble_eq_true rfl) dX9_feed_21 ⟨Nat.le_refl _, Nat.le_refl _⟩) (fun H locs w => ?_)
    refine lv_aload_n hx hb dX9_feed_24 rfl (lv_at hl 0 rfl) ?_
    refine lv_iload_n hx hb dX9_feed_25 rfl (lv_at hl 3 rfl) ?_
    obtain ⟨u6, hc, hf⟩ := zf_bv_ex hf
    refine zc_rv wM_ad w (zc_V C w (kM9_types l D q cs N _ _ _ hc _) cf_9_types ci_9_types lm_9_107 rcM_0 ⟨Nat.le_of_ble_eq_true rfl, Nat.le_of_ble_eq_true rfl⟩ hl.1 rfl (Nat.le_of_ble_eq_true rfl) dX9_feed_26 ⟨Nat.le_refl _, Nat.le_refl _⟩) (fun H locs w => ?_)
    refine lv_aload_n hx hb dX9_feed_29 rfl (lv_at hl 0 rfl) ?_
    refine lv_iload hx hb dX9_feed_30 (lv_at hl 4 rfl) ?_
    obtain ⟨u8, hc, hf⟩ := zf_bv_ex hf
    refine zc_rv wM_ad w (zc_V C w (kM9_types l D q cs N _ _ _ hc _) cf_9_types ci_9_types lm_9_107 rcM_0 ⟨Nat.le_of_ble_eq_true rfl, Nat.le_of_ble_eq_true rfl⟩ hl.1 rfl (Nat.le_of_ble_eq_true rfl) dX9_feed_32 ⟨Nat.le_refl _, Nat.le_refl _⟩) (fun H locs w => ?_)
    refine lv_aload_n hx hb dX9_feed_35 rfl (lv_at hl 0 rfl) ?_
    refine lv_iload hx hb dX9_feed_36 (lv_at hl 5 rfl) ?_
    obtain ⟨u10, hc, hf⟩ := zf_bv_ex hf
    refine zc_rv wM_ad w (zc_V C w (kM9_types l D q cs N _ _ _ hc _) cf_9_types ci_9_types lm_9_107 rcM_0 ⟨Nat.le_of_ble_eq_true rfl, Nat.le_of_ble_eq_true rfl⟩ hl.1 rfl (Nat.le_of_ble_eq_true rfl) dX9_feed_38 ⟨Nat.le_refl _, Nat.le_refl _⟩) (fun H locs w => ?_)
    refine lv_aload_n hx hb dX9_feed_41 rfl (lv_at hl 0 rfl) ?_
    refine mg_0_1 C w lf_9_104 dX9_feed_42 ?_
    exact hret _ _ _ _ _ _ hf w dX9_feed_45
  · replace hf := zf_f h hf
    refine lv_iconst (v := (-1)) hx hb dX9_feed_12 (by decide) ?_
    exact hret _ _ _ _ _ _ hf w dX9_feed_13
def fM9_letterOf (v0 : Int32) : Option Int32 :=
  (if v0 = 108 then some 0 else (if v0 = 109 then some 1 else (if v0 = 119 then some 2 else (if v0 = 118 then some 3 else some (-1)))))
set_option maxHeartbeats 4000000 in
set_option maxRecDepth 100000 in
theorem kM9_letterOf (l : Launch) (D : va_G) (q : Nat → Nat) (cs : Nat → ClassId) (u : zs_T) (v0 : Int32) (z : Int32) (hf : fM9_letterOf v0 = some z) : zg_Ci l yX9_letterOf cX9_letterOf 1 (some .int) 0 D cs (wM q cs) u [.int v0] z u := by
  refine zg_Ci_of (own := RX9) (by decide) rfl wM_ad (Nat.le_of_ble_eq_true rfl) ?_
  intro p e s m args below meth c A Q C hret w ls hl
  obtain ⟨hx, hb, -⟩ := id C
  have hl : lv_has ls 1 [(0, .int v0)] := hl
  generalize hH : s.heap = H at w ⊢
  generalize hLc : ([] : List Loc) = locs at w ⊢
  unfold fM9_letterOf at hf
  refine lv_iload_n hx hb dX9_letterOf_0 rfl (lv_at hl 0 rfl) ?_
  refine lv_bipush (v := 108) hx hb dX9_letterOf_1 (by decide) ?_
  refine lv_icmp_ne (tgt := 10) hx hb dX9_letterOf_3 (by decide) (fun h => ?_) (fun h => ?_)
  · replace hf := zf_f h hf
    refine lv_iload_n hx hb dX9_letterOf_10 rfl (lv_at hl 0 rfl) ?_
    refine lv_bipush (v := 109) hx hb dX9_letterOf_11 (by decide) ?_
    refine lv_icmp_ne (tgt := 20) hx hb dX9_letterOf_13 (by decide) (fun h => ?_) (fun h => ?_)
    · replace hf := zf_f h hf
      refine lv_iload_n hx hb dX9_letterOf_20 rfl (lv_at hl 0 rfl) ?_
      refine lv_bipush (v := 119) hx hb dX9_letterOf_21 (by decide) ?_
      refine lv_icmp_ne (tgt := 30) hx hb dX9_letterOf_23 (by decide) (fun h => ?_) (fun h => ?_)
      · replace hf := zf_f h hf
        refine lv_iload_n hx hb dX9_letterOf_30 rfl (lv_at hl 0 rfl) ?_
        refine lv_bipush (v := 118) hx hb dX9_letterOf_31 (by decide) ?_
        refine lv_icmp_ne (tgt := 40) hx hb dX9_letterOf_33 (by decide) (fun h => ?_) (fun h => ?_)
        · replace hf := zf_f h hf
          refine lv_iconst (v := (-1)) hx hb dX9_letterOf_40 (by decide) ?_
          exact hret _ _ _ _ _ _ (zf_pr hf) w dX9_letterOf_41
        · replace hf := zf_t h hf
          refine lv_iconst (v := 3) hx hb dX9_letterOf_36 (by decide) ?_
          refine lv_goto (tgt := 41) hx hb dX9_letterOf_37 (by decide) ?_
          exact hret _ _ _ _ _ _ (zf_pr hf) w dX9_letterOf_41
      · replace hf := zf_t h hf
        refine lv_iconst (v := 2) hx hb dX9_letterOf_26 (by decide) ?_
        refine lv_goto (tgt := 41) hx hb dX9_letterOf_27 (by decide) ?_
        exact hret _ _ _ _ _ _ (zf_pr hf) w dX9_letterOf_41
    · replace hf := zf_t h hf
      refine lv_iconst (v := 1) hx hb dX9_letterOf_16 (by decide) ?_
      refine lv_goto (tgt := 41) hx hb dX9_letterOf_17 (by decide) ?_
      exact hret _ _ _ _ _ _ (zf_pr hf) w dX9_letterOf_41
  · replace hf := zf_t h hf
    refine lv_iconst (v := 0) hx hb dX9_letterOf_6 (by decide) ?_
    refine lv_goto (tgt := 41) hx hb dX9_letterOf_7 (by decide) ?_
    exact hret _ _ _ _ _ _ (zf_pr hf) w dX9_letterOf_41
def fM9_isDigit (u : zs_T) (v1 : Int32) (v2 : Int32) : Option Int32 :=
  (if v2 ≤ v1 then some 0 else (if zf_in v1 40 then (if zs_a u 0 v1.toNatClampNeg < 48 then some 0 else (if zf_in v1 40 then (if 57 < zs_a u 0 v1.toNatClampNeg then some 0 else some 1) else none)) else none))
set_option maxHeartbeats 4000000 in
set_option maxRecDepth 100000 in
theorem kM9_isDigit (l : Launch) (D : va_G) (q : Nat → Nat) (cs : Nat → ClassId) (u : zs_T) (v1 : Int32) (v2 : Int32) (z : Int32) (hf : fM9_isDigit u v1 v2 = some z) : zg_Ci l yX9_isDigit cX9_isDigit 3 (some .boolean) 0 D cs (wM q cs) u [.ref (q 0), .int v1, .int v2] z u := by
  refine zg_Cz_of (own := RX9) (by decide) rfl wM_ad (Nat.le_of_ble_eq_true rfl) ?_
  intro p e s m args below meth c A Q C hret w ls hl
  obtain ⟨hx, hb, -⟩ := id C
  have hl : lv_has ls 3 [(0, .ref (q 0)), (1, .int v1), (2, .int v2)] := hl
  generalize hH : s.heap = H at w ⊢
  generalize hLc : ([] : List Loc) = locs at w ⊢
  unfold fM9_isDigit at hf
  refine lv_iload_n hx hb dX9_isDigit_0 rfl (lv_at hl 1 rfl) ?_
  refine lv_iload_n hx hb dX9_isDigit_1 rfl (lv_at hl 2 rfl) ?_
  refine lv_icmp_ge (tgt := 31) hx hb dX9_isDigit_2 (by decide) (fun h => ?_) (fun h => ?_)
  · replace hf := zf_t h hf
    refine lv_iconst (v := 0) hx hb dX9_isDigit_31 (by decide) ?_
    exact hret _ _ _ _ _ _ (by rfl) (zf_pr hf) w dX9_isDigit_32
  · replace hf := zf_f h hf
    refine lv_aload_n hx hb dX9_isDigit_5 rfl (lv_at hl 0 rfl) ?_
    refine mg_0_0 C w lf_9_7 dX9_isDigit_6 ?_
    refine lv_iload_n hx hb dX9_isDigit_9 rfl (lv_at hl 1 rfl) ?_
    obtain ⟨hi, hf⟩ := zf_gd hf
    refine ma_1 C w hi dX9_isDigit_10 ?_
    refine lv_bipush (v := 48) hx hb dX9_isDigit_11 (by decide) ?_
    refine lv_icmp_lt (tgt := 31) hx hb dX9_isDigit_13 (by decide) (fun h => ?_) (fun h => ?_)
    · replace hf := zf_t h hf
      refine lv_iconst (v := 0) hx hb dX9_isDigit_31 (by decide) ?_
      exact hret _ _ _ _ _ _ (by rfl) (zf_pr hf) w dX9_isDigit_32
    · replace hf := zf_f h hf
      refine lv_aload_n hx hb dX9_isDigit_16 rfl (lv_at hl 0 rfl) ?_
      refine mg_0_0 C w lf_9_7 dX9_isDigit_17 ?_
      refine lv_iload_n hx hb dX9_isDigit_20 rfl (lv_at hl 1 rfl) ?_
      obtain ⟨hi, hf⟩ := zf_gd hf
      refine ma_1 C w hi dX9_isDigit_21 ?_
      refine lv_bipush (v := 57) hx hb dX9_isDigit_22 (by decide) ?_
      refine lv_icmp_gt (tgt := 31) hx hb dX9_isDigit_24 (by decide) (fun h => ?_) (fun h => ?_)
      · replace hf := zf_t h hf
        refine lv_iconst (v := 0) hx hb dX9_isDigit_31 (by decide) ?_
        exact hret _ _ _ _ _ _ (by rfl) (zf_pr hf) w dX9_isDigit_32
      · replace hf := zf_f h hf
        refine lv_iconst (v := 1) hx hb dX9_isDigit_27 (by decide) ?_
        refine lv_goto (tgt := 32) hx hb dX9_isDigit_28 (by decide) ?_
        exact hret _ _ _ _ _ _ (by rfl) (zf_pr hf) w dX9_isDigit_32
def fM9_parse_j107 (N : Nat) (ag2 : zs_T → Int32 → Option (Int32 × zs_T)) (u : zs_T) (v1 : Int32) (v2 : Int32) (v3 : Int32) (v4 : Int32) : Option (Int32 × zs_T) :=
  (if zf_in v3 4 then (if v2 = v1 then some (0, zs_sa u 1 (upd (zs_a u 1) v3.toNatClampNeg v4)) else (if zf_in v2 40 then (if zs_a (zs_sa u 1 (upd (zs_a u 1) v3.toNatClampNeg v4)) 0 v2.toNatClampNeg = 59 then ag2 (zs_sa u 1 (upd (zs_a u 1) v3.toNatClampNeg v4)) (v2 + 1) else some (400 + v2, zs_sa u 1 (upd (zs_a u 1) v3.toNatClampNeg v4))) else none)) else none)
def fM9_parse_b56 (N : Nat) (ag2 : zs_T → Int32 → Option (Int32 × zs_T)) (u : zs_T) (v1 : Int32) (v3 : Int32) (ag56 : Int32 → Int32 → Int32 → Option (Int32 × zs_T)) (v2 : Int32) (v4 : Int32) (v5 : Int32) : Option (Int32 × zs_T) :=
  (zf_bp (fM9_isDigit u v2 v1) fun r3 => (if r3 = 0 then fM9_parse_j107 N ag2 u v1 v2 v3 v4 else (if v5 = 4 then some (300 + v2, u) else (if zf_in v2 40 then ag56 (v2 + 1) (((10 * v4) + (zs_a u 0 v2.toNatClampNeg)) - 48) (v5 + 1) else none))))
def fM9_parse_j20 (N : Nat) (ag2 : zs_T → Int32 → Option (Int32 × zs_T)) (u : zs_T) (v1 : Int32) (v2 : Int32) (t0 : Int32) : Option (Int32 × zs_T) :=
  (if t0 = (-1) then some (100 + v2, u) else (zf_bp (fM9_isDigit u (v2 + 1) v1) fun r1 => (if r1 = 0 then some (200 + (v2 + 1), u) else zf_loop (fun ag x => fM9_parse_b56 N ag2 u v1 t0 (fun v2 v4 v5 => ag (v2, v4, v5)) x.1 x.2.1 x.2.2) N (v2 + 1, 0, 0))))
def fM9_parse_b2 (N : Nat) (v1 : Int32) (ag2 : zs_T → Int32 → Option (Int32 × zs_T)) (u : zs_T) (v2 : Int32) : Option (Int32 × zs_T) :=
  (if v1 ≤ v2 then fM9_parse_j20 N ag2 u v1 v2 (-1) else (if zf_in v2 40 then (zf_bp (fM9_letterOf (zs_a u 0 v2.toNatClampNeg)) fun r5 => fM9_parse_j20 N ag2 u v1 v2 r5) else none))
def fM9_parse (N : Nat) (u : zs_T) (v1 : Int32) : Option (Int32 × zs_T) :=
  zf_loop (fun ag x => fM9_parse_b2 N v1 (fun u v2 => ag (u, v2)) x.1 x.2) N (u, 0)
set_option maxHeartbeats 4000000 in
set_option maxRecDepth 100000 in
theorem kM9_parse (l : Launch) (D : va_G) (q : Nat → Nat) (cs : Nat → ClassId) (N : Nat) (u : zs_T) (v1 : Int32) (z : (Int32 × zs_T)) (hf : fM9_parse N u v1 = some z) : zg_Ci l yX9_parse cX9_parse 6 (some .int) 1 D cs (wM q cs) u [.ref (q 0), .int v1] z.1 z.2 := by
  refine zg_Ci_of (own := RX9) (by decide) rfl wM_ad (Nat.le_of_ble_eq_true rfl) ?_
  intro p e s m args below meth c A Q C hret w ls hl
  obtain ⟨hx, hb, -⟩ := id C
  have hl : lv_has ls 6 [(0, .ref (q 0)), (1, .int v1)] := hl
  generalize hH : s.heap = H at w ⊢
  generalize hLc : ([] : List Loc) = locs at w ⊢
  unfold fM9_parse at hf
  refine lv_iconst (v := 0) hx hb dX9_parse_0 (by decide) ?_
  refine lv_istore_n (lv' := [(2, .int 0), (0, .ref (q 0)), (1, .int v1)]) hx hb dX9_parse_1 rfl hl (by decide) rfl (fun ls hl => ?_)
  have lp2 : ∀ (v1 : Int32) (n : Nat) (x : zs_T × Int32), zf_loop (fun ag x => fM9_parse_b2 N v1 (fun u v2 => ag (u, v2)) x.1 x.2) n x = some z → ∀ (H : Heap) (locs : List Loc) (ls : Array Slot), zg_W D cs A s (wM q cs x.1) H locs → lv_has ls 6 [(0, .ref (q 0)), (1, .int v1), (2, .int x.2)] → W p l e (zg_rm 1) s m args below meth c H locs 0 0 Q (F0 m 2 ls []) := by
    intro v1
    refine zf_loop_W (fun x : zs_T × Int32 => ∀ (H : Heap) (locs : List Loc) (ls : Array Slot), zg_W D cs A s (wM q cs x.1) H locs → lv_has ls 6 [(0, .ref (q 0)), (1, .int v1), (2, .int x.2)] → W p l e (zg_rm 1) s m args below meth c H locs 0 0 Q (F0 m 2 ls [])) ?_
    intro ag2 x hag2 hf
    obtain ⟨u, v2⟩ := x
    intro H locs ls w hl
    replace hf : fM9_parse_b2 N v1 (fun u v2 => ag2 (u, v2)) u v2 = some z := hf
    replace hl : lv_has ls 6 [(0, .ref (q 0)), (1, .int v1), (2, .int v2)] := hl
    replace w : zg_W D cs A s (wM q cs u) H locs := w
    have hj107 : ∀ (u : zs_T) (v2 : Int32) (v3 : Int32) (v4 : Int32) (H : Heap) (locs : List Loc) (ls : Array Slot), zg_W D cs A s (wM q cs u) H locs → lv_has ls 6 [(0, .ref (q 0)), (1, .int v1), (2, .int v2), (3, .int v3), (4, .int v4)] → fM9_parse_j107 N (fun u v2 => ag2 (u, v2)) u v1 v2 v3 v4 = some z → W p l e (zg_rm 1) s m args below meth c H locs 0 0 Q (F0 m 107 ls []) := by
      intro u v2 v3 v4 H locs ls w hl hf
      unfold fM9_parse_j107 at hf
      refine lv_aload_n hx hb dX9_parse_107 rfl (lv_at hl 0 rfl) ?_
      refine mg_0_7 C w lf_9_26 dX9_parse_108 ?_
      refine lv_iload_n hx hb dX9_parse_111 rfl (lv_at hl 3 rfl) ?_
      refine lv_iload hx hb dX9_parse_112 (lv_at hl 4 rfl) ?_
      obtain ⟨hi, hf⟩ := zf_gd hf
      refine ms_2 C w hi dX9_parse_114 (fun H locs w => ?_)
      refine lv_iload_n hx hb dX9_parse_115 rfl (lv_at hl 2 rfl) ?_
      refine lv_iload_n hx hb dX9_parse_116 rfl (lv_at hl 1 rfl) ?_
      refine lv_icmp_ne (tgt := 122) hx hb dX9_parse_117 (by decide) (fun h => ?_) (fun h => ?_)
      · replace hf := zf_f h hf
        refine lv_aload_n hx hb dX9_parse_122 rfl (lv_at hl 0 rfl) ?_
        refine mg_0_0 C w lf_9_7 dX9_parse_123 ?_
        refine lv_iload_n hx hb dX9_parse_126 rfl (lv_at hl 2 rfl) ?_
        obtain ⟨hi, hf⟩ := zf_gd hf
        refine ma_1 C w hi dX9_parse_127 ?_
        refine lv_bipush (v := 59) hx hb dX9_parse_128 (by decide) ?_
        refine lv_icmp_eq (tgt := 139) hx hb dX9_parse_130 (by decide) (fun h => ?_) (fun h => ?_)
        · replace hf := zf_t h hf
          refine lv_iload_n hx hb dX9_parse_139 rfl (lv_at hl 2 rfl) ?_
          refine lv_iconst (v := 1) hx hb dX9_parse_140 (by decide) ?_
          refine lv_iadd hx hb dX9_parse_141 ?_
          refine lv_istore_n (lv' := [(2, .int (v2 + 1)), (0, .ref (q 0)), (1, .int v1), (3, .int v3), (4, .int v4)]) hx hb dX9_parse_142 rfl hl (by decide) rfl (fun ls hl => ?_)
          refine lv_goto (tgt := 2) hx hb dX9_parse_143 (by decide) ?_
          exact hag2 (zs_sa u 1 (upd (zs_a u 1) v3.toNatClampNeg v4), v2 + 1) hf H locs ls w (lv_sub hl [1, 2, 0] rfl)
        · replace hf := zf_f h hf
          refine lv_sipush (v := 400) hx hb dX9_parse_133 (by decide) ?_
          refine lv_iload_n hx hb dX9_parse_136 rfl (lv_at hl 2 rfl) ?_
          refine lv_iadd hx hb dX9_parse_137 ?_
          exact hret _ _ _ _ _ _ hf w dX9_parse_138
      · replace hf := zf_t h hf
        refine lv_iconst (v := 0) hx hb dX9_parse_120 (by decide) ?_
        exact hret _ _ _ _ _ _ hf w dX9_parse_121
    have hj20 : ∀ (u : zs_T) (v2 : Int32) (t0 : Int32) (H : Heap) (locs : List Loc) (ls : Array Slot), zg_W D cs A s (wM q cs u) H locs → lv_has ls 6 [(0, .ref (q 0)), (1, .int v1), (2, .int v2)] → fM9_parse_j20 N (fun u v2 => ag2 (u, v2)) u v1 v2 t0 = some z → W p l e (zg_rm 1) s m args below meth c H locs 0 0 Q (F0 m 20 ls [.int t0]) := by
      intro u v2 t0 H locs ls w hl hf
      unfold fM9_parse_j20 at hf
      refine lv_istore_n (lv' := [(3, .int t0), (0, .ref (q 0)), (1, .int v1), (2, .int v2)]) hx hb dX9_parse_20 rfl hl (by decide) rfl (fun ls hl => ?_)
      refine lv_iload_n hx hb dX9_parse_21 rfl (lv_at hl 0 rfl) ?_
      refine lv_iconst (v := (-1)) hx hb dX9_parse_22 (by decide) ?_
      refine lv_icmp_ne (tgt := 31) hx hb dX9_parse_23 (by decide) (fun h => ?_) (fun h => ?_)
      · replace hf := zf_f h hf
        refine lv_iload_n hx hb dX9_parse_31 rfl (lv_at hl 3 rfl) ?_
        refine lv_iconst (v := 1) hx hb dX9_parse_32 (by decide) ?_
        refine lv_iadd hx hb dX9_parse_33 ?_
        refine lv_istore_n (lv' := [(2, .int (v2 + 1)), (3, .int t0), (0, .ref (q 0)), (1, .int v1)]) hx hb dX9_parse_34 rfl hl (by decide) rfl (fun ls hl => ?_)
        refine lv_aload_n hx hb dX9_parse_35 rfl (lv_at hl 2 rfl) ?_
        refine lv_iload_n hx hb dX9_parse_36 rfl (lv_at hl 0 rfl) ?_
        refine lv_iload_n hx hb dX9_parse_37 rfl (lv_at hl 3 rfl) ?_
        obtain ⟨r1, hc, hf⟩ := zf_bp_ex hf
        refine zc_ri wM_ad w (zc_V C w (kM9_isDigit l D q cs _ _ _ _ hc _) cf_9_isDigit ci_9_isDigit lm_9_115 rcM_0 ⟨Nat.le_of_ble_eq_true rfl, Nat.le_of_ble_eq_true rfl⟩ hl.1 rfl (Nat.le_of_ble_eq_true rfl) dX9_parse_38 ⟨Nat.le_refl _, Nat.le_refl _⟩) (fun H locs w => ?_)
        refine lv_if_ne (tgt := 50) hx hb dX9_parse_41 (by decide) (fun h => ?_) (fun h => ?_)
        · replace hf := zf_f h hf
          refine lv_iconst (v := 0) hx hb dX9_parse_50 (by decide) ?_
          refine lv_istore (lv' := [(4, .int 0), (2, .int (v2 + 1)), (3, .int t0), (0, .ref (q 0)), (1, .int v1)]) hx hb dX9_parse_51 hl (by decide) rfl (fun ls hl => ?_)
          refine lv_iconst (v := 0) hx hb dX9_parse_53 (by decide) ?_
          refine lv_istore (lv' := [(5, .int 0), (4, .int 0), (2, .int (v2 + 1)), (3, .int t0), (0, .ref (q 0)), (1, .int v1)]) hx hb dX9_parse_54 hl (by decide) rfl (fun ls hl => ?_)
          have lp56 : ∀ (u : zs_T) (v3 : Int32) (n : Nat) (x : Int32 × Int32 × Int32), zf_loop (fun ag x => fM9_parse_b56 N (fun u v2 => ag2 (u, v2)) u v1 v3 (fun v2 v4 v5 => ag (v2, v4, v5)) x.1 x.2.1 x.2.2) n x = some z → ∀ (H : Heap) (locs : List Loc) (ls : Array Slot), zg_W D cs A s (wM q cs u) H locs → lv_has ls 6 [(0, .ref (q 0)), (1, .int v1), (2, .int x.1), (3, .int v3), (4, .int x.2.1), (5, .int x.2.2)] → W p l e (zg_rm 1) s m args below meth c H locs 0 0 Q (F0 m 56 ls []) := by
            intro u v3
            refine zf_loop_W (fun x : Int32 × Int32 × Int32 => ∀ (H : Heap) (locs : List Loc) (ls : Array Slot), zg_W D cs A s (wM q cs u) H locs → lv_has ls 6 [(0, .ref (q 0)), (1, .int v1), (2, .int x.1), (3, .int v3), (4, .int x.2.1), (5, .int x.2.2)] → W p l e (zg_rm 1) s m args below meth c H locs 0 0 Q (F0 m 56 ls [])) ?_
            intro ag56 x hag56 hf
            obtain ⟨v2, v4, v5⟩ := x
            intro H locs ls w hl
            replace hf : fM9_parse_b56 N (fun u v2 => ag2 (u, v2)) u v1 v3 (fun v2 v4 v5 => ag56 (v2, v4, v5)) v2 v4 v5 = some z := hf
            replace hl : lv_has ls 6 [(0, .ref (q 0)), (1, .int v1), (2, .int v2), (3, .int v3), (4, .int v4), (5, .int v5)] := hl
            replace w : zg_W D cs A s (wM q cs u) H locs := w
            unfold fM9_parse_b56 at hf
            refine lv_aload_n hx hb dX9_parse_56 rfl (lv_at hl 0 rfl) ?_
            refine lv_iload_n hx hb dX9_parse_57 rfl (lv_at hl 2 rfl) ?_
            refine lv_iload_n hx hb dX9_parse_58 rfl (lv_at hl 1 rfl) ?_
            obtain ⟨r3, hc, hf⟩ := zf_bp_ex hf
            refine zc_ri wM_ad w (zc_V C w (kM9_isDigit l D q cs _ _ _ _ hc _) cf_9_isDigit ci_9_isDigit lm_9_115 rcM_0 ⟨Nat.le_of_ble_eq_true rfl, Nat.le_of_ble_eq_true rfl⟩ hl.1 rfl (Nat.le_of_ble_eq_true rfl) dX9_parse_59 ⟨Nat.le_refl _, Nat.le_refl _⟩) (fun H locs w => ?_)
            refine lv_if_eq (tgt := 107) hx hb dX9_parse_62 (by decide) (fun h => ?_) (fun h => ?_)
            · replace hf := zf_t h hf
              exact hj107 _ _ _ _ H locs ls w (lv_sub hl [0, 1, 2, 3, 4] rfl) hf
            · replace hf := zf_f h hf
              refine lv_iload hx hb dX9_parse_65 (lv_at hl 5 rfl) ?_
              refine lv_iconst (v := 4) hx hb dX9_parse_67 (by decide) ?_
              refine lv_icmp_ne (tgt := 77) hx hb dX9_parse_68 (by decide) (fun h => ?_) (fun h => ?_)
              · replace hf := zf_f h hf
                refine lv_bipush (v := 10) hx hb dX9_parse_77 (by decide) ?_
                refine lv_iload hx hb dX9_parse_79 (lv_at hl 4 rfl) ?_
                refine lv_imul hx hb dX9_parse_81 ?_
                refine lv_aload_n hx hb dX9_parse_82 rfl (lv_at hl 0 rfl) ?_
                refine mg_0_0 C w lf_9_7 dX9_parse_83 ?_
                refine lv_iload_n hx hb dX9_parse_86 rfl (lv_at hl 2 rfl) ?_
                obtain ⟨hi, hf⟩ := zf_gd hf
                refine ma_1 C w hi dX9_parse_87 ?_
                refine lv_iadd hx hb dX9_parse_88 ?_
                refine lv_bipush (v := 48) hx hb dX9_parse_89 (by decide) ?_
                refine lv_isub hx hb dX9_parse_91 ?_
                refine lv_istore (lv' := [(4, .int (((10 * v4) + (zs_a u 0 v2.toNatClampNeg)) - 48)), (0, .ref (q 0)), (1, .int v1), (2, .int v2), (3, .int v3), (5, .int v5)]) hx hb dX9_parse_92 hl (by decide) rfl (fun ls hl => ?_)
                refine lv_iload hx hb dX9_parse_94 (lv_at hl 5 rfl) ?_
                refine lv_iconst (v := 1) hx hb dX9_parse_96 (by decide) ?_
                refine lv_iadd hx hb dX9_parse_97 ?_
                refine lv_istore (lv' := [(5, .int (v5 + 1)), (4, .int (((10 * v4) + (zs_a u 0 v2.toNatClampNeg)) - 48)), (0, .ref (q 0)), (1, .int v1), (2, .int v2), (3, .int v3)]) hx hb dX9_parse_98 hl (by decide) rfl (fun ls hl => ?_)
                refine lv_iload_n hx hb dX9_parse_100 rfl (lv_at hl 4 rfl) ?_
                refine lv_iconst (v := 1) hx hb dX9_parse_101 (by decide) ?_
                refine lv_iadd hx hb dX9_parse_102 ?_
                refine lv_istore_n (lv' := [(2, .int (v2 + 1)), (5, .int (v5 + 1)), (4, .int (((10 * v4) + (zs_a u 0 v2.toNatClampNeg)) - 48)), (0, .ref (q 0)), (1, .int v1), (3, .int v3)]) hx hb dX9_parse_103 rfl hl (by decide) rfl (fun ls hl => ?_)
                refine lv_goto (tgt := 56) hx hb dX9_parse_104 (by decide) ?_
                exact hag56 (v2 + 1, ((10 * v4) + (zs_a u 0 v2.toNatClampNeg)) - 48, v5 + 1) hf H locs ls w (lv_sub hl [3, 4, 0, 5, 2, 1] rfl)
              · replace hf := zf_t h hf
                refine lv_sipush (v := 300) hx hb dX9_parse_71 (by decide) ?_
                refine lv_iload_n hx hb dX9_parse_74 rfl (lv_at hl 2 rfl) ?_
                refine lv_iadd hx hb dX9_parse_75 ?_
                exact hret _ _ _ _ _ _ hf w dX9_parse_76
          exact lp56 _ _ _ _ hf H locs ls w (lv_sub hl [4, 5, 2, 3, 1, 0] rfl)
        · replace hf := zf_t h hf
          refine lv_sipush (v := 200) hx hb dX9_parse_44 (by decide) ?_
          refine lv_iload_n hx hb dX9_parse_47 rfl (lv_at hl 0 rfl) ?_
          refine lv_iadd hx hb dX9_parse_48 ?_
          exact hret _ _ _ _ _ _ hf w dX9_parse_49
      · replace hf := zf_t h hf
        refine lv_bipush (v := 100) hx hb dX9_parse_26 (by decide) ?_
        refine lv_iload_n hx hb dX9_parse_28 rfl (lv_at hl 3 rfl) ?_
        refine lv_iadd hx hb dX9_parse_29 ?_
        exact hret _ _ _ _ _ _ hf w dX9_parse_30
    unfold fM9_parse_b2 at hf
    refine lv_iload_n hx hb dX9_parse_2 rfl (lv_at hl 2 rfl) ?_
    refine lv_iload_n hx hb dX9_parse_3 rfl (lv_at hl 1 rfl) ?_
    refine lv_icmp_ge (tgt := 19) hx hb dX9_parse_4 (by decide) (fun h => ?_) (fun h => ?_)
    · replace hf := zf_t h hf
      refine lv_iconst (v := (-1)) hx hb dX9_parse_19 (by decide) ?_
      exact hj20 _ _ _ H locs ls w (lv_sub hl [0, 1, 2] rfl) hf
    · replace hf := zf_f h hf
      refine lv_aload_n hx hb dX9_parse_7 rfl (lv_at hl 0 rfl) ?_
      refine mg_0_0 C w lf_9_7 dX9_parse_8 ?_
      refine lv_iload_n hx hb dX9_parse_11 rfl (lv_at hl 2 rfl) ?_
      obtain ⟨hi, hf⟩ := zf_gd hf
      refine ma_1 C w hi dX9_parse_12 ?_
      obtain ⟨r5, hc, hf⟩ := zf_bp_ex hf
      refine zc_ri wM_ad w (zc_S C w (kM9_letterOf l D q cs _ _ _ hc _) cf_9_letterOf ci_9_letterOf lm_9_111 ⟨Nat.le_of_ble_eq_true rfl, Nat.le_of_ble_eq_true rfl⟩ hl.1 rfl (Nat.le_of_ble_eq_true rfl) dX9_parse_13 ⟨Nat.le_refl _, Nat.le_refl _⟩) (fun H locs w => ?_)
      refine lv_goto (tgt := 20) hx hb dX9_parse_16 (by decide) ?_
      exact hj20 _ _ _ H locs ls w (lv_sub hl [0, 1, 2] rfl) hf
  exact lp2 _ _ _ hf H locs ls w (lv_sub hl [1, 2, 0] rfl)
def fM9_rules (N : Nat) (u : zs_T) (v1 : Int32) : Option (Int32 × zs_T) :=
  (if v1 < 0 then some ((-1), u) else (if v1 ≤ zs_i u 0 then (zf_bi (fM9_parse N (zs_sa (zs_sa (zs_sa (zs_sa u 1 (upd (zs_a u 1) (0 : Int32).toNatClampNeg 5)) 1 (upd (zs_a (zs_sa u 1 (upd (zs_a u 1) (0 : Int32).toNatClampNeg 5)) 1) (1 : Int32).toNatClampNeg 500)) 1 (upd (zs_a (zs_sa (zs_sa u 1 (upd (zs_a u 1) (0 : Int32).toNatClampNeg 5)) 1 (upd (zs_a (zs_sa u 1 (upd (zs_a u 1) (0 : Int32).toNatClampNeg 5)) 1) (1 : Int32).toNatClampNeg 500)) 1) (2 : Int32).toNatClampNeg 40)) 1 (upd (zs_a (zs_sa (zs_sa (zs_sa u 1 (upd (zs_a u 1) (0 : Int32).toNatClampNeg 5)) 1 (upd (zs_a (zs_sa u 1 (upd (zs_a u 1) (0 : Int32).toNatClampNeg 5)) 1) (1 : Int32).toNatClampNeg 500)) 1 (upd (zs_a (zs_sa (zs_sa u 1 (upd (zs_a u 1) (0 : Int32).toNatClampNeg 5)) 1 (upd (zs_a (zs_sa u 1 (upd (zs_a u 1) (0 : Int32).toNatClampNeg 5)) 1) (1 : Int32).toNatClampNeg 500)) 1) (2 : Int32).toNatClampNeg 40)) 1) (3 : Int32).toNatClampNeg 90)) v1) fun r1 u2 => (if zs_i (zs_si (zs_si u2 1 r1) 0 0) 1 = 0 then some (0, zs_si (zs_si (zs_si (zs_si (zs_si (zs_si u2 1 r1) 0 0) 2 (zs_a (zs_si (zs_si u2 1 r1) 0 0) 1 (0 : Int32).toNatClampNeg)) 3 (zs_a (zs_si (zs_si (zs_si u2 1 r1) 0 0) 2 (zs_a (zs_si (zs_si u2 1 r1) 0 0) 1 (0 : Int32).toNatClampNeg)) 1 (1 : Int32).toNatClampNeg)) 4 (zs_a (zs_si (zs_si (zs_si (zs_si u2 1 r1) 0 0) 2 (zs_a (zs_si (zs_si u2 1 r1) 0 0) 1 (0 : Int32).toNatClampNeg)) 3 (zs_a (zs_si (zs_si (zs_si u2 1 r1) 0 0) 2 (zs_a (zs_si (zs_si u2 1 r1) 0 0) 1 (0 : Int32).toNatClampNeg)) 1 (1 : Int32).toNatClampNeg)) 1 (2 : Int32).toNatClampNeg)) 5 (zs_a (zs_si (zs_si (zs_si (zs_si (zs_si u2 1 r1) 0 0) 2 (zs_a (zs_si (zs_si u2 1 r1) 0 0) 1 (0 : Int32).toNatClampNeg)) 3 (zs_a (zs_si (zs_si (zs_si u2 1 r1) 0 0) 2 (zs_a (zs_si (zs_si u2 1 r1) 0 0) 1 (0 : Int32).toNatClampNeg)) 1 (1 : Int32).toNatClampNeg)) 4 (zs_a (zs_si (zs_si (zs_si (zs_si u2 1 r1) 0 0) 2 (zs_a (zs_si (zs_si u2 1 r1) 0 0) 1 (0 : Int32).toNatClampNeg)) 3 (zs_a (zs_si (zs_si (zs_si u2 1 r1) 0 0) 2 (zs_a (zs_si (zs_si u2 1 r1) 0 0) 1 (0 : Int32).toNatClampNeg)) 1 (1 : Int32).toNatClampNeg)) 1 (2 : Int32).toNatClampNeg)) 1 (3 : Int32).toNatClampNeg)) else some (zs_i (zs_si (zs_si u2 1 r1) 0 0) 1, zs_si (zs_si u2 1 r1) 0 0))) else some ((-1), u)))
set_option maxHeartbeats 4000000 in
set_option maxRecDepth 100000 in
theorem kM9_rules (l : Launch) (D : va_G) (q : Nat → Nat) (cs : Nat → ClassId) (N : Nat) (u : zs_T) (v1 : Int32) (z : (Int32 × zs_T)) (hf : fM9_rules N u v1 = some z) : zg_Ci l yX9_rules cX9_rules 2 (some .int) 2 D cs (wM q cs) u [.ref (q 0), .int v1] z.1 z.2 := by
  refine zg_Ci_of (own := RX9) (by decide) rfl wM_ad (Nat.le_of_ble_eq_true rfl) ?_
  intro p e s m args below meth c A Q C hret w ls hl
  obtain ⟨hx, hb, -⟩ := id C
  have hl : lv_has ls 2 [(0, .ref (q 0)), (1, .int v1)] := hl
  generalize hH : s.heap = H at w ⊢
  generalize hLc : ([] : List Loc) = locs at w ⊢
  unfold fM9_rules at hf
  refine lv_iload_n hx hb dX9_rules_0 rfl (lv_at hl 1 rfl) ?_
  refine lv_if_lt (tgt := 12) hx hb dX9_rules_1 (by decide) (fun h => ?_) (fun h => ?_)
  · replace hf := zf_t h hf
    refine lv_iconst (v := (-1)) hx hb dX9_rules_12 (by decide) ?_
    exact hret _ _ _ _ _ _ hf w dX9_rules_13
  · replace hf := zf_f h hf
    refine lv_iload_n hx hb dX9_rules_4 rfl (lv_at hl 1 rfl) ?_
    refine lv_aload_n hx hb dX9_rules_5 rfl (lv_at hl 0 rfl) ?_
    refine mg_0_1 C w lf_9_104 dX9_rules_6 ?_
    refine lv_icmp_le (tgt := 14) hx hb dX9_rules_9 (by decide) (fun h => ?_) (fun h => ?_)
    · replace hf := zf_t h hf
      refine lv_aload_n hx hb dX9_rules_14 rfl (lv_at hl 0 rfl) ?_
      refine mg_0_7 C w lf_9_26 dX9_rules_15 ?_
      refine lv_iconst (v := 0) hx hb dX9_rules_18 (by decide) ?_
      refine lv_iconst (v := 5) hx hb dX9_rules_19 (by decide) ?_
      refine ms_2 C w (by decide) dX9_rules_20 (fun H locs w => ?_)
      refine lv_aload_n hx hb dX9_rules_21 rfl (lv_at hl 0 rfl) ?_
      refine mg_0_7 C w lf_9_26 dX9_rules_22 ?_
      refine lv_iconst (v := 1) hx hb dX9_rules_25 (by decide) ?_
      refine lv_sipush (v := 500) hx hb dX9_rules_26 (by decide) ?_
      refine ms_2 C w (by decide) dX9_rules_29 (fun H locs w => ?_)
      refine lv_aload_n hx hb dX9_rules_30 rfl (lv_at hl 0 rfl) ?_
      refine mg_0_7 C w lf_9_26 dX9_rules_31 ?_
      refine lv_iconst (v := 2) hx hb dX9_rules_34 (by decide) ?_
      refine lv_bipush (v := 40) hx hb dX9_rules_35 (by decide) ?_
      refine ms_2 C w (by decide) dX9_rules_37 (fun H locs w => ?_)
      refine lv_aload_n hx hb dX9_rules_38 rfl (lv_at hl 0 rfl) ?_
      refine mg_0_7 C w lf_9_26 dX9_rules_39 ?_
      refine lv_iconst (v := 3) hx hb dX9_rules_42 (by decide) ?_
      refine lv_bipush (v := 90) hx hb dX9_rules_43 (by decide) ?_
      refine ms_2 C w (by decide) dX9_rules_45 (fun H locs w => ?_)
      refine lv_aload_n hx hb dX9_rules_46 rfl (lv_at hl 0 rfl) ?_
      refine lv_aload_n hx hb dX9_rules_47 rfl (lv_at hl 0 rfl) ?_
      refine lv_iload_n hx hb dX9_rules_48 rfl (lv_at hl 1 rfl) ?_
      obtain ⟨r1, u2, hc, hf⟩ := zf_bi_ex hf
      refine zc_ri wM_ad w (zc_V C w (kM9_parse l D q cs N _ _ _ hc _) cf_9_parse ci_9_parse lm_9_119 rcM_0 ⟨Nat.le_of_ble_eq_true rfl, Nat.le_of_ble_eq_true rfl⟩ hl.1 rfl (Nat.le_of_ble_eq_true rfl) dX9_rules_49 ⟨Nat.le_refl _, Nat.le_refl _⟩) (fun H locs w => ?_)
      refine mp_0_2 C w lf_9_122 dX9_rules_52 (fun H locs w => ?_)
      refine lv_aload_n hx hb dX9_rules_55 rfl (lv_at hl 0 rfl) ?_
      refine lv_iconst (v := 0) hx hb dX9_rules_56 (by decide) ?_
      refine mp_0_1 C w lf_9_104 dX9_rules_57 (fun H locs w => ?_)
      refine lv_aload_n hx hb dX9_rules_60 rfl (lv_at hl 0 rfl) ?_
      refine mg_0_2 C w lf_9_122 dX9_rules_61 ?_
      refine lv_if_eq (tgt := 72) hx hb dX9_rules_64 (by decide) (fun h => ?_) (fun h => ?_)
      · replace hf := zf_t h hf
        refine lv_aload_n hx hb dX9_rules_72 rfl (lv_at hl 0 rfl) ?_
        refine lv_aload_n hx hb dX9_rules_73 rfl (lv_at hl 0 rfl) ?_
        refine mg_0_7 C w lf_9_26 dX9_rules_74 ?_
        refine lv_iconst (v := 0) hx hb dX9_rules_77 (by decide) ?_
        refine ma_2 C w (by decide) dX9_rules_78 ?_
        refine mp_0_3 C w lf_9_13 dX9_rules_79 (fun H locs w => ?_)
        refine lv_aload_n hx hb dX9_rules_82 rfl (lv_at hl 0 rfl) ?_
        refine lv_aload_n hx hb dX9_rules_83 rfl (lv_at hl 0 rfl) ?_
        refine mg_0_7 C w lf_9_26 dX9_rules_84 ?_
        refine lv_iconst (v := 1) hx hb dX9_rules_87 (by decide) ?_
        refine ma_2 C w (by decide) dX9_rules_88 ?_
        refine mp_0_4 C w lf_9_17 dX9_rules_89 (fun H locs w => ?_)
        refine lv_aload_n hx hb dX9_rules_92 rfl (lv_at hl 0 rfl) ?_
        refine lv_aload_n hx hb dX9_rules_93 rfl (lv_at hl 0 rfl) ?_
        refine mg_0_7 C w lf_9_26 dX9_rules_94 ?_
        refine lv_iconst (v := 2) hx hb dX9_rules_97 (by decide) ?_
        refine ma_2 C w (by decide) dX9_rules_98 ?_
        refine mp_0_5 C w lf_9_20 dX9_rules_99 (fun H locs w => ?_)
        refine lv_aload_n hx hb dX9_rules_102 rfl (lv_at hl 0 rfl) ?_
        refine lv_aload_n hx hb dX9_rules_103 rfl (lv_at hl 0 rfl) ?_
        refine mg_0_7 C w lf_9_26 dX9_rules_104 ?_
        refine lv_iconst (v := 3) hx hb dX9_rules_107 (by decide) ?_
        refine ma_2 C w (by decide) dX9_rules_108 ?_
        refine mp_0_6 C w lf_9_23 dX9_rules_109 (fun H locs w => ?_)
        refine lv_iconst (v := 0) hx hb dX9_rules_112 (by decide) ?_
        exact hret _ _ _ _ _ _ hf w dX9_rules_113
      · replace hf := zf_f h hf
        refine lv_aload_n hx hb dX9_rules_67 rfl (lv_at hl 0 rfl) ?_
        refine mg_0_2 C w lf_9_122 dX9_rules_68 ?_
        exact hret _ _ _ _ _ _ hf w dX9_rules_71
    · replace hf := zf_f h hf
      refine lv_iconst (v := (-1)) hx hb dX9_rules_12 (by decide) ?_
      exact hret _ _ _ _ _ _ hf w dX9_rules_13
