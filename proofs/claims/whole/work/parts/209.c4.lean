def fX4_has (u : zs_T) (v1 : Int32) : Option Int32 :=
  (zf_bp (fX8_within v1 0 ((zs_i u 12) - 1)) fun r1 => (if zf_z r1 then some r1 else none))
set_option maxHeartbeats 4000000 in
set_option maxRecDepth 100000 in
theorem kX4_has (l : Launch) (D : va_G) (q : Nat → Nat) (cs : Nat → ClassId) (u : zs_T) (v1 : Int32) (z : Int32) (hf : fX4_has u v1 = some z) : zg_Ci l yX4_has cX4_has 2 (some .boolean) 1 D cs (wX q cs) u [.ref (q 5), .int v1] z u := by
  refine zg_Cz_of (own := RX4) (by decide) rfl wX_ad (Nat.le_of_ble_eq_true rfl) ?_
  intro p e s m args below meth c A Q C hret w ls hl
  obtain ⟨hx, hb, -⟩ := id C
  have hl : lv_has ls 2 [(0, .ref (q 5)), (1, .int v1)] := hl
  generalize hH : s.heap = H at w ⊢
  generalize hLc : ([] : List Loc) = locs at w ⊢
  unfold fX4_has at hf
  refine lv_iload_n hx hb dX4_has_0 rfl (lv_at hl 1 rfl) ?_
  refine lv_iconst (v := 0) hx hb dX4_has_1 (by decide) ?_
  refine lv_aload_n hx hb dX4_has_2 rfl (lv_at hl 0 rfl) ?_
  refine xg_5_2 C w lf_4_19 dX4_has_3 ?_
  refine lv_iconst (v := 1) hx hb dX4_has_6 (by decide) ?_
  refine lv_isub hx hb dX4_has_7 ?_
  obtain ⟨r1, hc, hf⟩ := zf_bp_ex hf
  refine zc_ri wX_ad w (zc_SN C w (kX8_within l D q cs _ _ _ _ _ hc _) cf_8_within ci_8_within lm_4_41 ⟨Nat.le_of_ble_eq_true rfl, Nat.le_of_ble_eq_true rfl⟩ hl.1 rfl (Nat.le_of_ble_eq_true rfl) dX4_has_8 ⟨Nat.le_refl _, Nat.le_refl _⟩) (fun H locs w => ?_)
  obtain ⟨hz, hf⟩ := zf_gd hf
  exact hret _ _ _ _ _ _ hz (zf_pr hf) w dX4_has_11
def fX4_isKnowing (u : zs_T) (v1 : Int32) : Option Int32 :=
  (zf_bp (fX8_within v1 0 (zs_i u 13)) fun r1 => (if zf_z r1 then some r1 else none))
set_option maxHeartbeats 4000000 in
set_option maxRecDepth 100000 in
theorem kX4_isKnowing (l : Launch) (D : va_G) (q : Nat → Nat) (cs : Nat → ClassId) (u : zs_T) (v1 : Int32) (z : Int32) (hf : fX4_isKnowing u v1 = some z) : zg_Ci l yX4_isKnowing cX4_isKnowing 2 (some .boolean) 1 D cs (wX q cs) u [.ref (q 5), .int v1] z u := by
  refine zg_Cz_of (own := RX4) (by decide) rfl wX_ad (Nat.le_of_ble_eq_true rfl) ?_
  intro p e s m args below meth c A Q C hret w ls hl
  obtain ⟨hx, hb, -⟩ := id C
  have hl : lv_has ls 2 [(0, .ref (q 5)), (1, .int v1)] := hl
  generalize hH : s.heap = H at w ⊢
  generalize hLc : ([] : List Loc) = locs at w ⊢
  unfold fX4_isKnowing at hf
  refine lv_iload_n hx hb dX4_isKnowing_0 rfl (lv_at hl 1 rfl) ?_
  refine lv_iconst (v := 0) hx hb dX4_isKnowing_1 (by decide) ?_
  refine lv_aload_n hx hb dX4_isKnowing_2 rfl (lv_at hl 0 rfl) ?_
  refine xg_5_8 C w lf_4_38 dX4_isKnowing_3 ?_
  obtain ⟨r1, hc, hf⟩ := zf_bp_ex hf
  refine zc_ri wX_ad w (zc_SN C w (kX8_within l D q cs _ _ _ _ _ hc _) cf_8_within ci_8_within lm_4_41 ⟨Nat.le_of_ble_eq_true rfl, Nat.le_of_ble_eq_true rfl⟩ hl.1 rfl (Nat.le_of_ble_eq_true rfl) dX4_isKnowing_6 ⟨Nat.le_refl _, Nat.le_refl _⟩) (fun H locs w => ?_)
  obtain ⟨hz, hf⟩ := zf_gd hf
  exact hret _ _ _ _ _ _ hz (zf_pr hf) w dX4_isKnowing_9
def fX4_add (u : zs_T) (v1 : Int32) : Option (Int32 × zs_T) :=
  (if zf_in (zs_i u 12) 80 then some ((zs_i (zs_si (zs_sa u 11 (upd (zs_a u 11) (zs_i u 12).toNatClampNeg v1)) 12 ((zs_i (zs_sa u 11 (upd (zs_a u 11) (zs_i u 12).toNatClampNeg v1)) 12) + 1)) 12) - 1, zs_si (zs_sa u 11 (upd (zs_a u 11) (zs_i u 12).toNatClampNeg v1)) 12 ((zs_i (zs_sa u 11 (upd (zs_a u 11) (zs_i u 12).toNatClampNeg v1)) 12) + 1)) else none)
set_option maxHeartbeats 4000000 in
set_option maxRecDepth 100000 in
theorem kX4_add (l : Launch) (D : va_G) (q : Nat → Nat) (cs : Nat → ClassId) (u : zs_T) (v1 : Int32) (z : (Int32 × zs_T)) (hf : fX4_add u v1 = some z) : zg_Ci l yX4_add cX4_add 2 (some .int) 0 D cs (wX q cs) u [.ref (q 5), .int v1] z.1 z.2 := by
  refine zg_Ci_of (own := RX4) (by decide) rfl wX_ad (Nat.le_of_ble_eq_true rfl) ?_
  intro p e s m args below meth c A Q C hret w ls hl
  obtain ⟨hx, hb, -⟩ := id C
  have hl : lv_has ls 2 [(0, .ref (q 5)), (1, .int v1)] := hl
  generalize hH : s.heap = H at w ⊢
  generalize hLc : ([] : List Loc) = locs at w ⊢
  unfold fX4_add at hf
  refine lv_aload_n hx hb dX4_add_0 rfl (lv_at hl 0 rfl) ?_
  refine xg_5_0 C w lf_4_9 dX4_add_1 ?_
  refine lv_aload_n hx hb dX4_add_4 rfl (lv_at hl 0 rfl) ?_
  refine xg_5_2 C w lf_4_19 dX4_add_5 ?_
  refine lv_iload_n hx hb dX4_add_8 rfl (lv_at hl 1 rfl) ?_
  obtain ⟨hi, hf⟩ := zf_gd hf
  refine xs_20 C w hi dX4_add_9 (fun H locs w => ?_)
  refine lv_aload_n hx hb dX4_add_10 rfl (lv_at hl 0 rfl) ?_
  refine lv_dup hx hb dX4_add_11 rfl ?_
  refine xg_5_2 C w lf_4_19 dX4_add_12 ?_
  refine lv_iconst (v := 1) hx hb dX4_add_15 (by decide) ?_
  refine lv_iadd hx hb dX4_add_16 ?_
  refine xp_5_2 C w lf_4_19 dX4_add_17 (fun H locs w => ?_)
  refine lv_aload_n hx hb dX4_add_20 rfl (lv_at hl 0 rfl) ?_
  refine xg_5_2 C w lf_4_19 dX4_add_21 ?_
  refine lv_iconst (v := 1) hx hb dX4_add_24 (by decide) ?_
  refine lv_isub hx hb dX4_add_25 ?_
  exact hret _ _ _ _ _ _ hf w dX4_add_26
def fX4_putInOrder_j51 (N : Nat) (u : zs_T) (v1 : Int32) (v2 : Int32) : Option (Int32 × zs_T) :=
  (if zf_in v2 100 then some (v2, zs_sa u 17 (upd (zs_a u 17) v2.toNatClampNeg v1)) else none)
def fX4_putInOrder_b5 (N : Nat) (v1 : Int32) (ag5 : zs_T → Int32 → Option (Int32 × zs_T)) (u : zs_T) (v2 : Int32) : Option (Int32 × zs_T) :=
  (if v2 ≤ 0 then fX4_putInOrder_j51 N u v1 v2 else (if zf_in (v2 - 1) 100 then (if zf_in (zs_a u 17 (v2 - 1).toNatClampNeg) 100 then (if zf_in v1 100 then (if zs_a u 15 (zs_a u 17 (v2 - 1).toNatClampNeg).toNatClampNeg ≤ zs_a u 15 v1.toNatClampNeg then fX4_putInOrder_j51 N u v1 v2 else (if zf_in (v2 - 1) 100 then (if zf_in v2 100 then ag5 (zs_sa u 17 (upd (zs_a u 17) v2.toNatClampNeg (zs_a u 17 (v2 - 1).toNatClampNeg))) (v2 + (-1)) else none) else none)) else none) else none) else none))
def fX4_putInOrder (N : Nat) (u : zs_T) (v1 : Int32) : Option (Int32 × zs_T) :=
  zf_loop (fun ag x => fX4_putInOrder_b5 N v1 (fun u v2 => ag (u, v2)) x.1 x.2) N (u, zs_i u 13)
set_option maxHeartbeats 4000000 in
set_option maxRecDepth 100000 in
theorem kX4_putInOrder (l : Launch) (D : va_G) (q : Nat → Nat) (cs : Nat → ClassId) (N : Nat) (u : zs_T) (v1 : Int32) (z : (Int32 × zs_T)) (hf : fX4_putInOrder N u v1 = some z) : zg_Ci l yX4_putInOrder cX4_putInOrder 3 (some .int) 0 D cs (wX q cs) u [.ref (q 5), .int v1] z.1 z.2 := by
  refine zg_Ci_of (own := RX4) (by decide) rfl wX_ad (Nat.le_of_ble_eq_true rfl) ?_
  intro p e s m args below meth c A Q C hret w ls hl
  obtain ⟨hx, hb, -⟩ := id C
  have hl : lv_has ls 3 [(0, .ref (q 5)), (1, .int v1)] := hl
  generalize hH : s.heap = H at w ⊢
  generalize hLc : ([] : List Loc) = locs at w ⊢
  have hj51 : ∀ (u : zs_T) (v1 : Int32) (v2 : Int32) (H : Heap) (locs : List Loc) (ls : Array Slot), zg_W D cs A s (wX q cs u) H locs → lv_has ls 3 [(0, .ref (q 5)), (1, .int v1), (2, .int v2)] → fX4_putInOrder_j51 N u v1 v2 = some z → W p l e (zg_rm 0) s m args below meth c H locs 0 0 Q (F0 m 51 ls []) := by
    intro u v1 v2 H locs ls w hl hf
    unfold fX4_putInOrder_j51 at hf
    refine lv_aload_n hx hb dX4_putInOrder_51 rfl (lv_at hl 0 rfl) ?_
    refine xg_5_7 C w lf_4_35 dX4_putInOrder_52 ?_
    refine lv_iload_n hx hb dX4_putInOrder_55 rfl (lv_at hl 2 rfl) ?_
    refine lv_iload_n hx hb dX4_putInOrder_56 rfl (lv_at hl 1 rfl) ?_
    obtain ⟨hi, hf⟩ := zf_gd hf
    refine xs_26 C w hi dX4_putInOrder_57 (fun H locs w => ?_)
    refine lv_iload_n hx hb dX4_putInOrder_58 rfl (lv_at hl 2 rfl) ?_
    exact hret _ _ _ _ _ _ hf w dX4_putInOrder_59
  unfold fX4_putInOrder at hf
  refine lv_aload_n hx hb dX4_putInOrder_0 rfl (lv_at hl 0 rfl) ?_
  refine xg_5_8 C w lf_4_38 dX4_putInOrder_1 ?_
  refine lv_istore_n (lv' := [(2, .int (zs_i u 13)), (0, .ref (q 5)), (1, .int v1)]) hx hb dX4_putInOrder_4 rfl hl (by decide) rfl (fun ls hl => ?_)
  have lp5 : ∀ (v1 : Int32) (n : Nat) (x : zs_T × Int32), zf_loop (fun ag x => fX4_putInOrder_b5 N v1 (fun u v2 => ag (u, v2)) x.1 x.2) n x = some z → ∀ (H : Heap) (locs : List Loc) (ls : Array Slot), zg_W D cs A s (wX q cs x.1) H locs → lv_has ls 3 [(0, .ref (q 5)), (1, .int v1), (2, .int x.2)] → W p l e (zg_rm 0) s m args below meth c H locs 0 0 Q (F0 m 5 ls []) := by
    intro v1
    refine zf_loop_W (fun x : zs_T × Int32 => ∀ (H : Heap) (locs : List Loc) (ls : Array Slot), zg_W D cs A s (wX q cs x.1) H locs → lv_has ls 3 [(0, .ref (q 5)), (1, .int v1), (2, .int x.2)] → W p l e (zg_rm 0) s m args below meth c H locs 0 0 Q (F0 m 5 ls [])) ?_
    intro ag5 x hag5 hf
    obtain ⟨u, v2⟩ := x
    intro H locs ls w hl
    replace hf : fX4_putInOrder_b5 N v1 (fun u v2 => ag5 (u, v2)) u v2 = some z := hf
    replace hl : lv_has ls 3 [(0, .ref (q 5)), (1, .int v1), (2, .int v2)] := hl
    replace w : zg_W D cs A s (wX q cs u) H locs := w
    unfold fX4_putInOrder_b5 at hf
    refine lv_iload_n hx hb dX4_putInOrder_5 rfl (lv_at hl 2 rfl) ?_
    refine lv_if_le (tgt := 51) hx hb dX4_putInOrder_6 (by decide) (fun h => ?_) (fun h => ?_)
    · replace hf := zf_t h hf
      exact hj51 _ _ _ H locs ls w (lv_sub hl [0, 1, 2] rfl) hf
    · replace hf := zf_f h hf
      refine lv_aload_n hx hb dX4_putInOrder_9 rfl (lv_at hl 0 rfl) ?_
      refine xg_5_5 C w lf_4_29 dX4_putInOrder_10 ?_
      refine lv_aload_n hx hb dX4_putInOrder_13 rfl (lv_at hl 0 rfl) ?_
      refine xg_5_7 C w lf_4_35 dX4_putInOrder_14 ?_
      refine lv_iload_n hx hb dX4_putInOrder_17 rfl (lv_at hl 2 rfl) ?_
      refine lv_iconst (v := 1) hx hb dX4_putInOrder_18 (by decide) ?_
      refine lv_isub hx hb dX4_putInOrder_19 ?_
      obtain ⟨hi, hf⟩ := zf_gd hf
      refine xa_26 C w hi dX4_putInOrder_20 ?_
      obtain ⟨hi, hf⟩ := zf_gd hf
      refine xa_24 C w hi dX4_putInOrder_21 ?_
      refine lv_aload_n hx hb dX4_putInOrder_22 rfl (lv_at hl 0 rfl) ?_
      refine xg_5_5 C w lf_4_29 dX4_putInOrder_23 ?_
      refine lv_iload_n hx hb dX4_putInOrder_26 rfl (lv_at hl 1 rfl) ?_
      obtain ⟨hi, hf⟩ := zf_gd hf
      refine xa_24 C w hi dX4_putInOrder_27 ?_
      refine lv_icmp_le (tgt := 51) hx hb dX4_putInOrder_28 (by decide) (fun h => ?_) (fun h => ?_)
      · replace hf := zf_t h hf
        exact hj51 _ _ _ H locs ls w (lv_sub hl [0, 1, 2] rfl) hf
      · replace hf := zf_f h hf
        refine lv_aload_n hx hb dX4_putInOrder_31 rfl (lv_at hl 0 rfl) ?_
        refine xg_5_7 C w lf_4_35 dX4_putInOrder_32 ?_
        refine lv_iload_n hx hb dX4_putInOrder_35 rfl (lv_at hl 2 rfl) ?_
        refine lv_aload_n hx hb dX4_putInOrder_36 rfl (lv_at hl 0 rfl) ?_
        refine xg_5_7 C w lf_4_35 dX4_putInOrder_37 ?_
        refine lv_iload_n hx hb dX4_putInOrder_40 rfl (lv_at hl 2 rfl) ?_
        refine lv_iconst (v := 1) hx hb dX4_putInOrder_41 (by decide) ?_
        refine lv_isub hx hb dX4_putInOrder_42 ?_
        obtain ⟨hi, hf⟩ := zf_gd hf
        refine xa_26 C w hi dX4_putInOrder_43 ?_
        obtain ⟨hi, hf⟩ := zf_gd hf
        refine xs_26 C w hi dX4_putInOrder_44 (fun H locs w => ?_)
        refine lv_iinc (v := v2 + (-1)) (lv' := [(2, .int (v2 + (-1))), (0, .ref (q 5)), (1, .int v1)]) hx hb dX4_putInOrder_45 hl (k := 2) rfl rfl (by decide) rfl (fun ls hl => ?_)
        refine lv_goto (tgt := 5) hx hb dX4_putInOrder_48 (by decide) ?_
        exact hag5 (zs_sa u 17 (upd (zs_a u 17) v2.toNatClampNeg (zs_a u 17 (v2 - 1).toNatClampNeg)), v2 + (-1)) hf H locs ls w (lv_sub hl [1, 2, 0] rfl)
  exact lp5 _ _ _ hf H locs ls w (lv_sub hl [1, 2, 0] rfl)
def fX4_takeBack_b12 (N : Nat) (ag12 : zs_T → Int32 → Option zs_T) (u : zs_T) (v2 : Int32) : Option zs_T :=
  (if zs_i u 13 ≤ v2 then some u else (if zf_in (v2 + 1) 100 then (if zf_in v2 100 then ag12 (zs_sa u 17 (upd (zs_a u 17) v2.toNatClampNeg (zs_a u 17 (v2 + 1).toNatClampNeg))) (v2 + 1) else none) else none))
def fX4_takeBack (N : Nat) (u : zs_T) (v1 : Int32) : Option zs_T :=
  zf_loop (fun ag x => fX4_takeBack_b12 N (fun u v2 => ag (u, v2)) x.1 x.2) N (zs_si u 13 ((zs_i u 13) - 1), v1)
set_option maxHeartbeats 4000000 in
set_option maxRecDepth 100000 in
theorem kX4_takeBack (l : Launch) (D : va_G) (q : Nat → Nat) (cs : Nat → ClassId) (N : Nat) (u : zs_T) (v1 : Int32) (z : zs_T) (hf : fX4_takeBack N u v1 = some z) : zg_Cv l yX4_takeBack cX4_takeBack 3 none 0 D cs (wX q cs) u [.ref (q 5), .int v1] z := by
  refine zg_Cv_of (own := RX4) (by decide) rfl wX_ad (Nat.le_of_ble_eq_true rfl) ?_
  intro p e s m args below meth c A Q C hret w ls hl
  obtain ⟨hx, hb, -⟩ := id C
  have hl : lv_has ls 3 [(0, .ref (q 5)), (1, .int v1)] := hl
  generalize hH : s.heap = H at w ⊢
  generalize hLc : ([] : List Loc) = locs at w ⊢
  unfold fX4_takeBack at hf
  refine lv_aload_n hx hb dX4_takeBack_0 rfl (lv_at hl 0 rfl) ?_
  refine lv_dup hx hb dX4_takeBack_1 rfl ?_
  refine xg_5_8 C w lf_4_38 dX4_takeBack_2 ?_
  refine lv_iconst (v := 1) hx hb dX4_takeBack_5 (by decide) ?_
  refine lv_isub hx hb dX4_takeBack_6 ?_
  refine xp_5_8 C w lf_4_38 dX4_takeBack_7 (fun H locs w => ?_)
  refine lv_iload_n hx hb dX4_takeBack_10 rfl (lv_at hl 1 rfl) ?_
  refine lv_istore_n (lv' := [(2, .int v1), (0, .ref (q 5)), (1, .int v1)]) hx hb dX4_takeBack_11 rfl hl (by decide) rfl (fun ls hl => ?_)
  have lp12 : ∀ (n : Nat) (x : zs_T × Int32), zf_loop (fun ag x => fX4_takeBack_b12 N (fun u v2 => ag (u, v2)) x.1 x.2) n x = some z → ∀ (H : Heap) (locs : List Loc) (ls : Array Slot), zg_W D cs A s (wX q cs x.1) H locs → lv_has ls 3 [(0, .ref (q 5)), (2, .int x.2)] → W p l e (zg_rm 0) s m args below meth c H locs 0 0 Q (F0 m 12 ls []) := by
    refine zf_loop_W (fun x : zs_T × Int32 => ∀ (H : Heap) (locs : List Loc) (ls : Array Slot), zg_W D cs A s (wX q cs x.1) H locs → lv_has ls 3 [(0, .ref (q 5)), (2, .int x.2)] → W p l e (zg_rm 0) s m args below meth c H locs 0 0 Q (F0 m 12 ls [])) ?_
    intro ag12 x hag12 hf
    obtain ⟨u, v2⟩ := x
    intro H locs ls w hl
    replace hf : fX4_takeBack_b12 N (fun u v2 => ag12 (u, v2)) u v2 = some z := hf
    replace hl : lv_has ls 3 [(0, .ref (q 5)), (2, .int v2)] := hl
    replace w : zg_W D cs A s (wX q cs u) H locs := w
    unfold fX4_takeBack_b12 at hf
    refine lv_iload_n hx hb dX4_takeBack_12 rfl (lv_at hl 1 rfl) ?_
    refine lv_aload_n hx hb dX4_takeBack_13 rfl (lv_at hl 0 rfl) ?_
    refine xg_5_8 C w lf_4_38 dX4_takeBack_14 ?_
    refine lv_icmp_ge (tgt := 40) hx hb dX4_takeBack_17 (by decide) (fun h => ?_) (fun h => ?_)
    · replace hf := zf_t h hf
      exact hret _ _ _ _ _ hf w dX4_takeBack_40
    · replace hf := zf_f h hf
      refine lv_aload_n hx hb dX4_takeBack_20 rfl (lv_at hl 0 rfl) ?_
      refine xg_5_7 C w lf_4_35 dX4_takeBack_21 ?_
      refine lv_iload_n hx hb dX4_takeBack_24 rfl (lv_at hl 1 rfl) ?_
      refine lv_aload_n hx hb dX4_takeBack_25 rfl (lv_at hl 0 rfl) ?_
      refine xg_5_7 C w lf_4_35 dX4_takeBack_26 ?_
      refine lv_iload_n hx hb dX4_takeBack_29 rfl (lv_at hl 1 rfl) ?_
      refine lv_iconst (v := 1) hx hb dX4_takeBack_30 (by decide) ?_
      refine lv_iadd hx hb dX4_takeBack_31 ?_
      obtain ⟨hi, hf⟩ := zf_gd hf
      refine xa_26 C w hi dX4_takeBack_32 ?_
      obtain ⟨hi, hf⟩ := zf_gd hf
      refine xs_26 C w hi dX4_takeBack_33 (fun H locs w => ?_)
      refine lv_iinc (v := v2 + 1) (lv' := [(2, .int (v2 + 1)), (0, .ref (q 5))]) hx hb dX4_takeBack_34 hl (k := 1) rfl rfl (by decide) rfl (fun ls hl => ?_)
      refine lv_goto (tgt := 12) hx hb dX4_takeBack_37 (by decide) ?_
      exact hag12 (zs_sa u 17 (upd (zs_a u 17) v2.toNatClampNeg (zs_a u 17 (v2 + 1).toNatClampNeg)), v2 + 1) hf H locs ls w (lv_sub hl [1, 0] rfl)
  exact lp12 _ _ hf H locs ls w (lv_sub hl [1, 0] rfl)
def fX4_enter (N : Nat) (u : zs_T) (v1 : Int32) (v2 : Int32) (v3 : Int32) (v4 : Int32) : Option (Int32 × zs_T) :=
  (if zf_in (zs_i u 13) 100 then (if zf_in (zs_i u 13) 100 then (if zf_in (zs_i u 13) 100 then (if zf_in (zs_i u 13) 100 then (zf_bi (fX4_putInOrder N (zs_sa (zs_sa (zs_sa (zs_sa u 13 (upd (zs_a u 13) (zs_i u 13).toNatClampNeg v1)) 14 (upd (zs_a (zs_sa u 13 (upd (zs_a u 13) (zs_i u 13).toNatClampNeg v1)) 14) (zs_i u 13).toNatClampNeg v2)) 15 (upd (zs_a (zs_sa (zs_sa u 13 (upd (zs_a u 13) (zs_i u 13).toNatClampNeg v1)) 14 (upd (zs_a (zs_sa u 13 (upd (zs_a u 13) (zs_i u 13).toNatClampNeg v1)) 14) (zs_i u 13).toNatClampNeg v2)) 15) (zs_i u 13).toNatClampNeg v3)) 16 (upd (zs_a (zs_sa (zs_sa (zs_sa u 13 (upd (zs_a u 13) (zs_i u 13).toNatClampNeg v1)) 14 (upd (zs_a (zs_sa u 13 (upd (zs_a u 13) (zs_i u 13).toNatClampNeg v1)) 14) (zs_i u 13).toNatClampNeg v2)) 15 (upd (zs_a (zs_sa (zs_sa u 13 (upd (zs_a u 13) (zs_i u 13).toNatClampNeg v1)) 14 (upd (zs_a (zs_sa u 13 (upd (zs_a u 13) (zs_i u 13).toNatClampNeg v1)) 14) (zs_i u 13).toNatClampNeg v2)) 15) (zs_i u 13).toNatClampNeg v3)) 16) (zs_i u 13).toNatClampNeg v4)) (zs_i u 13)) fun r1 u2 => (zf_bi (fX7_replay N (zs_si u2 13 ((zs_i u2 13) + 1)) v2 (zs_i (zs_si u2 13 ((zs_i u2 13) + 1)) 13) 150) fun r3 u4 => (if r3 = 0 then (zf_bv (fX4_takeBack N u4 r1) fun u6 => some ((-1), u6)) else some (zs_i u 13, u4)))) else none) else none) else none) else none)
set_option maxHeartbeats 4000000 in
set_option maxRecDepth 100000 in
theorem kX4_enter (l : Launch) (D : va_G) (q : Nat → Nat) (cs : Nat → ClassId) (N : Nat) (u : zs_T) (v1 : Int32) (v2 : Int32) (v3 : Int32) (v4 : Int32) (z : (Int32 × zs_T)) (hf : fX4_enter N u v1 v2 v3 v4 = some z) : zg_Ci l yX4_enter cX4_enter 8 (some .int) 3 D cs (wX q cs) u [.ref (q 5), .int v1, .int v2, .int v3, .int v4, .ref (q 6)] z.1 z.2 := by
  refine zg_Ci_of (own := RX4) (by decide) rfl wX_ad (Nat.le_of_ble_eq_true rfl) ?_
  intro p e s m args below meth c A Q C hret w ls hl
  obtain ⟨hx, hb, -⟩ := id C
  have hl : lv_has ls 8 [(0, .ref (q 5)), (1, .int v1), (2, .int v2), (3, .int v3), (4, .int v4), (5, .ref (q 6))] := hl
  generalize hH : s.heap = H at w ⊢
  generalize hLc : ([] : List Loc) = locs at w ⊢
  unfold fX4_enter at hf
  refine lv_aload_n hx hb dX4_enter_0 rfl (lv_at hl 0 rfl) ?_
  refine xg_5_8 C w lf_4_38 dX4_enter_1 ?_
  refine lv_istore (lv' := [(6, .int (zs_i u 13)), (0, .ref (q 5)), (1, .int v1), (2, .int v2), (3, .int v3), (4, .int v4), (5, .ref (q 6))]) hx hb dX4_enter_4 hl (by decide) rfl (fun ls hl => ?_)
  refine lv_aload_n hx hb dX4_enter_6 rfl (lv_at hl 1 rfl) ?_
  refine xg_5_3 C w lf_4_23 dX4_enter_7 ?_
  refine lv_iload hx hb dX4_enter_10 (lv_at hl 0 rfl) ?_
  refine lv_iload_n hx hb dX4_enter_12 rfl (lv_at hl 2 rfl) ?_
  obtain ⟨hi, hf⟩ := zf_gd hf
  refine xs_22 C w hi dX4_enter_13 (fun H locs w => ?_)
  refine lv_aload_n hx hb dX4_enter_14 rfl (lv_at hl 1 rfl) ?_
  refine xg_5_4 C w lf_4_26 dX4_enter_15 ?_
  refine lv_iload hx hb dX4_enter_18 (lv_at hl 0 rfl) ?_
  refine lv_iload_n hx hb dX4_enter_20 rfl (lv_at hl 3 rfl) ?_
  obtain ⟨hi, hf⟩ := zf_gd hf
  refine xs_23 C w hi dX4_enter_21 (fun H locs w => ?_)
  refine lv_aload_n hx hb dX4_enter_22 rfl (lv_at hl 1 rfl) ?_
  refine xg_5_5 C w lf_4_29 dX4_enter_23 ?_
  refine lv_iload hx hb dX4_enter_26 (lv_at hl 0 rfl) ?_
  refine lv_iload_n hx hb dX4_enter_28 rfl (lv_at hl 4 rfl) ?_
  obtain ⟨hi, hf⟩ := zf_gd hf
  refine xs_24 C w hi dX4_enter_29 (fun H locs w => ?_)
  refine lv_aload_n hx hb dX4_enter_30 rfl (lv_at hl 1 rfl) ?_
  refine xg_5_6 C w lf_4_32 dX4_enter_31 ?_
  refine lv_iload hx hb dX4_enter_34 (lv_at hl 0 rfl) ?_
  refine lv_iload hx hb dX4_enter_36 (lv_at hl 5 rfl) ?_
  obtain ⟨hi, hf⟩ := zf_gd hf
  refine xs_25 C w hi dX4_enter_38 (fun H locs w => ?_)
  refine lv_aload_n hx hb dX4_enter_39 rfl (lv_at hl 1 rfl) ?_
  refine lv_iload hx hb dX4_enter_40 (lv_at hl 0 rfl) ?_
  obtain ⟨r1, u2, hc, hf⟩ := zf_bi_ex hf
  refine zc_ri wX_ad w (zc_V C w (kX4_putInOrder l D q cs N _ _ _ hc _) cf_4_putInOrder ci_4_putInOrder lm_4_45 rcX_5 ⟨Nat.le_of_ble_eq_true rfl, Nat.le_of_ble_eq_true rfl⟩ hl.1 rfl (Nat.le_of_ble_eq_true rfl) dX4_enter_42 ⟨Nat.le_refl _, Nat.le_refl _⟩) (fun H locs w => ?_)
  refine lv_istore (lv' := [(7, .int r1), (6, .int (zs_i u 13)), (0, .ref (q 5)), (1, .int v1), (2, .int v2), (3, .int v3), (4, .int v4), (5, .ref (q 6))]) hx hb dX4_enter_45 hl (by decide) rfl (fun ls hl => ?_)
  refine lv_aload_n hx hb dX4_enter_47 rfl (lv_at hl 2 rfl) ?_
  refine lv_dup hx hb dX4_enter_48 rfl ?_
  refine xg_5_8 C w lf_4_38 dX4_enter_49 ?_
  refine lv_iconst (v := 1) hx hb dX4_enter_52 (by decide) ?_
  refine lv_iadd hx hb dX4_enter_53 ?_
  refine xp_5_8 C w lf_4_38 dX4_enter_54 (fun H locs w => ?_)
  refine lv_aload hx hb dX4_enter_57 (lv_at hl 7 rfl) ?_
  refine lv_aload_n hx hb dX4_enter_59 rfl (lv_at hl 2 rfl) ?_
  refine lv_iload_n hx hb dX4_enter_60 rfl (lv_at hl 4 rfl) ?_
  refine lv_aload_n hx hb dX4_enter_61 rfl (lv_at hl 2 rfl) ?_
  refine xg_5_8 C w lf_4_38 dX4_enter_62 ?_
  refine lv_sipush (v := 150) hx hb dX4_enter_65 (by decide) ?_
  obtain ⟨r3, u4, hc, hf⟩ := zf_bi_ex hf
  refine zc_ri wX_ad w (zc_V C w (kX7_replay l D q cs N _ _ _ _ _ hc _) cf_7_replay ci_7_replay lm_4_49 rcX_6 ⟨Nat.le_of_ble_eq_true rfl, Nat.le_of_ble_eq_true rfl⟩ hl.1 rfl (Nat.le_of_ble_eq_true rfl) dX4_enter_68 ⟨Nat.le_refl _, Nat.le_refl _⟩) (fun H locs w => ?_)
  refine lv_if_ne (tgt := 82) hx hb dX4_enter_71 (by decide) (fun h => ?_) (fun h => ?_)
  · replace hf := zf_f h hf
    refine lv_iload hx hb dX4_enter_82 (lv_at hl 1 rfl) ?_
    exact hret _ _ _ _ _ _ hf w dX4_enter_84
  · replace hf := zf_t h hf
    refine lv_aload_n hx hb dX4_enter_74 rfl (lv_at hl 2 rfl) ?_
    refine lv_iload hx hb dX4_enter_75 (lv_at hl 0 rfl) ?_
    obtain ⟨u6, hc, hf⟩ := zf_bv_ex hf
    refine zc_rv wX_ad w (zc_V C w (kX4_takeBack l D q cs N _ _ _ hc _) cf_4_takeBack ci_4_takeBack lm_4_55 rcX_5 ⟨Nat.le_of_ble_eq_true rfl, Nat.le_of_ble_eq_true rfl⟩ hl.1 rfl (Nat.le_of_ble_eq_true rfl) dX4_enter_77 ⟨Nat.le_refl _, Nat.le_refl _⟩) (fun H locs w => ?_)
    refine lv_iconst (v := (-1)) hx hb dX4_enter_80 (by decide) ?_
    exact hret _ _ _ _ _ _ hf w dX4_enter_81
def fX4_upOn_b4 (N : Nat) (u : zs_T) (v1 : Int32) (ag4 : Int32 → Int32 → Option Int32) (v2 : Int32) (v3 : Int32) : Option Int32 :=
  (if zs_i u 13 ≤ v3 then some v2 else (if zf_in v3 100 then (if zf_in (zs_a u 17 v3.toNatClampNeg) 100 then (if zs_a u 15 (zs_a u 17 v3.toNatClampNeg).toNatClampNeg ≤ v1 then (if zf_in (zs_a u 17 v3.toNatClampNeg) 100 then (if zs_a u 13 (zs_a u 17 v3.toNatClampNeg).toNatClampNeg = 0 then ag4 (v2 + 1) (v3 + 1) else (if zf_in (zs_a u 17 v3.toNatClampNeg) 100 then (if zs_a u 13 (zs_a u 17 v3.toNatClampNeg).toNatClampNeg = 3 then ag4 v2 (v3 + 1) else ag4 (v2 + (-1)) (v3 + 1)) else none)) else none) else some v2) else none) else none))
def fX4_upOn (N : Nat) (u : zs_T) (v1 : Int32) : Option Int32 :=
  zf_loop (fun ag x => fX4_upOn_b4 N u v1 (fun v2 v3 => ag (v2, v3)) x.1 x.2) N (0, 0)
set_option maxHeartbeats 4000000 in
set_option maxRecDepth 100000 in
theorem kX4_upOn (l : Launch) (D : va_G) (q : Nat → Nat) (cs : Nat → ClassId) (N : Nat) (u : zs_T) (v1 : Int32) (z : Int32) (hf : fX4_upOn N u v1 = some z) : zg_Ci l yX4_upOn cX4_upOn 5 (some .int) 0 D cs (wX q cs) u [.ref (q 5), .int v1] z u := by
  refine zg_Ci_of (own := RX4) (by decide) rfl wX_ad (Nat.le_of_ble_eq_true rfl) ?_
  intro p e s m args below meth c A Q C hret w ls hl
  obtain ⟨hx, hb, -⟩ := id C
  have hl : lv_has ls 5 [(0, .ref (q 5)), (1, .int v1)] := hl
  generalize hH : s.heap = H at w ⊢
  generalize hLc : ([] : List Loc) = locs at w ⊢
  unfold fX4_upOn at hf
  refine lv_iconst (v := 0) hx hb dX4_upOn_0 (by decide) ?_
  refine lv_istore_n (lv' := [(2, .int 0), (0, .ref (q 5)), (1, .int v1)]) hx hb dX4_upOn_1 rfl hl (by decide) rfl (fun ls hl => ?_)
  refine lv_iconst (v := 0) hx hb dX4_upOn_2 (by decide) ?_
  refine lv_istore_n (lv' := [(3, .int 0), (2, .int 0), (0, .ref (q 5)), (1, .int v1)]) hx hb dX4_upOn_3 rfl hl (by decide) rfl (fun ls hl => ?_)
  have lp4 : ∀ (v1 : Int32) (n : Nat) (x : Int32 × Int32), zf_loop (fun ag x => fX4_upOn_b4 N u v1 (fun v2 v3 => ag (v2, v3)) x.1 x.2) n x = some z → ∀ (H : Heap) (locs : List Loc) (ls : Array Slot), zg_W D cs A s (wX q cs u) H locs → lv_has ls 5 [(0, .ref (q 5)), (1, .int v1), (2, .int x.1), (3, .int x.2)] → W p l e (zg_rm 0) s m args below meth c H locs 0 0 Q (F0 m 4 ls []) := by
    intro v1
    refine zf_loop_W (fun x : Int32 × Int32 => ∀ (H : Heap) (locs : List Loc) (ls : Array Slot), zg_W D cs A s (wX q cs u) H locs → lv_has ls 5 [(0, .ref (q 5)), (1, .int v1), (2, .int x.1), (3, .int x.2)] → W p l e (zg_rm 0) s m args below meth c H locs 0 0 Q (F0 m 4 ls [])) ?_
    intro ag4 x hag4 hf
    obtain ⟨v2, v3⟩ := x
    intro H locs ls w hl
    replace hf : fX4_upOn_b4 N u v1 (fun v2 v3 => ag4 (v2, v3)) v2 v3 = some z := hf
    replace hl : lv_has ls 5 [(0, .ref (q 5)), (1, .int v1), (2, .int v2), (3, .int v3)] := hl
    replace w : zg_W D cs A s (wX q cs u) H locs := w
    unfold fX4_upOn_b4 at hf
    refine lv_iload_n hx hb dX4_upOn_4 rfl (lv_at hl 3 rfl) ?_
    refine lv_aload_n hx hb dX4_upOn_5 rfl (lv_at hl 0 rfl) ?_
    refine xg_5_8 C w lf_4_38 dX4_upOn_6 ?_
    refine lv_icmp_ge (tgt := 70) hx hb dX4_upOn_9 (by decide) (fun h => ?_) (fun h => ?_)
    · replace hf := zf_t h hf
      refine lv_iload_n hx hb dX4_upOn_70 rfl (lv_at hl 2 rfl) ?_
      exact hret _ _ _ _ _ _ (zf_pr hf) w dX4_upOn_71
    · replace hf := zf_f h hf
      refine lv_aload_n hx hb dX4_upOn_12 rfl (lv_at hl 0 rfl) ?_
      refine xg_5_7 C w lf_4_35 dX4_upOn_13 ?_
      refine lv_iload_n hx hb dX4_upOn_16 rfl (lv_at hl 3 rfl) ?_
      obtain ⟨hi, hf⟩ := zf_gd hf
      refine xa_26 C w hi dX4_upOn_17 ?_
      refine lv_istore (lv' := [(4, .int (zs_a u 17 v3.toNatClampNeg)), (0, .ref (q 5)), (1, .int v1), (2, .int v2), (3, .int v3)]) hx hb dX4_upOn_18 hl (by decide) rfl (fun ls hl => ?_)
      refine lv_aload_n hx hb dX4_upOn_20 rfl (lv_at hl 1 rfl) ?_
      refine xg_5_5 C w lf_4_29 dX4_upOn_21 ?_
      refine lv_iload hx hb dX4_upOn_24 (lv_at hl 0 rfl) ?_
      obtain ⟨hi, hf⟩ := zf_gd hf
      refine xa_24 C w hi dX4_upOn_26 ?_
      refine lv_iload_n hx hb dX4_upOn_27 rfl (lv_at hl 2 rfl) ?_
      refine lv_icmp_le (tgt := 34) hx hb dX4_upOn_28 (by decide) (fun h => ?_) (fun h => ?_)
      · replace hf := zf_t h hf
        refine lv_aload_n hx hb dX4_upOn_34 rfl (lv_at hl 1 rfl) ?_
        refine xg_5_3 C w lf_4_23 dX4_upOn_35 ?_
        refine lv_iload hx hb dX4_upOn_38 (lv_at hl 0 rfl) ?_
        obtain ⟨hi, hf⟩ := zf_gd hf
        refine xa_22 C w hi dX4_upOn_40 ?_
        refine lv_if_ne (tgt := 50) hx hb dX4_upOn_41 (by decide) (fun h => ?_) (fun h => ?_)
        · replace hf := zf_f h hf
          refine lv_aload_n hx hb dX4_upOn_50 rfl (lv_at hl 1 rfl) ?_
          refine xg_5_3 C w lf_4_23 dX4_upOn_51 ?_
          refine lv_iload hx hb dX4_upOn_54 (lv_at hl 0 rfl) ?_
          obtain ⟨hi, hf⟩ := zf_gd hf
          refine xa_22 C w hi dX4_upOn_56 ?_
          refine lv_iconst (v := 3) hx hb dX4_upOn_57 (by decide) ?_
          refine lv_icmp_eq (tgt := 64) hx hb dX4_upOn_58 (by decide) (fun h => ?_) (fun h => ?_)
          · replace hf := zf_t h hf
            refine lv_iinc (v := v3 + 1) (lv' := [(3, .int (v3 + 1)), (4, .int (zs_a u 17 v3.toNatClampNeg)), (0, .ref (q 5)), (1, .int v1), (2, .int v2)]) hx hb dX4_upOn_64 hl (k := 4) rfl rfl (by decide) rfl (fun ls hl => ?_)
            refine lv_goto (tgt := 4) hx hb dX4_upOn_67 (by decide) ?_
            exact hag4 (v2, v3 + 1) hf H locs ls w (lv_sub hl [2, 3, 4, 0] rfl)
          · replace hf := zf_f h hf
            refine lv_iinc (v := v2 + (-1)) (lv' := [(2, .int (v2 + (-1))), (4, .int (zs_a u 17 v3.toNatClampNeg)), (0, .ref (q 5)), (1, .int v1), (3, .int v3)]) hx hb dX4_upOn_61 hl (k := 3) rfl rfl (by decide) rfl (fun ls hl => ?_)
            refine lv_iinc (v := v3 + 1) (lv' := [(3, .int (v3 + 1)), (2, .int (v2 + (-1))), (4, .int (zs_a u 17 v3.toNatClampNeg)), (0, .ref (q 5)), (1, .int v1)]) hx hb dX4_upOn_64 hl (k := 4) rfl rfl (by decide) rfl (fun ls hl => ?_)
            refine lv_goto (tgt := 4) hx hb dX4_upOn_67 (by decide) ?_
            exact hag4 (v2 + (-1), v3 + 1) hf H locs ls w (lv_sub hl [3, 4, 1, 0] rfl)
        · replace hf := zf_t h hf
          refine lv_iinc (v := v2 + 1) (lv' := [(2, .int (v2 + 1)), (4, .int (zs_a u 17 v3.toNatClampNeg)), (0, .ref (q 5)), (1, .int v1), (3, .int v3)]) hx hb dX4_upOn_44 hl (k := 3) rfl rfl (by decide) rfl (fun ls hl => ?_)
          refine lv_goto (tgt := 64) hx hb dX4_upOn_47 (by decide) ?_
          refine lv_iinc (v := v3 + 1) (lv' := [(3, .int (v3 + 1)), (2, .int (v2 + 1)), (4, .int (zs_a u 17 v3.toNatClampNeg)), (0, .ref (q 5)), (1, .int v1)]) hx hb dX4_upOn_64 hl (k := 4) rfl rfl (by decide) rfl (fun ls hl => ?_)
          refine lv_goto (tgt := 4) hx hb dX4_upOn_67 (by decide) ?_
          exact hag4 (v2 + 1, v3 + 1) hf H locs ls w (lv_sub hl [3, 4, 1, 0] rfl)
      · replace hf := zf_f h hf
        refine lv_goto (tgt := 70) hx hb dX4_upOn_31 (by decide) ?_
        refine lv_iload_n hx hb dX4_upOn_70 rfl (lv_at hl 3 rfl) ?_
        exact hret _ _ _ _ _ _ (zf_pr hf) w dX4_upOn_71
  exact lp4 _ _ _ hf H locs ls w (lv_sub hl [2, 3, 1, 0] rfl)
def fX4_livingOf_b6 (N : Nat) (v1 : Int32) (v2 : Int32) (ag6 : zs_T → Int32 → Int32 → Option (Int32 × zs_T)) (u : zs_T) (v4 : Int32) (v5 : Int32) : Option (Int32 × zs_T) :=
  (if zs_i u 12 ≤ v5 then some (v4, u) else (zf_bi (fX7_replay N u v5 (zs_i u 13) v2) fun r1 u2 => (if zs_i u2 16 = 0 then (if zs_i u2 14 = v1 then ag6 u2 (v4 + 1) (v5 + 1) else ag6 u2 v4 (v5 + 1)) else ag6 u2 v4 (v5 + 1))))
def fX4_livingOf (N : Nat) (u : zs_T) (v1 : Int32) (v2 : Int32) : Option (Int32 × zs_T) :=
  zf_loop (fun ag x => fX4_livingOf_b6 N v1 v2 (fun u v4 v5 => ag (u, v4, v5)) x.1 x.2.1 x.2.2) N (u, 0, 0)
set_option maxHeartbeats 4000000 in
set_option maxRecDepth 100000 in
theorem kX4_livingOf (l : Launch) (D : va_G) (q : Nat → Nat) (cs : Nat → ClassId) (N : Nat) (u : zs_T) (v1 : Int32) (v2 : Int32) (z : (Int32 × zs_T)) (hf : fX4_livingOf N u v1 v2 = some z) : zg_Ci l yX4_livingOf cX4_livingOf 6 (some .int) 3 D cs (wX q cs) u [.ref (q 5), .int v1, .int v2, .ref (q 6)] z.1 z.2 := by
  refine zg_Ci_of (own := RX4) (by decide) rfl wX_ad (Nat.le_of_ble_eq_true rfl) ?_
  intro p e s m args below meth c A Q C hret w ls hl
  obtain ⟨hx, hb, -⟩ := id C
  have hl : lv_has ls 6 [(0, .ref (q 5)), (1, .int v1), (2, .int v2), (3, .ref (q 6))] := hl
  generalize hH : s.heap = H at w ⊢
  generalize hLc : ([] : List Loc) = locs at w ⊢
  unfold fX4_livingOf at hf
  refine lv_iconst (v := 0) hx hb dX4_livingOf_0 (by decide) ?_
  refine lv_istore (lv' := [(4, .int 0), (0, .ref (q 5)), (1, .int v1), (2, .int v2), (3, .ref (q 6))]) hx hb dX4_livingOf_1 hl (by decide) rfl (fun ls hl => ?_)
  refine lv_iconst (v := 0) hx hb dX4_livingOf_3 (by decide) ?_
  refine lv_istore (lv' := [(5, .int 0), (4, .int 0), (0, .ref (q 5)), (1, .int v1), (2, .int v2), (3, .ref (q 6))]) hx hb dX4_livingOf_4 hl (by decide) rfl (fun ls hl => ?_)
  have lp6 : ∀ (v1 : Int32) (v2 : Int32) (n : Nat) (x : zs_T × Int32 × Int32), zf_loop (fun ag x => fX4_livingOf_b6 N v1 v2 (fun u v4 v5 => ag (u, v4, v5)) x.1 x.2.1 x.2.2) n x = some z → ∀ (H : Heap) (locs : List Loc) (ls : Array Slot), zg_W D cs A s (wX q cs x.1) H locs → lv_has ls 6 [(0, .ref (q 5)), (1, .int v1), (2, .int v2), (3, .ref (q 6)), (4, .int x.2.1), (5, .int x.2.2)] → W p l e (zg_rm 3) s m args below meth c H locs 0 0 Q (F0 m 6 ls []) := by
    intro v1 v2
    refine zf_loop_W (fun x : zs_T × Int32 × Int32 => ∀ (H : Heap) (locs : List Loc) (ls : Array Slot), zg_W D cs A s (wX q cs x.1) H locs → lv_has ls 6 [(0, .ref (q 5)), (1, .int v1), (2, .int v2), (3, .ref (q 6)), (4, .int x.2.1), (5, .int x.2.2)] → W p l e (zg_rm 3) s m args below meth c H locs 0 0 Q (F0 m 6 ls [])) ?_
    intro ag6 x hag6 hf
    obtain ⟨u, v4, v5⟩ := x
    intro H locs ls w hl
    replace hf : fX4_livingOf_b6 N v1 v2 (fun u v4 v5 => ag6 (u, v4, v5)) u v4 v5 = some z := hf
    replace hl : lv_has ls 6 [(0, .ref (q 5)), (1, .int v1), (2, .int v2), (3, .ref (q 6)), (4, .int v4), (5, .int v5)] := hl
    replace w : zg_W D cs A s (wX q cs u) H locs := w
    unfold fX4_livingOf_b6 at hf
    refine lv_iload hx hb dX4_livingOf_6 (lv_at hl 5 rfl) ?_
    refine lv_aload_n hx hb dX4_livingOf_8 rfl (lv_at hl 0 rfl) ?_
    refine xg_5_2 C w lf_4_19 dX4_livingOf_9 ?_
    refine lv_icmp_ge (tgt := 52) hx hb dX4_livingOf_12 (by decide) (fun h => ?_) (fun h => ?_)
    · replace hf := zf_t h hf
      refine lv_iload hx hb dX4_livingOf_52 (lv_at hl 4 rfl) ?_
      exact hret _ _ _ _ _ _ hf w dX4_livingOf_54
    · replace hf := zf_f h hf
      refine lv_aload_n hx hb dX4_livingOf_15 rfl (lv_at hl 3 rfl) ?_
      refine lv_aload_n hx hb dX4_livingOf_16 rfl (lv_at hl 0 rfl) ?_
      refine lv_iload hx hb dX4_livingOf_17 (lv_at hl 5 rfl) ?_
      refine lv_aload_n hx hb dX4_livingOf_19 rfl (lv_at hl 0 rfl) ?_
      refine xg_5_8 C w lf_4_38 dX4_livingOf_20 ?_
      refine lv_iload_n hx hb dX4_livingOf_23 rfl (lv_at hl 2 rfl) ?_
      obtain ⟨r1, u2, hc, hf⟩ := zf_bi_ex hf
      refine zc_ri wX_ad w (zc_V C w (kX7_replay l D q cs N _ _ _ _ _ hc _) cf_7_replay ci_7_replay lm_4_49 rcX_6 ⟨Nat.le_of_ble_eq_true rfl, Nat.le_of_ble_eq_true rfl⟩ hl.1 rfl (Nat.le_of_ble_eq_true rfl) dX4_livingOf_24 ⟨Nat.le_refl _, Nat.le_refl _⟩) (fun H locs w => ?_)
      refine lv_pop hx hb dX4_livingOf_27 rfl ?_
      refine lv_aload_n hx hb dX4_livingOf_28 rfl (lv_at hl 3 rfl) ?_
      refine xg_6_2 C w lf_4_59 dX4_livingOf_29 ?_
      refine lv_if_ne (tgt := 46) hx hb dX4_livingOf_32 (by decide) (fun h => ?_) (fun h => ?_)
      · replace hf := zf_f h hf
        refine lv_iinc (v := v5 + 1) (lv' := [(5, .int (v5 + 1)), (0, .ref (q 5)), (1, .int v1), (2, .int v2), (3, .ref (q 6)), (4, .int v4)]) hx hb dX4_livingOf_46 hl (k := 5) rfl rfl (by decide) rfl (fun ls hl => ?_)
        refine lv_goto (tgt := 6) hx hb dX4_livingOf_49 (by decide) ?_
        exact hag6 (u2, v4, v5 + 1) hf H locs ls w (lv_sub hl [1, 2, 3, 4, 5, 0] rfl)
      · replace hf := zf_t h hf
        refine lv_aload_n hx hb dX4_livingOf_35 rfl (lv_at hl 3 rfl) ?_
        refine xg_6_0 C w lf_4_63 dX4_livingOf_36 ?_
        refine lv_iload_n hx hb dX4_livingOf_39 rfl (lv_at hl 1 rfl) ?_
        refine lv_icmp_ne (tgt := 46) hx hb dX4_livingOf_40 (by decide) (fun h => ?_) (fun h => ?_)
        · replace hf := zf_f h hf
          refine lv_iinc (v := v5 + 1) (lv' := [(5, .int (v5 + 1)), (0, .ref (q 5)), (1, .int v1), (2, .int v2), (3, .ref (q 6)), (4, .int v4)]) hx hb dX4_livingOf_46 hl (k := 5) rfl rfl (by decide) rfl (fun ls hl => ?_)
          refine lv_goto (tgt := 6) hx hb dX4_livingOf_49 (by decide) ?_
          exact hag6 (u2, v4, v5 + 1) hf H locs ls w (lv_sub hl [1, 2, 3, 4, 5, 0] rfl)
        · replace hf := zf_t h hf
          refine lv_iinc (v := v4 + 1) (lv' := [(4, .int (v4 + 1)), (0, .ref (q 5)), (1, .int v1), (2, .int v2), (3, .ref (q 6)), (5, .int v5)]) hx hb dX4_livingOf_43 hl (k := 4) rfl rfl (by decide) rfl (fun ls hl => ?_)
          refine lv_iinc (v := v5 + 1) (lv' := [(5, .int (v5 + 1)), (4, .int (v4 + 1)), (0, .ref (q 5)), (1, .int v1), (2, .int v2), (3, .ref (q 6))]) hx hb dX4_livingOf_46 hl (k := 5) rfl rfl (by decide) rfl (fun ls hl => ?_)
          refine lv_goto (tgt := 6) hx hb dX4_livingOf_49 (by decide) ?_
          exact hag6 (u2, v4 + 1, v5 + 1) hf H locs ls w (lv_sub hl [2, 3, 4, 5, 1, 0] rfl)
  exact lp6 _ _ _ _ hf H locs ls w (lv_sub hl [2, 3, 4, 5, 1, 0] rfl)
def fX4_beginYear_b2 (N : Nat) (v1 : Int32) (ag2 : zs_T → Int32 → Option zs_T) (u : zs_T) (v3 : Int32) : Option zs_T :=
  (if zs_i u 12 ≤ v3 then some (zs_si u 13 0) else (zf_bi (fX7_replay N u v3 (zs_i u 13) v1) fun r1 u2 => (if zf_in v3 80 then (if zf_in v3 80 then (if zf_z (zs_i (zs_sa u2 11 (upd (zs_a u2 11) v3.toNatClampNeg (zs_i u2 14))) 16) then ag2 (zs_sa (zs_sa u2 11 (upd (zs_a u2 11) v3.toNatClampNeg (zs_i u2 14))) 12 (upd (zs_a (zs_sa u2 11 (upd (zs_a u2 11) v3.toNatClampNeg (zs_i u2 14))) 12) v3.toNatClampNeg (zs_i (zs_sa u2 11 (upd (zs_a u2 11) v3.toNatClampNeg (zs_i u2 14))) 16))) (v3 + 1) else none) else none) else none)))
def fX4_beginYear (N : Nat) (u : zs_T) (v1 : Int32) : Option zs_T :=
  zf_loop (fun ag x => fX4_beginYear_b2 N v1 (fun u v3 => ag (u, v3)) x.1 x.2) N (u, 0)
set_option maxHeartbeats 4000000 in
set_option maxRecDepth 100000 in
theorem kX4_beginYear (l : Launch) (D : va_G) (q : Nat → Nat) (cs : Nat → ClassId) (N : Nat) (u : zs_T) (v1 : Int32) (z : zs_T) (hf : fX4_beginYear N u v1 = some z) : zg_Cv l yX4_beginYear cX4_beginYear 4 none 3 D cs (wX q cs) u [.ref (q 5), .int v1, .ref (q 6)] z := by
  refine zg_Cv_of (own := RX4) (by decide) rfl wX_ad (Nat.le_of_ble_eq_true rfl) ?_
  intro p e s m args below meth c A Q C hret w ls hl
  obtain ⟨hx, hb, -⟩ := id C
  have hl : lv_has ls 4 [(0, .ref (q 5)), (1, .int v1), (2, .ref (q 6))] := hl
  generalize hH : s.heap = H at w ⊢
  generalize hLc : ([] : List Loc) = locs at w ⊢
  unfold fX4_beginYear at hf
  refine lv_iconst (v := 0) hx hb dX4_beginYear_0 (by decide) ?_
  refine lv_istore_n (lv' := [(3, .int 0), (0, .ref (q 5)), (1, .int v1), (2, .ref (q 6))]) hx hb dX4_beginYear_1 rfl hl (by decide) rfl (fun ls hl => ?_)
  have lp2 : ∀ (v1 : Int32) (n : Nat) (x : zs_T × Int32), zf_loop (fun ag x => fX4_beginYear_b2 N v1 (fun u v3 => ag (u, v3)) x.1 x.2) n x = some z → ∀ (H : Heap) (locs : List Loc) (ls : Array Slot), zg_W D cs A s (wX q cs x.1) H locs → lv_has ls 4 [(0, .ref (q 5)), (1, .int v1), (2, .ref (q 6)), (3, .int x.2)] → W p l e (zg_rm 3) s m args below meth c H locs 0 0 Q (F0 m 2 ls []) := by
    intro v1
    refine zf_loop_W (fun x : zs_T × Int32 => ∀ (H : Heap) (locs : List Loc) (ls : Array Slot), zg_W D cs A s (wX q cs x.1) H locs → lv_has ls 4 [(0, .ref (q 5)), (1, .int v1), (2, .ref (q 6)), (3, .int x.2)] → W p l e (zg_rm 3) s m args below meth c H locs 0 0 Q (F0 m 2 ls [])) ?_
    intro ag2 x hag2 hf
    obtain ⟨u, v3⟩ := x
    intro H locs ls w hl
    replace hf : fX4_beginYear_b2 N v1 (fun u v3 => ag2 (u, v3)) u v3 = some z := hf
    replace hl : lv_has ls 4 [(0, .ref (q 5)), (1, .int v1), (2, .ref (q 6)), (3, .int v3)] := hl
    replace w : zg_W D cs A s (wX q cs u) H locs := w
    unfold fX4_beginYear_b2 at hf
    refine lv_iload_n hx hb dX4_beginYear_2 rfl (lv_at hl 3 rfl) ?_
    refine lv_aload_n hx hb dX4_beginYear_3 rfl (lv_at hl 0 rfl) ?_
    refine xg_5_2 C w lf_4_19 dX4_beginYear_4 ?_
    refine lv_icmp_ge (tgt := 48) hx hb dX4_beginYear_7 (by decide) (fun h => ?_) (fun h => ?_)
    · replace hf := zf_t h hf
      refine lv_aload_n hx hb dX4_beginYear_48 rfl (lv_at hl 0 rfl) ?_
      refine lv_iconst (v := 0) hx hb dX4_beginYear_49 (by decide) ?_
      refine xp_5_8 C w lf_4_38 dX4_beginYear_50 (fun H locs w => ?_)
      exact hret _ _ _ _ _ hf w dX4_beginYear_53
    · replace hf := zf_f h hf
      refine lv_aload_n hx hb dX4_beginYear_10 rfl (lv_at hl 2 rfl) ?_
      refine lv_aload_n hx hb dX4_beginYear_11 rfl (lv_at hl 0 rfl) ?_
      refine lv_iload_n hx hb dX4_beginYear_12 rfl (lv_at hl 3 rfl) ?_
      refine lv_aload_n hx hb dX4_beginYear_13 rfl (lv_at hl 0 rfl) ?_
      refine xg_5_8 C w lf_4_38 dX4_beginYear_14 ?_
      refine lv_iload_n hx hb dX4_beginYear_17 rfl (lv_at hl 1 rfl) ?_
      obtain ⟨r1, u2, hc, hf⟩ := zf_bi_ex hf
      refine zc_ri wX_ad w (zc_V C w (kX7_replay l D q cs N _ _ _ _ _ hc _) cf_7_replay ci_7_replay lm_4_49 rcX_6 ⟨Nat.le_of_ble_eq_true rfl, Nat.le_of_ble_eq_true rfl⟩ hl.1 rfl (Nat.le_of_ble_eq_true rfl) dX4_beginYear_18 ⟨Nat.le_refl _, Nat.le_refl _⟩) (fun H locs w => ?_)
      refine lv_pop hx hb dX4_beginYear_21 rfl ?_
      refine lv_aload_n hx hb dX4_beginYear_22 rfl (lv_at hl 0 rfl) ?_
      refine xg_5_0 C w lf_4_9 dX4_beginYear_23 ?_
      refine lv_iload_n hx hb dX4_beginYear_26 rfl (lv_at hl 3 rfl) ?_
      refine lv_aload_n hx hb dX4_beginYear_27 rfl (lv_at hl 2 rfl) ?_
      refine xg_6_0 C w lf_4_63 dX4_beginYear_28 ?_
      obtain ⟨hi, hf⟩ := zf_gd hf
      refine xs_20 C w hi dX4_beginYear_31 (fun H locs w => ?_)
      refine lv_aload_n hx hb dX4_beginYear_32 rfl (lv_at hl 0 rfl) ?_
      refine xg_5_1 C w lf_4_15 dX4_beginYear_33 ?_
      refine lv_iload_n hx hb dX4_beginYear_36 rfl (lv_at hl 3 rfl) ?_
      refine lv_aload_n hx hb dX4_beginYear_37 rfl (lv_at hl 2 rfl) ?_
      refine xg_6_2 C w lf_4_59 dX4_beginYear_38 ?_
      obtain ⟨hi, hf⟩ := zf_gd hf
      obtain ⟨hz, hf⟩ := zf_gd hf
      refine xs_21 C w hi hz dX4_beginYear_41 (fun H locs w => ?_)
      refine lv_iinc (v := v3 + 1) (lv' := [(3, .int (v3 + 1)), (0, .ref (q 5)), (1, .int v1), (2, .ref (q 6))]) hx hb dX4_beginYear_42 hl (k := 3) rfl rfl (by decide) rfl (fun ls hl => ?_)
      refine lv_goto (tgt := 2) hx hb dX4_beginYear_45 (by decide) ?_
      exact hag2 (zs_sa (zs_sa u2 11 (upd (zs_a u2 11) v3.toNatClampNeg (zs_i u2 14))) 12 (upd (zs_a (zs_sa u2 11 (upd (zs_a u2 11) v3.toNatClampNeg (zs_i u2 14))) 12) v3.toNatClampNeg (zs_i (zs_sa u2 11 (upd (zs_a u2 11) v3.toNatClampNeg (zs_i u2 14))) 16)), v3 + 1) hf H locs ls w (lv_sub hl [1, 2, 3, 0] rfl)
  exact lp2 _ _ _ hf H locs ls w (lv_sub hl [1, 2, 3, 0] rfl)
