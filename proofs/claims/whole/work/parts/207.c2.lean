def fX2_has (u : zs_T) (v1 : Int32) : Option Int32 :=
  (zf_bp (fX8_within v1 0 ((zs_i u 3) - 1)) fun r1 => (if zf_z r1 then some r1 else none))
set_option maxHeartbeats 4000000 in
set_option maxRecDepth 100000 in
theorem kX2_has (l : Launch) (D : va_G) (q : Nat → Nat) (cs : Nat → ClassId) (u : zs_T) (v1 : Int32) (z : Int32) (hf : fX2_has u v1 = some z) : zg_Ci l yX2_has cX2_has 2 (some .boolean) 1 D cs (wX q cs) u [.ref (q 3), .int v1] z u := by
  refine zg_Cz_of (own := RX2) (by decide) rfl wX_ad (Nat.le_of_ble_eq_true rfl) ?_
  intro p e s m args below meth c A Q C hret w ls hl
  obtain ⟨hx, hb, -⟩ := id C
  have hl : lv_has ls 2 [(0, .ref (q 3)), (1, .int v1)] := hl
  generalize hH : s.heap = H at w ⊢
  generalize hLc : ([] : List Loc) = locs at w ⊢
  unfold fX2_has at hf
  refine lv_iload_n hx hb dX2_has_0 rfl (lv_at hl 1 rfl) ?_
  refine lv_iconst (v := 0) hx hb dX2_has_1 (by decide) ?_
  refine lv_aload_n hx hb dX2_has_2 rfl (lv_at hl 0 rfl) ?_
  refine xg_3_3 C w lf_2_39 dX2_has_3 ?_
  refine lv_iconst (v := 1) hx hb dX2_has_6 (by decide) ?_
  refine lv_isub hx hb dX2_has_7 ?_
  obtain ⟨r1, hc, hf⟩ := zf_bp_ex hf
  refine zc_ri wX_ad w (zc_SN C w (kX8_within l D q cs _ _ _ _ _ hc _) cf_8_within ci_8_within lm_2_48 ⟨Nat.le_of_ble_eq_true rfl, Nat.le_of_ble_eq_true rfl⟩ hl.1 rfl (Nat.le_of_ble_eq_true rfl) dX2_has_8 ⟨Nat.le_refl _, Nat.le_refl _⟩) (fun H locs w => ?_)
  obtain ⟨hz, hf⟩ := zf_gd hf
  exact hret _ _ _ _ _ _ hz (zf_pr hf) w dX2_has_11
def fX2_isOpen (u : zs_T) : Option Int32 :=
  (if 20 < zs_i u 4 then some 0 else some 1)
set_option maxHeartbeats 4000000 in
set_option maxRecDepth 100000 in
theorem kX2_isOpen (l : Launch) (D : va_G) (q : Nat → Nat) (cs : Nat → ClassId) (u : zs_T) (z : Int32) (hf : fX2_isOpen u = some z) : zg_Ci l yX2_isOpen cX2_isOpen 1 (some .boolean) 0 D cs (wX q cs) u [.ref (q 3)] z u := by
  refine zg_Cz_of (own := RX2) (by decide) rfl wX_ad (Nat.le_of_ble_eq_true rfl) ?_
  intro p e s m args below meth c A Q C hret w ls hl
  obtain ⟨hx, hb, -⟩ := id C
  have hl : lv_has ls 1 [(0, .ref (q 3))] := hl
  generalize hH : s.heap = H at w ⊢
  generalize hLc : ([] : List Loc) = locs at w ⊢
  unfold fX2_isOpen at hf
  refine lv_aload_n hx hb dX2_isOpen_0 rfl (lv_at hl 0 rfl) ?_
  refine xg_3_4 C w lf_2_21 dX2_isOpen_1 ?_
  refine lv_bipush (v := 20) hx hb dX2_isOpen_4 (by decide) ?_
  refine lv_icmp_gt (tgt := 13) hx hb dX2_isOpen_6 (by decide) (fun h => ?_) (fun h => ?_)
  · replace hf := zf_t h hf
    refine lv_iconst (v := 0) hx hb dX2_isOpen_13 (by decide) ?_
    exact hret _ _ _ _ _ _ (by rfl) (zf_pr hf) w dX2_isOpen_14
  · replace hf := zf_f h hf
    refine lv_iconst (v := 1) hx hb dX2_isOpen_9 (by decide) ?_
    refine lv_goto (tgt := 14) hx hb dX2_isOpen_10 (by decide) ?_
    exact hret _ _ _ _ _ _ (by rfl) (zf_pr hf) w dX2_isOpen_14
def fX2_canReach_j52 (u : zs_T) (v2 : Int32) (t0 : Int32) : Option Int32 :=
  (if v2 = 0 then some 0 else (if t0 = 0 then some 1 else (zf_bp (fX2_isOpen u) fun r1 => (if r1 = 0 then some 0 else some 1))))
def fX2_canReach_j47 (u : zs_T) (v2 : Int32) : Option Int32 :=
  fX2_canReach_j52 u v2 1
def fX2_canReach_j33 (u : zs_T) (v1 : Int32) (t0 : Int32) : Option Int32 :=
  (if v1 = (-1) then fX2_canReach_j47 u t0 else (if zs_i u 5 = (-1) then fX2_canReach_j47 u t0 else fX2_canReach_j52 u t0 0))
def fX2_canReach_j15 (u : zs_T) (v1 : Int32) : Option Int32 :=
  (if zr_iabs (v1 - (zs_i u 5)) = 1 then fX2_canReach_j33 u v1 1 else fX2_canReach_j33 u v1 0)
def fX2_canReach (u : zs_T) (v1 : Int32) : Option Int32 :=
  (if v1 = (-1) then fX2_canReach_j15 u v1 else (zf_bp (fX2_has u v1) fun r3 => (if r3 = 0 then some 0 else fX2_canReach_j15 u v1)))
set_option maxHeartbeats 4000000 in
set_option maxRecDepth 100000 in
theorem kX2_canReach (l : Launch) (D : va_G) (q : Nat → Nat) (cs : Nat → ClassId) (u : zs_T) (v1 : Int32) (z : Int32) (hf : fX2_canReach u v1 = some z) : zg_Ci l yX2_canReach cX2_canReach 4 (some .boolean) 2 D cs (wX q cs) u [.ref (q 3), .int v1] z u := by
  refine zg_Cz_of (own := RX2) (by decide) rfl wX_ad (Nat.le_of_ble_eq_true rfl) ?_
  intro p e s m args below meth c A Q C hret w ls hl
  obtain ⟨hx, hb, -⟩ := id C
  have hl : lv_has ls 4 [(0, .ref (q 3)), (1, .int v1)] := hl
  generalize hH : s.heap = H at w ⊢
  generalize hLc : ([] : List Loc) = locs at w ⊢
  have hj52 : ∀ (v2 : Int32) (t0 : Int32) (H : Heap) (locs : List Loc) (ls : Array Slot), zg_W D cs A s (wX q cs u) H locs → lv_has ls 4 [(0, .ref (q 3)), (2, .int v2)] → fX2_canReach_j52 u v2 t0 = some z → W p l e (zg_rm 2) s m args below meth c H locs 0 0 Q (F0 m 52 ls [.int t0]) := by
    intro v2 t0 H locs ls w hl hf
    unfold fX2_canReach_j52 at hf
    refine lv_istore_n (lv' := [(3, .int t0), (0, .ref (q 3)), (2, .int v2)]) hx hb dX2_canReach_52 rfl hl (by decide) rfl (fun ls hl => ?_)
    refine lv_iload_n hx hb dX2_canReach_53 rfl (lv_at hl 2 rfl) ?_
    refine lv_if_eq (tgt := 72) hx hb dX2_canReach_54 (by decide) (fun h => ?_) (fun h => ?_)
    · replace hf := zf_t h hf
      refine lv_iconst (v := 0) hx hb dX2_canReach_72 (by decide) ?_
      exact hret _ _ _ _ _ _ (by rfl) (zf_pr hf) w dX2_canReach_73
    · replace hf := zf_f h hf
      refine lv_iload_n hx hb dX2_canReach_57 rfl (lv_at hl 0 rfl) ?_
      refine lv_if_eq (tgt := 68) hx hb dX2_canReach_58 (by decide) (fun h => ?_) (fun h => ?_)
      · replace hf := zf_t h hf
        refine lv_iconst (v := 1) hx hb dX2_canReach_68 (by decide) ?_
        refine lv_goto (tgt := 73) hx hb dX2_canReach_69 (by decide) ?_
        exact hret _ _ _ _ _ _ (by rfl) (zf_pr hf) w dX2_canReach_73
      · replace hf := zf_f h hf
        refine lv_aload_n hx hb dX2_canReach_61 rfl (lv_at hl 1 rfl) ?_
        obtain ⟨r1, hc, hf⟩ := zf_bp_ex hf
        refine zc_ri wX_ad w (zc_V C w (kX2_isOpen l D q cs _ _ hc _) cf_2_isOpen ci_2_isOpen lm_2_62 rcX_3 ⟨Nat.le_of_ble_eq_true rfl, Nat.le_of_ble_eq_true rfl⟩ hl.1 rfl (Nat.le_of_ble_eq_true rfl) dX2_canReach_62 ⟨Nat.le_refl _, Nat.le_refl _⟩) (fun H locs w => ?_)
        refine lv_if_eq (tgt := 72) hx hb dX2_canReach_65 (by decide) (fun h => ?_) (fun h => ?_)
        · replace hf := zf_t h hf
          refine lv_iconst (v := 0) hx hb dX2_canReach_72 (by decide) ?_
          exact hret _ _ _ _ _ _ (by rfl) (zf_pr hf) w dX2_canReach_73
        · replace hf := zf_f h hf
          refine lv_iconst (v := 1) hx hb dX2_canReach_68 (by decide) ?_
          refine lv_goto (tgt := 73) hx hb dX2_canReach_69 (by decide) ?_
          exact hret _ _ _ _ _ _ (by rfl) (zf_pr hf) w dX2_canReach_73
  have hj47 : ∀ (v2 : Int32) (H : Heap) (locs : List Loc) (ls : Array Slot), zg_W D cs A s (wX q cs u) H locs → lv_has ls 4 [(0, .ref (q 3)), (2, .int v2)] → fX2_canReach_j47 u v2 = some z → W p l e (zg_rm 2) s m args below meth c H locs 0 0 Q (F0 m 47 ls []) := by
    intro v2 H locs ls w hl hf
    unfold fX2_canReach_j47 at hf
    refine lv_iconst (v := 1) hx hb dX2_canReach_47 (by decide) ?_
    refine lv_goto (tgt := 52) hx hb dX2_canReach_48 (by decide) ?_
    exact hj52 _ _ H locs ls w (lv_sub hl [0, 1] rfl) hf
  have hj33 : ∀ (v1 : Int32) (t0 : Int32) (H : Heap) (locs : List Loc) (ls : Array Slot), zg_W D cs A s (wX q cs u) H locs → lv_has ls 4 [(0, .ref (q 3)), (1, .int v1)] → fX2_canReach_j33 u v1 t0 = some z → W p l e (zg_rm 2) s m args below meth c H locs 0 0 Q (F0 m 33 ls [.int t0]) := by
    intro v1 t0 H locs ls w hl hf
    unfold fX2_canReach_j33 at hf
    refine lv_istore_n (lv' := [(2, .int t0), (0, .ref (q 3)), (1, .int v1)]) hx hb dX2_canReach_33 rfl hl (by decide) rfl (fun ls hl => ?_)
    refine lv_iload_n hx hb dX2_canReach_34 rfl (lv_at hl 2 rfl) ?_
    refine lv_iconst (v := (-1)) hx hb dX2_canReach_35 (by decide) ?_
    refine lv_icmp_eq (tgt := 47) hx hb dX2_canReach_36 (by decide) (fun h => ?_) (fun h => ?_)
    · replace hf := zf_t h hf
      exact hj47 _ H locs ls w (lv_sub hl [1, 0] rfl) hf
    · replace hf := zf_f h hf
      refine lv_aload_n hx hb dX2_canReach_39 rfl (lv_at hl 1 rfl) ?_
      refine xg_3_5 C w lf_2_25 dX2_canReach_40 ?_
      refine lv_iconst (v := (-1)) hx hb dX2_canReach_43 (by decide) ?_
      refine lv_icmp_ne (tgt := 51) hx hb dX2_canReach_44 (by decide) (fun h => ?_) (fun h => ?_)
      · replace hf := zf_f h hf
        refine lv_iconst (v := 0) hx hb dX2_canReach_51 (by decide) ?_
        exact hj52 _ _ H locs ls w (lv_sub hl [1, 0] rfl) hf
      · replace hf := zf_t h hf
        exact hj47 _ H locs ls w (lv_sub hl [1, 0] rfl) hf
  have hj15 : ∀ (v1 : Int32) (H : Heap) (locs : List Loc) (ls : Array Slot), zg_W D cs A s (wX q cs u) H locs → lv_has ls 4 [(0, .ref (q 3)), (1, .int v1)] → fX2_canReach_j15 u v1 = some z → W p l e (zg_rm 2) s m args below meth c H locs 0 0 Q (F0 m 15 ls []) := by
    intro v1 H locs ls w hl hf
    unfold fX2_canReach_j15 at hf
    refine lv_iload_n hx hb dX2_canReach_15 rfl (lv_at hl 1 rfl) ?_
    refine lv_aload_n hx hb dX2_canReach_16 rfl (lv_at hl 0 rfl) ?_
    refine xg_3_5 C w lf_2_25 dX2_canReach_17 ?_
    refine lv_isub hx hb dX2_canReach_20 ?_
    refine zr_abs C hl.1 lm_2_56 ⟨Nat.le_of_ble_eq_true rfl, Nat.le_of_ble_eq_true rfl⟩ ⟨Nat.le_refl _, Nat.le_refl _⟩ dX2_canReach_21 ?_
    refine lv_iconst (v := 1) hx hb dX2_canReach_24 (by decide) ?_
    refine lv_icmp_ne (tgt := 32) hx hb dX2_canReach_25 (by decide) (fun h => ?_) (fun h => ?_)
    · replace hf := zf_f h hf
      refine lv_iconst (v := 0) hx hb dX2_canReach_32 (by decide) ?_
      exact hj33 _ _ H locs ls w (lv_sub hl [0, 1] rfl) hf
    · replace hf := zf_t h hf
      refine lv_iconst (v := 1) hx hb dX2_canReach_28 (by decide) ?_
      refine lv_goto (tgt := 33) hx hb dX2_canReach_29 (by decide) ?_
      exact hj33 _ _ H locs ls w (lv_sub hl [0, 1] rfl) hf
  unfold fX2_canReach at hf
  refine lv_iload_n hx hb dX2_canReach_0 rfl (lv_at hl 1 rfl) ?_
  refine lv_iconst (v := (-1)) hx hb dX2_canReach_1 (by decide) ?_
  refine lv_icmp_eq (tgt := 15) hx hb dX2_canReach_2 (by decide) (fun h => ?_) (fun h => ?_)
  · replace hf := zf_t h hf
    exact hj15 _ H locs ls w (lv_sub hl [0, 1] rfl) hf
  · replace hf := zf_f h hf
    refine lv_aload_n hx hb dX2_canReach_5 rfl (lv_at hl 0 rfl) ?_
    refine lv_iload_n hx hb dX2_canReach_6 rfl (lv_at hl 1 rfl) ?_
    obtain ⟨r3, hc, hf⟩ := zf_bp_ex hf
    refine zc_ri wX_ad w (zc_V C w (kX2_has l D q cs _ _ _ hc _) cf_2_has ci_2_has lm_2_52 rcX_3 ⟨Nat.le_of_ble_eq_true rfl, Nat.le_of_ble_eq_true rfl⟩ hl.1 rfl (Nat.le_of_ble_eq_true rfl) dX2_canReach_7 ⟨Nat.le_refl _, Nat.le_refl _⟩) (fun H locs w => ?_)
    refine lv_if_ne (tgt := 15) hx hb dX2_canReach_10 (by decide) (fun h => ?_) (fun h => ?_)
    · replace hf := zf_f h hf
      exact hj15 _ H locs ls w (lv_sub hl [0, 1] rfl) hf
    · replace hf := zf_t h hf
      refine lv_iconst (v := 0) hx hb dX2_canReach_13 (by decide) ?_
      exact hret _ _ _ _ _ _ (by rfl) (zf_pr hf) w dX2_canReach_14
def fX2_gainOn (u : zs_T) (v1 : Int32) (v2 : Int32) : Option Int32 :=
  (if zf_in v1 6 then some ((zs_a u 5 v1.toNatClampNeg) * (v2 - (3 * v1))) else none)
set_option maxHeartbeats 4000000 in
set_option maxRecDepth 100000 in
theorem kX2_gainOn (l : Launch) (D : va_G) (q : Nat → Nat) (cs : Nat → ClassId) (u : zs_T) (v1 : Int32) (v2 : Int32) (z : Int32) (hf : fX2_gainOn u v1 v2 = some z) : zg_Ci l yX2_gainOn cX2_gainOn 3 (some .int) 0 D cs (wX q cs) u [.ref (q 3), .int v1, .int v2] z u := by
  refine zg_Ci_of (own := RX2) (by decide) rfl wX_ad (Nat.le_of_ble_eq_true rfl) ?_
  intro p e s m args below meth c A Q C hret w ls hl
  obtain ⟨hx, hb, -⟩ := id C
  have hl : lv_has ls 3 [(0, .ref (q 3)), (1, .int v1), (2, .int v2)] := hl
  generalize hH : s.heap = H at w ⊢
  generalize hLc : ([] : List Loc) = locs at w ⊢
  unfold fX2_gainOn at hf
  refine lv_aload_n hx hb dX2_gainOn_0 rfl (lv_at hl 0 rfl) ?_
  refine xg_3_2 C w lf_2_18 dX2_gainOn_1 ?_
  refine lv_iload_n hx hb dX2_gainOn_4 rfl (lv_at hl 1 rfl) ?_
  obtain ⟨hi, hf⟩ := zf_gd hf
  refine xa_14 C w hi dX2_gainOn_5 ?_
  refine lv_iload_n hx hb dX2_gainOn_6 rfl (lv_at hl 2 rfl) ?_
  refine lv_iconst (v := 3) hx hb dX2_gainOn_7 (by decide) ?_
  refine lv_iload_n hx hb dX2_gainOn_8 rfl (lv_at hl 1 rfl) ?_
  refine lv_imul hx hb dX2_gainOn_9 ?_
  refine lv_isub hx hb dX2_gainOn_10 ?_
  refine lv_imul hx hb dX2_gainOn_11 ?_
  exact hret _ _ _ _ _ _ (zf_pr hf) w dX2_gainOn_12
def fX2_grown (v0 : Int32) (v1 : Int32) (v2 : Int32) : Option Int32 :=
  (if v2 ≤ 0 then some v0 else (if v0 < v1 then some (zr_imin (v0 + v2) v1) else some v0))
set_option maxHeartbeats 4000000 in
set_option maxRecDepth 100000 in
theorem kX2_grown (l : Launch) (D : va_G) (q : Nat → Nat) (cs : Nat → ClassId) (u : zs_T) (v0 : Int32) (v1 : Int32) (v2 : Int32) (z : Int32) (hf : fX2_grown v0 v1 v2 = some z) : zg_Ci l yX2_grown cX2_grown 3 (some .int) 1 D cs (wX q cs) u [.int v0, .int v1, .int v2] z u := by
  refine zg_Ci_of (own := RX2) (by decide) rfl wX_ad (Nat.le_of_ble_eq_true rfl) ?_
  intro p e s m args below meth c A Q C hret w ls hl
  obtain ⟨hx, hb, -⟩ := id C
  have hl : lv_has ls 3 [(0, .int v0), (1, .int v1), (2, .int v2)] := hl
  generalize hH : s.heap = H at w ⊢
  generalize hLc : ([] : List Loc) = locs at w ⊢
  unfold fX2_grown at hf
  refine lv_iload_n hx hb dX2_grown_0 rfl (lv_at hl 2 rfl) ?_
  refine lv_if_le (tgt := 9) hx hb dX2_grown_1 (by decide) (fun h => ?_) (fun h => ?_)
  · replace hf := zf_t h hf
    refine lv_iload_n hx hb dX2_grown_9 rfl (lv_at hl 0 rfl) ?_
    exact hret _ _ _ _ _ _ (zf_pr hf) w dX2_grown_10
  · replace hf := zf_f h hf
    refine lv_iload_n hx hb dX2_grown_4 rfl (lv_at hl 0 rfl) ?_
    refine lv_iload_n hx hb dX2_grown_5 rfl (lv_at hl 1 rfl) ?_
    refine lv_icmp_lt (tgt := 11) hx hb dX2_grown_6 (by decide) (fun h => ?_) (fun h => ?_)
    · replace hf := zf_t h hf
      refine lv_iload_n hx hb dX2_grown_11 rfl (lv_at hl 0 rfl) ?_
      refine lv_iload_n hx hb dX2_grown_12 rfl (lv_at hl 2 rfl) ?_
      refine lv_iadd hx hb dX2_grown_13 ?_
      refine lv_iload_n hx hb dX2_grown_14 rfl (lv_at hl 1 rfl) ?_
      refine zr_min C hl.1 lm_2_80 ⟨Nat.le_of_ble_eq_true rfl, Nat.le_of_ble_eq_true rfl⟩ ⟨Nat.le_refl _, Nat.le_refl _⟩ dX2_grown_15 ?_
      exact hret _ _ _ _ _ _ (zf_pr hf) w dX2_grown_18
    · replace hf := zf_f h hf
      refine lv_iload_n hx hb dX2_grown_9 rfl (lv_at hl 0 rfl) ?_
      exact hret _ _ _ _ _ _ (zf_pr hf) w dX2_grown_10
def fX2_graze (u : zs_T) (v1 : Int32) : Option zs_T :=
  (if zf_in (zs_i u 5) 6 then (if zf_in (zs_i u 5) 6 then (if zf_in (zs_i u 5) 6 then some (zs_si (zs_sl (zs_sa u 3 (upd (zs_a u 3) (zs_i u 5).toNatClampNeg ((zs_a u 3 (zs_i u 5).toNatClampNeg) - (zr_imin v1 (zs_a u 3 (zs_i u 5).toNatClampNeg))))) 0 ((zs_l (zs_sa u 3 (upd (zs_a u 3) (zs_i u 5).toNatClampNeg ((zs_a u 3 (zs_i u 5).toNatClampNeg) - (zr_imin v1 (zs_a u 3 (zs_i u 5).toNatClampNeg))))) 0) + ((zr_imin v1 (zs_a u 3 (zs_i u 5).toNatClampNeg)).toInt64))) 6 ((zs_i (zs_sl (zs_sa u 3 (upd (zs_a u 3) (zs_i u 5).toNatClampNeg ((zs_a u 3 (zs_i u 5).toNatClampNeg) - (zr_imin v1 (zs_a u 3 (zs_i u 5).toNatClampNeg))))) 0 ((zs_l (zs_sa u 3 (upd (zs_a u 3) (zs_i u 5).toNatClampNeg ((zs_a u 3 (zs_i u 5).toNatClampNeg) - (zr_imin v1 (zs_a u 3 (zs_i u 5).toNatClampNeg))))) 0) + ((zr_imin v1 (zs_a u 3 (zs_i u 5).toNatClampNeg)).toInt64))) 6) + (v1 - (zr_imin v1 (zs_a u 3 (zs_i u 5).toNatClampNeg))))) else none) else none) else none)
set_option maxHeartbeats 4000000 in
set_option maxRecDepth 100000 in
theorem kX2_graze (l : Launch) (D : va_G) (q : Nat → Nat) (cs : Nat → ClassId) (u : zs_T) (v1 : Int32) (z : zs_T) (hf : fX2_graze u v1 = some z) : zg_Cv l yX2_graze cX2_graze 3 none 1 D cs (wX q cs) u [.ref (q 3), .int v1] z := by
  refine zg_Cv_of (own := RX2) (by decide) rfl wX_ad (Nat.le_of_ble_eq_true rfl) ?_
  intro p e s m args below meth c A Q C hret w ls hl
  obtain ⟨hx, hb, -⟩ := id C
  have hl : lv_has ls 3 [(0, .ref (q 3)), (1, .int v1)] := hl
  generalize hH : s.heap = H at w ⊢
  generalize hLc : ([] : List Loc) = locs at w ⊢
  unfold fX2_graze at hf
  refine lv_iload_n hx hb dX2_graze_0 rfl (lv_at hl 1 rfl) ?_
  refine lv_aload_n hx hb dX2_graze_1 rfl (lv_at hl 0 rfl) ?_
  refine xg_3_0 C w lf_2_9 dX2_graze_2 ?_
  refine lv_aload_n hx hb dX2_graze_5 rfl (lv_at hl 0 rfl) ?_
  refine xg_3_5 C w lf_2_25 dX2_graze_6 ?_
  obtain ⟨hi, hf⟩ := zf_gd hf
  refine xa_12 C w hi dX2_graze_9 ?_
  refine zr_min C hl.1 lm_2_80 ⟨Nat.le_of_ble_eq_true rfl, Nat.le_of_ble_eq_true rfl⟩ ⟨Nat.le_refl _, Nat.le_refl _⟩ dX2_graze_10 ?_
  refine lv_istore_n (lv' := [(2, .int (zr_imin v1 (zs_a u 3 (zs_i u 5).toNatClampNeg))), (0, .ref (q 3)), (1, .int v1)]) hx hb dX2_graze_13 rfl hl (by decide) rfl (fun ls hl => ?_)
  refine lv_aload_n hx hb dX2_graze_14 rfl (lv_at hl 1 rfl) ?_
  refine xg_3_0 C w lf_2_9 dX2_graze_15 ?_
  refine lv_aload_n hx hb dX2_graze_18 rfl (lv_at hl 1 rfl) ?_
  refine xg_3_5 C w lf_2_25 dX2_graze_19 ?_
  refine lv_dup2_11 hx hb dX2_graze_22 rfl rfl ?_
  obtain ⟨hi, hf⟩ := zf_gd hf
  refine xa_12 C w hi dX2_graze_23 ?_
  refine lv_iload_n hx hb dX2_graze_24 rfl (lv_at hl 0 rfl) ?_
  refine lv_isub hx hb dX2_graze_25 ?_
  obtain ⟨hi, hf⟩ := zf_gd hf
  refine xs_12 C w hi dX2_graze_26 (fun H locs w => ?_)
  refine lv_aload_n hx hb dX2_graze_27 rfl (lv_at hl 1 rfl) ?_
  refine lv_dup hx hb dX2_graze_28 rfl ?_
  refine xg_3_7 C w lf_2_31 dX2_graze_29 ?_
  refine lv_iload_n hx hb dX2_graze_32 rfl (lv_at hl 0 rfl) ?_
  refine lv_i2l hx hb dX2_graze_33 rfl ?_
  refine lv_ladd hx hb dX2_graze_34 ?_
  refine xp_3_7 C w lf_2_31 dX2_graze_35 (fun H locs w => ?_)
  refine lv_aload_n hx hb dX2_graze_38 rfl (lv_at hl 1 rfl) ?_
  refine lv_dup hx hb dX2_graze_39 rfl ?_
  refine xg_3_6 C w lf_2_28 dX2_graze_40 ?_
  refine lv_iload_n hx hb dX2_graze_43 rfl (lv_at hl 2 rfl) ?_
  refine lv_iload_n hx hb dX2_graze_44 rfl (lv_at hl 0 rfl) ?_
  refine lv_isub hx hb dX2_graze_45 ?_
  refine lv_iadd hx hb dX2_graze_46 ?_
  refine xp_3_6 C w lf_2_28 dX2_graze_47 (fun H locs w => ?_)
  exact hret _ _ _ _ _ hf w dX2_graze_50
def fX2_passDay_j79 (N : Nat) (u : zs_T) (v3 : Int32) : Option zs_T :=
  (if zs_i u 5 = (-1) then some u else (zf_bv (fX2_graze u (10 * v3)) fun u2 => some u2))
def fX2_passDay_b33 (N : Nat) (v1 : Int32) (v3 : Int32) (ag33 : zs_T → Int32 → Option zs_T) (u : zs_T) (v4 : Int32) : Option zs_T :=
  (if zs_i u 3 ≤ v4 then fX2_passDay_j79 N u v3 else (if zf_in v4 6 then (if zf_in v4 6 then (zf_bp (fX2_gainOn u v4 v1) fun r3 => (zf_bp (fX2_grown (zs_a u 3 v4.toNatClampNeg) (zs_a u 4 v4.toNatClampNeg) r3) fun r5 => (if zf_in v4 6 then ag33 (zs_sa u 3 (upd (zs_a u 3) v4.toNatClampNeg r5)) (v4 + 1) else none))) else none) else none))
def fX2_passDay_j30 (N : Nat) (u : zs_T) (v1 : Int32) (v3 : Int32) : Option zs_T :=
  zf_loop (fun ag x => fX2_passDay_b33 N v1 v3 (fun u v4 => ag (u, v4)) x.1 x.2) N (u, 0)
def fX2_passDay (N : Nat) (u : zs_T) (v1 : Int32) (v2 : Int32) (v3 : Int32) : Option zs_T :=
  (if v1 ≤ 0 then fX2_passDay_j30 N (zs_si u 4 ((zs_i u 4) + v2)) v1 v3 else fX2_passDay_j30 N (zs_si (zs_si u 4 ((zs_i u 4) + v2)) 4 (zr_imax 0 ((zs_i (zs_si u 4 ((zs_i u 4) + v2)) 4) - (4 * v1)))) v1 v3)
set_option maxHeartbeats 4000000 in
set_option maxRecDepth 100000 in
theorem kX2_passDay (l : Launch) (D : va_G) (q : Nat → Nat) (cs : Nat → ClassId) (N : Nat) (u : zs_T) (v1 : Int32) (v2 : Int32) (v3 : Int32) (z : zs_T) (hf : fX2_passDay N u v1 v2 v3 = some z) : zg_Cv l yX2_passDay cX2_passDay 5 none 2 D cs (wX q cs) u [.ref (q 3), .int v1, .int v2, .int v3] z := by
  refine zg_Cv_of (own := RX2) (by decide) rfl wX_ad (Nat.le_of_ble_eq_true rfl) ?_
  intro p e s m args below meth c A Q C hret w ls hl
  obtain ⟨hx, hb, -⟩ := id C
  have hl : lv_has ls 5 [(0, .ref (q 3)), (1, .int v1), (2, .int v2), (3, .int v3)] := hl
  generalize hH : s.heap = H at w ⊢
  generalize hLc : ([] : List Loc) = locs at w ⊢
  have hj79 : ∀ (u : zs_T) (v3 : Int32) (H : Heap) (locs : List Loc) (ls : Array Slot), zg_W D cs A s (wX q cs u) H locs → lv_has ls 5 [(0, .ref (q 3)), (3, .int v3)] → fX2_passDay_j79 N u v3 = some z → W p l e (zg_rm 2) s m args below meth c H locs 0 0 Q (F0 m 79 ls []) := by
    intro u v3 H locs ls w hl hf
    unfold fX2_passDay_j79 at hf
    refine lv_aload_n hx hb dX2_passDay_79 rfl (lv_at hl 0 rfl) ?_
    refine xg_3_5 C w lf_2_25 dX2_passDay_80 ?_
    refine lv_iconst (v := (-1)) hx hb dX2_passDay_83 (by decide) ?_
    refine lv_icmp_eq (tgt := 95) hx hb dX2_passDay_84 (by decide) (fun h => ?_) (fun h => ?_)
    · replace hf := zf_t h hf
      exact hret _ _ _ _ _ hf w dX2_passDay_95
    · replace hf := zf_f h hf
      refine lv_aload_n hx hb dX2_passDay_87 rfl (lv_at hl 0 rfl) ?_
      refine lv_bipush (v := 10) hx hb dX2_passDay_88 (by decide) ?_
      refine lv_iload_n hx hb dX2_passDay_90 rfl (lv_at hl 1 rfl) ?_
      refine lv_imul hx hb dX2_passDay_91 ?_
      obtain ⟨u2, hc, hf⟩ := zf_bv_ex hf
      refine zc_rv wX_ad w (zc_V C w (kX2_graze l D q cs _ _ _ hc _) cf_2_graze ci_2_graze lm_2_77 rcX_3 ⟨Nat.le_of_ble_eq_true rfl, Nat.le_of_ble_eq_true rfl⟩ hl.1 rfl (Nat.le_of_ble_eq_true rfl) dX2_passDay_92 ⟨Nat.le_refl _, Nat.le_refl _⟩) (fun H locs w => ?_)
      exact hret _ _ _ _ _ hf w dX2_passDay_95
  have hj30 : ∀ (u : zs_T) (v1 : Int32) (v3 : Int32) (H : Heap) (locs : List Loc) (ls : Array Slot), zg_W D cs A s (wX q cs u) H locs → lv_has ls 5 [(0, .ref (q 3)), (1, .int v1), (3, .int v3)] → fX2_passDay_j30 N u v1 v3 = some z → W p l e (zg_rm 2) s m args below meth c H locs 0 0 Q (F0 m 30 ls []) := by
    intro u v1 v3 H locs ls w hl hf
    unfold fX2_passDay_j30 at hf
    refine lv_iconst (v := 0) hx hb dX2_passDay_30 (by decide) ?_
    refine lv_istore (lv' := [(4, .int 0), (0, .ref (q 3)), (1, .int v1), (3, .int v3)]) hx hb dX2_passDay_31 hl (by decide) rfl (fun ls hl => ?_)
    have lp33 : ∀ (v1 : Int32) (v3 : Int32) (n : Nat) (x : zs_T × Int32), zf_loop (fun ag x => fX2_passDay_b33 N v1 v3 (fun u v4 => ag (u, v4)) x.1 x.2) n x = some z → ∀ (H : Heap) (locs : List Loc) (ls : Array Slot), zg_W D cs A s (wX q cs x.1) H locs → lv_has ls 5 [(0, .ref (q 3)), (1, .int v1), (3, .int v3), (4, .int x.2)] → W p l e (zg_rm 2) s m args below meth c H locs 0 0 Q (F0 m 33 ls []) := by
      intro v1 v3
      refine zf_loop_W (fun x : zs_T × Int32 => ∀ (H : Heap) (locs : List Loc) (ls : Array Slot), zg_W D cs A s (wX q cs x.1) H locs → lv_has ls 5 [(0, .ref (q 3)), (1, .int v1), (3, .int v3), (4, .int x.2)] → W p l e (zg_rm 2) s m args below meth c H locs 0 0 Q (F0 m 33 ls [])) ?_
      intro ag33 x hag33 hf
      obtain ⟨u, v4⟩ := x
      intro H locs ls w hl
      replace hf : fX2_passDay_b33 N v1 v3 (fun u v4 => ag33 (u, v4)) u v4 = some z := hf
      replace hl : lv_has ls 5 [(0, .ref (q 3)), (1, .int v1), (3, .int v3), (4, .int v4)] := hl
      replace w : zg_W D cs A s (wX q cs u) H locs := w
      unfold fX2_passDay_b33 at hf
      refine lv_iload hx hb dX2_passDay_33 (lv_at hl 3 rfl) ?_
      refine lv_aload_n hx hb dX2_passDay_35 rfl (lv_at hl 0 rfl) ?_
      refine xg_3_3 C w lf_2_39 dX2_passDay_36 ?_
      refine lv_icmp_ge (tgt := 79) hx hb dX2_passDay_39 (by decide) (fun h => ?_) (fun h => ?_)
      · replace hf := zf_t h hf
        exact hj79 _ _ H locs ls w (lv_sub hl [0, 2] rfl) hf
      · replace hf := zf_f h hf
        refine lv_aload_n hx hb dX2_passDay_42 rfl (lv_at hl 0 rfl) ?_
        refine xg_3_0 C w lf_2_9 dX2_passDay_43 ?_
        refine lv_iload hx hb dX2_passDay_46 (lv_at hl 3 rfl) ?_
        refine lv_aload_n hx hb dX2_passDay_48 rfl (lv_at hl 0 rfl) ?_
        refine xg_3_0 C w lf_2_9 dX2_passDay_49 ?_
        refine lv_iload hx hb dX2_passDay_52 (lv_at hl 3 rfl) ?_
        obtain ⟨hi, hf⟩ := zf_gd hf
        refine xa_12 C w hi dX2_passDay_54 ?_
        refine lv_aload_n hx hb dX2_passDay_55 rfl (lv_at hl 0 rfl) ?_
        refine xg_3_1 C w lf_2_15 dX2_passDay_56 ?_
        refine lv_iload hx hb dX2_passDay_59 (lv_at hl 3 rfl) ?_
        obtain ⟨hi, hf⟩ := zf_gd hf
        refine xa_13 C w hi dX2_passDay_61 ?_
        refine lv_aload_n hx hb dX2_passDay_62 rfl (lv_at hl 0 rfl) ?_
        refine lv_iload hx hb dX2_passDay_63 (lv_at hl 3 rfl) ?_
        refine lv_iload_n hx hb dX2_passDay_65 rfl (lv_at hl 1 rfl) ?_
        obtain ⟨r3, hc, hf⟩ := zf_bp_ex hf
        refine zc_ri wX_ad w (zc_V C w (kX2_gainOn l D q cs _ _ _ _ hc _) cf_2_gainOn ci_2_gainOn lm_2_70 rcX_3 ⟨Nat.le_of_ble_eq_true rfl, Nat.le_of_ble_eq_true rfl⟩ hl.1 rfl (Nat.le_of_ble_eq_true rfl) dX2_passDay_66 ⟨Nat.le_refl _, Nat.le_refl _⟩) (fun H locs w => ?_)
        obtain ⟨r5, hc, hf⟩ := zf_bp_ex hf
        refine zc_ri wX_ad w (zc_S C w (kX2_grown l D q cs _ _ _ _ _ hc _) cf_2_grown ci_2_grown lm_2_73 ⟨Nat.le_of_ble_eq_true rfl, Nat.le_of_ble_eq_true rfl⟩ hl.1 rfl (Nat.le_of_ble_eq_true rfl) dX2_passDay_69 ⟨Nat.le_refl _, Nat.le_refl _⟩) (fun H locs w => ?_)
        obtain ⟨hi, hf⟩ := zf_gd hf
        refine xs_12 C w hi dX2_passDay_72 (fun H locs w => ?_)
        refine lv_iinc (v := v4 + 1) (lv' := [(4, .int (v4 + 1)), (0, .ref (q 3)), (1, .int v1), (3, .int v3)]) hx hb dX2_passDay_73 hl (k := 3) rfl rfl (by decide) rfl (fun ls hl => ?_)
        refine lv_goto (tgt := 33) hx hb dX2_passDay_76 (by decide) ?_
        exact hag33 (zs_sa u 3 (upd (zs_a u 3) v4.toNatClampNeg r5), v4 + 1) hf H locs ls w (lv_sub hl [1, 2, 3, 0] rfl)
    exact lp33 _ _ _ _ hf H locs ls w (lv_sub hl [1, 2, 3, 0] rfl)
  unfold fX2_passDay at hf
  refine lv_aload_n hx hb dX2_passDay_0 rfl (lv_at hl 0 rfl) ?_
  refine lv_dup hx hb dX2_passDay_1 rfl ?_
  refine xg_3_4 C w lf_2_21 dX2_passDay_2 ?_
  refine lv_iload_n hx hb dX2_passDay_5 rfl (lv_at hl 2 rfl) ?_
  refine lv_iadd hx hb dX2_passDay_6 ?_
  refine xp_3_4 C w lf_2_21 dX2_passDay_7 (fun H locs w => ?_)
  refine lv_iload_n hx hb dX2_passDay_10 rfl (lv_at hl 1 rfl) ?_
  refine lv_if_le (tgt := 30) hx hb dX2_passDay_11 (by decide) (fun h => ?_) (fun h => ?_)
  · replace hf := zf_t h hf
    exact hj30 _ _ _ H locs ls w (lv_sub hl [0, 1, 3] rfl) hf
  · replace hf := zf_f h hf
    refine lv_aload_n hx hb dX2_passDay_14 rfl (lv_at hl 0 rfl) ?_
    refine lv_iconst (v := 0) hx hb dX2_passDay_15 (by decide) ?_
    refine lv_aload_n hx hb dX2_passDay_16 rfl (lv_at hl 0 rfl) ?_
    refine xg_3_4 C w lf_2_21 dX2_passDay_17 ?_
    refine lv_iconst (v := 4) hx hb dX2_passDay_20 (by decide) ?_
    refine lv_iload_n hx hb dX2_passDay_21 rfl (lv_at hl 1 rfl) ?_
    refine lv_imul hx hb dX2_passDay_22 ?_
    refine lv_isub hx hb dX2_passDay_23 ?_
    refine zr_max C hl.1 lm_2_66 ⟨Nat.le_of_ble_eq_true rfl, Nat.le_of_ble_eq_true rfl⟩ ⟨Nat.le_refl _, Nat.le_refl _⟩ dX2_passDay_24 ?_
    refine xp_3_4 C w lf_2_21 dX2_passDay_27 (fun H locs w => ?_)
    exact hj30 _ _ _ H locs ls w (lv_sub hl [0, 1, 3] rfl) hf
