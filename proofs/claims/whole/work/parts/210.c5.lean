def fX5_setFirst_n (u : zs_T) : Option zs_T :=
  some (zs_sa (zs_sa (zs_sa (zs_sa u 1 (upd (zs_a u 1) (0 : Int32).toNatClampNeg 5)) 1 (upd (zs_a (zs_sa u 1 (upd (zs_a u 1) (0 : Int32).toNatClampNeg 5)) 1) (1 : Int32).toNatClampNeg 500)) 1 (upd (zs_a (zs_sa (zs_sa u 1 (upd (zs_a u 1) (0 : Int32).toNatClampNeg 5)) 1 (upd (zs_a (zs_sa u 1 (upd (zs_a u 1) (0 : Int32).toNatClampNeg 5)) 1) (1 : Int32).toNatClampNeg 500)) 1) (2 : Int32).toNatClampNeg 40)) 1 (upd (zs_a (zs_sa (zs_sa (zs_sa u 1 (upd (zs_a u 1) (0 : Int32).toNatClampNeg 5)) 1 (upd (zs_a (zs_sa u 1 (upd (zs_a u 1) (0 : Int32).toNatClampNeg 5)) 1) (1 : Int32).toNatClampNeg 500)) 1 (upd (zs_a (zs_sa (zs_sa u 1 (upd (zs_a u 1) (0 : Int32).toNatClampNeg 5)) 1 (upd (zs_a (zs_sa u 1 (upd (zs_a u 1) (0 : Int32).toNatClampNeg 5)) 1) (1 : Int32).toNatClampNeg 500)) 1) (2 : Int32).toNatClampNeg 40)) 1) (3 : Int32).toNatClampNeg 90))
set_option maxHeartbeats 4000000 in
set_option maxRecDepth 100000 in
theorem kX5_setFirst_n (l : Launch) (D : va_G) (q : Nat → Nat) (cs : Nat → ClassId) (u : zs_T) (z : zs_T) (hf : fX5_setFirst_n u = some z) : zg_Cv l yX5_setFirst cX5_setFirst 1 none 0 D cs (wX q cs) u [.ref (q 10)] z := by
  refine zg_Cv_of (own := RX5) (by decide) rfl wX_ad (Nat.le_of_ble_eq_true rfl) ?_
  intro p e s m args below meth c A Q C hret w ls hl
  obtain ⟨hx, hb, -⟩ := id C
  have hl : lv_has ls 1 [(0, .ref (q 10))] := hl
  generalize hH : s.heap = H at w ⊢
  generalize hLc : ([] : List Loc) = locs at w ⊢
  unfold fX5_setFirst_n at hf
  refine lv_aload_n hx hb dX5_setFirst_0 rfl (lv_at hl 0 rfl) ?_
  refine lv_iconst (v := 0) hx hb dX5_setFirst_1 (by decide) ?_
  refine lv_iconst (v := 5) hx hb dX5_setFirst_2 (by decide) ?_
  refine xs_10 C w (by decide) dX5_setFirst_3 (fun H locs w => ?_)
  refine lv_aload_n hx hb dX5_setFirst_4 rfl (lv_at hl 0 rfl) ?_
  refine lv_iconst (v := 1) hx hb dX5_setFirst_5 (by decide) ?_
  refine lv_sipush (v := 500) hx hb dX5_setFirst_6 (by decide) ?_
  refine xs_10 C w (by decide) dX5_setFirst_9 (fun H locs w => ?_)
  refine lv_aload_n hx hb dX5_setFirst_10 rfl (lv_at hl 0 rfl) ?_
  refine lv_iconst (v := 2) hx hb dX5_setFirst_11 (by decide) ?_
  refine lv_bipush (v := 40) hx hb dX5_setFirst_12 (by decide) ?_
  refine xs_10 C w (by decide) dX5_setFirst_14 (fun H locs w => ?_)
  refine lv_aload_n hx hb dX5_setFirst_15 rfl (lv_at hl 0 rfl) ?_
  refine lv_iconst (v := 3) hx hb dX5_setFirst_16 (by decide) ?_
  refine lv_bipush (v := 90) hx hb dX5_setFirst_17 (by decide) ?_
  refine xs_10 C w (by decide) dX5_setFirst_19 (fun H locs w => ?_)
  exact hret _ _ _ _ _ hf w dX5_setFirst_20
def fX5_setFirst_d (u : zs_T) : Option zs_T :=
  some (zs_sa (zs_sa (zs_sa (zs_sa u 2 (upd (zs_a u 2) (0 : Int32).toNatClampNeg 5)) 2 (upd (zs_a (zs_sa u 2 (upd (zs_a u 2) (0 : Int32).toNatClampNeg 5)) 2) (1 : Int32).toNatClampNeg 500)) 2 (upd (zs_a (zs_sa (zs_sa u 2 (upd (zs_a u 2) (0 : Int32).toNatClampNeg 5)) 2 (upd (zs_a (zs_sa u 2 (upd (zs_a u 2) (0 : Int32).toNatClampNeg 5)) 2) (1 : Int32).toNatClampNeg 500)) 2) (2 : Int32).toNatClampNeg 40)) 2 (upd (zs_a (zs_sa (zs_sa (zs_sa u 2 (upd (zs_a u 2) (0 : Int32).toNatClampNeg 5)) 2 (upd (zs_a (zs_sa u 2 (upd (zs_a u 2) (0 : Int32).toNatClampNeg 5)) 2) (1 : Int32).toNatClampNeg 500)) 2 (upd (zs_a (zs_sa (zs_sa u 2 (upd (zs_a u 2) (0 : Int32).toNatClampNeg 5)) 2 (upd (zs_a (zs_sa u 2 (upd (zs_a u 2) (0 : Int32).toNatClampNeg 5)) 2) (1 : Int32).toNatClampNeg 500)) 2) (2 : Int32).toNatClampNeg 40)) 2) (3 : Int32).toNatClampNeg 90))
set_option maxHeartbeats 4000000 in
set_option maxRecDepth 100000 in
theorem kX5_setFirst_d (l : Launch) (D : va_G) (q : Nat → Nat) (cs : Nat → ClassId) (u : zs_T) (z : zs_T) (hf : fX5_setFirst_d u = some z) : zg_Cv l yX5_setFirst cX5_setFirst 1 none 0 D cs (wX q cs) u [.ref (q 11)] z := by
  refine zg_Cv_of (own := RX5) (by decide) rfl wX_ad (Nat.le_of_ble_eq_true rfl) ?_
  intro p e s m args below meth c A Q C hret w ls hl
  obtain ⟨hx, hb, -⟩ := id C
  have hl : lv_has ls 1 [(0, .ref (q 11))] := hl
  generalize hH : s.heap = H at w ⊢
  generalize hLc : ([] : List Loc) = locs at w ⊢
  unfold fX5_setFirst_d at hf
  refine lv_aload_n hx hb dX5_setFirst_0 rfl (lv_at hl 0 rfl) ?_
  refine lv_iconst (v := 0) hx hb dX5_setFirst_1 (by decide) ?_
  refine lv_iconst (v := 5) hx hb dX5_setFirst_2 (by decide) ?_
  refine xs_11 C w (by decide) dX5_setFirst_3 (fun H locs w => ?_)
  refine lv_aload_n hx hb dX5_setFirst_4 rfl (lv_at hl 0 rfl) ?_
  refine lv_iconst (v := 1) hx hb dX5_setFirst_5 (by decide) ?_
  refine lv_sipush (v := 500) hx hb dX5_setFirst_6 (by decide) ?_
  refine xs_11 C w (by decide) dX5_setFirst_9 (fun H locs w => ?_)
  refine lv_aload_n hx hb dX5_setFirst_10 rfl (lv_at hl 0 rfl) ?_
  refine lv_iconst (v := 2) hx hb dX5_setFirst_11 (by decide) ?_
  refine lv_bipush (v := 40) hx hb dX5_setFirst_12 (by decide) ?_
  refine xs_11 C w (by decide) dX5_setFirst_14 (fun H locs w => ?_)
  refine lv_aload_n hx hb dX5_setFirst_15 rfl (lv_at hl 0 rfl) ?_
  refine lv_iconst (v := 3) hx hb dX5_setFirst_16 (by decide) ?_
  refine lv_bipush (v := 90) hx hb dX5_setFirst_17 (by decide) ?_
  refine xs_11 C w (by decide) dX5_setFirst_19 (fun H locs w => ?_)
  exact hret _ _ _ _ _ hf w dX5_setFirst_20
def fX5_letterOf (v0 : Int32) : Option Int32 :=
  (if v0 = 108 then some 0 else (if v0 = 109 then some 1 else (if v0 = 118 then some 3 else (if v0 = 119 then some 2 else some (-1)))))
set_option maxHeartbeats 4000000 in
set_option maxRecDepth 100000 in
theorem kX5_letterOf (l : Launch) (D : va_G) (q : Nat → Nat) (cs : Nat → ClassId) (u : zs_T) (v0 : Int32) (z : Int32) (hf : fX5_letterOf v0 = some z) : zg_Ci l yX5_letterOf cX5_letterOf 1 (some .int) 0 D cs (wX q cs) u [.int v0] z u := by
  refine zg_Ci_of (own := RX5) (by decide) rfl wX_ad (Nat.le_of_ble_eq_true rfl) ?_
  intro p e s m args below meth c A Q C hret w ls hl
  obtain ⟨hx, hb, -⟩ := id C
  have hl : lv_has ls 1 [(0, .int v0)] := hl
  generalize hH : s.heap = H at w ⊢
  generalize hLc : ([] : List Loc) = locs at w ⊢
  unfold fX5_letterOf at hf
  refine lv_iload_n hx hb dX5_letterOf_0 rfl (lv_at hl 0 rfl) ?_
  by_cases hs1 : v0 = 108
  · replace hf := zf_t hs1 hf
    refine lv_lookup (off := 43) (tgt := 44) hx hb dX5_letterOf_1 (by decide) (by rw [hs1]; decide) (by decide) ?_
    refine lv_iconst (v := 0) hx hb dX5_letterOf_44 (by decide) ?_
    exact hret _ _ _ _ _ _ (zf_pr hf) w dX5_letterOf_45
  · replace hf := zf_f hs1 hf
    by_cases hs2 : v0 = 109
    · replace hf := zf_t hs2 hf
      refine lv_lookup (off := 45) (tgt := 46) hx hb dX5_letterOf_1 (by decide) (by rw [hs2]; decide) (by decide) ?_
      refine lv_iconst (v := 1) hx hb dX5_letterOf_46 (by decide) ?_
      exact hret _ _ _ _ _ _ (zf_pr hf) w dX5_letterOf_47
    · replace hf := zf_f hs2 hf
      by_cases hs3 : v0 = 118
      · replace hf := zf_t hs3 hf
        refine lv_lookup (off := 49) (tgt := 50) hx hb dX5_letterOf_1 (by decide) (by rw [hs3]; decide) (by decide) ?_
        refine lv_iconst (v := 3) hx hb dX5_letterOf_50 (by decide) ?_
        exact hret _ _ _ _ _ _ (zf_pr hf) w dX5_letterOf_51
      · replace hf := zf_f hs3 hf
        by_cases hs4 : v0 = 119
        · replace hf := zf_t hs4 hf
          refine lv_lookup (off := 47) (tgt := 48) hx hb dX5_letterOf_1 (by decide) (by rw [hs4]; decide) (by decide) ?_
          refine lv_iconst (v := 2) hx hb dX5_letterOf_48 (by decide) ?_
          exact hret _ _ _ _ _ _ (zf_pr hf) w dX5_letterOf_49
        · replace hf := zf_f hs4 hf
          have e_hs1 : v0.toInt ≠ 108 := zf_ne hs1
          have e_hs2 : v0.toInt ≠ 109 := zf_ne hs2
          have e_hs3 : v0.toInt ≠ 118 := zf_ne hs3
          have e_hs4 : v0.toInt ≠ 119 := zf_ne hs4
          refine lv_lookup (off := 51) (tgt := 52) hx hb dX5_letterOf_1 (by decide) (by simp [Op.lookupswitch.offset, e_hs1, Ne.symm e_hs1, e_hs2, Ne.symm e_hs2, e_hs3, Ne.symm e_hs3, e_hs4, Ne.symm e_hs4]) (by decide) ?_
          refine lv_iconst (v := (-1)) hx hb dX5_letterOf_52 (by decide) ?_
          exact hret _ _ _ _ _ _ (zf_pr hf) w dX5_letterOf_53
def fX5_fault (v0 : Int32) (v1 : Int32) : Option Int32 :=
  some ((100 * v0) + v1)
set_option maxHeartbeats 4000000 in
set_option maxRecDepth 100000 in
theorem kX5_fault (l : Launch) (D : va_G) (q : Nat → Nat) (cs : Nat → ClassId) (u : zs_T) (v0 : Int32) (v1 : Int32) (z : Int32) (hf : fX5_fault v0 v1 = some z) : zg_Ci l yX5_fault cX5_fault 2 (some .int) 0 D cs (wX q cs) u [.int v0, .int v1] z u := by
  refine zg_Ci_of (own := RX5) (by decide) rfl wX_ad (Nat.le_of_ble_eq_true rfl) ?_
  intro p e s m args below meth c A Q C hret w ls hl
  obtain ⟨hx, hb, -⟩ := id C
  have hl : lv_has ls 2 [(0, .int v0), (1, .int v1)] := hl
  generalize hH : s.heap = H at w ⊢
  generalize hLc : ([] : List Loc) = locs at w ⊢
  unfold fX5_fault at hf
  refine lv_bipush (v := 100) hx hb dX5_fault_0 (by decide) ?_
  refine lv_iload_n hx hb dX5_fault_2 rfl (lv_at hl 0 rfl) ?_
  refine lv_imul hx hb dX5_fault_3 ?_
  refine lv_iload_n hx hb dX5_fault_4 rfl (lv_at hl 1 rfl) ?_
  refine lv_iadd hx hb dX5_fault_5 ?_
  exact hret _ _ _ _ _ _ (zf_pr hf) w dX5_fault_6
def fX5_isDigit (v0 : Int32) : Option Int32 :=
  (zf_bp (fX8_within v0 48 57) fun r1 => (if zf_z r1 then some r1 else none))
set_option maxHeartbeats 4000000 in
set_option maxRecDepth 100000 in
theorem kX5_isDigit (l : Launch) (D : va_G) (q : Nat → Nat) (cs : Nat → ClassId) (u : zs_T) (v0 : Int32) (z : Int32) (hf : fX5_isDigit v0 = some z) : zg_Ci l yX5_isDigit cX5_isDigit 1 (some .boolean) 1 D cs (wX q cs) u [.int v0] z u := by
  refine zg_Cz_of (own := RX5) (by decide) rfl wX_ad (Nat.le_of_ble_eq_true rfl) ?_
  intro p e s m args below meth c A Q C hret w ls hl
  obtain ⟨hx, hb, -⟩ := id C
  have hl : lv_has ls 1 [(0, .int v0)] := hl
  generalize hH : s.heap = H at w ⊢
  generalize hLc : ([] : List Loc) = locs at w ⊢
  unfold fX5_isDigit at hf
  refine lv_iload_n hx hb dX5_isDigit_0 rfl (lv_at hl 0 rfl) ?_
  refine lv_bipush (v := 48) hx hb dX5_isDigit_1 (by decide) ?_
  refine lv_bipush (v := 57) hx hb dX5_isDigit_3 (by decide) ?_
  obtain ⟨r1, hc, hf⟩ := zf_bp_ex hf
  refine zc_ri wX_ad w (zc_SN C w (kX8_within l D q cs _ _ _ _ _ hc _) cf_8_within ci_8_within lm_5_52 ⟨Nat.le_of_ble_eq_true rfl, Nat.le_of_ble_eq_true rfl⟩ hl.1 rfl (Nat.le_of_ble_eq_true rfl) dX5_isDigit_5 ⟨Nat.le_refl _, Nat.le_refl _⟩) (fun H locs w => ?_)
  obtain ⟨hz, hf⟩ := zf_gd hf
  exact hret _ _ _ _ _ _ hz (zf_pr hf) w dX5_isDigit_8
def fX5_digitsEnd_b11 (N : Nat) (u : zs_T) (v3 : Int32) (ag11 : Int32 → Option Int32) (v4 : Int32) : Option Int32 :=
  (if v3 ≤ v4 then some v4 else (if zf_in v4 40 then (zf_bp (fX5_isDigit (zs_a u 0 v4.toNatClampNeg)) fun r1 => (if r1 = 0 then some v4 else ag11 (v4 + 1))) else none))
def fX5_digitsEnd (N : Nat) (u : zs_T) (v1 : Int32) (v2 : Int32) : Option Int32 :=
  zf_loop (fun ag x => fX5_digitsEnd_b11 N u (zr_imin v1 (v2 + 4)) (fun v4 => ag v4) x) N v2
set_option maxHeartbeats 4000000 in
set_option maxRecDepth 100000 in
theorem kX5_digitsEnd (l : Launch) (D : va_G) (q : Nat → Nat) (cs : Nat → ClassId) (N : Nat) (u : zs_T) (v1 : Int32) (v2 : Int32) (z : Int32) (hf : fX5_digitsEnd N u v1 v2 = some z) : zg_Ci l yX5_digitsEnd cX5_digitsEnd 5 (some .int) 2 D cs (wX q cs) u [.ref (q 1), .int v1, .int v2] z u := by
  refine zg_Ci_of (own := RX5) (by decide) rfl wX_ad (Nat.le_of_ble_eq_true rfl) ?_
  intro p e s m args below meth c A Q C hret w ls hl
  obtain ⟨hx, hb, -⟩ := id C
  have hl : lv_has ls 5 [(0, .ref (q 1)), (1, .int v1), (2, .int v2)] := hl
  generalize hH : s.heap = H at w ⊢
  generalize hLc : ([] : List Loc) = locs at w ⊢
  unfold fX5_digitsEnd at hf
  refine lv_iload_n hx hb dX5_digitsEnd_0 rfl (lv_at hl 1 rfl) ?_
  refine lv_iload_n hx hb dX5_digitsEnd_1 rfl (lv_at hl 2 rfl) ?_
  refine lv_iconst (v := 4) hx hb dX5_digitsEnd_2 (by decide) ?_
  refine lv_iadd hx hb dX5_digitsEnd_3 ?_
  refine zr_min C hl.1 lm_5_56 ⟨Nat.le_of_ble_eq_true rfl, Nat.le_of_ble_eq_true rfl⟩ ⟨Nat.le_refl _, Nat.le_refl _⟩ dX5_digitsEnd_4 ?_
  refine lv_istore_n (lv' := [(3, .int (zr_imin v1 (v2 + 4))), (0, .ref (q 1)), (1, .int v1), (2, .int v2)]) hx hb dX5_digitsEnd_7 rfl hl (by decide) rfl (fun ls hl => ?_)
  refine lv_iload_n hx hb dX5_digitsEnd_8 rfl (lv_at hl 3 rfl) ?_
  refine lv_istore (lv' := [(4, .int v2), (3, .int (zr_imin v1 (v2 + 4))), (0, .ref (q 1)), (1, .int v1), (2, .int v2)]) hx hb dX5_digitsEnd_9 hl (by decide) rfl (fun ls hl => ?_)
  have lp11 : ∀ (v3 : Int32) (n : Nat) (x : Int32), zf_loop (fun ag x => fX5_digitsEnd_b11 N u v3 (fun v4 => ag v4) x) n x = some z → ∀ (H : Heap) (locs : List Loc) (ls : Array Slot), zg_W D cs A s (wX q cs u) H locs → lv_has ls 5 [(0, .ref (q 1)), (3, .int v3), (4, .int x)] → W p l e (zg_rm 2) s m args below meth c H locs 0 0 Q (F0 m 11 ls []) := by
    intro v3
    refine zf_loop_W (fun x : Int32 => ∀ (H : Heap) (locs : List Loc) (ls : Array Slot), zg_W D cs A s (wX q cs u) H locs → lv_has ls 5 [(0, .ref (q 1)), (3, .int v3), (4, .int x)] → W p l e (zg_rm 2) s m args below meth c H locs 0 0 Q (F0 m 11 ls [])) ?_
    intro ag11 v4 hag11 hf
    intro H locs ls w hl
    replace hf : fX5_digitsEnd_b11 N u v3 (fun v4 => ag11 v4) v4 = some z := hf
    replace hl : lv_has ls 5 [(0, .ref (q 1)), (3, .int v3), (4, .int v4)] := hl
    replace w : zg_W D cs A s (wX q cs u) H locs := w
    unfold fX5_digitsEnd_b11 at hf
    refine lv_iload hx hb dX5_digitsEnd_11 (lv_at hl 2 rfl) ?_
    refine lv_iload_n hx hb dX5_digitsEnd_13 rfl (lv_at hl 1 rfl) ?_
    refine lv_icmp_ge (tgt := 36) hx hb dX5_digitsEnd_14 (by decide) (fun h => ?_) (fun h => ?_)
    · replace hf := zf_t h hf
      refine lv_iload hx hb dX5_digitsEnd_36 (lv_at hl 2 rfl) ?_
      exact hret _ _ _ _ _ _ (zf_pr hf) w dX5_digitsEnd_38
    · replace hf := zf_f h hf
      refine lv_aload_n hx hb dX5_digitsEnd_17 rfl (lv_at hl 0 rfl) ?_
      refine xg_1_0 C w lf_5_22 dX5_digitsEnd_18 ?_
      refine lv_iload hx hb dX5_digitsEnd_21 (lv_at hl 2 rfl) ?_
      obtain ⟨hi, hf⟩ := zf_gd hf
      refine xa_9 C w hi dX5_digitsEnd_23 ?_
      obtain ⟨r1, hc, hf⟩ := zf_bp_ex hf
      refine zc_ri wX_ad w (zc_S C w (kX5_isDigit l D q cs _ _ _ hc _) cf_5_isDigit ci_5_isDigit lm_5_48 ⟨Nat.le_of_ble_eq_true rfl, Nat.le_of_ble_eq_true rfl⟩ hl.1 rfl (Nat.le_of_ble_eq_true rfl) dX5_digitsEnd_24 ⟨Nat.le_refl _, Nat.le_refl _⟩) (fun H locs w => ?_)
      refine lv_if_eq (tgt := 36) hx hb dX5_digitsEnd_27 (by decide) (fun h => ?_) (fun h => ?_)
      · replace hf := zf_t h hf
        refine lv_iload hx hb dX5_digitsEnd_36 (lv_at hl 2 rfl) ?_
        exact hret _ _ _ _ _ _ (zf_pr hf) w dX5_digitsEnd_38
      · replace hf := zf_f h hf
        refine lv_iinc (v := v4 + 1) (lv' := [(4, .int (v4 + 1)), (0, .ref (q 1)), (3, .int v3)]) hx hb dX5_digitsEnd_30 hl (k := 2) rfl rfl (by decide) rfl (fun ls hl => ?_)
        refine lv_goto (tgt := 11) hx hb dX5_digitsEnd_33 (by decide) ?_
        exact hag11 (v4 + 1) hf H locs ls w (lv_sub hl [1, 2, 0] rfl)
  exact lp11 _ _ _ hf H locs ls w (lv_sub hl [2, 1, 0] rfl)
def fX5_numberAt_b5 (N : Nat) (u : zs_T) (v2 : Int32) (ag5 : Int32 → Int32 → Option Int32) (v3 : Int32) (v4 : Int32) : Option Int32 :=
  (if v2 ≤ v4 then some v3 else (if zf_in v4 40 then ag5 (((10 * v3) + (zs_a u 0 v4.toNatClampNeg)) - 48) (v4 + 1) else none))
def fX5_numberAt (N : Nat) (u : zs_T) (v1 : Int32) (v2 : Int32) : Option Int32 :=
  zf_loop (fun ag x => fX5_numberAt_b5 N u v2 (fun v3 v4 => ag (v3, v4)) x.1 x.2) N (0, v1)
set_option maxHeartbeats 4000000 in
set_option maxRecDepth 100000 in
theorem kX5_numberAt (l : Launch) (D : va_G) (q : Nat → Nat) (cs : Nat → ClassId) (N : Nat) (u : zs_T) (v1 : Int32) (v2 : Int32) (z : Int32) (hf : fX5_numberAt N u v1 v2 = some z) : zg_Ci l yX5_numberAt cX5_numberAt 5 (some .int) 0 D cs (wX q cs) u [.ref (q 1), .int v1, .int v2] z u := by
  refine zg_Ci_of (own := RX5) (by decide) rfl wX_ad (Nat.le_of_ble_eq_true rfl) ?_
  intro p e s m args below meth c A Q C hret w ls hl
  obtain ⟨hx, hb, -⟩ := id C
  have hl : lv_has ls 5 [(0, .ref (q 1)), (1, .int v1), (2, .int v2)] := hl
  generalize hH : s.heap = H at w ⊢
  generalize hLc : ([] : List Loc) = locs at w ⊢
  unfold fX5_numberAt at hf
  refine lv_iconst (v := 0) hx hb dX5_numberAt_0 (by decide) ?_
  refine lv_istore_n (lv' := [(3, .int 0), (0, .ref (q 1)), (1, .int v1), (2, .int v2)]) hx hb dX5_numberAt_1 rfl hl (by decide) rfl (fun ls hl => ?_)
  refine lv_iload_n hx hb dX5_numberAt_2 rfl (lv_at hl 2 rfl) ?_
  refine lv_istore (lv' := [(4, .int v1), (3, .int 0), (0, .ref (q 1)), (1, .int v1), (2, .int v2)]) hx hb dX5_numberAt_3 hl (by decide) rfl (fun ls hl => ?_)
  have lp5 : ∀ (v2 : Int32) (n : Nat) (x : Int32 × Int32), zf_loop (fun ag x => fX5_numberAt_b5 N u v2 (fun v3 v4 => ag (v3, v4)) x.1 x.2) n x = some z → ∀ (H : Heap) (locs : List Loc) (ls : Array Slot), zg_W D cs A s (wX q cs u) H locs → lv_has ls 5 [(0, .ref (q 1)), (2, .int v2), (3, .int x.1), (4, .int x.2)] → W p l e (zg_rm 0) s m args below meth c H locs 0 0 Q (F0 m 5 ls []) := by
    intro v2
    refine zf_loop_W (fun x : Int32 × Int32 => ∀ (H : Heap) (locs : List Loc) (ls : Array Slot), zg_W D cs A s (wX q cs u) H locs → lv_has ls 5 [(0, .ref (q 1)), (2, .int v2), (3, .int x.1), (4, .int x.2)] → W p l e (zg_rm 0) s m args below meth c H locs 0 0 Q (F0 m 5 ls [])) ?_
    intro ag5 x hag5 hf
    obtain ⟨v3, v4⟩ := x
    intro H locs ls w hl
    replace hf : fX5_numberAt_b5 N u v2 (fun v3 v4 => ag5 (v3, v4)) v3 v4 = some z := hf
    replace hl : lv_has ls 5 [(0, .ref (q 1)), (2, .int v2), (3, .int v3), (4, .int v4)] := hl
    replace w : zg_W D cs A s (wX q cs u) H locs := w
    unfold fX5_numberAt_b5 at hf
    refine lv_iload hx hb dX5_numberAt_5 (lv_at hl 3 rfl) ?_
    refine lv_iload_n hx hb dX5_numberAt_7 rfl (lv_at hl 1 rfl) ?_
    refine lv_icmp_ge (tgt := 33) hx hb dX5_numberAt_8 (by decide) (fun h => ?_) (fun h => ?_)
    · replace hf := zf_t h hf
      refine lv_iload_n hx hb dX5_numberAt_33 rfl (lv_at hl 2 rfl) ?_
      exact hret _ _ _ _ _ _ (zf_pr hf) w dX5_numberAt_34
    · replace hf := zf_f h hf
      refine lv_bipush (v := 10) hx hb dX5_numberAt_11 (by decide) ?_
      refine lv_iload_n hx hb dX5_numberAt_13 rfl (lv_at hl 2 rfl) ?_
      refine lv_imul hx hb dX5_numberAt_14 ?_
      refine lv_aload_n hx hb dX5_numberAt_15 rfl (lv_at hl 0 rfl) ?_
      refine xg_1_0 C w lf_5_22 dX5_numberAt_16 ?_
      refine lv_iload hx hb dX5_numberAt_19 (lv_at hl 3 rfl) ?_
      obtain ⟨hi, hf⟩ := zf_gd hf
      refine xa_9 C w hi dX5_numberAt_21 ?_
      refine lv_iadd hx hb dX5_numberAt_22 ?_
      refine lv_bipush (v := 48) hx hb dX5_numberAt_23 (by decide) ?_
      refine lv_isub hx hb dX5_numberAt_25 ?_
      refine lv_istore_n (lv' := [(3, .int (((10 * v3) + (zs_a u 0 v4.toNatClampNeg)) - 48)), (0, .ref (q 1)), (2, .int v2), (4, .int v4)]) hx hb dX5_numberAt_26 rfl hl (by decide) rfl (fun ls hl => ?_)
      refine lv_iinc (v := v4 + 1) (lv' := [(4, .int (v4 + 1)), (3, .int (((10 * v3) + (zs_a u 0 v4.toNatClampNeg)) - 48)), (0, .ref (q 1)), (2, .int v2)]) hx hb dX5_numberAt_27 hl (k := 3) rfl rfl (by decide) rfl (fun ls hl => ?_)
      refine lv_goto (tgt := 5) hx hb dX5_numberAt_30 (by decide) ?_
      exact hag5 (((10 * v3) + (zs_a u 0 v4.toNatClampNeg)) - 48, v4 + 1) hf H locs ls w (lv_sub hl [2, 3, 1, 0] rfl)
  exact lp5 _ _ _ hf H locs ls w (lv_sub hl [2, 4, 1, 0] rfl)
def fX5_read_j84 (N : Nat) (u : zs_T) : Option (Int32 × zs_T) :=
  (if zf_cp 0 0 4 4 4 then some (0, zs_sa u 1 (va_cpy (zs_a u 2) (zs_a u 1) (0 : Int32).toNatClampNeg (0 : Int32).toNatClampNeg (4 : Int32).toNatClampNeg)) else none)
def fX5_read_b9 (N : Nat) (v2 : Int32) (ag9 : zs_T → Int32 → Option (Int32 × zs_T)) (u : zs_T) (v3 : Int32) : Option (Int32 × zs_T) :=
  (if v2 ≤ v3 then (zf_bp (fX5_fault 1 v3) fun r3 => some (r3, u)) else (if zf_in v3 40 then (zf_bp (fX5_letterOf (zs_a u 0 v3.toNatClampNeg)) fun r5 => (if r5 = (-1) then (zf_bp (fX5_fault 1 v3) fun r19 => some (r19, u)) else (zf_bp (fX5_digitsEnd N u v2 (v3 + 1)) fun r7 => (if r7 = v3 + 1 then (zf_bp (fX5_fault 2 r7) fun r17 => some (r17, u)) else (zf_bp (fX5_numberAt N u (v3 + 1) r7) fun r9 => (if zf_in r5 4 then (if r7 < v2 then (if zf_in r7 40 then (zf_bp (fX5_isDigit (zs_a (zs_sa u 2 (upd (zs_a u 2) r5.toNatClampNeg r9)) 0 r7.toNatClampNeg)) fun r11 => (if r11 = 0 then (if zf_in r7 40 then (if zs_a (zs_sa u 2 (upd (zs_a u 2) r5.toNatClampNeg r9)) 0 r7.toNatClampNeg = 59 then ag9 (zs_sa u 2 (upd (zs_a u 2) r5.toNatClampNeg r9)) (r7 + 1) else (zf_bp (fX5_fault 4 r7) fun r13 => some (r13, zs_sa u 2 (upd (zs_a u 2) r5.toNatClampNeg r9)))) else none) else (zf_bp (fX5_fault 3 r7) fun r15 => some (r15, zs_sa u 2 (upd (zs_a u 2) r5.toNatClampNeg r9))))) else none) else fX5_read_j84 N (zs_sa u 2 (upd (zs_a u 2) r5.toNatClampNeg r9))) else none)))))) else none))
def fX5_read (N : Nat) (u : zs_T) (v2 : Int32) : Option (Int32 × zs_T) :=
  (zf_bv (fX5_setFirst_d u) fun u2 => zf_loop (fun ag x => fX5_read_b9 N v2 (fun u v3 => ag (u, v3)) x.1 x.2) N (u2, 0))
set_option maxHeartbeats 4000000 in
set_option maxRecDepth 100000 in
theorem kX5_read (l : Launch) (D : va_G) (q : Nat → Nat) (cs : Nat → ClassId) (N : Nat) (u : zs_T) (v2 : Int32) (z : (Int32 × zs_T)) (hf : fX5_read N u v2 = some z) : zg_Ci l yX5_read cX5_read 6 (some .int) 3 D cs (wX q cs) u [.ref (q 2), .ref (q 1), .int v2] z.1 z.2 := by
  refine zg_Ci_of (own := RX5) (by decide) rfl wX_ad (Nat.le_of_ble_eq_true rfl) ?_
  intro p e s m args below meth c A Q C hret w ls hl
  obtain ⟨hx, hb, -⟩ := id C
  have hl : lv_has ls 6 [(0, .ref (q 2)), (1, .ref (q 1)), (2, .int v2)] := hl
  generalize hH : s.heap = H at w ⊢
  generalize hLc : ([] : List Loc) = locs at w ⊢
  have hj84 : ∀ (u : zs_T)  (H : Heap) (locs : List Loc) (ls : Array Slot), zg_W D cs A s (wX q cs u) H locs → lv_has ls 6 [(0, .ref (q 2))] → fX5_read_j84 N u = some z → W p l e (zg_rm 3) s m args below meth c H locs 0 0 Q (F0 m 84 ls []) := by
    intro u H locs ls w hl hf
    unfold fX5_read_j84 at hf
    refine lv_aload_n hx hb dX5_read_84 rfl (lv_at hl 0 rfl) ?_
    refine xg_2_1 C w lf_5_15 dX5_read_85 ?_
    refine lv_iconst (v := 0) hx hb dX5_read_88 (by decide) ?_
    refine lv_aload_n hx hb dX5_read_89 rfl (lv_at hl 0 rfl) ?_
    refine xg_2_0 C w lf_5_9 dX5_read_90 ?_
    refine lv_iconst (v := 0) hx hb dX5_read_93 (by decide) ?_
    refine lv_iconst (v := 4) hx hb dX5_read_94 (by decide) ?_
    obtain ⟨hcp, hf⟩ := zf_gd hf
    refine zr_copy C w hl.1 wX_c11 wX_c10 lm_5_42 hcp ⟨Nat.le_of_ble_eq_true rfl, Nat.le_of_ble_eq_true rfl⟩ wX_s10 dX5_read_95 (fun H locs w => ?_)
    refine lv_iconst (v := 0) hx hb dX5_read_98 (by decide) ?_
    exact hret _ _ _ _ _ _ hf w dX5_read_99
  unfold fX5_read at hf
  refine lv_aload_n hx hb dX5_read_0 rfl (lv_at hl 0 rfl) ?_
  refine xg_2_1 C w lf_5_15 dX5_read_1 ?_
  obtain ⟨u2, hc, hf⟩ := zf_bv_ex hf
  refine zc_rv wX_ad w (zc_S C w (kX5_setFirst_d l D q cs _ _ hc _) cf_5_setFirst ci_5_setFirst lm_5_18 ⟨Nat.le_of_ble_eq_true rfl, Nat.le_of_ble_eq_true rfl⟩ hl.1 rfl (Nat.le_of_ble_eq_true rfl) dX5_read_4 ⟨Nat.le_refl _, Nat.le_refl _⟩) (fun H locs w => ?_)
  refine lv_iconst (v := 0) hx hb dX5_read_7 (by decide) ?_
  refine lv_istore_n (lv' := [(3, .int 0), (0, .ref (q 2)), (1, .ref (q 1)), (2, .int v2)]) hx hb dX5_read_8 rfl hl (by decide) rfl (fun ls hl => ?_)
  have lp9 : ∀ (v2 : Int32) (n : Nat) (x : zs_T × Int32), zf_loop (fun ag x => fX5_read_b9 N v2 (fun u v3 => ag (u, v3)) x.1 x.2) n x = some z → ∀ (H : Heap) (locs : List Loc) (ls : Array Slot), zg_W D cs A s (wX q cs x.1) H locs → lv_has ls 6 [(0, .ref (q 2)), (1, .ref (q 1)), (2, .int v2), (3, .int x.2)] → W p l e (zg_rm 3) s m args below meth c H locs 0 0 Q (F0 m 9 ls []) := by
    intro v2
    refine zf_loop_W (fun x : zs_T × Int32 => ∀ (H : Heap) (locs : List Loc) (ls : Array Slot), zg_W D cs A s (wX q cs x.1) H locs → lv_has ls 6 [(0, .ref (q 2)), (1, .ref (q 1)), (2, .int v2), (3, .int x.2)] → W p l e (zg_rm 3) s m args below meth c H locs 0 0 Q (F0 m 9 ls [])) ?_
    intro ag9 x hag9 hf
    obtain ⟨u, v3⟩ := x
    intro H locs ls w hl
    replace hf : fX5_read_b9 N v2 (fun u v3 => ag9 (u, v3)) u v3 = some z := hf
    replace hl : lv_has ls 6 [(0, .ref (q 2)), (1, .ref (q 1)), (2, .int v2), (3, .int v3)] := hl
    replace w : zg_W D cs A s (wX q cs u) H locs := w
    unfold fX5_read_b9 at hf
    refine lv_iload_n hx hb dX5_read_9 rfl (lv_at hl 3 rfl) ?_
    refine lv_iload_n hx hb dX5_read_10 rfl (lv_at hl 2 rfl) ?_
    refine lv_icmp_ge (tgt := 147) hx hb dX5_read_11 (by decide) (fun h => ?_) (fun h => ?_)
    · replace hf := zf_t h hf
      refine lv_iconst (v := 1) hx hb dX5_read_147 (by decide) ?_
      refine lv_iload_n hx hb dX5_read_148 rfl (lv_at hl 3 rfl) ?_
      obtain ⟨r3, hc, hf⟩ := zf_bp_ex hf
      refine zc_ri wX_ad w (zc_S C w (kX5_fault l D q cs _ _ _ _ hc _) cf_5_fault ci_5_fault lm_5_31 ⟨Nat.le_of_ble_eq_true rfl, Nat.le_of_ble_eq_true rfl⟩ hl.1 rfl (Nat.le_of_ble_eq_true rfl) dX5_read_149 ⟨Nat.le_refl _, Nat.le_refl _⟩) (fun H locs w => ?_)
      exact hret _ _ _ _ _ _ hf w dX5_read_152
    · replace hf := zf_f h hf
      refine lv_aload_n hx hb dX5_read_14 rfl (lv_at hl 1 rfl) ?_
      refine xg_1_0 C w lf_5_22 dX5_read_15 ?_
      refine lv_iload_n hx hb dX5_read_18 rfl (lv_at hl 3 rfl) ?_
      obtain ⟨hi, hf⟩ := zf_gd hf
      refine xa_9 C w hi dX5_read_19 ?_
      obtain ⟨r5, hc, hf⟩ := zf_bp_ex hf
      refine zc_ri wX_ad w (zc_S C w (kX5_letterOf l D q cs _ _ _ hc _) cf_5_letterOf ci_5_letterOf lm_5_27 ⟨Nat.le_of_ble_eq_true rfl, Nat.le_of_ble_eq_true rfl⟩ hl.1 rfl (Nat.le_of_ble_eq_true rfl) dX5_read_20 ⟨Nat.le_refl _, Nat.le_refl _⟩) (fun H locs w => ?_)
      refine lv_istore (lv' := [(4, .int r5), (0, .ref (q 2)), (1, .ref (q 1)), (2, .int v2), (3, .int v3)]) hx hb dX5_read_23 hl (by decide) rfl (fun ls hl => ?_)
      refine lv_iload hx hb dX5_read_25 (lv_at hl 0 rfl) ?_
      refine lv_iconst (v := (-1)) hx hb dX5_read_27 (by decide) ?_
      refine lv_icmp_ne (tgt := 37) hx hb dX5_read_28 (by decide) (fun h => ?_) (fun h => ?_)
      · replace hf := zf_f h hf
        refine lv_aload_n hx hb dX5_read_37 rfl (lv_at hl 2 rfl) ?_
        refine lv_iload_n hx hb dX5_read_38 rfl (lv_at hl 3 rfl) ?_
        refine lv_iload_n hx hb dX5_read_39 rfl (lv_at hl 4 rfl) ?_
        refine lv_iconst (v := 1) hx hb dX5_read_40 (by decide) ?_
        refine lv_iadd hx hb dX5_read_41 ?_
        obtain ⟨r7, hc, hf⟩ := zf_bp_ex hf
        refine zc_ri wX_ad w (zc_S C w (kX5_digitsEnd l D q cs N _ _ _ _ hc _) cf_5_digitsEnd ci_5_digitsEnd lm_5_35 ⟨Nat.le_of_ble_eq_true rfl, Nat.le_of_ble_eq_true rfl⟩ hl.1 rfl (Nat.le_of_ble_eq_true rfl) dX5_read_42 ⟨Nat.le_refl _, Nat.le_refl _⟩) (fun H locs w => ?_)
        refine lv_istore (lv' := [(5, .int r7), (4, .int r5), (0, .ref (q 2)), (1, .ref (q 1)), (2, .int v2), (3, .int v3)]) hx hb dX5_read_45 hl (by decide) rfl (fun ls hl => ?_)
        refine lv_iload hx hb dX5_read_47 (lv_at hl 0 rfl) ?_
        refine lv_iload_n hx hb dX5_read_49 rfl (lv_at hl 5 rfl) ?_
        refine lv_iconst (v := 1) hx hb dX5_read_50 (by decide) ?_
        refine lv_iadd hx hb dX5_read_51 ?_
        refine lv_icmp_ne (tgt := 62) hx hb dX5_read_52 (by decide) (fun h => ?_) (fun h => ?_)
        · replace hf := zf_f h hf
          refine lv_aload_n hx hb dX5_read_62 rfl (lv_at hl 2 rfl) ?_
          refine xg_2_1 C w lf_5_15 dX5_read_63 ?_
          refine lv_iload hx hb dX5_read_66 (lv_at hl 1 rfl) ?_
          refine lv_aload_n hx hb dX5_read_68 rfl (lv_at hl 3 rfl) ?_
          refine lv_iload_n hx hb dX5_read_69 rfl (lv_at hl 5 rfl) ?_
          refine lv_iconst (v := 1) hx hb dX5_read_70 (by decide) ?_
          refine lv_iadd hx hb dX5_read_71 ?_
          refine lv_iload hx hb dX5_read_72 (lv_at hl 0 rfl) ?_
          obtain ⟨r9, hc, hf⟩ := zf_bp_ex hf
          refine zc_ri wX_ad w (zc_S C w (kX5_numberAt l D q cs N _ _ _ _ hc _) cf_5_numberAt ci_5_numberAt lm_5_39 ⟨Nat.le_of_ble_eq_true rfl, Nat.le_of_ble_eq_true rfl⟩ hl.1 rfl (Nat.le_of_ble_eq_true rfl) dX5_read_74 ⟨Nat.le_refl _, Nat.le_refl _⟩) (fun H locs w => ?_)
          obtain ⟨hi, hf⟩ := zf_gd hf
          refine xs_11 C w hi dX5_read_77 (fun H locs w => ?_)
          refine lv_iload hx hb dX5_read_78 (lv_at hl 0 rfl) ?_
          refine lv_iload_n hx hb dX5_read_80 rfl (lv_at hl 4 rfl) ?_
          refine lv_icmp_lt (tgt := 100) hx hb dX5_read_81 (by decide) (fun h => ?_) (fun h => ?_)
          · replace hf := zf_t h hf
            refine lv_aload_n hx hb dX5_read_100 rfl (lv_at hl 3 rfl) ?_
            refine xg_1_0 C w lf_5_22 dX5_read_101 ?_
            refine lv_iload hx hb dX5_read_104 (lv_at hl 0 rfl) ?_
            obtain ⟨hi, hf⟩ := zf_gd hf
            refine xa_9 C w hi dX5_read_106 ?_
            obtain ⟨r11, hc, hf⟩ := zf_bp_ex hf
            refine zc_ri wX_ad w (zc_S C w (kX5_isDigit l D q cs _ _ _ hc _) cf_5_isDigit ci_5_isDigit lm_5_48 ⟨Nat.le_of_ble_eq_true rfl, Nat.le_of_ble_eq_true rfl⟩ hl.1 rfl (Nat.le_of_ble_eq_true rfl) dX5_read_107 ⟨Nat.le_refl _, Nat.le_refl _⟩) (fun H locs w => ?_)
            refine lv_if_eq (tgt := 120) hx hb dX5_read_110 (by decide) (fun h => ?_) (fun h => ?_)
            · replace hf := zf_t h hf
              refine lv_aload_n hx hb dX5_read_120 rfl (lv_at hl 3 rfl) ?_
              refine xg_1_0 C w lf_5_22 dX5_read_121 ?_
              refine lv_iload hx hb dX5_read_124 (lv_at hl 0 rfl) ?_
              obtain ⟨hi, hf⟩ := zf_gd hf
              refine xa_9 C w hi dX5_read_126 ?_
              refine lv_bipush (v := 59) hx hb dX5_read_127 (by decide) ?_
              refine lv_icmp_eq (tgt := 139) hx hb dX5_read_129 (by decide) (fun h => ?_) (fun h => ?_)
              · replace hf := zf_t h hf
                refine lv_iload hx hb dX5_read_139 (lv_at hl 0 rfl) ?_
                refine lv_iconst (v := 1) hx hb dX5_read_141 (by decide) ?_
                refine lv_iadd hx hb dX5_read_142 ?_
                refine lv_istore_n (lv' := [(3, .int (r7 + 1)), (5, .int r7), (4, .int r5), (0, .ref (q 2)), (1, .ref (q 1)), (2, .int v2)]) hx hb dX5_read_143 rfl hl (by decide) rfl (fun ls hl => ?_)
                refine lv_goto (tgt := 9) hx hb dX5_read_144 (by decide) ?_
                exact hag9 (zs_sa u 2 (upd (zs_a u 2) r5.toNatClampNeg r9), r7 + 1) hf H locs ls w (lv_sub hl [3, 4, 5, 0] rfl)
              · replace hf := zf_f h hf
                refine lv_iconst (v := 4) hx hb dX5_read_132 (by decide) ?_
                refine lv_iload hx hb dX5_read_133 (lv_at hl 0 rfl) ?_
                obtain ⟨r13, hc, hf⟩ := zf_bp_ex hf
                refine zc_ri wX_ad w (zc_S C w (kX5_fault l D q cs _ _ _ _ hc _) cf_5_fault ci_5_fault lm_5_31 ⟨Nat.le_of_ble_eq_true rfl, Nat.le_of_ble_eq_true rfl⟩ hl.1 rfl (Nat.le_of_ble_eq_true rfl) dX5_read_135 ⟨Nat.le_refl _, Nat.le_refl _⟩) (fun H locs w => ?_)
                exact hret _ _ _ _ _ _ hf w dX5_read_138
            · replace hf := zf_f h hf
              refine lv_iconst (v := 3) hx hb dX5_read_113 (by decide) ?_
              refine lv_iload hx hb dX5_read_114 (lv_at hl 0 rfl) ?_
              obtain ⟨r15, hc, hf⟩ := zf_bp_ex hf
              refine zc_ri wX_ad w (zc_S C w (kX5_fault l D q cs _ _ _ _ hc _) cf_5_fault ci_5_fault lm_5_31 ⟨Nat.le_of_ble_eq_true rfl, Nat.le_of_ble_eq_true rfl⟩ hl.1 rfl (Nat.le_of_ble_eq_true rfl) dX5_read_116 ⟨Nat.le_refl _, Nat.le_refl _⟩) (fun H locs w => ?_)
              exact hret _ _ _ _ _ _ hf w dX5_read_119
          · replace hf := zf_f h hf
            exact hj84 _ H locs ls w (lv_sub hl [2] rfl) hf
        · replace hf := zf_t h hf
          refine lv_iconst (v := 2) hx hb dX5_read_55 (by decide) ?_
          refine lv_iload hx hb dX5_read_56 (lv_at hl 0 rfl) ?_
          obtain ⟨r17, hc, hf⟩ := zf_bp_ex hf
          refine zc_ri wX_ad w (zc_S C w (kX5_fault l D q cs _ _ _ _ hc _) cf_5_fault ci_5_fault lm_5_31 ⟨Nat.le_of_ble_eq_true rfl, Nat.le_of_ble_eq_true rfl⟩ hl.1 rfl (Nat.le_of_ble_eq_true rfl) dX5_read_58 ⟨Nat.le_refl _, Nat.le_refl _⟩) (fun H locs w => ?_)
          exact hret _ _ _ _ _ _ hf w dX5_read_61
      · replace hf := zf_t h hf
        refine lv_iconst (v := 1) hx hb dX5_read_31 (by decide) ?_
        refine lv_iload_n hx hb dX5_read_32 rfl (lv_at hl 4 rfl) ?_
        obtain ⟨r19, hc, hf⟩ := zf_bp_ex hf
        refine zc_ri wX_ad w (zc_S C w (kX5_fault l D q cs _ _ _ _ hc _) cf_5_fault ci_5_fault lm_5_31 ⟨Nat.le_of_ble_eq_true rfl, Nat.le_of_ble_eq_true rfl⟩ hl.1 rfl (Nat.le_of_ble_eq_true rfl) dX5_read_33 ⟨Nat.le_refl _, Nat.le_refl _⟩) (fun H locs w => ?_)
        exact hret _ _ _ _ _ _ hf w dX5_read_36
  exact lp9 _ _ _ hf H locs ls w (lv_sub hl [1, 2, 3, 0] rfl)
