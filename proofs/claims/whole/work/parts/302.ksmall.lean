def fXb5_setFirst (u : zs_T) : Option zs_T :=
  some (zs_sa (zs_sa (zs_sa (zs_sa u 0 (upd (zs_a u 0) (0 : Int32).toNatClampNeg 5)) 0 (upd (zs_a (zs_sa u 0 (upd (zs_a u 0) (0 : Int32).toNatClampNeg 5)) 0) (1 : Int32).toNatClampNeg 500)) 0 (upd (zs_a (zs_sa (zs_sa u 0 (upd (zs_a u 0) (0 : Int32).toNatClampNeg 5)) 0 (upd (zs_a (zs_sa u 0 (upd (zs_a u 0) (0 : Int32).toNatClampNeg 5)) 0) (1 : Int32).toNatClampNeg 500)) 0) (2 : Int32).toNatClampNeg 40)) 0 (upd (zs_a (zs_sa (zs_sa (zs_sa u 0 (upd (zs_a u 0) (0 : Int32).toNatClampNeg 5)) 0 (upd (zs_a (zs_sa u 0 (upd (zs_a u 0) (0 : Int32).toNatClampNeg 5)) 0) (1 : Int32).toNatClampNeg 500)) 0 (upd (zs_a (zs_sa (zs_sa u 0 (upd (zs_a u 0) (0 : Int32).toNatClampNeg 5)) 0 (upd (zs_a (zs_sa u 0 (upd (zs_a u 0) (0 : Int32).toNatClampNeg 5)) 0) (1 : Int32).toNatClampNeg 500)) 0) (2 : Int32).toNatClampNeg 40)) 0) (3 : Int32).toNatClampNeg 90))
set_option maxHeartbeats 4000000 in
set_option maxRecDepth 100000 in
theorem kXb5_setFirst (l : Launch) (D : va_G) (q : Nat → Nat) (cs : Nat → ClassId) (u : zs_T) (z : zs_T) (hf : fXb5_setFirst u = some z) : zg_Cv l yX5_setFirst cX5_setFirst 1 none 0 D cs (wXb q cs) u [.ref (q 1)] z := by
  refine zg_Cv_of (own := RX5) (by decide) rfl wXb_ad (Nat.le_of_ble_eq_true rfl) ?_
  intro p e s m args below meth c A Q C hret w ls hl
  obtain ⟨hx, hb, -⟩ := id C
  have hl : lv_has ls 1 [(0, .ref (q 1))] := hl
  generalize hH : s.heap = H at w ⊢
  generalize hLc : ([] : List Loc) = locs at w ⊢
  unfold fXb5_setFirst at hf
  refine lv_aload_n hx hb dX5_setFirst_0 rfl (lv_at hl 0 rfl) ?_
  refine lv_iconst (v := 0) hx hb dX5_setFirst_1 (by decide) ?_
  refine lv_iconst (v := 5) hx hb dX5_setFirst_2 (by decide) ?_
  refine xbs_1 C w (by decide) dX5_setFirst_3 (fun H locs w => ?_)
  refine lv_aload_n hx hb dX5_setFirst_4 rfl (lv_at hl 0 rfl) ?_
  refine lv_iconst (v := 1) hx hb dX5_setFirst_5 (by decide) ?_
  refine lv_sipush (v := 500) hx hb dX5_setFirst_6 (by decide) ?_
  refine xbs_1 C w (by decide) dX5_setFirst_9 (fun H locs w => ?_)
  refine lv_aload_n hx hb dX5_setFirst_10 rfl (lv_at hl 0 rfl) ?_
  refine lv_iconst (v := 2) hx hb dX5_setFirst_11 (by decide) ?_
  refine lv_bipush (v := 40) hx hb dX5_setFirst_12 (by decide) ?_
  refine xbs_1 C w (by decide) dX5_setFirst_14 (fun H locs w => ?_)
  refine lv_aload_n hx hb dX5_setFirst_15 rfl (lv_at hl 0 rfl) ?_
  refine lv_iconst (v := 3) hx hb dX5_setFirst_16 (by decide) ?_
  refine lv_bipush (v := 90) hx hb dX5_setFirst_17 (by decide) ?_
  refine xbs_1 C w (by decide) dX5_setFirst_19 (fun H locs w => ?_)
  exact hret _ _ _ _ _ hf w dX5_setFirst_20
def fXp2_makeHeights (u : zs_T) (v1 : Int32) : Option zs_T :=
  some (zs_sa (zs_sa (zs_sa (zs_si u 0 v1) 0 (zf_fill 6 0 (zs_a (zs_si u 0 v1) 0))) 1 (zf_fill 6 1 (zs_a (zs_sa (zs_si u 0 v1) 0 (zf_fill 6 0 (zs_a (zs_si u 0 v1) 0))) 1))) 2 (zf_fill 6 0 (zs_a (zs_sa (zs_sa (zs_si u 0 v1) 0 (zf_fill 6 0 (zs_a (zs_si u 0 v1) 0))) 1 (zf_fill 6 1 (zs_a (zs_sa (zs_si u 0 v1) 0 (zf_fill 6 0 (zs_a (zs_si u 0 v1) 0))) 1))) 2)))
set_option maxHeartbeats 4000000 in
set_option maxRecDepth 100000 in
theorem kXp2_makeHeights (l : Launch) (D : va_G) (q : Nat → Nat) (cs : Nat → ClassId) (u : zs_T) (v1 : Int32) (z : zs_T) (hf : fXp2_makeHeights u v1 = some z) : zg_Cv l yX2_makeHeights cX2_makeHeights 2 none 1 D cs (wXp q cs) u [.ref (q 0), .int v1] z := by
  refine zg_Cv_of (own := RX2) (by decide) rfl wXp_ad (Nat.le_of_ble_eq_true rfl) ?_
  intro p e s m args below meth c A Q C hret w ls hl
  obtain ⟨hx, hb, -⟩ := id C
  have hl : lv_has ls 2 [(0, .ref (q 0)), (1, .int v1)] := hl
  generalize hH : s.heap = H at w ⊢
  generalize hLc : ([] : List Loc) = locs at w ⊢
  unfold fXp2_makeHeights at hf
  refine lv_aload_n hx hb dX2_makeHeights_0 rfl (lv_at hl 0 rfl) ?_
  refine lv_iload_n hx hb dX2_makeHeights_1 rfl (lv_at hl 1 rfl) ?_
  refine xpp_0_3 C w lf_2_39 dX2_makeHeights_2 (fun H locs w => ?_)
  refine lv_aload_n hx hb dX2_makeHeights_5 rfl (lv_at hl 0 rfl) ?_
  refine xpg_0_0 C w lf_2_9 dX2_makeHeights_6 ?_
  refine lv_iconst (v := 0) hx hb dX2_makeHeights_9 (by decide) ?_
  refine zc_rv wXp_ad w (zc_S C w (kA_fill l D cs (wXp q cs) wXp_ad (q 1) 1 0 6 (by decide) (fun _ => wXp_c1) (fun _ _ => wXp_s1) _ 0 _) cf_A_fill ci_A_fill lm_2_42 ⟨Nat.le_of_ble_eq_true rfl, Nat.le_of_ble_eq_true rfl⟩ hl.1 rfl (Nat.le_of_ble_eq_true rfl) dX2_makeHeights_10 ⟨Nat.le_refl _, Nat.le_refl _⟩) (fun H locs w => ?_)
  refine lv_aload_n hx hb dX2_makeHeights_13 rfl (lv_at hl 0 rfl) ?_
  refine xpg_0_1 C w lf_2_15 dX2_makeHeights_14 ?_
  refine lv_iconst (v := 1) hx hb dX2_makeHeights_17 (by decide) ?_
  refine zc_rv wXp_ad w (zc_S C w (kA_fill l D cs (wXp q cs) wXp_ad (q 2) 2 1 6 (by decide) (fun _ => wXp_c2) (fun _ _ => wXp_s2) _ 1 _) cf_A_fill ci_A_fill lm_2_42 ⟨Nat.le_of_ble_eq_true rfl, Nat.le_of_ble_eq_true rfl⟩ hl.1 rfl (Nat.le_of_ble_eq_true rfl) dX2_makeHeights_18 ⟨Nat.le_refl _, Nat.le_refl _⟩) (fun H locs w => ?_)
  refine lv_aload_n hx hb dX2_makeHeights_21 rfl (lv_at hl 0 rfl) ?_
  refine xpg_0_2 C w lf_2_18 dX2_makeHeights_22 ?_
  refine lv_iconst (v := 0) hx hb dX2_makeHeights_25 (by decide) ?_
  refine zc_rv wXp_ad w (zc_S C w (kA_fill l D cs (wXp q cs) wXp_ad (q 3) 3 2 6 (by decide) (fun _ => wXp_c3) (fun _ _ => wXp_s3) _ 0 _) cf_A_fill ci_A_fill lm_2_42 ⟨Nat.le_of_ble_eq_true rfl, Nat.le_of_ble_eq_true rfl⟩ hl.1 rfl (Nat.le_of_ble_eq_true rfl) dX2_makeHeights_26 ⟨Nat.le_refl _, Nat.le_refl _⟩) (fun H locs w => ?_)
  exact hret _ _ _ _ _ hf w dX2_makeHeights_29
