def fX2_makeHeights (u : zs_T) (v1 : Int32) : Option zs_T :=
  some (zs_sa (zs_sa (zs_sa (zs_si u 3 v1) 3 (zf_fill 6 0 (zs_a (zs_si u 3 v1) 3))) 4 (zf_fill 6 1 (zs_a (zs_sa (zs_si u 3 v1) 3 (zf_fill 6 0 (zs_a (zs_si u 3 v1) 3))) 4))) 5 (zf_fill 6 0 (zs_a (zs_sa (zs_sa (zs_si u 3 v1) 3 (zf_fill 6 0 (zs_a (zs_si u 3 v1) 3))) 4 (zf_fill 6 1 (zs_a (zs_sa (zs_si u 3 v1) 3 (zf_fill 6 0 (zs_a (zs_si u 3 v1) 3))) 4))) 5)))
set_option maxHeartbeats 4000000 in
set_option maxRecDepth 100000 in
theorem kX2_makeHeights (l : Launch) (D : va_G) (q : Nat → Nat) (cs : Nat → ClassId) (u : zs_T) (v1 : Int32) (z : zs_T) (hf : fX2_makeHeights u v1 = some z) : zg_Cv l yX2_makeHeights cX2_makeHeights 2 none 1 D cs (wX q cs) u [.ref (q 3), .int v1] z := by
  refine zg_Cv_of (own := RX2) (by decide) rfl wX_ad (Nat.le_of_ble_eq_true rfl) ?_
  intro p e s m args below meth c A Q C hret w ls hl
  obtain ⟨hx, hb, -⟩ := id C
  have hl : lv_has ls 2 [(0, .ref (q 3)), (1, .int v1)] := hl
  generalize hH : s.heap = H at w ⊢
  generalize hLc : ([] : List Loc) = locs at w ⊢
  unfold fX2_makeHeights at hf
  refine lv_aload_n hx hb dX2_makeHeights_0 rfl (lv_at hl 0 rfl) ?_
  refine lv_iload_n hx hb dX2_makeHeights_1 rfl (lv_at hl 1 rfl) ?_
  refine xp_3_3 C w lf_2_39 dX2_makeHeights_2 (fun H locs w => ?_)
  refine lv_aload_n hx hb dX2_makeHeights_5 rfl (lv_at hl 0 rfl) ?_
  refine xg_3_0 C w lf_2_9 dX2_makeHeights_6 ?_
  refine lv_iconst (v := 0) hx hb dX2_makeHeights_9 (by decide) ?_
  refine zc_rv wX_ad w (zc_S C w (kA_fill l D cs (wX q cs) wX_ad (q 12) 12 3 6 (by decide) (fun _ => wX_c12) (fun _ _ => wX_s12) _ 0 _) cf_A_fill ci_A_fill lm_2_42 ⟨Nat.le_of_ble_eq_true rfl, Nat.le_of_ble_eq_true rfl⟩ hl.1 rfl (Nat.le_of_ble_eq_true rfl) dX2_makeHeights_10 ⟨Nat.le_refl _, Nat.le_refl _⟩) (fun H locs w => ?_)
  refine lv_aload_n hx hb dX2_makeHeights_13 rfl (lv_at hl 0 rfl) ?_
  refine xg_3_1 C w lf_2_15 dX2_makeHeights_14 ?_
  refine lv_iconst (v := 1) hx hb dX2_makeHeights_17 (by decide) ?_
  refine zc_rv wX_ad w (zc_S C w (kA_fill l D cs (wX q cs) wX_ad (q 13) 13 4 6 (by decide) (fun _ => wX_c13) (fun _ _ => wX_s13) _ 1 _) cf_A_fill ci_A_fill lm_2_42 ⟨Nat.le_of_ble_eq_true rfl, Nat.le_of_ble_eq_true rfl⟩ hl.1 rfl (Nat.le_of_ble_eq_true rfl) dX2_makeHeights_18 ⟨Nat.le_refl _, Nat.le_refl _⟩) (fun H locs w => ?_)
  refine lv_aload_n hx hb dX2_makeHeights_21 rfl (lv_at hl 0 rfl) ?_
  refine xg_3_2 C w lf_2_18 dX2_makeHeights_22 ?_
  refine lv_iconst (v := 0) hx hb dX2_makeHeights_25 (by decide) ?_
  refine zc_rv wX_ad w (zc_S C w (kA_fill l D cs (wX q cs) wX_ad (q 14) 14 5 6 (by decide) (fun _ => wX_c14) (fun _ _ => wX_s14) _ 0 _) cf_A_fill ci_A_fill lm_2_42 ⟨Nat.le_of_ble_eq_true rfl, Nat.le_of_ble_eq_true rfl⟩ hl.1 rfl (Nat.le_of_ble_eq_true rfl) dX2_makeHeights_26 ⟨Nat.le_refl _, Nat.le_refl _⟩) (fun H locs w => ?_)
  exact hret _ _ _ _ _ hf w dX2_makeHeights_29
