def fX0_beginYear (u : zs_T) : Option zs_T :=
  some (zs_si (zs_sa u 19 (zf_fill 80 0 (zs_a u 19))) 19 (-1))
set_option maxHeartbeats 4000000 in
set_option maxRecDepth 100000 in
theorem kX0_beginYear (l : Launch) (D : va_G) (q : Nat → Nat) (cs : Nat → ClassId) (u : zs_T) (z : zs_T) (hf : fX0_beginYear u = some z) : zg_Cv l yX0_beginYear cX0_beginYear 1 none 1 D cs (wX q cs) u [.ref (q 7)] z := by
  refine zg_Cv_of (own := RX0) (by decide) rfl wX_ad (Nat.le_of_ble_eq_true rfl) ?_
  intro p e s m args below meth c A Q C hret w ls hl
  obtain ⟨hx, hb, -⟩ := id C
  have hl : lv_has ls 1 [(0, .ref (q 7))] := hl
  generalize hH : s.heap = H at w ⊢
  generalize hLc : ([] : List Loc) = locs at w ⊢
  unfold fX0_beginYear at hf
  refine lv_aload_n hx hb dX0_beginYear_0 rfl (lv_at hl 0 rfl) ?_
  refine xg_7_0 C w lf_0_9 dX0_beginYear_1 ?_
  refine lv_iconst (v := 0) hx hb dX0_beginYear_4 (by decide) ?_
  refine zc_rv wX_ad w (zc_S C w (kA_fill l D cs (wX q cs) wX_ad (q 28) 28 19 80 (by decide) (fun _ => wX_c28) (fun _ _ => wX_s28) _ 0 _) cf_A_fill ci_A_fill lm_0_22 ⟨Nat.le_of_ble_eq_true rfl, Nat.le_of_ble_eq_true rfl⟩ hl.1 rfl (Nat.le_of_ble_eq_true rfl) dX0_beginYear_5 ⟨Nat.le_refl _, Nat.le_refl _⟩) (fun H locs w => ?_)
  refine lv_aload_n hx hb dX0_beginYear_8 rfl (lv_at hl 0 rfl) ?_
  refine lv_iconst (v := (-1)) hx hb dX0_beginYear_9 (by decide) ?_
  refine xp_7_2 C w lf_0_18 dX0_beginYear_10 (fun H locs w => ?_)
  exact hret _ _ _ _ _ hf w dX0_beginYear_13
