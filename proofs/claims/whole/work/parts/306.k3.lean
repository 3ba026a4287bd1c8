set_option maxHeartbeats 4000000 in
set_option maxRecDepth 100000 in
theorem kc3 (l : Launch) (D : va_G) (cs : Nat → ClassId) (h0 : Nat) : zk_C l yX3_init cX3_init 1 1 5 82 D cs h0 3 [.null, .int 0, .null, .null, .null, .null, .int 0, .int 0, .int 0, .int 0] (fun q => wXl q cs (zs_0)) := by
  refine zk_of (own := RX3) (by decide) rfl rfl (by decide) ?_
  intro p e s m args below meth c A Q C hini hret w ls hl
  obtain ⟨hx, hb, -⟩ := id C
  generalize hH : s.heap = H at w ⊢
  generalize hLc : ([] : List Loc) = locs at w ⊢
  refine lv_aload_n hx hb dX3_init_0 rfl (lv_at hl 0 rfl) ?_
  refine zk_obj C lm_3_3 hl.1 ⟨Nat.le_of_ble_eq_true rfl, Nat.le_of_ble_eq_true rfl⟩ dX3_init_1 ?_
  refine lv_aload_n hx hb dX3_init_4 rfl (lv_at hl 0 rfl) ?_
  refine lv_bipush (v := 8) hx hb dX3_init_5 (by decide) ?_
  refine zk_newi (N := 8) C w (by decide) (by rfl) (by decide) ⟨Nat.le_of_ble_eq_true rfl, Nat.le_of_ble_eq_true rfl⟩ dX3_init_7 (fun a1 H w => ?_)
  replace w : zg_W D cs A s [(h0, .inr (3, [.null, .int 0, .null, .null, .null, .null, .int 0, .int 0, .int 0, .int 0])), (a1, .inl (cs 0, 8, .inl (fun _ => 0)))] H locs := w
  refine zk_putF (q0 := 0) (k := 0) (ty := (.array .int)) (ws' := [(h0, .inr (3, [.ref a1, .int 0, .null, .null, .null, .null, .int 0, .int 0, .int 0, .int 0])), (a1, .inl (cs 0, 8, .inl (fun _ => 0)))]) C w rfl rfl inz3 tyX3 tyX3_ok nmX3 (by decide) lf_3_9 rfl rfl hini rfl (by decide +kernel) rfl rfl (Nat.le_of_ble_eq_true rfl) rfl dX3_init_9 (fun H locs w => ?_)
  refine lv_aload_n hx hb dX3_init_12 rfl (lv_at hl 0 rfl) ?_
  refine lv_iconst (v := 0) hx hb dX3_init_13 (by decide) ?_
  refine zr_put (q0 := 0) (k := 1) (ty := .int) (ws' := [(h0, .inr (3, [.ref a1, .int 0, .null, .null, .null, .null, .int 0, .int 0, .int 0, .int 0])), (a1, .inl (cs 0, 8, .inl (fun _ => 0)))]) C w rfl rfl inz3 tyX3 tyX3_ok nmX3 (by decide) lf_3_15 rfl rfl (by decide +kernel) rfl rfl (Nat.le_of_ble_eq_true rfl) rfl dX3_init_14 (fun H locs w => ?_)
  refine lv_aload_n hx hb dX3_init_17 rfl (lv_at hl 0 rfl) ?_
  refine lv_bipush (v := 8) hx hb dX3_init_18 (by decide) ?_
  refine zk_newi (N := 8) C w (by decide) (by rfl) (by decide) ⟨Nat.le_of_ble_eq_true rfl, Nat.le_of_ble_eq_true rfl⟩ dX3_init_20 (fun a2 H w => ?_)
  replace w : zg_W D cs A s [(h0, .inr (3, [.ref a1, .int 0, .null, .null, .null, .null, .int 0, .int 0, .int 0, .int 0])), (a1, .inl (cs 0, 8, .inl (fun _ => 0))), (a2, .inl (cs 0, 8, .inl (fun _ => 0)))] H locs := w
  refine zk_putF (q0 := 0) (k := 2) (ty := (.array .int)) (ws' := [(h0, .inr (3, [.ref a1, .int 0, .ref a2, .null, .null, .null, .int 0, .int 0, .int 0, .int 0])), (a1, .inl (cs 0, 8, .inl (fun _ => 0))), (a2, .inl (cs 0, 8, .inl (fun _ => 0)))]) C w rfl rfl inz3 tyX3 tyX3_ok nmX3 (by decide) lf_3_19 rfl rfl hini rfl (by decide +kernel) rfl rfl (Nat.le_of_ble_eq_true rfl) rfl dX3_init_22 (fun H locs w => ?_)
  refine lv_aload_n hx hb dX3_init_25 rfl (lv_at hl 0 rfl) ?_
  refine lv_bipush (v := 54) hx hb dX3_init_26 (by decide) ?_
  refine zk_newi (N := 54) C w (by decide) (by rfl) (by decide) ⟨Nat.le_of_ble_eq_true rfl, Nat.le_of_ble_eq_true rfl⟩ dX3_init_28 (fun a3 H w => ?_)
  replace w : zg_W D cs A s [(h0, .inr (3, [.ref a1, .int 0, .ref a2, .null, .null, .null, .int 0, .int 0, .int 0, .int 0])), (a1, .inl (cs 0, 8, .inl (fun _ => 0))), (a2, .inl (cs 0, 8, .inl (fun _ => 0))), (a3, .inl (cs 0, 54, .inl (fun _ => 0)))] H locs := w
  refine zk_putF (q0 := 0) (k := 3) (ty := (.array .int)) (ws' := [(h0, .inr (3, [.ref a1, .int 0, .ref a2, .ref a3, .null, .null, .int 0, .int 0, .int 0, .int 0])), (a1, .inl (cs 0, 8, .inl (fun _ => 0))), (a2, .inl (cs 0, 8, .inl (fun _ => 0))), (a3, .inl (cs 0, 54, .inl (fun _ => 0)))]) C w rfl rfl inz3 tyX3 tyX3_ok nmX3 (by decide) lf_3_22 rfl rfl hini rfl (by decide +kernel) rfl rfl (Nat.le_of_ble_eq_true rfl) rfl dX3_init_30 (fun H locs w => ?_)
  refine lv_aload_n hx hb dX3_init_33 rfl (lv_at hl 0 rfl) ?_
  refine lv_bipush (v := 6) hx hb dX3_init_34 (by decide) ?_
  refine zk_newi (N := 6) C w (by decide) (by rfl) (by decide) ⟨Nat.le_of_ble_eq_true rfl, Nat.le_of_ble_eq_true rfl⟩ dX3_init_36 (fun a4 H w => ?_)
  replace w : zg_W D cs A s [(h0, .inr (3, [.ref a1, .int 0, .ref a2, .ref a3, .null, .null, .int 0, .int 0, .int 0, .int 0])), (a1, .inl (cs 0, 8, .inl (fun _ => 0))), (a2, .inl (cs 0, 8, .inl (fun _ => 0))), (a3, .inl (cs 0, 54, .inl (fun _ => 0))), (a4, .inl (cs 0, 6, .inl (fun _ => 0)))] H locs := w
  refine zk_putF (q0 := 0) (k := 4) (ty := (.array .int)) (ws' := [(h0, .inr (3, [.ref a1, .int 0, .ref a2, .ref a3, .ref a4, .null, .int 0, .int 0, .int 0, .int 0])), (a1, .inl (cs 0, 8, .inl (fun _ => 0))), (a2, .inl (cs 0, 8, .inl (fun _ => 0))), (a3, .inl (cs 0, 54, .inl (fun _ => 0))), (a4, .inl (cs 0, 6, .inl (fun _ => 0)))]) C w rfl rfl inz3 tyX3 tyX3_ok nmX3 (by decide) lf_3_25 rfl rfl hini rfl (by decide +kernel) rfl rfl (Nat.le_of_ble_eq_true rfl) rfl dX3_init_38 (fun H locs w => ?_)
  refine lv_aload_n hx hb dX3_init_41 rfl (lv_at hl 0 rfl) ?_
  refine lv_bipush (v := 6) hx hb dX3_init_42 (by decide) ?_
  refine zk_newi (N := 6) C w (by decide) (by rfl) (by decide) ⟨Nat.le_of_ble_eq_true rfl, Nat.le_of_ble_eq_true rfl⟩ dX3_init_44 (fun a5 H w => ?_)
  replace w : zg_W D cs A s [(h0, .inr (3, [.ref a1, .int 0, .ref a2, .ref a3, .ref a4, .null, .int 0, .int 0, .int 0, .int 0])), (a1, .inl (cs 0, 8, .inl (fun _ => 0))), (a2, .inl (cs 0, 8, .inl (fun _ => 0))), (a3, .inl (cs 0, 54, .inl (fun _ => 0))), (a4, .inl (cs 0, 6, .inl (fun _ => 0))), (a5, .inl (cs 0, 6, .inl (fun _ => 0)))] H locs := w
  refine zk_putF (q0 := 0) (k := 5) (ty := (.array .int)) (ws' := [(h0, .inr (3, [.ref a1, .int 0, .ref a2, .ref a3, .ref a4, .ref a5, .int 0, .int 0, .int 0, .int 0])), (a1, .inl (cs 0, 8, .inl (fun _ => 0))), (a2, .inl (cs 0, 8, .inl (fun _ => 0))), (a3, .inl (cs 0, 54, .inl (fun _ => 0))), (a4, .inl (cs 0, 6, .inl (fun _ => 0))), (a5, .inl (cs 0, 6, .inl (fun _ => 0)))]) C w rfl rfl inz3 tyX3 tyX3_ok nmX3 (by decide) lf_3_28 rfl rfl hini rfl (by decide +kernel) rfl rfl (Nat.le_of_ble_eq_true rfl) rfl dX3_init_46 (fun H locs w => ?_)
  refine lv_aload_n hx hb dX3_init_49 rfl (lv_at hl 0 rfl) ?_
  refine lv_iconst (v := 0) hx hb dX3_init_50 (by decide) ?_
  refine zr_put (q0 := 0) (k := 6) (ty := .int) (ws' := [(h0, .inr (3, [.ref a1, .int 0, .ref a2, .ref a3, .ref a4, .ref a5, .int 0, .int 0, .int 0, .int 0])), (a1, .inl (cs 0, 8, .inl (fun _ => 0))), (a2, .inl (cs 0, 8, .inl (fun _ => 0))), (a3, .inl (cs 0, 54, .inl (fun _ => 0))), (a4, .inl (cs 0, 6, .inl (fun _ => 0))), (a5, .inl (cs 0, 6, .inl (fun _ => 0)))]) C w rfl rfl inz3 tyX3 tyX3_ok nmX3 (by decide) lf_3_31 rfl rfl (by decide +kernel) rfl rfl (Nat.le_of_ble_eq_true rfl) rfl dX3_init_51 (fun H locs w => ?_)
  refine lv_aload_n hx hb dX3_init_54 rfl (lv_at hl 0 rfl) ?_
  refine lv_iconst (v := 0) hx hb dX3_init_55 (by decide) ?_
  refine zr_put (q0 := 0) (k := 7) (ty := .int) (ws' := [(h0, .inr (3, [.ref a1, .int 0, .ref a2, .ref a3, .ref a4, .ref a5, .int 0, .int 0, .int 0, .int 0])), (a1, .inl (cs 0, 8, .inl (fun _ => 0))), (a2, .inl (cs 0, 8, .inl (fun _ => 0))), (a3, .inl (cs 0, 54, .inl (fun _ => 0))), (a4, .inl (cs 0, 6, .inl (fun _ => 0))), (a5, .inl (cs 0, 6, .inl (fun _ => 0)))]) C w rfl rfl inz3 tyX3 tyX3_ok nmX3 (by decide) lf_3_34 rfl rfl (by decide +kernel) rfl rfl (Nat.le_of_ble_eq_true rfl) rfl dX3_init_56 (fun H locs w => ?_)
  refine lv_aload_n hx hb dX3_init_59 rfl (lv_at hl 0 rfl) ?_
  refine lv_iconst (v := 0) hx hb dX3_init_60 (by decide) ?_
  refine zr_put (q0 := 0) (k := 8) (ty := .int) (ws' := [(h0, .inr (3, [.ref a1, .int 0, .ref a2, .ref a3, .ref a4, .ref a5, .int 0, .int 0, .int 0, .int 0])), (a1, .inl (cs 0, 8, .inl (fun _ => 0))), (a2, .inl (cs 0, 8, .inl (fun _ => 0))), (a3, .inl (cs 0, 54, .inl (fun _ => 0))), (a4, .inl (cs 0, 6, .inl (fun _ => 0))), (a5, .inl (cs 0, 6, .inl (fun _ => 0)))]) C w rfl rfl inz3 tyX3 tyX3_ok nmX3 (by decide) lf_3_37 rfl rfl (by decide +kernel) rfl rfl (Nat.le_of_ble_eq_true rfl) rfl dX3_init_61 (fun H locs w => ?_)
  refine lv_aload_n hx hb dX3_init_64 rfl (lv_at hl 0 rfl) ?_
  refine lv_iconst (v := 0) hx hb dX3_init_65 (by decide) ?_
  refine zr_put (q0 := 0) (k := 9) (ty := .int) (ws' := [(h0, .inr (3, [.ref a1, .int 0, .ref a2, .ref a3, .ref a4, .ref a5, .int 0, .int 0, .int 0, .int 0])), (a1, .inl (cs 0, 8, .inl (fun _ => 0))), (a2, .inl (cs 0, 8, .inl (fun _ => 0))), (a3, .inl (cs 0, 54, .inl (fun _ => 0))), (a4, .inl (cs 0, 6, .inl (fun _ => 0))), (a5, .inl (cs 0, 6, .inl (fun _ => 0)))]) C w rfl rfl inz3 tyX3 tyX3_ok nmX3 (by decide) lf_3_40 rfl rfl (by decide +kernel) rfl rfl (Nat.le_of_ble_eq_true rfl) rfl dX3_init_66 (fun H locs w => ?_)
  exact hret _ _ _ _ (fun k => match k with | 0 => h0 | 1 => a1 | 2 => a2 | 3 => a3 | 4 => a4 | 5 => a5 | _ => 0) rfl w dX3_init_69
