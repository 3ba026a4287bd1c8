set_option maxHeartbeats 4000000 in
set_option maxRecDepth 100000 in
theorem kc4 (l : Launch) (D : va_G) (cs : Nat → ClassId) (h0 : Nat) : zk_C l yX4_init cX4_init 1 1 7 660 D cs h0 4 [.null, .null, .int 0, .null, .null, .null, .null, .null, .int 0] (fun q => wXr q cs (zs_0)) := by
  refine zk_of (own := RX4) (by decide) rfl rfl (by decide) ?_
  intro p e s m args below meth c A Q C hini hret w ls hl
  obtain ⟨hx, hb, -⟩ := id C
  generalize hH : s.heap = H at w ⊢
  generalize hLc : ([] : List Loc) = locs at w ⊢
  refine lv_aload_n hx hb dX4_init_0 rfl (lv_at hl 0 rfl) ?_
  refine zk_obj C lm_4_3 hl.1 ⟨Nat.le_of_ble_eq_true rfl, Nat.le_of_ble_eq_true rfl⟩ dX4_init_1 ?_
  refine lv_aload_n hx hb dX4_init_4 rfl (lv_at hl 0 rfl) ?_
  refine lv_bipush (v := 80) hx hb dX4_init_5 (by decide) ?_
  refine zk_newi (N := 80) C w (by decide) (by rfl) (by decide) ⟨Nat.le_of_ble_eq_true rfl, Nat.le_of_ble_eq_true rfl⟩ dX4_init_7 (fun a1 H w => ?_)
  replace w : zg_W D cs A s [(h0, .inr (4, [.null, .null, .int 0, .null, .null, .null, .null, .null, .int 0])), (a1, .inl (cs 0, 80, .inl (fun _ => 0)))] H locs := w
  refine zk_putF (q0 := 0) (k := 0) (ty := (.array .int)) (ws' := [(h0, .inr (4, [.ref a1, .null, .int 0, .null, .null, .null, .null, .null, .int 0])), (a1, .inl (cs 0, 80, .inl (fun _ => 0)))]) C w rfl rfl inz4 tyX4 tyX4_ok nmX4 (by decide) lf_4_9 rfl rfl hini rfl (by decide +kernel) rfl rfl (Nat.le_of_ble_eq_true rfl) rfl dX4_init_9 (fun H locs w => ?_)
  refine lv_aload_n hx hb dX4_init_12 rfl (lv_at hl 0 rfl) ?_
  refine lv_bipush (v := 80) hx hb dX4_init_13 (by decide) ?_
  refine zk_newz (N := 80) C w (by decide) (by rfl) (by decide) ⟨Nat.le_of_ble_eq_true rfl, Nat.le_of_ble_eq_true rfl⟩ dX4_init_15 (fun a2 H w => ?_)
  replace w : zg_W D cs A s [(h0, .inr (4, [.ref a1, .null, .int 0, .null, .null, .null, .null, .null, .int 0])), (a1, .inl (cs 0, 80, .inl (fun _ => 0))), (a2, .inl (cs 2, 80, .inl (fun _ => 0)))] H locs := w
  refine zk_putF (q0 := 0) (k := 1) (ty := (.array .boolean)) (ws' := [(h0, .inr (4, [.ref a1, .ref a2, .int 0, .null, .null, .null, .null, .null, .int 0])), (a1, .inl (cs 0, 80, .inl (fun _ => 0))), (a2, .inl (cs 2, 80, .inl (fun _ => 0)))]) C w rfl rfl inz4 tyX4 tyX4_ok nmX4 (by decide) lf_4_15 rfl rfl hini rfl (by decide +kernel) rfl rfl (Nat.le_of_ble_eq_true rfl) rfl dX4_init_17 (fun H locs w => ?_)
  refine lv_aload_n hx hb dX4_init_20 rfl (lv_at hl 0 rfl) ?_
  refine lv_iconst (v := 0) hx hb dX4_init_21 (by decide) ?_
  refine zr_put (q0 := 0) (k := 2) (ty := .int) (ws' := [(h0, .inr (4, [.ref a1, .ref a2, .int 0, .null, .null, .null, .null, .null, .int 0])), (a1, .inl (cs 0, 80, .inl (fun _ => 0))), (a2, .inl (cs 2, 80, .inl (fun _ => 0)))]) C w rfl rfl inz4 tyX4 tyX4_ok nmX4 (by decide) lf_4_19 rfl rfl (by decide +kernel) rfl rfl (Nat.le_of_ble_eq_true rfl) rfl dX4_init_22 (fun H locs w => ?_)
  refine lv_aload_n hx hb dX4_init_25 rfl (lv_at hl 0 rfl) ?_
  refine lv_bipush (v := 100) hx hb dX4_init_26 (by decide) ?_
  refine zk_newi (N := 100) C w (by decide) (by rfl) (by decide) ⟨Nat.le_of_ble_eq_true rfl, Nat.le_of_ble_eq_true rfl⟩ dX4_init_28 (fun a3 H w => ?_)
  replace w : zg_W D cs A s [(h0, .inr (4, [.ref a1, .ref a2, .int 0, .null, .null, .null, .null, .null, .int 0])), (a1, .inl (cs 0, 80, .inl (fun _ => 0))), (a2, .inl (cs 2, 80, .inl (fun _ => 0))), (a3, .inl (cs 0, 100, .inl (fun _ => 0)))] H locs := w
  refine zk_putF (q0 := 0) (k := 3) (ty := (.array .int)) (ws' := [(h0, .inr (4, [.ref a1, .ref a2, .int 0, .ref a3, .null, .null, .null, .null, .int 0])), (a1, .inl (cs 0, 80, .inl (fun _ => 0))), (a2, .inl (cs 2, 80, .inl (fun _ => 0))), (a3, .inl (cs 0, 100, .inl (fun _ => 0)))]) C w rfl rfl inz4 tyX4 tyX4_ok nmX4 (by decide) lf_4_23 rfl rfl hini rfl (by decide +kernel) rfl rfl (Nat.le_of_ble_eq_true rfl) rfl dX4_init_30 (fun H locs w => ?_)
  refine lv_aload_n hx hb dX4_init_33 rfl (lv_at hl 0 rfl) ?_
  refine lv_bipush (v := 100) hx hb dX4_init_34 (by decide) ?_
  refine zk_newi (N := 100) C w (by decide) (by rfl) (by decide) ⟨Nat.le_of_ble_eq_true rfl, Nat.le_of_ble_eq_true rfl⟩ dX4_init_36 (fun a4 H w => ?_)
  replace w : zg_W D cs A s [(h0, .inr (4, [.ref a1, .ref a2, .int 0, .ref a3, .null, .null, .null, .null, .int 0])), (a1, .inl (cs 0, 80, .inl (fun _ => 0))), (a2, .inl (cs 2, 80, .inl (fun _ => 0))), (a3, .inl (cs 0, 100, .inl (fun _ => 0))), (a4, .inl (cs 0, 100, .inl (fun _ => 0)))] H locs := w
  refine zk_putF (q0 := 0) (k := 4) (ty := (.array .int)) (ws' := [(h0, .inr (4, [.ref a1, .ref a2, .int 0, .ref a3, .ref a4, .null, .null, .null, .int 0])), (a1, .inl (cs 0, 80, .inl (fun _ => 0))), (a2, .inl (cs 2, 80, .inl (fun _ => 0))), (a3, .inl (cs 0, 100, .inl (fun _ => 0))), (a4, .inl (cs 0, 100, .inl (fun _ => 0)))]) C w rfl rfl inz4 tyX4 tyX4_ok nmX4 (by decide) lf_4_26 rfl rfl hini rfl (by decide +kernel) rfl rfl (Nat.le_of_ble_eq_true rfl) rfl dX4_init_38 (fun H locs w => ?_)
  refine lv_aload_n hx hb dX4_init_41 rfl (lv_at hl 0 rfl) ?_
  refine lv_bipush (v := 100) hx hb dX4_init_42 (by decide) ?_
  refine zk_newi (N := 100) C w (by decide) (by rfl) (by decide) ⟨Nat.le_of_ble_eq_true rfl, Nat.le_of_ble_eq_true rfl⟩ dX4_init_44 (fun a5 H w => ?_)
  replace w : zg_W D cs A s [(h0, .inr (4, [.ref a1, .ref a2, .int 0, .ref a3, .ref a4, .null, .null, .null, .int 0])), (a1, .inl (cs 0, 80, .inl (fun _ => 0))), (a2, .inl (cs 2, 80, .inl (fun _ => 0))), (a3, .inl (cs 0, 100, .inl (fun _ => 0))), (a4, .inl (cs 0, 100, .inl (fun _ => 0))), (a5, .inl (cs 0, 100, .inl (fun _ => 0)))] H locs := w
  refine zk_putF (q0 := 0) (k := 5) (ty := (.array .int)) (ws' := [(h0, .inr (4, [.ref a1, .ref a2, .int 0, .ref a3, .ref a4, .ref a5, .null, .null, .int 0])), (a1, .inl (cs 0, 80, .inl (fun _ => 0))), (a2, .inl (cs 2, 80, .inl (fun _ => 0))), (a3, .inl (cs 0, 100, .inl (fun _ => 0))), (a4, .inl (cs 0, 100, .inl (fun _ => 0))), (a5, .inl (cs 0, 100, .inl (fun _ => 0)))]) C w rfl rfl inz4 tyX4 tyX4_ok nmX4 (by decide) lf_4_29 rfl rfl hini rfl (by decide +kernel) rfl rfl (Nat.le_of_ble_eq_true rfl) rfl dX4_init_46 (fun H locs w => ?_)
  refine lv_aload_n hx hb dX4_init_49 rfl (lv_at hl 0 rfl) ?_
  refine lv_bipush (v := 100) hx hb dX4_init_50 (by decide) ?_
  refine zk_newi (N := 100) C w (by decide) (by rfl) (by decide) ⟨Nat.le_of_ble_eq_true rfl, Nat.le_of_ble_eq_true rfl⟩ dX4_init_52 (fun a6 H w => ?_)
  replace w : zg_W D cs A s [(h0, .inr (4, [.ref a1, .ref a2, .int 0, .ref a3, .ref a4, .ref a5, .null, .null, .int 0])), (a1, .inl (cs 0, 80, .inl (fun _ => 0))), (a2, .inl (cs 2, 80, .inl (fun _ => 0))), (a3, .inl (cs 0, 100, .inl (fun _ => 0))), (a4, .inl (cs 0, 100, .inl (fun _ => 0))), (a5, .inl (cs 0, 100, .inl (fun _ => 0))), (a6, .inl (cs 0, 100, .inl (fun _ => 0)))] H locs := w
  refine zk_putF (q0 := 0) (k := 6) (ty := (.array .int)) (ws' := [(h0, .inr (4, [.ref a1, .ref a2, .int 0, .ref a3, .ref a4, .ref a5, .ref a6, .null, .int 0])), (a1, .inl (cs 0, 80, .inl (fun _ => 0))), (a2, .inl (cs 2, 80, .inl (fun _ => 0))), (a3, .inl (cs 0, 100, .inl (fun _ => 0))), (a4, .inl (cs 0, 100, .inl (fun _ => 0))), (a5, .inl (cs 0, 100, .inl (fun _ => 0))), (a6, .inl (cs 0, 100, .inl (fun _ => 0)))]) C w rfl rfl inz4 tyX4 tyX4_ok nmX4 (by decide) lf_4_32 rfl rfl hini rfl (by decide +kernel) rfl rfl (Nat.le_of_ble_eq_true rfl) rfl dX4_init_54 (fun H locs w => ?_)
  refine lv_aload_n hx hb dX4_init_57 rfl (lv_at hl 0 rfl) ?_
  refine lv_bipush (v := 100) hx hb dX4_init_58 (by decide) ?_
  refine zk_newi (N := 100) C w (by decide) (by rfl) (by decide) ⟨Nat.le_of_ble_eq_true rfl, Nat.le_of_ble_eq_true rfl⟩ dX4_init_60 (fun a7 H w => ?_)
  replace w : zg_W D cs A s [(h0, .inr (4, [.ref a1, .ref a2, .int 0, .ref a3, .ref a4, .ref a5, .ref a6, .null, .int 0])), (a1, .inl (cs 0, 80, .inl (fun _ => 0))), (a2, .inl (cs 2, 80, .inl (fun _ => 0))), (a3, .inl (cs 0, 100, .inl (fun _ => 0))), (a4, .inl (cs 0, 100, .inl (fun _ => 0))), (a5, .inl (cs 0, 100, .inl (fun _ => 0))), (a6, .inl (cs 0, 100, .inl (fun _ => 0))), (a7, .inl (cs 0, 100, .inl (fun _ => 0)))] H locs := w
  refine zk_putF (q0 := 0) (k := 7) (ty := (.array .int)) (ws' := [(h0, .inr (4, [.ref a1, .ref a2, .int 0, .ref a3, .ref a4, .ref a5, .ref a6, .ref a7, .int 0])), (a1, .inl (cs 0, 80, .inl (fun _ => 0))), (a2, .inl (cs 2, 80, .inl (fun _ => 0))), (a3, .inl (cs 0, 100, .inl (fun _ => 0))), (a4, .inl (cs 0, 100, .inl (fun _ => 0))), (a5, .inl (cs 0, 100, .inl (fun _ => 0))), (a6, .inl (cs 0, 100, .inl (fun _ => 0))), (a7, .inl (cs 0, 100, .inl (fun _ => 0)))]) C w rfl rfl inz4 tyX4 tyX4_ok nmX4 (by decide) lf_4_35 rfl rfl hini rfl (by decide +kernel) rfl rfl (Nat.le_of_ble_eq_true rfl) rfl dX4_init_62 (fun H locs w => ?_)
  refine lv_aload_n hx hb dX4_init_65 rfl (lv_at hl 0 rfl) ?_
  refine lv_iconst (v := 0) hx hb dX4_init_66 (by decide) ?_
  refine zr_put (q0 := 0) (k := 8) (ty := .int) (ws' := [(h0, .inr (4, [.ref a1, .ref a2, .int 0, .ref a3, .ref a4, .ref a5, .ref a6, .ref a7, .int 0])), (a1, .inl (cs 0, 80, .inl (fun _ => 0))), (a2, .inl (cs 2, 80, .inl (fun _ => 0))), (a3, .inl (cs 0, 100, .inl (fun _ => 0))), (a4, .inl (cs 0, 100, .inl (fun _ => 0))), (a5, .inl (cs 0, 100, .inl (fun _ => 0))), (a6, .inl (cs 0, 100, .inl (fun _ => 0))), (a7, .inl (cs 0, 100, .inl (fun _ => 0)))]) C w rfl rfl inz4 tyX4 tyX4_ok nmX4 (by decide) lf_4_38 rfl rfl (by decide +kernel) rfl rfl (Nat.le_of_ble_eq_true rfl) rfl dX4_init_67 (fun H locs w => ?_)
  exact hret _ _ _ _ (fun k => match k with | 0 => h0 | 1 => a1 | 2 => a2 | 3 => a3 | 4 => a4 | 5 => a5 | 6 => a6 | 7 => a7 | _ => 0) rfl w dX4_init_70
