def ku_7 : zs_T := ((fun k => match k with | 4 => 1 | _ => 0), (fun _ => 0), (fun _ _ => 0), (fun _ _ => 0))
set_option maxHeartbeats 4000000 in
set_option maxRecDepth 100000 in
theorem kc7 (l : Launch) (D : va_G) (cs : Nat → ClassId) (h0 : Nat) : zk_C l yX7_init cX7_init 1 1 1 12 D cs h0 7 [.int 0, .int 0, .int 0, .int 0, .null, .int 0] (fun q => wXc q cs (ku_7)) := by
  refine zk_of (own := RX7) (by decide) rfl rfl (by decide) ?_
  intro p e s m args below meth c A Q C hini hret w ls hl
  obtain ⟨hx, hb, -⟩ := id C
  generalize hH : s.heap = H at w ⊢
  generalize hLc : ([] : List Loc) = locs at w ⊢
  refine lv_aload_n hx hb dX7_init_0 rfl (lv_at hl 0 rfl) ?_
  refine zk_obj C lm_7_3 hl.1 ⟨Nat.le_of_ble_eq_true rfl, Nat.le_of_ble_eq_true rfl⟩ dX7_init_1 ?_
  refine lv_aload_n hx hb dX7_init_4 rfl (lv_at hl 0 rfl) ?_
  refine lv_iconst (v := 0) hx hb dX7_init_5 (by decide) ?_
  refine zr_put (q0 := 0) (k := 0) (ty := .int) (ws' := [(h0, .inr (7, [.int 0, .int 0, .int 0, .int 0, .null, .int 0]))]) C w rfl rfl inz7 tyX7 tyX7_ok nmX7 (by decide) lf_7_9 rfl rfl (by decide +kernel) rfl rfl (Nat.le_of_ble_eq_true rfl) rfl dX7_init_6 (fun H locs w => ?_)
  refine lv_aload_n hx hb dX7_init_9 rfl (lv_at hl 0 rfl) ?_
  refine lv_iconst (v := 0) hx hb dX7_init_10 (by decide) ?_
  refine zr_put (q0 := 0) (k := 1) (ty := .boolean) (ws' := [(h0, .inr (7, [.int 0, .int 0, .int 0, .int 0, .null, .int 0]))]) C w rfl rfl inz7 tyX7 tyX7_ok nmX7 (by decide) lf_7_15 rfl rfl (by decide +kernel) rfl rfl (Nat.le_of_ble_eq_true rfl) rfl dX7_init_11 (fun H locs w => ?_)
  refine lv_aload_n hx hb dX7_init_14 rfl (lv_at hl 0 rfl) ?_
  refine lv_iconst (v := 0) hx hb dX7_init_15 (by decide) ?_
  refine zr_put (q0 := 0) (k := 2) (ty := .boolean) (ws' := [(h0, .inr (7, [.int 0, .int 0, .int 0, .int 0, .null, .int 0]))]) C w rfl rfl inz7 tyX7 tyX7_ok nmX7 (by decide) lf_7_19 rfl rfl (by decide +kernel) rfl rfl (Nat.le_of_ble_eq_true rfl) rfl dX7_init_16 (fun H locs w => ?_)
  refine lv_aload_n hx hb dX7_init_19 rfl (lv_at hl 0 rfl) ?_
  refine lv_iconst (v := 0) hx hb dX7_init_20 (by decide) ?_
  refine zr_put (q0 := 0) (k := 3) (ty := .int) (ws' := [(h0, .inr (7, [.int 0, .int 0, .int 0, .int 0, .null, .int 0]))]) C w rfl rfl inz7 tyX7 tyX7_ok nmX7 (by decide) lf_7_22 rfl rfl (by decide +kernel) rfl rfl (Nat.le_of_ble_eq_true rfl) rfl dX7_init_21 (fun H locs w => ?_)
  refine lv_aload_n hx hb dX7_init_24 rfl (lv_at hl 0 rfl) ?_
  refine lv_bipush (v := 12) hx hb dX7_init_25 (by decide) ?_
  refine zk_newi (N := 12) C w (by decide) (by rfl) (by decide) ⟨Nat.le_of_ble_eq_true rfl, Nat.le_of_ble_eq_true rfl⟩ dX7_init_27 (fun a1 H w => ?_)
  replace w : zg_W D cs A s [(h0, .inr (7, [.int 0, .int 0, .int 0, .int 0, .null, .int 0])), (a1, .inl (cs 0, 12, .inl (fun _ => 0)))] H locs := w
  refine zk_putF (q0 := 0) (k := 4) (ty := (.array .int)) (ws' := [(h0, .inr (7, [.int 0, .int 0, .int 0, .int 0, .ref a1, .int 0])), (a1, .inl (cs 0, 12, .inl (fun _ => 0)))]) C w rfl rfl inz7 tyX7 tyX7_ok nmX7 (by decide) lf_7_25 rfl rfl hini rfl (by decide +kernel) rfl rfl (Nat.le_of_ble_eq_true rfl) rfl dX7_init_29 (fun H locs w => ?_)
  refine lv_aload_n hx hb dX7_init_32 rfl (lv_at hl 0 rfl) ?_
  refine lv_iconst (v := 1) hx hb dX7_init_33 (by decide) ?_
  refine zr_put (q0 := 0) (k := 5) (ty := .int) (ws' := [(h0, .inr (7, [.int 0, .int 0, .int 0, .int 0, .ref a1, .int 1])), (a1, .inl (cs 0, 12, .inl (fun _ => 0)))]) C w rfl rfl inz7 tyX7 tyX7_ok nmX7 (by decide) lf_7_29 rfl rfl (by decide +kernel) rfl rfl (Nat.le_of_ble_eq_true rfl) rfl dX7_init_34 (fun H locs w => ?_)
  exact hret _ _ _ _ (fun k => match k with | 0 => h0 | 1 => a1 | _ => 0) rfl w dX7_init_37
