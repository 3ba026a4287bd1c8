def ku_0 : zs_T := ((fun k => match k with | 0 => (-1) | _ => 0), (fun _ => 0), (fun _ _ => 0), (fun _ _ => 0))
set_option maxHeartbeats 4000000 in
set_option maxRecDepth 100000 in
theorem kc0 (l : Launch) (D : va_G) (cs : Nat → ClassId) (h0 : Nat) : zk_C l yX0_init cX0_init 1 1 2 92 D cs h0 0 [.null, .null, .int 0] (fun q => wXd q cs (ku_0)) := by
  refine zk_of (own := RX0) (by decide) rfl rfl (by decide) ?_
  intro p e s m args below meth c A Q C hini hret w ls hl
  obtain ⟨hx, hb, -⟩ := id C
  generalize hH : s.heap = H at w ⊢
  generalize hLc : ([] : List Loc) = locs at w ⊢
  refine lv_aload_n hx hb dX0_init_0 rfl (lv_at hl 0 rfl) ?_
  refine zk_obj C lm_0_3 hl.1 ⟨Nat.le_of_ble_eq_true rfl, Nat.le_of_ble_eq_true rfl⟩ dX0_init_1 ?_
  refine lv_aload_n hx hb dX0_init_4 rfl (lv_at hl 0 rfl) ?_
  refine lv_bipush (v := 80) hx hb dX0_init_5 (by decide) ?_
  refine zk_newi (N := 80) C w (by decide) (by rfl) (by decide) ⟨Nat.le_of_ble_eq_true rfl, Nat.le_of_ble_eq_true rfl⟩ dX0_init_7 (fun a1 H w => ?_)
  replace w : zg_W D cs A s [(h0, .inr (0, [.null, .null, .int 0])), (a1, .inl (cs 0, 80, .inl (fun _ => 0)))] H locs := w
  refine zk_putF (q0 := 0) (k := 0) (ty := (.array .int)) (ws' := [(h0, .inr (0, [.ref a1, .null, .int 0])), (a1, .inl (cs 0, 80, .inl (fun _ => 0)))]) C w rfl rfl inz0 tyX0 tyX0_ok nmX0 (by decide) lf_0_9 rfl rfl hini rfl (by decide +kernel) rfl rfl (Nat.le_of_ble_eq_true rfl) rfl dX0_init_9 (fun H locs w => ?_)
  refine lv_aload_n hx hb dX0_init_12 rfl (lv_at hl 0 rfl) ?_
  refine lv_bipush (v := 12) hx hb dX0_init_13 (by decide) ?_
  refine zk_newi (N := 12) C w (by decide) (by rfl) (by decide) ⟨Nat.le_of_ble_eq_true rfl, Nat.le_of_ble_eq_true rfl⟩ dX0_init_15 (fun a2 H w => ?_)
  replace w : zg_W D cs A s [(h0, .inr (0, [.ref a1, .null, .int 0])), (a1, .inl (cs 0, 80, .inl (fun _ => 0))), (a2, .inl (cs 0, 12, .inl (fun _ => 0)))] H locs := w
  refine zk_putF (q0 := 0) (k := 1) (ty := (.array .int)) (ws' := [(h0, .inr (0, [.ref a1, .ref a2, .int 0])), (a1, .inl (cs 0, 80, .inl (fun _ => 0))), (a2, .inl (cs 0, 12, .inl (fun _ => 0)))]) C w rfl rfl inz0 tyX0 tyX0_ok nmX0 (by decide) lf_0_15 rfl rfl hini rfl (by decide +kernel) rfl rfl (Nat.le_of_ble_eq_true rfl) rfl dX0_init_17 (fun H locs w => ?_)
  refine lv_aload_n hx hb dX0_init_20 rfl (lv_at hl 0 rfl) ?_
  refine lv_iconst (v := (-1)) hx hb dX0_init_21 (by decide) ?_
  refine zr_put (q0 := 0) (k := 2) (ty := .int) (ws' := [(h0, .inr (0, [.ref a1, .ref a2, .int (-1)])), (a1, .inl (cs 0, 80, .inl (fun _ => 0))), (a2, .inl (cs 0, 12, .inl (fun _ => 0)))]) C w rfl rfl inz0 tyX0 tyX0_ok nmX0 (by decide) lf_0_18 rfl rfl (by decide +kernel) rfl rfl (Nat.le_of_ble_eq_true rfl) rfl dX0_init_22 (fun H locs w => ?_)
  exact hret _ _ _ _ (fun k => match k with | 0 => h0 | 1 => a1 | 2 => a2 | _ => 0) rfl w dX0_init_25
