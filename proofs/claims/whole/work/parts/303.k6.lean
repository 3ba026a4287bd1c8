set_option maxHeartbeats 4000000 in
set_option maxRecDepth 100000 in
theorem kc6 (l : Launch) (D : va_G) (cs : Nat → ClassId) (h0 : Nat) : zk_C l yX6_init cX6_init 1 1 1 40 D cs h0 6 [.null, .int 0] (fun q => wXt q cs (zs_0)) := by
  refine zk_of (own := RX6) (by decide) rfl rfl (by decide) ?_
  intro p e s m args below meth c A Q C hini hret w ls hl
  obtain ⟨hx, hb, -⟩ := id C
  generalize hH : s.heap = H at w ⊢
  generalize hLc : ([] : List Loc) = locs at w ⊢
  refine lv_aload_n hx hb dX6_init_0 rfl (lv_at hl 0 rfl) ?_
  refine zk_obj C lm_6_3 hl.1 ⟨Nat.le_of_ble_eq_true rfl, Nat.le_of_ble_eq_true rfl⟩ dX6_init_1 ?_
  refine lv_aload_n hx hb dX6_init_4 rfl (lv_at hl 0 rfl) ?_
  refine lv_bipush (v := 40) hx hb dX6_init_5 (by decide) ?_
  refine zk_newi (N := 40) C w (by decide) (by rfl) (by decide) ⟨Nat.le_of_ble_eq_true rfl, Nat.le_of_ble_eq_true rfl⟩ dX6_init_7 (fun a1 H w => ?_)
  replace w : zg_W D cs A s [(h0, .inr (6, [.null, .int 0])), (a1, .inl (cs 0, 40, .inl (fun _ => 0)))] H locs := w
  refine zk_putF (q0 := 0) (k := 0) (ty := (.array .int)) (ws' := [(h0, .inr (6, [.ref a1, .int 0])), (a1, .inl (cs 0, 40, .inl (fun _ => 0)))]) C w rfl rfl inz6 tyX6 tyX6_ok nmX6 (by decide) lf_6_9 rfl rfl hini rfl (by decide +kernel) rfl rfl (Nat.le_of_ble_eq_true rfl) rfl dX6_init_9 (fun H locs w => ?_)
  refine lv_aload_n hx hb dX6_init_12 rfl (lv_at hl 0 rfl) ?_
  refine lv_iconst (v := 0) hx hb dX6_init_13 (by decide) ?_
  refine zr_put (q0 := 0) (k := 1) (ty := .int) (ws' := [(h0, .inr (6, [.ref a1, .int 0])), (a1, .inl (cs 0, 40, .inl (fun _ => 0)))]) C w rfl rfl inz6 tyX6 tyX6_ok nmX6 (by decide) lf_6_15 rfl rfl (by decide +kernel) rfl rfl (Nat.le_of_ble_eq_true rfl) rfl dX6_init_14 (fun H locs w => ?_)
  exact hret _ _ _ _ (fun k => match k with | 0 => h0 | 1 => a1 | _ => 0) rfl w dX6_init_17
