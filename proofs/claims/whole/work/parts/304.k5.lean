def fXb5_init (u : zs_T) : Option zs_T :=
  (zf_bv (fXb5_setFirst u) fun u2 => some u2)
set_option maxHeartbeats 4000000 in
set_option maxRecDepth 100000 in
theorem kc5 (l : Launch) (D : va_G) (cs : Nat → ClassId) (h0 : Nat) (z : zs_T) (hf : fXb5_init (zs_0) = some z) : zk_C l yX5_init cX5_init 1 1 2 8 D cs h0 5 [.null, .null] (fun q => wXb q cs (z)) := by
  refine zk_of (own := RX5) (by decide) rfl rfl (by decide) ?_
  intro p e s m args below meth c A Q C hini hret w ls hl
  obtain ⟨hx, hb, -⟩ := id C
  generalize hH : s.heap = H at w ⊢
  generalize hLc : ([] : List Loc) = locs at w ⊢
  refine lv_aload_n hx hb dX5_init_0 rfl (lv_at hl 0 rfl) ?_
  refine zk_obj C lm_5_3 hl.1 ⟨Nat.le_of_ble_eq_true rfl, Nat.le_of_ble_eq_true rfl⟩ dX5_init_1 ?_
  refine lv_aload_n hx hb dX5_init_4 rfl (lv_at hl 0 rfl) ?_
  refine lv_iconst (v := 4) hx hb dX5_init_5 (by decide) ?_
  refine zk_newi (N := 4) C w (by decide) (by rfl) (by decide) ⟨Nat.le_of_ble_eq_true rfl, Nat.le_of_ble_eq_true rfl⟩ dX5_init_6 (fun a1 H w => ?_)
  replace w : zg_W D cs A s [(h0, .inr (5, [.null, .null])), (a1, .inl (cs 0, 4, .inl (fun _ => 0)))] H locs := w
  refine zk_putF (q0 := 0) (k := 0) (ty := (.array .int)) (ws' := [(h0, .inr (5, [.ref a1, .null])), (a1, .inl (cs 0, 4, .inl (fun _ => 0)))]) C w rfl rfl inz5 tyX5 tyX5_ok nmX5 (by decide) lf_5_9 rfl rfl hini rfl (by decide +kernel) rfl rfl (Nat.le_of_ble_eq_true rfl) rfl dX5_init_8 (fun H locs w => ?_)
  refine lv_aload_n hx hb dX5_init_11 rfl (lv_at hl 0 rfl) ?_
  refine lv_iconst (v := 4) hx hb dX5_init_12 (by decide) ?_
  refine zk_newi (N := 4) C w (by decide) (by rfl) (by decide) ⟨Nat.le_of_ble_eq_true rfl, Nat.le_of_ble_eq_true rfl⟩ dX5_init_13 (fun a2 H w => ?_)
  replace w : zg_W D cs A s [(h0, .inr (5, [.ref a1, .null])), (a1, .inl (cs 0, 4, .inl (fun _ => 0))), (a2, .inl (cs 0, 4, .inl (fun _ => 0)))] H locs := w
  refine zk_putF (q0 := 0) (k := 1) (ty := (.array .int)) (ws' := [(h0, .inr (5, [.ref a1, .ref a2])), (a1, .inl (cs 0, 4, .inl (fun _ => 0))), (a2, .inl (cs 0, 4, .inl (fun _ => 0)))]) C w rfl rfl inz5 tyX5 tyX5_ok nmX5 (by decide) lf_5_15 rfl rfl hini rfl (by decide +kernel) rfl rfl (Nat.le_of_ble_eq_true rfl) rfl dX5_init_15 (fun H locs w => ?_)
  obtain ⟨q, hq0, w9⟩ : ∃ q : Nat → Nat, q 0 = h0 ∧ zg_W D cs A s (wXb q cs (zs_0)) H locs := ⟨(fun k => match k with | 0 => h0 | 1 => a1 | 2 => a2 | _ => 0), rfl, w⟩
  rw [← hq0] at hl
  replace w : zg_W D cs A s (wXb q cs (zs_0)) H locs := w9
  clear w9
  have hret2 : ∀ (H : Heap) (locs : List Loc) (pc : Nat) (ls : Array Slot) (v : zs_T), some v = some z → zg_W D cs A s (wXb q cs v) H locs → decode cX5_init pc = .ok (.return_, 1) → W p l e (zk_rm 1 2 8) s m args below meth c H locs 2 8 Q (F0 m pc ls []) := fun H locs pc ls v hv w hd => hret H locs pc ls q hq0 (by cases hv; exact w) hd
  replace hret := hret2
  replace hl : lv_has ls 1 [(0, .ref (q 0))] := hl
  show W p l e (zk_rm 1 2 8) s m args below meth c H locs 2 8 Q (F0 m 18 ls [])
  generalize hu : (zs_0 : zs_T) = u at hf w
  unfold fXb5_init at hf
  refine lv_aload_n hx hb dX5_init_18 rfl (lv_at hl 0 rfl) ?_
  refine xbg_0_0 C w lf_5_9 dX5_init_19 ?_
  obtain ⟨u2, hc, hf⟩ := zf_bv_ex hf
  refine zc_rv wXb_ad w (zc_S C w (kXb5_setFirst l D q cs _ _ hc _) cf_5_setFirst ci_5_setFirst lm_5_18 ⟨Nat.le_of_ble_eq_true rfl, Nat.le_of_ble_eq_true rfl⟩ hl.1 rfl (Nat.le_of_ble_eq_true rfl) dX5_init_22 ⟨Nat.le_refl _, Nat.le_refl _⟩) (fun H locs w => ?_)
  exact hret _ _ _ _ _ hf w dX5_init_25
