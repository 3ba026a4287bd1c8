def ku_2 : zs_T := ((fun k => match k with | 2 => (-1) | _ => 0), (fun _ => 0), (fun _ _ => 0), (fun _ _ => 0))
def fXp2_init (u : zs_T) : Option zs_T :=
  (zf_bv (fXp2_makeHeights u 1) fun u2 => some u2)
set_option maxHeartbeats 4000000 in
set_option maxRecDepth 100000 in
theorem kc2 (l : Launch) (D : va_G) (cs : Nat → ClassId) (h0 : Nat) (z : zs_T) (hf : fXp2_init (ku_2) = some z) : zk_C l yX2_init cX2_init 1 2 3 18 D cs h0 2 [.null, .null, .null, .int 0, .int 0, .int 0, .int 0, .long 0] (fun q => wXp q cs (z)) := by
  refine zk_of (own := RX2) (by decide) rfl rfl (by decide) ?_
  intro p e s m args below meth c A Q C hini hret w ls hl
  obtain ⟨hx, hb, -⟩ := id C
  generalize hH : s.heap = H at w ⊢
  generalize hLc : ([] : List Loc) = locs at w ⊢
  refine lv_aload_n hx hb dX2_init_0 rfl (lv_at hl 0 rfl) ?_
  refine zk_obj C lm_2_3 hl.1 ⟨Nat.le_of_ble_eq_true rfl, Nat.le_of_ble_eq_true rfl⟩ dX2_init_1 ?_
  refine lv_aload_n hx hb dX2_init_4 rfl (lv_at hl 0 rfl) ?_
  refine lv_bipush (v := 6) hx hb dX2_init_5 (by decide) ?_
  refine zk_newi (N := 6) C w (by decide) (by rfl) (by decide) ⟨Nat.le_of_ble_eq_true rfl, Nat.le_of_ble_eq_true rfl⟩ dX2_init_7 (fun a1 H w => ?_)
  replace w : zg_W D cs A s [(h0, .inr (2, [.null, .null, .null, .int 0, .int 0, .int 0, .int 0, .long 0])), (a1, .inl (cs 0, 6, .inl (fun _ => 0)))] H locs := w
  refine zk_putF (q0 := 0) (k := 0) (ty := (.array .int)) (ws' := [(h0, .inr (2, [.ref a1, .null, .null, .int 0, .int 0, .int 0, .int 0, .long 0])), (a1, .inl (cs 0, 6, .inl (fun _ => 0)))]) C w rfl rfl inz2 tyX2 tyX2_ok nmX2 (by decide) lf_2_9 rfl rfl hini rfl (by decide +kernel) rfl rfl (Nat.le_of_ble_eq_true rfl) rfl dX2_init_9 (fun H locs w => ?_)
  refine lv_aload_n hx hb dX2_init_12 rfl (lv_at hl 0 rfl) ?_
  refine lv_bipush (v := 6) hx hb dX2_init_13 (by decide) ?_
  refine zk_newi (N := 6) C w (by decide) (by rfl) (by decide) ⟨Nat.le_of_ble_eq_true rfl, Nat.le_of_ble_eq_true rfl⟩ dX2_init_15 (fun a2 H w => ?_)
  replace w : zg_W D cs A s [(h0, .inr (2, [.ref a1, .null, .null, .int 0, .int 0, .int 0, .int 0, .long 0])), (a1, .inl (cs 0, 6, .inl (fun _ => 0))), (a2, .inl (cs 0, 6, .inl (fun _ => 0)))] H locs := w
  refine zk_putF (q0 := 0) (k := 1) (ty := (.array .int)) (ws' := [(h0, .inr (2, [.ref a1, .ref a2, .null, .int 0, .int 0, .int 0, .int 0, .long 0])), (a1, .inl (cs 0, 6, .inl (fun _ => 0))), (a2, .inl (cs 0, 6, .inl (fun _ => 0)))]) C w rfl rfl inz2 tyX2 tyX2_ok nmX2 (by decide) lf_2_15 rfl rfl hini rfl (by decide +kernel) rfl rfl (Nat.le_of_ble_eq_true rfl) rfl dX2_init_17 (fun H locs w => ?_)
  refine lv_aload_n hx hb dX2_init_20 rfl (lv_at hl 0 rfl) ?_
  refine lv_bipush (v := 6) hx hb dX2_init_21 (by decide) ?_
  refine zk_newi (N := 6) C w (by decide) (by rfl) (by decide) ⟨Nat.le_of_ble_eq_true rfl, Nat.le_of_ble_eq_true rfl⟩ dX2_init_23 (fun a3 H w => ?_)
  replace w : zg_W D cs A s [(h0, .inr (2, [.ref a1, .ref a2, .null, .int 0, .int 0, .int 0, .int 0, .long 0])), (a1, .inl (cs 0, 6, .inl (fun _ => 0))), (a2, .inl (cs 0, 6, .inl (fun _ => 0))), (a3, .inl (cs 0, 6, .inl (fun _ => 0)))] H locs := w
  refine zk_putF (q0 := 0) (k := 2) (ty := (.array .int)) (ws' := [(h0, .inr (2, [.ref a1, .ref a2, .ref a3, .int 0, .int 0, .int 0, .int 0, .long 0])), (a1, .inl (cs 0, 6, .inl (fun _ => 0))), (a2, .inl (cs 0, 6, .inl (fun _ => 0))), (a3, .inl (cs 0, 6, .inl (fun _ => 0)))]) C w rfl rfl inz2 tyX2 tyX2_ok nmX2 (by decide) lf_2_18 rfl rfl hini rfl (by decide +kernel) rfl rfl (Nat.le_of_ble_eq_true rfl) rfl dX2_init_25 (fun H locs w => ?_)
  refine lv_aload_n hx hb dX2_init_28 rfl (lv_at hl 0 rfl) ?_
  refine lv_iconst (v := 0) hx hb dX2_init_29 (by decide) ?_
  refine zr_put (q0 := 0) (k := 4) (ty := .int) (ws' := [(h0, .inr (2, [.ref a1, .ref a2, .ref a3, .int 0, .int 0, .int 0, .int 0, .long 0])), (a1, .inl (cs 0, 6, .inl (fun _ => 0))), (a2, .inl (cs 0, 6, .inl (fun _ => 0))), (a3, .inl (cs 0, 6, .inl (fun _ => 0)))]) C w rfl rfl inz2 tyX2 tyX2_ok nmX2 (by decide) lf_2_21 rfl rfl (by decide +kernel) rfl rfl (Nat.le_of_ble_eq_true rfl) rfl dX2_init_30 (fun H locs w => ?_)
  refine lv_aload_n hx hb dX2_init_33 rfl (lv_at hl 0 rfl) ?_
  refine lv_iconst (v := (-1)) hx hb dX2_init_34 (by decide) ?_
  refine zr_put (q0 := 0) (k := 5) (ty := .int) (ws' := [(h0, .inr (2, [.ref a1, .ref a2, .ref a3, .int 0, .int 0, .int (-1), .int 0, .long 0])), (a1, .inl (cs 0, 6, .inl (fun _ => 0))), (a2, .inl (cs 0, 6, .inl (fun _ => 0))), (a3, .inl (cs 0, 6, .inl (fun _ => 0)))]) C w rfl rfl inz2 tyX2 tyX2_ok nmX2 (by decide) lf_2_25 rfl rfl (by decide +kernel) rfl rfl (Nat.le_of_ble_eq_true rfl) rfl dX2_init_35 (fun H locs w => ?_)
  refine lv_aload_n hx hb dX2_init_38 rfl (lv_at hl 0 rfl) ?_
  refine lv_iconst (v := 0) hx hb dX2_init_39 (by decide) ?_
  refine zr_put (q0 := 0) (k := 6) (ty := .int) (ws' := [(h0, .inr (2, [.ref a1, .ref a2, .ref a3, .int 0, .int 0, .int (-1), .int 0, .long 0])), (a1, .inl (cs 0, 6, .inl (fun _ => 0))), (a2, .inl (cs 0, 6, .inl (fun _ => 0))), (a3, .inl (cs 0, 6, .inl (fun _ => 0)))]) C w rfl rfl inz2 tyX2 tyX2_ok nmX2 (by decide) lf_2_28 rfl rfl (by decide +kernel) rfl rfl (Nat.le_of_ble_eq_true rfl) rfl dX2_init_40 (fun H locs w => ?_)
  refine lv_aload_n hx hb dX2_init_43 rfl (lv_at hl 0 rfl) ?_
  refine lv_lconst (v := 0) hx hb dX2_init_44 (by decide) ?_
  refine zr_put (q0 := 0) (k := 7) (ty := .long) (ws' := [(h0, .inr (2, [.ref a1, .ref a2, .ref a3, .int 0, .int 0, .int (-1), .int 0, .long 0])), (a1, .inl (cs 0, 6, .inl (fun _ => 0))), (a2, .inl (cs 0, 6, .inl (fun _ => 0))), (a3, .inl (cs 0, 6, .inl (fun _ => 0)))]) C w rfl rfl inz2 tyX2 tyX2_ok nmX2 (by decide) lf_2_31 rfl rfl (by decide +kernel) rfl rfl (Nat.le_of_ble_eq_true rfl) rfl dX2_init_45 (fun H locs w => ?_)
  obtain ⟨q, hq0, w9⟩ : ∃ q : Nat → Nat, q 0 = h0 ∧ zg_W D cs A s (wXp q cs (ku_2)) H locs := ⟨(fun k => match k with | 0 => h0 | 1 => a1 | 2 => a2 | 3 => a3 | _ => 0), rfl, w⟩
  rw [← hq0] at hl
  replace w : zg_W D cs A s (wXp q cs (ku_2)) H locs := w9
  clear w9
  have hret2 : ∀ (H : Heap) (locs : List Loc) (pc : Nat) (ls : Array Slot) (v : zs_T), some v = some z → zg_W D cs A s (wXp q cs v) H locs → decode cX2_init pc = .ok (.return_, 1) → W p l e (zk_rm 2 3 18) s m args below meth c H locs 3 18 Q (F0 m pc ls []) := fun H locs pc ls v hv w hd => hret H locs pc ls q hq0 (by cases hv; exact w) hd
  replace hret := hret2
  replace hl : lv_has ls 1 [(0, .ref (q 0))] := hl
  show W p l e (zk_rm 2 3 18) s m args below meth c H locs 3 18 Q (F0 m 48 ls [])
  generalize hu : (ku_2 : zs_T) = u at hf w
  unfold fXp2_init at hf
  refine lv_aload_n hx hb dX2_init_48 rfl (lv_at hl 0 rfl) ?_
  refine lv_iconst (v := 1) hx hb dX2_init_49 (by decide) ?_
  obtain ⟨u2, hc, hf⟩ := zf_bv_ex hf
  refine zc_rv wXp_ad w (zc_V C w (kXp2_makeHeights l D q cs _ _ _ hc _) cf_2_makeHeights ci_2_makeHeights lm_2_35 rcXp_0 ⟨Nat.le_of_ble_eq_true rfl, Nat.le_of_ble_eq_true rfl⟩ hl.1 rfl (Nat.le_of_ble_eq_true rfl) dX2_init_50 ⟨Nat.le_refl _, Nat.le_refl _⟩) (fun H locs w => ?_)
  exact hret _ _ _ _ _ hf w dX2_init_53
