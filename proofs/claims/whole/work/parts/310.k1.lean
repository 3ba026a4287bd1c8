def fXg1_init_b56 (N : Nat) (ag56 : zs_T → Int32 → Option zs_T) (u : zs_T) (v1 : Int32) : Option zs_T :=
  (if 12 ≤ v1 then some u else (if zf_in v1 12 then ag56 (zs_sa u 1 (upd (zs_a u 1) v1.toNatClampNeg v1)) (v1 + 1) else none))
def fXg1_init (N : Nat) (u : zs_T) : Option zs_T :=
  zf_loop (fun ag x => fXg1_init_b56 N (fun u v1 => ag (u, v1)) x.1 x.2) N (u, 0)
set_option maxHeartbeats 4000000 in
set_option maxRecDepth 100000 in
theorem kc1 (l : Launch) (D : va_G) (cs : Nat → ClassId) (h0 : Nat) (N : Nat) (z : zs_T) (hf : fXg1_init N (zs_0) = some z) : zk_C l yX1_init cX1_init 2 1 5 60 D cs h0 1 [.null, .null, .null, .null, .long 0, .null, .long 0] (fun q => wXg q cs (z)) := by
  refine zk_of (own := RX1) (by decide) rfl rfl (by decide) ?_
  intro p e s m args below meth c A Q C hini hret w ls hl
  obtain ⟨hx, hb, -⟩ := id C
  generalize hH : s.heap = H at w ⊢
  generalize hLc : ([] : List Loc) = locs at w ⊢
  refine lv_aload_n hx hb dX1_init_0 rfl (lv_at hl 0 rfl) ?_
  refine zk_obj C lm_1_3 hl.1 ⟨Nat.le_of_ble_eq_true rfl, Nat.le_of_ble_eq_true rfl⟩ dX1_init_1 ?_
  refine lv_aload_n hx hb dX1_init_4 rfl (lv_at hl 0 rfl) ?_
  refine lv_bipush (v := 12) hx hb dX1_init_5 (by decide) ?_
  refine zk_newl (N := 12) C w (by decide) (by rfl) (by decide) ⟨Nat.le_of_ble_eq_true rfl, Nat.le_of_ble_eq_true rfl⟩ dX1_init_7 (fun a1 H w => ?_)
  replace w : zg_W D cs A s [(h0, .inr (1, [.null, .null, .null, .null, .long 0, .null, .long 0])), (a1, .inl (cs 1, 12, .inr (.inl (fun _ => 0))))] H locs := w
  refine zk_putF (q0 := 0) (k := 0) (ty := (.array .long)) (ws' := [(h0, .inr (1, [.ref a1, .null, .null, .null, .long 0, .null, .long 0])), (a1, .inl (cs 1, 12, .inr (.inl (fun _ => 0))))]) C w rfl rfl inz1 tyX1 tyX1_ok nmX1 (by decide) lf_1_9 rfl rfl hini rfl (by decide +kernel) rfl rfl (Nat.le_of_ble_eq_true rfl) rfl dX1_init_9 (fun H locs w => ?_)
  refine lv_aload_n hx hb dX1_init_12 rfl (lv_at hl 0 rfl) ?_
  refine lv_bipush (v := 12) hx hb dX1_init_13 (by decide) ?_
  refine zk_newi (N := 12) C w (by decide) (by rfl) (by decide) ⟨Nat.le_of_ble_eq_true rfl, Nat.le_of_ble_eq_true rfl⟩ dX1_init_15 (fun a2 H w => ?_)
  replace w : zg_W D cs A s [(h0, .inr (1, [.ref a1, .null, .null, .null, .long 0, .null, .long 0])), (a1, .inl (cs 1, 12, .inr (.inl (fun _ => 0)))), (a2, .inl (cs 0, 12, .inl (fun _ => 0)))] H locs := w
  refine zk_putF (q0 := 0) (k := 1) (ty := (.array .int)) (ws' := [(h0, .inr (1, [.ref a1, .ref a2, .null, .null, .long 0, .null, .long 0])), (a1, .inl (cs 1, 12, .inr (.inl (fun _ => 0)))), (a2, .inl (cs 0, 12, .inl (fun _ => 0)))]) C w rfl rfl inz1 tyX1 tyX1_ok nmX1 (by decide) lf_1_15 rfl rfl hini rfl (by decide +kernel) rfl rfl (Nat.le_of_ble_eq_true rfl) rfl dX1_init_17 (fun H locs w => ?_)
  refine lv_aload_n hx hb dX1_init_20 rfl (lv_at hl 0 rfl) ?_
  refine lv_bipush (v := 12) hx hb dX1_init_21 (by decide) ?_
  refine zk_newl (N := 12) C w (by decide) (by rfl) (by decide) ⟨Nat.le_of_ble_eq_true rfl, Nat.le_of_ble_eq_true rfl⟩ dX1_init_23 (fun a3 H w => ?_)
  replace w : zg_W D cs A s [(h0, .inr (1, [.ref a1, .ref a2, .null, .null, .long 0, .null, .long 0])), (a1, .inl (cs 1, 12, .inr (.inl (fun _ => 0)))), (a2, .inl (cs 0, 12, .inl (fun _ => 0))), (a3, .inl (cs 1, 12, .inr (.inl (fun _ => 0))))] H locs := w
  refine zk_putF (q0 := 0) (k := 2) (ty := (.array .long)) (ws' := [(h0, .inr (1, [.ref a1, .ref a2, .ref a3, .null, .long 0, .null, .long 0])), (a1, .inl (cs 1, 12, .inr (.inl (fun _ => 0)))), (a2, .inl (cs 0, 12, .inl (fun _ => 0))), (a3, .inl (cs 1, 12, .inr (.inl (fun _ => 0))))]) C w rfl rfl inz1 tyX1 tyX1_ok nmX1 (by decide) lf_1_19 rfl rfl hini rfl (by decide +kernel) rfl rfl (Nat.le_of_ble_eq_true rfl) rfl dX1_init_25 (fun H locs w => ?_)
  refine lv_aload_n hx hb dX1_init_28 rfl (lv_at hl 0 rfl) ?_
  refine lv_bipush (v := 12) hx hb dX1_init_29 (by decide) ?_
  refine zk_newl (N := 12) C w (by decide) (by rfl) (by decide) ⟨Nat.le_of_ble_eq_true rfl, Nat.le_of_ble_eq_true rfl⟩ dX1_init_31 (fun a4 H w => ?_)
  replace w : zg_W D cs A s [(h0, .inr (1, [.ref a1, .ref a2, .ref a3, .null, .long 0, .null, .long 0])), (a1, .inl (cs 1, 12, .inr (.inl (fun _ => 0)))), (a2, .inl (cs 0, 12, .inl (fun _ => 0))), (a3, .inl (cs 1, 12, .inr (.inl (fun _ => 0)))), (a4, .inl (cs 1, 12, .inr (.inl (fun _ => 0))))] H locs := w
  refine zk_putF (q0 := 0) (k := 3) (ty := (.array .long)) (ws' := [(h0, .inr (1, [.ref a1, .ref a2, .ref a3, .ref a4, .long 0, .null, .long 0])), (a1, .inl (cs 1, 12, .inr (.inl (fun _ => 0)))), (a2, .inl (cs 0, 12, .inl (fun _ => 0))), (a3, .inl (cs 1, 12, .inr (.inl (fun _ => 0)))), (a4, .inl (cs 1, 12, .inr (.inl (fun _ => 0))))]) C w rfl rfl inz1 tyX1 tyX1_ok nmX1 (by decide) lf_1_22 rfl rfl hini rfl (by decide +kernel) rfl rfl (Nat.le_of_ble_eq_true rfl) rfl dX1_init_33 (fun H locs w => ?_)
  refine lv_aload_n hx hb dX1_init_36 rfl (lv_at hl 0 rfl) ?_
  refine lv_lconst (v := 0) hx hb dX1_init_37 (by decide) ?_
  refine zr_put (q0 := 0) (k := 4) (ty := .long) (ws' := [(h0, .inr (1, [.ref a1, .ref a2, .ref a3, .ref a4, .long 0, .null, .long 0])), (a1, .inl (cs 1, 12, .inr (.inl (fun _ => 0)))), (a2, .inl (cs 0, 12, .inl (fun _ => 0))), (a3, .inl (cs 1, 12, .inr (.inl (fun _ => 0)))), (a4, .inl (cs 1, 12, .inr (.inl (fun _ => 0))))]) C w rfl rfl inz1 tyX1 tyX1_ok nmX1 (by decide) lf_1_25 rfl rfl (by decide +kernel) rfl rfl (Nat.le_of_ble_eq_true rfl) rfl dX1_init_38 (fun H locs w => ?_)
  refine lv_aload_n hx hb dX1_init_41 rfl (lv_at hl 0 rfl) ?_
  refine lv_bipush (v := 12) hx hb dX1_init_42 (by decide) ?_
  refine zk_newi (N := 12) C w (by decide) (by rfl) (by decide) ⟨Nat.le_of_ble_eq_true rfl, Nat.le_of_ble_eq_true rfl⟩ dX1_init_44 (fun a5 H w => ?_)
  replace w : zg_W D cs A s [(h0, .inr (1, [.ref a1, .ref a2, .ref a3, .ref a4, .long 0, .null, .long 0])), (a1, .inl (cs 1, 12, .inr (.inl (fun _ => 0)))), (a2, .inl (cs 0, 12, .inl (fun _ => 0))), (a3, .inl (cs 1, 12, .inr (.inl (fun _ => 0)))), (a4, .inl (cs 1, 12, .inr (.inl (fun _ => 0)))), (a5, .inl (cs 0, 12, .inl (fun _ => 0)))] H locs := w
  refine zk_putF (q0 := 0) (k := 5) (ty := (.array .int)) (ws' := [(h0, .inr (1, [.ref a1, .ref a2, .ref a3, .ref a4, .long 0, .ref a5, .long 0])), (a1, .inl (cs 1, 12, .inr (.inl (fun _ => 0)))), (a2, .inl (cs 0, 12, .inl (fun _ => 0))), (a3, .inl (cs 1, 12, .inr (.inl (fun _ => 0)))), (a4, .inl (cs 1, 12, .inr (.inl (fun _ => 0)))), (a5, .inl (cs 0, 12, .inl (fun _ => 0)))]) C w rfl rfl inz1 tyX1 tyX1_ok nmX1 (by decide) lf_1_29 rfl rfl hini rfl (by decide +kernel) rfl rfl (Nat.le_of_ble_eq_true rfl) rfl dX1_init_46 (fun H locs w => ?_)
  refine lv_aload_n hx hb dX1_init_49 rfl (lv_at hl 0 rfl) ?_
  refine lv_lconst (v := 0) hx hb dX1_init_50 (by decide) ?_
  refine zr_put (q0 := 0) (k := 6) (ty := .long) (ws' := [(h0, .inr (1, [.ref a1, .ref a2, .ref a3, .ref a4, .long 0, .ref a5, .long 0])), (a1, .inl (cs 1, 12, .inr (.inl (fun _ => 0)))), (a2, .inl (cs 0, 12, .inl (fun _ => 0))), (a3, .inl (cs 1, 12, .inr (.inl (fun _ => 0)))), (a4, .inl (cs 1, 12, .inr (.inl (fun _ => 0)))), (a5, .inl (cs 0, 12, .inl (fun _ => 0)))]) C w rfl rfl inz1 tyX1 tyX1_ok nmX1 (by decide) lf_1_32 rfl rfl (by decide +kernel) rfl rfl (Nat.le_of_ble_eq_true rfl) rfl dX1_init_51 (fun H locs w => ?_)
  obtain ⟨q, hq0, w9⟩ : ∃ q : Nat → Nat, q 0 = h0 ∧ zg_W D cs A s (wXg q cs (zs_0)) H locs := ⟨(fun k => match k with | 0 => h0 | 1 => a1 | 2 => a2 | 3 => a3 | 4 => a4 | 5 => a5 | _ => 0), rfl, w⟩
  rw [← hq0] at hl
  replace w : zg_W D cs A s (wXg q cs (zs_0)) H locs := w9
  clear w9
  have hret2 : ∀ (H : Heap) (locs : List Loc) (pc : Nat) (ls : Array Slot) (v : zs_T), some v = some z → zg_W D cs A s (wXg q cs v) H locs → decode cX1_init pc = .ok (.return_, 1) → W p l e (zk_rm 1 5 60) s m args below meth c H locs 5 60 Q (F0 m pc ls []) := fun H locs pc ls v hv w hd => hret H locs pc ls q hq0 (by cases hv; exact w) hd
  replace hret := hret2
  replace hl : lv_has ls 2 [(0, .ref (q 0))] := hl
  show W p l e (zk_rm 1 5 60) s m args below meth c H locs 5 60 Q (F0 m 54 ls [])
  generalize hu : (zs_0 : zs_T) = u at hf w
  unfold fXg1_init at hf
  refine lv_iconst (v := 0) hx hb dX1_init_54 (by decide) ?_
  refine lv_istore_n (lv' := [(1, .int 0), (0, .ref (q 0))]) hx hb dX1_init_55 rfl hl (by decide) rfl (fun ls hl => ?_)
  have lp56 : ∀ (n : Nat) (x : zs_T × Int32), zf_loop (fun ag x => fXg1_init_b56 N (fun u v1 => ag (u, v1)) x.1 x.2) n x = some z → ∀ (H : Heap) (locs : List Loc) (ls : Array Slot), zg_W D cs A s (wXg q cs x.1) H locs → lv_has ls 2 [(0, .ref (q 0)), (1, .int x.2)] → W p l e (zk_rm 1 5 60) s m args below meth c H locs 5 60 Q (F0 m 56 ls []) := by
    refine zf_loop_W (fun x : zs_T × Int32 => ∀ (H : Heap) (locs : List Loc) (ls : Array Slot), zg_W D cs A s (wXg q cs x.1) H locs → lv_has ls 2 [(0, .ref (q 0)), (1, .int x.2)] → W p l e (zk_rm 1 5 60) s m args below meth c H locs 5 60 Q (F0 m 56 ls [])) ?_
    intro ag56 x hag56 hf
    obtain ⟨u, v1⟩ := x
    intro H locs ls w hl
    replace hf : fXg1_init_b56 N (fun u v1 => ag56 (u, v1)) u v1 = some z := hf
    replace hl : lv_has ls 2 [(0, .ref (q 0)), (1, .int v1)] := hl
    replace w : zg_W D cs A s (wXg q cs u) H locs := w
    unfold fXg1_init_b56 at hf
    refine lv_iload_n hx hb dX1_init_56 rfl (lv_at hl 1 rfl) ?_
    refine lv_bipush (v := 12) hx hb dX1_init_57 (by decide) ?_
    refine lv_icmp_ge (tgt := 75) hx hb dX1_init_59 (by decide) (fun h => ?_) (fun h => ?_)
    · replace hf := zf_t h hf
      exact hret _ _ _ _ _ hf w dX1_init_75
    · replace hf := zf_f h hf
      refine lv_aload_n hx hb dX1_init_62 rfl (lv_at hl 0 rfl) ?_
      refine xgg_0_5 C w lf_1_29 dX1_init_63 ?_
      refine lv_iload_n hx hb dX1_init_66 rfl (lv_at hl 1 rfl) ?_
      refine lv_iload_n hx hb dX1_init_67 rfl (lv_at hl 1 rfl) ?_
      obtain ⟨hi, hf⟩ := zf_gd hf
      refine xgs_5 C w hi dX1_init_68 (fun H locs w => ?_)
      refine lv_iinc (v := v1 + 1) (lv' := [(1, .int (v1 + 1)), (0, .ref (q 0))]) hx hb dX1_init_69 hl (k := 1) rfl rfl (by decide) rfl (fun ls hl => ?_)
      refine lv_goto (tgt := 56) hx hb dX1_init_72 (by decide) ?_
      exact hag56 (zs_sa u 1 (upd (zs_a u 1) v1.toNatClampNeg v1), v1 + 1) hf H locs ls w (lv_sub hl [1, 0] rfl)
  exact lp56 _ _ hf H locs ls w (lv_sub hl [1, 0] rfl)
