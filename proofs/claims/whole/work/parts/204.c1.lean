def fX1_payIn_j50 (N : Nat) (u : zs_T) (v2 : Int64) : Option zs_T :=
  some (zs_sl u 1 ((zs_l u 1) + v2))
def fX1_payIn_b8 (N : Nat) (ag8 : zs_T → Int64 → Int32 → Option zs_T) (u : zs_T) (v2 : Int64) (v4 : Int32) : Option zs_T :=
  (if 12 ≤ v4 then fX1_payIn_j50 N u v2 else (zf_bp (fX1_shareOf N u (zs_l u 2) v4) fun r1 => (if zf_in v4 12 then (if zf_in v4 12 then ag8 (zs_sb u 2 (vp_updL (zs_b u 2) v4.toNatClampNeg ((zs_b u 2 v4.toNatClampNeg) - r1))) (v2 - r1) (v4 + 1) else none) else none)))
def fX1_payIn (N : Nat) (u : zs_T) : Option zs_T :=
  zf_loop (fun ag x => fX1_payIn_b8 N (fun u v2 v4 => ag (u, v2, v4)) x.1 x.2.1 x.2.2) N (u, zs_l u 2, 0)
set_option maxHeartbeats 4000000 in
set_option maxRecDepth 100000 in
theorem kX1_payIn (l : Launch) (D : va_G) (q : Nat → Nat) (cs : Nat → ClassId) (N : Nat) (u : zs_T) (z : zs_T) (hf : fX1_payIn N u = some z) : zg_Cv l yX1_payIn cX1_payIn 7 none 1 D cs (wX q cs) u [.ref (q 8), .ref (q 29)] z := by
  refine zg_Cv_of (own := RX1) (by decide) rfl wX_ad (Nat.le_of_ble_eq_true rfl) ?_
  intro p e s m args below meth c A Q C hret w ls hl
  obtain ⟨hx, hb, -⟩ := id C
  have hl : lv_has ls 7 [(0, .ref (q 8)), (1, .ref (q 29))] := hl
  generalize hH : s.heap = H at w ⊢
  generalize hLc : ([] : List Loc) = locs at w ⊢
  have hj50 : ∀ (u : zs_T) (v2 : Int64) (H : Heap) (locs : List Loc) (ls : Array Slot), zg_W D cs A s (wX q cs u) H locs → lv_has ls 7 [(0, .ref (q 8)), (2, .long v2)] → fX1_payIn_j50 N u v2 = some z → W p l e (zg_rm 1) s m args below meth c H locs 0 0 Q (F0 m 50 ls []) := by
    intro u v2 H locs ls w hl hf
    unfold fX1_payIn_j50 at hf
    refine lv_aload_n hx hb dX1_payIn_50 rfl (lv_at hl 0 rfl) ?_
    refine lv_dup hx hb dX1_payIn_51 rfl ?_
    refine xg_8_4 C w lf_1_25 dX1_payIn_52 ?_
    refine lv_lload_n hx hb dX1_payIn_55 rfl (lv_at hl 1 rfl) ?_
    refine lv_ladd hx hb dX1_payIn_56 ?_
    refine xp_8_4 C w lf_1_25 dX1_payIn_57 (fun H locs w => ?_)
    exact hret _ _ _ _ _ hf w dX1_payIn_60
  unfold fX1_payIn at hf
  refine lv_aload_n hx hb dX1_payIn_0 rfl (lv_at hl 0 rfl) ?_
  refine xg_8_6 C w lf_1_32 dX1_payIn_1 ?_
  refine lv_lstore_n (lv' := [(2, .long (zs_l u 2)), (0, .ref (q 8)), (1, .ref (q 29))]) hx hb dX1_payIn_4 rfl hl (by decide) rfl (fun ls hl => ?_)
  refine lv_iconst (v := 0) hx hb dX1_payIn_5 (by decide) ?_
  refine lv_istore (lv' := [(4, .int 0), (2, .long (zs_l u 2)), (0, .ref (q 8)), (1, .ref (q 29))]) hx hb dX1_payIn_6 hl (by decide) rfl (fun ls hl => ?_)
  have lp8 : ∀ (n : Nat) (x : zs_T × Int64 × Int32), zf_loop (fun ag x => fX1_payIn_b8 N (fun u v2 v4 => ag (u, v2, v4)) x.1 x.2.1 x.2.2) n x = some z → ∀ (H : Heap) (locs : List Loc) (ls : Array Slot), zg_W D cs A s (wX q cs x.1) H locs → lv_has ls 7 [(0, .ref (q 8)), (1, .ref (q 29)), (2, .long x.2.1), (4, .int x.2.2)] → W p l e (zg_rm 1) s m args below meth c H locs 0 0 Q (F0 m 8 ls []) := by
    refine zf_loop_W (fun x : zs_T × Int64 × Int32 => ∀ (H : Heap) (locs : List Loc) (ls : Array Slot), zg_W D cs A s (wX q cs x.1) H locs → lv_has ls 7 [(0, .ref (q 8)), (1, .ref (q 29)), (2, .long x.2.1), (4, .int x.2.2)] → W p l e (zg_rm 1) s m args below meth c H locs 0 0 Q (F0 m 8 ls [])) ?_
    intro ag8 x hag8 hf
    obtain ⟨u, v2, v4⟩ := x
    intro H locs ls w hl
    replace hf : fX1_payIn_b8 N (fun u v2 v4 => ag8 (u, v2, v4)) u v2 v4 = some z := hf
    replace hl : lv_has ls 7 [(0, .ref (q 8)), (1, .ref (q 29)), (2, .long v2), (4, .int v4)] := hl
    replace w : zg_W D cs A s (wX q cs u) H locs := w
    unfold fX1_payIn_b8 at hf
    refine lv_iload hx hb dX1_payIn_8 (lv_at hl 3 rfl) ?_
    refine lv_bipush (v := 12) hx hb dX1_payIn_10 (by decide) ?_
    refine lv_icmp_ge (tgt := 50) hx hb dX1_payIn_12 (by decide) (fun h => ?_) (fun h => ?_)
    · replace hf := zf_t h hf
      exact hj50 _ _ H locs ls w (lv_sub hl [0, 2] rfl) hf
    · replace hf := zf_f h hf
      refine lv_aload_n hx hb dX1_payIn_15 rfl (lv_at hl 0 rfl) ?_
      refine xg_8_6 C w lf_1_32 dX1_payIn_16 ?_
      refine lv_iload hx hb dX1_payIn_19 (lv_at hl 3 rfl) ?_
      refine lv_aload_n hx hb dX1_payIn_21 rfl (lv_at hl 1 rfl) ?_
      obtain ⟨r1, hc, hf⟩ := zf_bp_ex hf
      refine zc_rl wX_ad w (zc_S C w (kX1_shareOf l D q cs N _ _ _ _ hc _) cf_1_shareOf ci_1_shareOf lm_1_35 ⟨Nat.le_of_ble_eq_true rfl, Nat.le_of_ble_eq_true rfl⟩ hl.1 rfl (Nat.le_of_ble_eq_true rfl) dX1_payIn_22 ⟨Nat.le_refl _, Nat.le_refl _⟩) (fun H locs w => ?_)
      refine lv_lstore (lv' := [(5, .long r1), (0, .ref (q 8)), (1, .ref (q 29)), (2, .long v2), (4, .int v4)]) hx hb dX1_payIn_25 hl (by decide) rfl (fun ls hl => ?_)
      refine lv_aload_n hx hb dX1_payIn_27 rfl (lv_at hl 1 rfl) ?_
      refine xg_8_3 C w lf_1_22 dX1_payIn_28 ?_
      refine lv_iload hx hb dX1_payIn_31 (lv_at hl 4 rfl) ?_
      refine lv_dup2_11 hx hb dX1_payIn_33 rfl rfl ?_
      obtain ⟨hi, hf⟩ := zf_gd hf
      refine xa_33 C w hi dX1_payIn_34 ?_
      refine lv_lload hx hb dX1_payIn_35 (lv_at hl 0 rfl) ?_
      refine lv_lsub hx hb dX1_payIn_37 ?_
      obtain ⟨hi, hf⟩ := zf_gd hf
      refine xs_33 C w hi dX1_payIn_38 (fun H locs w => ?_)
      refine lv_lload_n hx hb dX1_payIn_39 rfl (lv_at hl 3 rfl) ?_
      refine lv_lload hx hb dX1_payIn_40 (lv_at hl 0 rfl) ?_
      refine lv_lsub hx hb dX1_payIn_42 ?_
      refine lv_lstore_n (lv' := [(2, .long (v2 - r1)), (5, .long r1), (0, .ref (q 8)), (1, .ref (q 29)), (4, .int v4)]) hx hb dX1_payIn_43 rfl hl (by decide) rfl (fun ls hl => ?_)
      refine lv_iinc (v := v4 + 1) (lv' := [(4, .int (v4 + 1)), (2, .long (v2 - r1)), (5, .long r1), (0, .ref (q 8)), (1, .ref (q 29))]) hx hb dX1_payIn_44 hl (k := 4) rfl rfl (by decide) rfl (fun ls hl => ?_)
      refine lv_goto (tgt := 8) hx hb dX1_payIn_47 (by decide) ?_
      exact hag8 (zs_sb u 2 (vp_updL (zs_b u 2) v4.toNatClampNeg ((zs_b u 2 v4.toNatClampNeg) - r1)), v2 - r1, v4 + 1) hf H locs ls w (lv_sub hl [3, 4, 1, 0] rfl)
  exact lp8 _ _ hf H locs ls w (lv_sub hl [2, 3, 1, 0] rfl)
