def fX6_append_b3 (N : Nat) (v1 : Int32) (ag3 : zs_T → Int32 → Option zs_T) (u : zs_T) (v2 : Int32) : Option zs_T :=
  (if v2 < 0 then some u else (if 40 ≤ zs_i u 2 then some u else (if zf_in (zs_i u 2) 40 then ag3 (zs_si (zs_sa u 0 (upd (zs_a u 0) (zs_i u 2).toNatClampNeg (((v1.toUInt32 >>> (v2.toUInt32 &&& Int32.toUInt32 31)).toInt32) &&& 255))) 2 ((zs_i (zs_sa u 0 (upd (zs_a u 0) (zs_i u 2).toNatClampNeg (((v1.toUInt32 >>> (v2.toUInt32 &&& Int32.toUInt32 31)).toInt32) &&& 255))) 2) + 1)) (v2 + (-8)) else none)))
def fX6_append (N : Nat) (u : zs_T) (v1 : Int32) : Option zs_T :=
  zf_loop (fun ag x => fX6_append_b3 N v1 (fun u v2 => ag (u, v2)) x.1 x.2) N (u, 24)
set_option maxHeartbeats 4000000 in
set_option maxRecDepth 100000 in
theorem kX6_append (l : Launch) (D : va_G) (q : Nat → Nat) (cs : Nat → ClassId) (N : Nat) (u : zs_T) (v1 : Int32) (z : zs_T) (hf : fX6_append N u v1 = some z) : zg_Cv l yX6_append cX6_append 3 none 0 D cs (wX q cs) u [.ref (q 1), .int v1] z := by
  refine zg_Cv_of (own := RX6) (by decide) rfl wX_ad (Nat.le_of_ble_eq_true rfl) ?_
  intro p e s m args below meth c A Q C hret w ls hl
  obtain ⟨hx, hb, -⟩ := id C
  have hl : lv_has ls 3 [(0, .ref (q 1)), (1, .int v1)] := hl
  generalize hH : s.heap = H at w ⊢
  generalize hLc : ([] : List Loc) = locs at w ⊢
  unfold fX6_append at hf
  refine lv_bipush (v := 24) hx hb dX6_append_0 (by decide) ?_
  refine lv_istore_n (lv' := [(2, .int 24), (0, .ref (q 1)), (1, .int v1)]) hx hb dX6_append_2 rfl hl (by decide) rfl (fun ls hl => ?_)
  have lp3 : ∀ (v1 : Int32) (n : Nat) (x : zs_T × Int32), zf_loop (fun ag x => fX6_append_b3 N v1 (fun u v2 => ag (u, v2)) x.1 x.2) n x = some z → ∀ (H : Heap) (locs : List Loc) (ls : Array Slot), zg_W D cs A s (wX q cs x.1) H locs → lv_has ls 3 [(0, .ref (q 1)), (1, .int v1), (2, .int x.2)] → W p l e (zg_rm 0) s m args below meth c H locs 0 0 Q (F0 m 3 ls []) := by
    intro v1
    refine zf_loop_W (fun x : zs_T × Int32 => ∀ (H : Heap) (locs : List Loc) (ls : Array Slot), zg_W D cs A s (wX q cs x.1) H locs → lv_has ls 3 [(0, .ref (q 1)), (1, .int v1), (2, .int x.2)] → W p l e (zg_rm 0) s m args below meth c H locs 0 0 Q (F0 m 3 ls [])) ?_
    intro ag3 x hag3 hf
    obtain ⟨u, v2⟩ := x
    intro H locs ls w hl
    replace hf : fX6_append_b3 N v1 (fun u v2 => ag3 (u, v2)) u v2 = some z := hf
    replace hl : lv_has ls 3 [(0, .ref (q 1)), (1, .int v1), (2, .int v2)] := hl
    replace w : zg_W D cs A s (wX q cs u) H locs := w
    unfold fX6_append_b3 at hf
    refine lv_iload_n hx hb dX6_append_3 rfl (lv_at hl 2 rfl) ?_
    refine lv_if_lt (tgt := 48) hx hb dX6_append_4 (by decide) (fun h => ?_) (fun h => ?_)
    · replace hf := zf_t h hf
      exact hret _ _ _ _ _ hf w dX6_append_48
    · replace hf := zf_f h hf
      refine lv_aload_n hx hb dX6_append_7 rfl (lv_at hl 0 rfl) ?_
      refine xg_1_1 C w lf_6_15 dX6_append_8 ?_
      refine lv_bipush (v := 40) hx hb dX6_append_11 (by decide) ?_
      refine lv_icmp_ge (tgt := 48) hx hb dX6_append_13 (by decide) (fun h => ?_) (fun h => ?_)
      · replace hf := zf_t h hf
        exact hret _ _ _ _ _ hf w dX6_append_48
      · replace hf := zf_f h hf
        refine lv_aload_n hx hb dX6_append_16 rfl (lv_at hl 0 rfl) ?_
        refine xg_1_0 C w lf_6_9 dX6_append_17 ?_
        refine lv_aload_n hx hb dX6_append_20 rfl (lv_at hl 0 rfl) ?_
        refine xg_1_1 C w lf_6_15 dX6_append_21 ?_
        refine lv_iload_n hx hb dX6_append_24 rfl (lv_at hl 1 rfl) ?_
        refine lv_iload_n hx hb dX6_append_25 rfl (lv_at hl 2 rfl) ?_
        refine lv_iushr hx hb dX6_append_26 rfl ?_
        refine lv_sipush (v := 255) hx hb dX6_append_27 (by decide) ?_
        refine lv_iand hx hb dX6_append_30 ?_
        obtain ⟨hi, hf⟩ := zf_gd hf
        refine xs_9 C w hi dX6_append_31 (fun H locs w => ?_)
        refine lv_aload_n hx hb dX6_append_32 rfl (lv_at hl 0 rfl) ?_
        refine lv_dup hx hb dX6_append_33 rfl ?_
        refine xg_1_1 C w lf_6_15 dX6_append_34 ?_
        refine lv_iconst (v := 1) hx hb dX6_append_37 (by decide) ?_
        refine lv_iadd hx hb dX6_append_38 ?_
        refine xp_1_1 C w lf_6_15 dX6_append_39 (fun H locs w => ?_)
        refine lv_iinc (v := v2 + (-8)) (lv' := [(2, .int (v2 + (-8))), (0, .ref (q 1)), (1, .int v1)]) hx hb dX6_append_42 hl (k := 2) rfl rfl (by decide) rfl (fun ls hl => ?_)
        refine lv_goto (tgt := 3) hx hb dX6_append_45 (by decide) ?_
        exact hag3 (zs_si (zs_sa u 0 (upd (zs_a u 0) (zs_i u 2).toNatClampNeg (((v1.toUInt32 >>> (v2.toUInt32 &&& Int32.toUInt32 31)).toInt32) &&& 255))) 2 ((zs_i (zs_sa u 0 (upd (zs_a u 0) (zs_i u 2).toNatClampNeg (((v1.toUInt32 >>> (v2.toUInt32 &&& Int32.toUInt32 31)).toInt32) &&& 255))) 2) + 1), v2 + (-8)) hf H locs ls w (lv_sub hl [1, 2, 0] rfl)
  exact lp3 _ _ _ hf H locs ls w (lv_sub hl [1, 2, 0] rfl)
