def fX0_creditOf (N : Nat) (u : zs_T) (v4 : Int32) (v5 : Int32) (v6 : Int32) : Option (Int32 × zs_T) :=
  (if v6 < 1 then some (0, u) else (if zs_i u 19 = (-1) then some (0, u) else (if zf_in v5 80 then (if zs_a u 19 v5.toNatClampNeg = 0 then some (0, u) else (zf_bi (fX7_replay N u v5 v4 (zs_i u 19)) fun r1 u2 => (if zs_i u2 15 = 0 then some (0, u2) else (zf_bi (fX7_replay N u2 v5 v4 v6) fun r3 u4 => (if zf_in v5 80 then some (((zs_a u4 19 v5.toNatClampNeg) * (zr_imax (1000 - ((zs_a u4 1 (0 : Int32).toNatClampNeg) * (v6 - (zs_i u4 17)))) (zr_imin (zs_a u4 1 (1 : Int32).toNatClampNeg) 1000))) / 1000, u4) else none))))) else none)))
set_option maxHeartbeats 4000000 in
set_option maxRecDepth 100000 in
theorem kX0_creditOf (l : Launch) (D : va_G) (q : Nat → Nat) (cs : Nat → ClassId) (N : Nat) (u : zs_T) (v4 : Int32) (v5 : Int32) (v6 : Int32) (z : (Int32 × zs_T)) (hf : fX0_creditOf N u v4 v5 v6 = some z) : zg_Ci l yX0_creditOf cX0_creditOf 9 (some .int) 3 D cs (wX q cs) u [.ref (q 7), .ref (q 5), .ref (q 2), .ref (q 6), .int v4, .int v5, .int v6] z.1 z.2 := by
  refine zg_Ci_of (own := RX0) (by decide) rfl wX_ad (Nat.le_of_ble_eq_true rfl) ?_
  intro p e s m args below meth c A Q C hret w ls hl
  obtain ⟨hx, hb, -⟩ := id C
  have hl : lv_has ls 9 [(0, .ref (q 7)), (1, .ref (q 5)), (2, .ref (q 2)), (3, .ref (q 6)), (4, .int v4), (5, .int v5), (6, .int v6)] := hl
  generalize hH : s.heap = H at w ⊢
  generalize hLc : ([] : List Loc) = locs at w ⊢
  unfold fX0_creditOf at hf
  refine lv_iload hx hb dX0_creditOf_0 (lv_at hl 6 rfl) ?_
  refine lv_iconst (v := 1) hx hb dX0_creditOf_2 (by decide) ?_
  refine lv_icmp_lt (tgt := 24) hx hb dX0_creditOf_3 (by decide) (fun h => ?_) (fun h => ?_)
  · replace hf := zf_t h hf
    refine lv_iconst (v := 0) hx hb dX0_creditOf_24 (by decide) ?_
    exact hret _ _ _ _ _ _ hf w dX0_creditOf_25
  · replace hf := zf_f h hf
    refine lv_aload_n hx hb dX0_creditOf_6 rfl (lv_at hl 0 rfl) ?_
    refine xg_7_2 C w lf_0_18 dX0_creditOf_7 ?_
    refine lv_iconst (v := (-1)) hx hb dX0_creditOf_10 (by decide) ?_
    refine lv_icmp_eq (tgt := 24) hx hb dX0_creditOf_11 (by decide) (fun h => ?_) (fun h => ?_)
    · replace hf := zf_t h hf
      refine lv_iconst (v := 0) hx hb dX0_creditOf_24 (by decide) ?_
      exact hret _ _ _ _ _ _ hf w dX0_creditOf_25
    · replace hf := zf_f h hf
      refine lv_aload_n hx hb dX0_creditOf_14 rfl (lv_at hl 0 rfl) ?_
      refine xg_7_0 C w lf_0_9 dX0_creditOf_15 ?_
      refine lv_iload hx hb dX0_creditOf_18 (lv_at hl 5 rfl) ?_
      obtain ⟨hi, hf⟩ := zf_gd hf
      refine xa_28 C w hi dX0_creditOf_20 ?_
      refine lv_if_ne (tgt := 26) hx hb dX0_creditOf_21 (by decide) (fun h => ?_) (fun h => ?_)
      · replace hf := zf_f h hf
        refine lv_aload_n hx hb dX0_creditOf_26 rfl (lv_at hl 3 rfl) ?_
        refine lv_aload_n hx hb dX0_creditOf_27 rfl (lv_at hl 1 rfl) ?_
        refine lv_iload hx hb dX0_creditOf_28 (lv_at hl 5 rfl) ?_
        refine lv_iload hx hb dX0_creditOf_30 (lv_at hl 4 rfl) ?_
        refine lv_aload_n hx hb dX0_creditOf_32 rfl (lv_at hl 0 rfl) ?_
        refine xg_7_2 C w lf_0_18 dX0_creditOf_33 ?_
        obtain ⟨r1, u2, hc, hf⟩ := zf_bi_ex hf
        refine zc_ri wX_ad w (zc_V C w (kX7_replay l D q cs N _ _ _ _ _ hc _) cf_7_replay ci_7_replay lm_0_28 rcX_6 ⟨Nat.le_of_ble_eq_true rfl, Nat.le_of_ble_eq_true rfl⟩ hl.1 rfl (Nat.le_of_ble_eq_true rfl) dX0_creditOf_36 ⟨Nat.le_refl _, Nat.le_refl _⟩) (fun H locs w => ?_)
        refine lv_pop hx hb dX0_creditOf_39 rfl ?_
        refine lv_aload_n hx hb dX0_creditOf_40 rfl (lv_at hl 3 rfl) ?_
        refine xg_6_1 C w lf_0_34 dX0_creditOf_41 ?_
        refine lv_if_ne (tgt := 49) hx hb dX0_creditOf_44 (by decide) (fun h => ?_) (fun h => ?_)
        · replace hf := zf_f h hf
          refine lv_aload_n hx hb dX0_creditOf_49 rfl (lv_at hl 3 rfl) ?_
          refine lv_aload_n hx hb dX0_creditOf_50 rfl (lv_at hl 1 rfl) ?_
          refine lv_iload hx hb dX0_creditOf_51 (lv_at hl 5 rfl) ?_
          refine lv_iload hx hb dX0_creditOf_53 (lv_at hl 4 rfl) ?_
          refine lv_iload hx hb dX0_creditOf_55 (lv_at hl 6 rfl) ?_
          obtain ⟨r3, u4, hc, hf⟩ := zf_bi_ex hf
          refine zc_ri wX_ad w (zc_V C w (kX7_replay l D q cs N _ _ _ _ _ hc _) cf_7_replay ci_7_replay lm_0_28 rcX_6 ⟨Nat.le_of_ble_eq_true rfl, Nat.le_of_ble_eq_true rfl⟩ hl.1 rfl (Nat.le_of_ble_eq_true rfl) dX0_creditOf_57 ⟨Nat.le_refl _, Nat.le_refl _⟩) (fun H locs w => ?_)
          refine lv_pop hx hb dX0_creditOf_60 rfl ?_
          refine lv_aload_n hx hb dX0_creditOf_61 rfl (lv_at hl 2 rfl) ?_
          refine xg_2_0 C w lf_0_38 dX0_creditOf_62 ?_
          refine lv_iconst (v := 0) hx hb dX0_creditOf_65 (by decide) ?_
          refine xa_10 C w (by decide) dX0_creditOf_66 ?_
          refine lv_iload hx hb dX0_creditOf_67 (lv_at hl 6 rfl) ?_
          refine lv_aload_n hx hb dX0_creditOf_69 rfl (lv_at hl 3 rfl) ?_
          refine xg_6_3 C w lf_0_43 dX0_creditOf_70 ?_
          refine lv_isub hx hb dX0_creditOf_73 ?_
          refine lv_imul hx hb dX0_creditOf_74 ?_
          refine lv_istore (lv' := [(7, .int ((zs_a u4 1 (0 : Int32).toNatClampNeg) * (v6 - (zs_i u4 17)))), (0, .ref (q 7)), (1, .ref (q 5)), (2, .ref (q 2)), (3, .ref (q 6)), (4, .int v4), (5, .int v5), (6, .int v6)]) hx hb dX0_creditOf_75 hl (by decide) rfl (fun ls hl => ?_)
          refine lv_aload_n hx hb dX0_creditOf_77 rfl (lv_at hl 3 rfl) ?_
          refine xg_2_0 C w lf_0_38 dX0_creditOf_78 ?_
          refine lv_iconst (v := 1) hx hb dX0_creditOf_81 (by decide) ?_
          refine xa_10 C w (by decide) dX0_creditOf_82 ?_
          refine lv_sipush (v := 1000) hx hb dX0_creditOf_83 (by decide) ?_
          refine zr_min C hl.1 lm_0_46 ⟨Nat.le_of_ble_eq_true rfl, Nat.le_of_ble_eq_true rfl⟩ ⟨Nat.le_refl _, Nat.le_refl _⟩ dX0_creditOf_86 ?_
          refine lv_istore (lv' := [(8, .int (zr_imin (zs_a u4 1 (1 : Int32).toNatClampNeg) 1000)), (7, .int ((zs_a u4 1 (0 : Int32).toNatClampNeg) * (v6 - (zs_i u4 17)))), (0, .ref (q 7)), (1, .ref (q 5)), (2, .ref (q 2)), (3, .ref (q 6)), (4, .int v4), (5, .int v5), (6, .int v6)]) hx hb dX0_creditOf_89 hl (by decide) rfl (fun ls hl => ?_)
          refine lv_aload_n hx hb dX0_creditOf_91 rfl (lv_at hl 2 rfl) ?_
          refine xg_7_0 C w lf_0_9 dX0_creditOf_92 ?_
          refine lv_iload hx hb dX0_creditOf_95 (lv_at hl 7 rfl) ?_
          obtain ⟨hi, hf⟩ := zf_gd hf
          refine xa_28 C w hi dX0_creditOf_97 ?_
          refine lv_sipush (v := 1000) hx hb dX0_creditOf_98 (by decide) ?_
          refine lv_iload hx hb dX0_creditOf_101 (lv_at hl 1 rfl) ?_
          refine lv_isub hx hb dX0_creditOf_103 ?_
          refine lv_iload hx hb dX0_creditOf_104 (lv_at hl 0 rfl) ?_
          refine zr_max C hl.1 lm_0_52 ⟨Nat.le_of_ble_eq_true rfl, Nat.le_of_ble_eq_true rfl⟩ ⟨Nat.le_refl _, Nat.le_refl _⟩ dX0_creditOf_106 ?_
          refine lv_imul hx hb dX0_creditOf_109 ?_
          refine lv_sipush (v := 1000) hx hb dX0_creditOf_110 (by decide) ?_
          refine lv_idiv hx hb dX0_creditOf_113 (by decide) ?_
          exact hret _ _ _ _ _ _ hf w dX0_creditOf_114
        · replace hf := zf_t h hf
          refine lv_iconst (v := 0) hx hb dX0_creditOf_47 (by decide) ?_
          exact hret _ _ _ _ _ _ hf w dX0_creditOf_48
      · replace hf := zf_t h hf
        refine lv_iconst (v := 0) hx hb dX0_creditOf_24 (by decide) ?_
        exact hret _ _ _ _ _ _ hf w dX0_creditOf_25
def fX0_divide_j57 (N : Nat) (u : zs_T) (v4 : Int32) : Option zs_T :=
  (if zf_in (zs_i u 14) 12 then (if zf_in (zs_i u 14) 12 then some (zs_sa u 20 (upd (zs_a u 20) (zs_i u 14).toNatClampNeg ((zs_a u 20 (zs_i u 14).toNatClampNeg) + v4))) else none) else none)
def fX0_divide_b12 (N : Nat) (v1 : Int32) (v3 : Int32) (ag12 : zs_T → Int32 → Int32 → Option zs_T) (u : zs_T) (v4 : Int32) (v5 : Int32) : Option zs_T :=
  (if 12 ≤ v5 then fX0_divide_j57 N u v4 else (if zf_in v5 12 then (if ¬ v3 = 0 then (if zf_in v5 12 then (if zf_in v5 12 then ag12 (zs_sa u 20 (upd (zs_a u 20) v5.toNatClampNeg ((zs_a u 20 v5.toNatClampNeg) + ((v1 * (zs_a u 18 v5.toNatClampNeg)) / v3)))) (v4 - ((v1 * (zs_a u 18 v5.toNatClampNeg)) / v3)) (v5 + 1) else none) else none) else none) else none))
def fX0_divide (N : Nat) (u : zs_T) (v1 : Int32) (v3 : Int32) : Option zs_T :=
  (if 1 ≤ v3 then zf_loop (fun ag x => fX0_divide_b12 N v1 v3 (fun u v4 v5 => ag (u, v4, v5)) x.1 x.2.1 x.2.2) N (u, v1, 0) else some u)
set_option maxHeartbeats 4000000 in
set_option maxRecDepth 100000 in
theorem kX0_divide (l : Launch) (D : va_G) (q : Nat → Nat) (cs : Nat → ClassId) (N : Nat) (u : zs_T) (v1 : Int32) (v3 : Int32) (z : zs_T) (hf : fX0_divide N u v1 v3 = some z) : zg_Cv l yX0_divide cX0_divide 7 none 0 D cs (wX q cs) u [.ref (q 7), .int v1, .ref (q 6), .int v3] z := by
  refine zg_Cv_of (own := RX0) (by decide) rfl wX_ad (Nat.le_of_ble_eq_true rfl) ?_
  intro p e s m args below meth c A Q C hret w ls hl
  obtain ⟨hx, hb, -⟩ := id C
  have hl : lv_has ls 7 [(0, .ref (q 7)), (1, .int v1), (2, .ref (q 6)), (3, .int v3)] := hl
  generalize hH : s.heap = H at w ⊢
  generalize hLc : ([] : List Loc) = locs at w ⊢
  have hj57 : ∀ (u : zs_T) (v4 : Int32) (H : Heap) (locs : List Loc) (ls : Array Slot), zg_W D cs A s (wX q cs u) H locs → lv_has ls 7 [(0, .ref (q 7)), (2, .ref (q 6)), (4, .int v4)] → fX0_divide_j57 N u v4 = some z → W p l e (zg_rm 0) s m args below meth c H locs 0 0 Q (F0 m 57 ls []) := by
    intro u v4 H locs ls w hl hf
    unfold fX0_divide_j57 at hf
    refine lv_aload_n hx hb dX0_divide_57 rfl (lv_at hl 0 rfl) ?_
    refine xg_7_1 C w lf_0_15 dX0_divide_58 ?_
    refine lv_aload_n hx hb dX0_divide_61 rfl (lv_at hl 1 rfl) ?_
    refine xg_6_0 C w lf_0_71 dX0_divide_62 ?_
    refine lv_dup2_11 hx hb dX0_divide_65 rfl rfl ?_
    obtain ⟨hi, hf⟩ := zf_gd hf
    refine xa_29 C w hi dX0_divide_66 ?_
    refine lv_iload hx hb dX0_divide_67 (lv_at hl 2 rfl) ?_
    refine lv_iadd hx hb dX0_divide_69 ?_
    obtain ⟨hi, hf⟩ := zf_gd hf
    refine xs_29 C w hi dX0_divide_70 (fun H locs w => ?_)
    exact hret _ _ _ _ _ hf w dX0_divide_71
  unfold fX0_divide at hf
  refine lv_iload_n hx hb dX0_divide_0 rfl (lv_at hl 3 rfl) ?_
  refine lv_iconst (v := 1) hx hb dX0_divide_1 (by decide) ?_
  refine lv_icmp_ge (tgt := 6) hx hb dX0_divide_2 (by decide) (fun h => ?_) (fun h => ?_)
  · replace hf := zf_t h hf
    refine lv_iload_n hx hb dX0_divide_6 rfl (lv_at hl 1 rfl) ?_
    refine lv_istore (lv' := [(4, .int v1), (0, .ref (q 7)), (1, .int v1), (2, .ref (q 6)), (3, .int v3)]) hx hb dX0_divide_7 hl (by decide) rfl (fun ls hl => ?_)
    refine lv_iconst (v := 0) hx hb dX0_divide_9 (by decide) ?_
    refine lv_istore (lv' := [(5, .int 0), (4, .int v1), (0, .ref (q 7)), (1, .int v1), (2, .ref (q 6)), (3, .int v3)]) hx hb dX0_divide_10 hl (by decide) rfl (fun ls hl => ?_)
    have lp12 : ∀ (v1 : Int32) (v3 : Int32) (n : Nat) (x : zs_T × Int32 × Int32), zf_loop (fun ag x => fX0_divide_b12 N v1 v3 (fun u v4 v5 => ag (u, v4, v5)) x.1 x.2.1 x.2.2) n x = some z → ∀ (H : Heap) (locs : List Loc) (ls : Array Slot), zg_W D cs A s (wX q cs x.1) H locs → lv_has ls 7 [(0, .ref (q 7)), (1, .int v1), (2, .ref (q 6)), (3, .int v3), (4, .int x.2.1), (5, .int x.2.2)] → W p l e (zg_rm 0) s m args below meth c H locs 0 0 Q (F0 m 12 ls []) := by
      intro v1 v3
      refine zf_loop_W (fun x : zs_T × Int32 × Int32 => ∀ (H : Heap) (locs : List Loc) (ls : Array Slot), zg_W D cs A s (wX q cs x.1) H locs → lv_has ls 7 [(0, .ref (q 7)), (1, .int v1), (2, .ref (q 6)), (3, .int v3), (4, .int x.2.1), (5, .int x.2.2)] → W p l e (zg_rm 0) s m args below meth c H locs 0 0 Q (F0 m 12 ls [])) ?_
      intro ag12 x hag12 hf
      obtain ⟨u, v4, v5⟩ := x
      intro H locs ls w hl
      replace hf : fX0_divide_b12 N v1 v3 (fun u v4 v5 => ag12 (u, v4, v5)) u v4 v5 = some z := hf
      replace hl : lv_has ls 7 [(0, .ref (q 7)), (1, .int v1), (2, .ref (q 6)), (3, .int v3), (4, .int v4), (5, .int v5)] := hl
      replace w : zg_W D cs A s (wX q cs u) H locs := w
      unfold fX0_divide_b12 at hf
      refine lv_iload hx hb dX0_divide_12 (lv_at hl 5 rfl) ?_
      refine lv_bipush (v := 12) hx hb dX0_divide_14 (by decide) ?_
      refine lv_icmp_ge (tgt := 57) hx hb dX0_divide_16 (by decide) (fun h => ?_) (fun h => ?_)
      · replace hf := zf_t h hf
        exact hj57 _ _ H locs ls w (lv_sub hl [0, 2, 4] rfl) hf
      · replace hf := zf_f h hf
        refine lv_iload_n hx hb dX0_divide_19 rfl (lv_at hl 1 rfl) ?_
        refine lv_aload_n hx hb dX0_divide_20 rfl (lv_at hl 2 rfl) ?_
        refine xg_6_4 C w lf_0_68 dX0_divide_21 ?_
        refine lv_iload hx hb dX0_divide_24 (lv_at hl 5 rfl) ?_
        obtain ⟨hi, hf⟩ := zf_gd hf
        refine xa_27 C w hi dX0_divide_26 ?_
        refine lv_imul hx hb dX0_divide_27 ?_
        refine lv_iload_n hx hb dX0_divide_28 rfl (lv_at hl 3 rfl) ?_
        obtain ⟨hne, hf⟩ := zf_gd hf
        refine lv_idiv hx hb dX0_divide_29 hne ?_
        refine lv_istore (lv' := [(6, .int ((v1 * (zs_a u 18 v5.toNatClampNeg)) / v3)), (0, .ref (q 7)), (1, .int v1), (2, .ref (q 6)), (3, .int v3), (4, .int v4), (5, .int v5)]) hx hb dX0_divide_30 hl (by decide) rfl (fun ls hl => ?_)
        refine lv_aload_n hx hb dX0_divide_32 rfl (lv_at hl 1 rfl) ?_
        refine xg_7_1 C w lf_0_15 dX0_divide_33 ?_
        refine lv_iload hx hb dX0_divide_36 (lv_at hl 6 rfl) ?_
        refine lv_dup2_11 hx hb dX0_divide_38 rfl rfl ?_
        obtain ⟨hi, hf⟩ := zf_gd hf
        refine xa_29 C w hi dX0_divide_39 ?_
        refine lv_iload hx hb dX0_divide_40 (lv_at hl 0 rfl) ?_
        refine lv_iadd hx hb dX0_divide_42 ?_
        obtain ⟨hi, hf⟩ := zf_gd hf
        refine xs_29 C w hi dX0_divide_43 (fun H locs w => ?_)
        refine lv_iload hx hb dX0_divide_44 (lv_at hl 5 rfl) ?_
        refine lv_iload hx hb dX0_divide_46 (lv_at hl 0 rfl) ?_
        refine lv_isub hx hb dX0_divide_48 ?_
        refine lv_istore (lv' := [(4, .int (v4 - ((v1 * (zs_a u 18 v5.toNatClampNeg)) / v3))), (6, .int ((v1 * (zs_a u 18 v5.toNatClampNeg)) / v3)), (0, .ref (q 7)), (1, .int v1), (2, .ref (q 6)), (3, .int v3), (5, .int v5)]) hx hb dX0_divide_49 hl (by decide) rfl (fun ls hl => ?_)
        refine lv_iinc (v := v5 + 1) (lv' := [(5, .int (v5 + 1)), (4, .int (v4 - ((v1 * (zs_a u 18 v5.toNatClampNeg)) / v3))), (6, .int ((v1 * (zs_a u 18 v5.toNatClampNeg)) / v3)), (0, .ref (q 7)), (1, .int v1), (2, .ref (q 6)), (3, .int v3)]) hx hb dX0_divide_51 hl (k := 6) rfl rfl (by decide) rfl (fun ls hl => ?_)
        refine lv_goto (tgt := 12) hx hb dX0_divide_54 (by decide) ?_
        exact hag12 (zs_sa u 20 (upd (zs_a u 20) v5.toNatClampNeg ((zs_a u 20 v5.toNatClampNeg) + ((v1 * (zs_a u 18 v5.toNatClampNeg)) / v3))), v4 - ((v1 * (zs_a u 18 v5.toNatClampNeg)) / v3), v5 + 1) hf H locs ls w (lv_sub hl [3, 4, 5, 6, 1, 0] rfl)
    exact lp12 _ _ _ _ hf H locs ls w (lv_sub hl [2, 3, 4, 5, 1, 0] rfl)
  · replace hf := zf_f h hf
    exact hret _ _ _ _ _ hf w dX0_divide_5
def fX0_shareOut_b11 (N : Nat) (v4 : Int32) (v5 : Int32) (ag11 : zs_T → Int32 → Option zs_T) (u : zs_T) (v6 : Int32) : Option zs_T :=
  (if zs_i u 12 ≤ v6 then some u else (zf_bi (fX0_creditOf N u v4 v6 v5) fun r1 u2 => (if r1 ≤ 0 then ag11 u2 (v6 + 1) else (zf_bi (fX7_replay N u2 v6 v4 v5) fun r3 u4 => (zf_bv (fX0_divide N u4 r1 v5) fun u6 => ag11 u6 (v6 + 1))))))
def fX0_shareOut (N : Nat) (u : zs_T) (v4 : Int32) (v5 : Int32) : Option zs_T :=
  zf_loop (fun ag x => fX0_shareOut_b11 N v4 v5 (fun u v6 => ag (u, v6)) x.1 x.2) N (zs_sa u 20 (zf_fill 12 0 (zs_a u 20)), 0)
set_option maxHeartbeats 4000000 in
set_option maxRecDepth 100000 in
theorem kX0_shareOut (l : Launch) (D : va_G) (q : Nat → Nat) (cs : Nat → ClassId) (N : Nat) (u : zs_T) (v4 : Int32) (v5 : Int32) (z : zs_T) (hf : fX0_shareOut N u v4 v5 = some z) : zg_Cv l yX0_shareOut cX0_shareOut 8 none 4 D cs (wX q cs) u [.ref (q 7), .ref (q 5), .ref (q 2), .ref (q 6), .int v4, .int v5] z := by
  refine zg_Cv_of (own := RX0) (by decide) rfl wX_ad (Nat.le_of_ble_eq_true rfl) ?_
  intro p e s m args below meth c A Q C hret w ls hl
  obtain ⟨hx, hb, -⟩ := id C
  have hl : lv_has ls 8 [(0, .ref (q 7)), (1, .ref (q 5)), (2, .ref (q 2)), (3, .ref (q 6)), (4, .int v4), (5, .int v5)] := hl
  generalize hH : s.heap = H at w ⊢
  generalize hLc : ([] : List Loc) = locs at w ⊢
  unfold fX0_shareOut at hf
  refine lv_aload_n hx hb dX0_shareOut_0 rfl (lv_at hl 0 rfl) ?_
  refine xg_7_1 C w lf_0_15 dX0_shareOut_1 ?_
  refine lv_iconst (v := 0) hx hb dX0_shareOut_4 (by decide) ?_
  refine zc_rv wX_ad w (zc_S C w (kA_fill l D cs (wX q cs) wX_ad (q 29) 29 20 12 (by decide) (fun _ => wX_c29) (fun _ _ => wX_s29) _ 0 _) cf_A_fill ci_A_fill lm_0_22 ⟨Nat.le_of_ble_eq_true rfl, Nat.le_of_ble_eq_true rfl⟩ hl.1 rfl (Nat.le_of_ble_eq_true rfl) dX0_shareOut_5 ⟨Nat.le_refl _, Nat.le_refl _⟩) (fun H locs w => ?_)
  refine lv_iconst (v := 0) hx hb dX0_shareOut_8 (by decide) ?_
  refine lv_istore (lv' := [(6, .int 0), (0, .ref (q 7)), (1, .ref (q 5)), (2, .ref (q 2)), (3, .ref (q 6)), (4, .int v4), (5, .int v5)]) hx hb dX0_shareOut_9 hl (by decide) rfl (fun ls hl => ?_)
  have lp11 : ∀ (v4 : Int32) (v5 : Int32) (n : Nat) (x : zs_T × Int32), zf_loop (fun ag x => fX0_shareOut_b11 N v4 v5 (fun u v6 => ag (u, v6)) x.1 x.2) n x = some z → ∀ (H : Heap) (locs : List Loc) (ls : Array Slot), zg_W D cs A s (wX q cs x.1) H locs → lv_has ls 8 [(0, .ref (q 7)), (1, .ref (q 5)), (2, .ref (q 2)), (3, .ref (q 6)), (4, .int v4), (5, .int v5), (6, .int x.2)] → W p l e (zg_rm 4) s m args below meth c H locs 0 0 Q (F0 m 11 ls []) := by
    intro v4 v5
    refine zf_loop_W (fun x : zs_T × Int32 => ∀ (H : Heap) (locs : List Loc) (ls : Array Slot), zg_W D cs A s (wX q cs x.1) H locs → lv_has ls 8 [(0, .ref (q 7)), (1, .ref (q 5)), (2, .ref (q 2)), (3, .ref (q 6)), (4, .int v4), (5, .int v5), (6, .int x.2)] → W p l e (zg_rm 4) s m args below meth c H locs 0 0 Q (F0 m 11 ls [])) ?_
    intro ag11 x hag11 hf
    obtain ⟨u, v6⟩ := x
    intro H locs ls w hl
    replace hf : fX0_shareOut_b11 N v4 v5 (fun u v6 => ag11 (u, v6)) u v6 = some z := hf
    replace hl : lv_has ls 8 [(0, .ref (q 7)), (1, .ref (q 5)), (2, .ref (q 2)), (3, .ref (q 6)), (4, .int v4), (5, .int v5), (6, .int v6)] := hl
    replace w : zg_W D cs A s (wX q cs u) H locs := w
    unfold fX0_shareOut_b11 at hf
    refine lv_iload hx hb dX0_shareOut_11 (lv_at hl 6 rfl) ?_
    refine lv_aload_n hx hb dX0_shareOut_13 rfl (lv_at hl 1 rfl) ?_
    refine xg_5_2 C w lf_0_55 dX0_shareOut_14 ?_
    refine lv_icmp_ge (tgt := 67) hx hb dX0_shareOut_17 (by decide) (fun h => ?_) (fun h => ?_)
    · replace hf := zf_t h hf
      exact hret _ _ _ _ _ hf w dX0_shareOut_67
    · replace hf := zf_f h hf
      refine lv_aload_n hx hb dX0_shareOut_20 rfl (lv_at hl 0 rfl) ?_
      refine lv_aload_n hx hb dX0_shareOut_21 rfl (lv_at hl 1 rfl) ?_
      refine lv_aload_n hx hb dX0_shareOut_22 rfl (lv_at hl 2 rfl) ?_
      refine lv_aload_n hx hb dX0_shareOut_23 rfl (lv_at hl 3 rfl) ?_
      refine lv_iload hx hb dX0_shareOut_24 (lv_at hl 4 rfl) ?_
      refine lv_iload hx hb dX0_shareOut_26 (lv_at hl 6 rfl) ?_
      refine lv_iload hx hb dX0_shareOut_28 (lv_at hl 5 rfl) ?_
      obtain ⟨r1, u2, hc, hf⟩ := zf_bi_ex hf
      refine zc_ri wX_ad w (zc_V C w (kX0_creditOf l D q cs N _ _ _ _ _ hc _) cf_0_creditOf ci_0_creditOf lm_0_60 rcX_7 ⟨Nat.le_of_ble_eq_true rfl, Nat.le_of_ble_eq_true rfl⟩ hl.1 rfl (Nat.le_of_ble_eq_true rfl) dX0_shareOut_30 ⟨Nat.le_refl _, Nat.le_refl _⟩) (fun H locs w => ?_)
      refine lv_istore (lv' := [(7, .int r1), (0, .ref (q 7)), (1, .ref (q 5)), (2, .ref (q 2)), (3, .ref (q 6)), (4, .int v4), (5, .int v5), (6, .int v6)]) hx hb dX0_shareOut_33 hl (by decide) rfl (fun ls hl => ?_)
      refine lv_iload hx hb dX0_shareOut_35 (lv_at hl 0 rfl) ?_
      refine lv_if_le (tgt := 61) hx hb dX0_shareOut_37 (by decide) (fun h => ?_) (fun h => ?_)
      · replace hf := zf_t h hf
        refine lv_iinc (v := v6 + 1) (lv' := [(6, .int (v6 + 1)), (7, .int r1), (0, .ref (q 7)), (1, .ref (q 5)), (2, .ref (q 2)), (3, .ref (q 6)), (4, .int v4), (5, .int v5)]) hx hb dX0_shareOut_61 hl (k := 7) rfl rfl (by decide) rfl (fun ls hl => ?_)
        refine lv_goto (tgt := 11) hx hb dX0_shareOut_64 (by decide) ?_
        exact hag11 (u2, v6 + 1) hf H locs ls w (lv_sub hl [2, 3, 4, 5, 6, 7, 0] rfl)
      · replace hf := zf_f h hf
        refine lv_aload_n hx hb dX0_shareOut_40 rfl (lv_at hl 4 rfl) ?_
        refine lv_aload_n hx hb dX0_shareOut_41 rfl (lv_at hl 2 rfl) ?_
        refine lv_iload hx hb dX0_shareOut_42 (lv_at hl 7 rfl) ?_
        refine lv_iload hx hb dX0_shareOut_44 (lv_at hl 5 rfl) ?_
        refine lv_iload hx hb dX0_shareOut_46 (lv_at hl 6 rfl) ?_
        obtain ⟨r3, u4, hc, hf⟩ := zf_bi_ex hf
        refine zc_ri wX_ad w (zc_V C w (kX7_replay l D q cs N _ _ _ _ _ hc _) cf_7_replay ci_7_replay lm_0_28 rcX_6 ⟨Nat.le_of_ble_eq_true rfl, Nat.le_of_ble_eq_true rfl⟩ hl.1 rfl (Nat.le_of_ble_eq_true rfl) dX0_shareOut_48 ⟨Nat.le_refl _, Nat.le_refl _⟩) (fun H locs w => ?_)
        refine lv_pop hx hb dX0_shareOut_51 rfl ?_
        refine lv_aload_n hx hb dX0_shareOut_52 rfl (lv_at hl 1 rfl) ?_
        refine lv_iload hx hb dX0_shareOut_53 (lv_at hl 0 rfl) ?_
        refine lv_aload_n hx hb dX0_shareOut_55 rfl (lv_at hl 4 rfl) ?_
        refine lv_iload hx hb dX0_shareOut_56 (lv_at hl 6 rfl) ?_
        obtain ⟨u6, hc, hf⟩ := zf_bv_ex hf
        refine zc_rv wX_ad w (zc_V C w (kX0_divide l D q cs N _ _ _ _ hc _) cf_0_divide ci_0_divide lm_0_64 rcX_7 ⟨Nat.le_of_ble_eq_true rfl, Nat.le_of_ble_eq_true rfl⟩ hl.1 rfl (Nat.le_of_ble_eq_true rfl) dX0_shareOut_58 ⟨Nat.le_refl _, Nat.le_refl _⟩) (fun H locs w => ?_)
        refine lv_iinc (v := v6 + 1) (lv' := [(6, .int (v6 + 1)), (7, .int r1), (0, .ref (q 7)), (1, .ref (q 5)), (2, .ref (q 2)), (3, .ref (q 6)), (4, .int v4), (5, .int v5)]) hx hb dX0_shareOut_61 hl (k := 7) rfl rfl (by decide) rfl (fun ls hl => ?_)
        refine lv_goto (tgt := 11) hx hb dX0_shareOut_64 (by decide) ?_
        exact hag11 (u6, v6 + 1) hf H locs ls w (lv_sub hl [2, 3, 4, 5, 6, 7, 0] rfl)
  exact lp11 _ _ _ _ hf H locs ls w (lv_sub hl [1, 2, 3, 4, 5, 6, 0] rfl)
