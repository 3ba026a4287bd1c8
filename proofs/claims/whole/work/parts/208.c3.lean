def fX3_judge_j64 (N : Nat) (u : zs_T) (v1 : Int32) (v3 : Int32) : Option zs_T :=
  (if zf_cp 0 0 (zs_i (zs_si (zs_si u 10 v1) 11 v3) 7) 8 8 then some (zs_sa (zs_si (zs_si u 10 v1) 11 v3) 6 (va_cpy (zs_a (zs_si (zs_si u 10 v1) 11 v3) 7) (zs_a (zs_si (zs_si u 10 v1) 11 v3) 6) (0 : Int32).toNatClampNeg (0 : Int32).toNatClampNeg (zs_i (zs_si (zs_si u 10 v1) 11 v3) 7).toNatClampNeg)) else none)
def fX3_judge_j40 (N : Nat) (u : zs_T) (v1 : Int32) (v3 : Int32) : Option zs_T :=
  (if v1 < zs_i u 10 then fX3_judge_j64 N u v1 v3 else (if v1 = zs_i u 10 then (if v3 ≤ zs_i u 11 then some u else fX3_judge_j64 N u v1 v3) else some u))
def fX3_judge_b13 (N : Nat) (u : zs_T) (v1 : Int32) (v2 : Int32) (ag13 : Int32 → Int32 → Option zs_T) (v3 : Int32) (v4 : Int32) : Option zs_T :=
  (if zs_i u 8 ≤ v4 then fX3_judge_j40 N u v1 v3 else (if zf_in (v2 + v4) 54 then ag13 (v3 + (zs_a u 8 (v2 + v4).toNatClampNeg)) (v4 + 1) else none))
def fX3_judge (N : Nat) (u : zs_T) (v1 : Int32) : Option zs_T :=
  zf_loop (fun ag x => fX3_judge_b13 N u v1 ((zs_i u 7) * 6) (fun v3 v4 => ag (v3, v4)) x.1 x.2) N (0, 0)
set_option maxHeartbeats 4000000 in
set_option maxRecDepth 100000 in
theorem kX3_judge (l : Launch) (D : va_G) (q : Nat → Nat) (cs : Nat → ClassId) (N : Nat) (u : zs_T) (v1 : Int32) (z : zs_T) (hf : fX3_judge N u v1 = some z) : zg_Cv l yX3_judge cX3_judge 5 none 1 D cs (wX q cs) u [.ref (q 4), .int v1] z := by
  refine zg_Cv_of (own := RX3) (by decide) rfl wX_ad (Nat.le_of_ble_eq_true rfl) ?_
  intro p e s m args below meth c A Q C hret w ls hl
  obtain ⟨hx, hb, -⟩ := id C
  have hl : lv_has ls 5 [(0, .ref (q 4)), (1, .int v1)] := hl
  generalize hH : s.heap = H at w ⊢
  generalize hLc : ([] : List Loc) = locs at w ⊢
  have hj64 : ∀ (u : zs_T) (v1 : Int32) (v3 : Int32) (H : Heap) (locs : List Loc) (ls : Array Slot), zg_W D cs A s (wX q cs u) H locs → lv_has ls 5 [(0, .ref (q 4)), (1, .int v1), (3, .int v3)] → fX3_judge_j64 N u v1 v3 = some z → W p l e (zg_rm 1) s m args below meth c H locs 0 0 Q (F0 m 64 ls []) := by
    intro u v1 v3 H locs ls w hl hf
    unfold fX3_judge_j64 at hf
    refine lv_aload_n hx hb dX3_judge_64 rfl (lv_at hl 0 rfl) ?_
    refine lv_iload_n hx hb dX3_judge_65 rfl (lv_at hl 1 rfl) ?_
    refine xp_4_8 C w lf_3_37 dX3_judge_66 (fun H locs w => ?_)
    refine lv_aload_n hx hb dX3_judge_69 rfl (lv_at hl 0 rfl) ?_
    refine lv_iload_n hx hb dX3_judge_70 rfl (lv_at hl 2 rfl) ?_
    refine xp_4_9 C w lf_3_40 dX3_judge_71 (fun H locs w => ?_)
    refine lv_aload_n hx hb dX3_judge_74 rfl (lv_at hl 0 rfl) ?_
    refine xg_4_2 C w lf_3_19 dX3_judge_75 ?_
    refine lv_iconst (v := 0) hx hb dX3_judge_78 (by decide) ?_
    refine lv_aload_n hx hb dX3_judge_79 rfl (lv_at hl 0 rfl) ?_
    refine xg_4_0 C w lf_3_9 dX3_judge_80 ?_
    refine lv_iconst (v := 0) hx hb dX3_judge_83 (by decide) ?_
    refine lv_aload_n hx hb dX3_judge_84 rfl (lv_at hl 0 rfl) ?_
    refine xg_4_1 C w lf_3_15 dX3_judge_85 ?_
    obtain ⟨hcp, hf⟩ := zf_gd hf
    refine zr_copy C w hl.1 wX_c16 wX_c15 lm_3_83 hcp ⟨Nat.le_of_ble_eq_true rfl, Nat.le_of_ble_eq_true rfl⟩ wX_s15 dX3_judge_88 (fun H locs w => ?_)
    exact hret _ _ _ _ _ hf w dX3_judge_91
  have hj40 : ∀ (u : zs_T) (v1 : Int32) (v3 : Int32) (H : Heap) (locs : List Loc) (ls : Array Slot), zg_W D cs A s (wX q cs u) H locs → lv_has ls 5 [(0, .ref (q 4)), (1, .int v1), (3, .int v3)] → fX3_judge_j40 N u v1 v3 = some z → W p l e (zg_rm 1) s m args below meth c H locs 0 0 Q (F0 m 40 ls []) := by
    intro u v1 v3 H locs ls w hl hf
    unfold fX3_judge_j40 at hf
    refine lv_iload_n hx hb dX3_judge_40 rfl (lv_at hl 1 rfl) ?_
    refine lv_aload_n hx hb dX3_judge_41 rfl (lv_at hl 0 rfl) ?_
    refine xg_4_8 C w lf_3_37 dX3_judge_42 ?_
    refine lv_icmp_lt (tgt := 64) hx hb dX3_judge_45 (by decide) (fun h => ?_) (fun h => ?_)
    · replace hf := zf_t h hf
      exact hj64 _ _ _ H locs ls w (lv_sub hl [0, 1, 2] rfl) hf
    · replace hf := zf_f h hf
      refine lv_iload_n hx hb dX3_judge_48 rfl (lv_at hl 1 rfl) ?_
      refine lv_aload_n hx hb dX3_judge_49 rfl (lv_at hl 0 rfl) ?_
      refine xg_4_8 C w lf_3_37 dX3_judge_50 ?_
      refine lv_icmp_ne (tgt := 91) hx hb dX3_judge_53 (by decide) (fun h => ?_) (fun h => ?_)
      · replace hf := zf_f h hf
        exact hret _ _ _ _ _ hf w dX3_judge_91
      · replace hf := zf_t h hf
        refine lv_iload_n hx hb dX3_judge_56 rfl (lv_at hl 2 rfl) ?_
        refine lv_aload_n hx hb dX3_judge_57 rfl (lv_at hl 0 rfl) ?_
        refine xg_4_9 C w lf_3_40 dX3_judge_58 ?_
        refine lv_icmp_le (tgt := 91) hx hb dX3_judge_61 (by decide) (fun h => ?_) (fun h => ?_)
        · replace hf := zf_t h hf
          exact hret _ _ _ _ _ hf w dX3_judge_91
        · replace hf := zf_f h hf
          exact hj64 _ _ _ H locs ls w (lv_sub hl [0, 1, 2] rfl) hf
  unfold fX3_judge at hf
  refine lv_aload_n hx hb dX3_judge_0 rfl (lv_at hl 0 rfl) ?_
  refine xg_4_1 C w lf_3_15 dX3_judge_1 ?_
  refine lv_bipush (v := 6) hx hb dX3_judge_4 (by decide) ?_
  refine lv_imul hx hb dX3_judge_6 ?_
  refine lv_istore_n (lv' := [(2, .int ((zs_i u 7) * 6)), (0, .ref (q 4)), (1, .int v1)]) hx hb dX3_judge_7 rfl hl (by decide) rfl (fun ls hl => ?_)
  refine lv_iconst (v := 0) hx hb dX3_judge_8 (by decide) ?_
  refine lv_istore_n (lv' := [(3, .int 0), (2, .int ((zs_i u 7) * 6)), (0, .ref (q 4)), (1, .int v1)]) hx hb dX3_judge_9 rfl hl (by decide) rfl (fun ls hl => ?_)
  refine lv_iconst (v := 0) hx hb dX3_judge_10 (by decide) ?_
  refine lv_istore (lv' := [(4, .int 0), (3, .int 0), (2, .int ((zs_i u 7) * 6)), (0, .ref (q 4)), (1, .int v1)]) hx hb dX3_judge_11 hl (by decide) rfl (fun ls hl => ?_)
  have lp13 : ∀ (u : zs_T) (v1 : Int32) (v2 : Int32) (n : Nat) (x : Int32 × Int32), zf_loop (fun ag x => fX3_judge_b13 N u v1 v2 (fun v3 v4 => ag (v3, v4)) x.1 x.2) n x = some z → ∀ (H : Heap) (locs : List Loc) (ls : Array Slot), zg_W D cs A s (wX q cs u) H locs → lv_has ls 5 [(0, .ref (q 4)), (1, .int v1), (2, .int v2), (3, .int x.1), (4, .int x.2)] → W p l e (zg_rm 1) s m args below meth c H locs 0 0 Q (F0 m 13 ls []) := by
    intro u v1 v2
    refine zf_loop_W (fun x : Int32 × Int32 => ∀ (H : Heap) (locs : List Loc) (ls : Array Slot), zg_W D cs A s (wX q cs u) H locs → lv_has ls 5 [(0, .ref (q 4)), (1, .int v1), (2, .int v2), (3, .int x.1), (4, .int x.2)] → W p l e (zg_rm 1) s m args below meth c H locs 0 0 Q (F0 m 13 ls [])) ?_
    intro ag13 x hag13 hf
    obtain ⟨v3, v4⟩ := x
    intro H locs ls w hl
    replace hf : fX3_judge_b13 N u v1 v2 (fun v3 v4 => ag13 (v3, v4)) v3 v4 = some z := hf
    replace hl : lv_has ls 5 [(0, .ref (q 4)), (1, .int v1), (2, .int v2), (3, .int v3), (4, .int v4)] := hl
    replace w : zg_W D cs A s (wX q cs u) H locs := w
    unfold fX3_judge_b13 at hf
    refine lv_iload hx hb dX3_judge_13 (lv_at hl 4 rfl) ?_
    refine lv_aload_n hx hb dX3_judge_15 rfl (lv_at hl 0 rfl) ?_
    refine xg_4_6 C w lf_3_31 dX3_judge_16 ?_
    refine lv_icmp_ge (tgt := 40) hx hb dX3_judge_19 (by decide) (fun h => ?_) (fun h => ?_)
    · replace hf := zf_t h hf
      exact hj40 _ _ _ H locs ls w (lv_sub hl [0, 1, 3] rfl) hf
    · replace hf := zf_f h hf
      refine lv_iload_n hx hb dX3_judge_22 rfl (lv_at hl 3 rfl) ?_
      refine lv_aload_n hx hb dX3_judge_23 rfl (lv_at hl 0 rfl) ?_
      refine xg_4_3 C w lf_3_22 dX3_judge_24 ?_
      refine lv_iload_n hx hb dX3_judge_27 rfl (lv_at hl 2 rfl) ?_
      refine lv_iload hx hb dX3_judge_28 (lv_at hl 4 rfl) ?_
      refine lv_iadd hx hb dX3_judge_30 ?_
      obtain ⟨hi, hf⟩ := zf_gd hf
      refine xa_17 C w hi dX3_judge_31 ?_
      refine lv_iadd hx hb dX3_judge_32 ?_
      refine lv_istore_n (lv' := [(3, .int (v3 + (zs_a u 8 (v2 + v4).toNatClampNeg))), (0, .ref (q 4)), (1, .int v1), (2, .int v2), (4, .int v4)]) hx hb dX3_judge_33 rfl hl (by decide) rfl (fun ls hl => ?_)
      refine lv_iinc (v := v4 + 1) (lv' := [(4, .int (v4 + 1)), (3, .int (v3 + (zs_a u 8 (v2 + v4).toNatClampNeg))), (0, .ref (q 4)), (1, .int v1), (2, .int v2)]) hx hb dX3_judge_34 hl (k := 4) rfl rfl (by decide) rfl (fun ls hl => ?_)
      refine lv_goto (tgt := 13) hx hb dX3_judge_37 (by decide) ?_
      exact hag13 (v3 + (zs_a u 8 (v2 + v4).toNatClampNeg), v4 + 1) hf H locs ls w (lv_sub hl [2, 3, 4, 1, 0] rfl)
  exact lp13 _ _ _ _ _ hf H locs ls w (lv_sub hl [3, 4, 2, 1, 0] rfl)
def fX3_passDay_j65 (N : Nat) (u : zs_T) (v2 : Int32) (v4 : Int32) : Option (Int32 × zs_T) :=
  (if zf_in (v4 + v2) 54 then (if zf_in (v4 + v2) 54 then (if zf_in (v4 + v2) 54 then some ((zs_i (zs_sa u 8 (upd (zs_a u 8) (v4 + v2).toNatClampNeg ((zs_a u 8 (v4 + v2).toNatClampNeg) - (zr_imin (zs_i u 9) (zs_a u 8 (v4 + v2).toNatClampNeg))))) 9) - (zr_imin (zs_i u 9) (zs_a u 8 (v4 + v2).toNatClampNeg)), zs_sa u 8 (upd (zs_a u 8) (v4 + v2).toNatClampNeg ((zs_a u 8 (v4 + v2).toNatClampNeg) - (zr_imin (zs_i u 9) (zs_a u 8 (v4 + v2).toNatClampNeg))))) else none) else none) else none)
def fX3_passDay_b14 (N : Nat) (v2 : Int32) (v3 : Int32) (v4 : Int32) (ag14 : zs_T → Int32 → Option (Int32 × zs_T)) (u : zs_T) (v5 : Int32) : Option (Int32 × zs_T) :=
  (if zs_i u 8 ≤ v5 then fX3_passDay_j65 N u v2 v4 else (if zf_in (v3 + v5) 54 then (if zf_in v5 6 then (if zf_in v5 6 then (zf_bp (fX2_grown (zs_a u 8 (v3 + v5).toNatClampNeg) (zs_a u 9 v5.toNatClampNeg) (zs_a u 10 v5.toNatClampNeg)) fun r1 => (if zf_in (v4 + v5) 54 then ag14 (zs_sa u 8 (upd (zs_a u 8) (v4 + v5).toNatClampNeg r1)) (v5 + 1) else none)) else none) else none) else none))
def fX3_passDay (N : Nat) (u : zs_T) (v1 : Int32) (v2 : Int32) : Option (Int32 × zs_T) :=
  zf_loop (fun ag x => fX3_passDay_b14 N v2 (v1 * 6) ((v1 * 6) + 6) (fun u v5 => ag (u, v5)) x.1 x.2) N (u, 0)
set_option maxHeartbeats 4000000 in
set_option maxRecDepth 100000 in
theorem kX3_passDay (l : Launch) (D : va_G) (q : Nat → Nat) (cs : Nat → ClassId) (N : Nat) (u : zs_T) (v1 : Int32) (v2 : Int32) (z : (Int32 × zs_T)) (hf : fX3_passDay N u v1 v2 = some z) : zg_Ci l yX3_passDay cX3_passDay 6 (some .int) 2 D cs (wX q cs) u [.ref (q 4), .int v1, .int v2] z.1 z.2 := by
  refine zg_Ci_of (own := RX3) (by decide) rfl wX_ad (Nat.le_of_ble_eq_true rfl) ?_
  intro p e s m args below meth c A Q C hret w ls hl
  obtain ⟨hx, hb, -⟩ := id C
  have hl : lv_has ls 6 [(0, .ref (q 4)), (1, .int v1), (2, .int v2)] := hl
  generalize hH : s.heap = H at w ⊢
  generalize hLc : ([] : List Loc) = locs at w ⊢
  have hj65 : ∀ (u : zs_T) (v2 : Int32) (v4 : Int32) (H : Heap) (locs : List Loc) (ls : Array Slot), zg_W D cs A s (wX q cs u) H locs → lv_has ls 6 [(0, .ref (q 4)), (2, .int v2), (4, .int v4)] → fX3_passDay_j65 N u v2 v4 = some z → W p l e (zg_rm 2) s m args below meth c H locs 0 0 Q (F0 m 65 ls []) := by
    intro u v2 v4 H locs ls w hl hf
    unfold fX3_passDay_j65 at hf
    refine lv_aload_n hx hb dX3_passDay_65 rfl (lv_at hl 0 rfl) ?_
    refine xg_4_7 C w lf_3_34 dX3_passDay_66 ?_
    refine lv_aload_n hx hb dX3_passDay_69 rfl (lv_at hl 0 rfl) ?_
    refine xg_4_3 C w lf_3_22 dX3_passDay_70 ?_
    refine lv_iload hx hb dX3_passDay_73 (lv_at hl 2 rfl) ?_
    refine lv_iload_n hx hb dX3_passDay_75 rfl (lv_at hl 1 rfl) ?_
    refine lv_iadd hx hb dX3_passDay_76 ?_
    obtain ⟨hi, hf⟩ := zf_gd hf
    refine xa_17 C w hi dX3_passDay_77 ?_
    refine zr_min C hl.1 lm_3_68 ⟨Nat.le_of_ble_eq_true rfl, Nat.le_of_ble_eq_true rfl⟩ ⟨Nat.le_refl _, Nat.le_refl _⟩ dX3_passDay_78 ?_
    refine lv_istore (lv' := [(5, .int (zr_imin (zs_i u 9) (zs_a u 8 (v4 + v2).toNatClampNeg))), (0, .ref (q 4)), (2, .int v2), (4, .int v4)]) hx hb dX3_passDay_81 hl (by decide) rfl (fun ls hl => ?_)
    refine lv_aload_n hx hb dX3_passDay_83 rfl (lv_at hl 1 rfl) ?_
    refine xg_4_3 C w lf_3_22 dX3_passDay_84 ?_
    refine lv_iload hx hb dX3_passDay_87 (lv_at hl 3 rfl) ?_
    refine lv_iload_n hx hb dX3_passDay_89 rfl (lv_at hl 2 rfl) ?_
    refine lv_iadd hx hb dX3_passDay_90 ?_
    refine lv_dup2_11 hx hb dX3_passDay_91 rfl rfl ?_
    obtain ⟨hi, hf⟩ := zf_gd hf
    refine xa_17 C w hi dX3_passDay_92 ?_
    refine lv_iload hx hb dX3_passDay_93 (lv_at hl 0 rfl) ?_
    refine lv_isub hx hb dX3_passDay_95 ?_
    obtain ⟨hi, hf⟩ := zf_gd hf
    refine xs_17 C w hi dX3_passDay_96 (fun H locs w => ?_)
    refine lv_aload_n hx hb dX3_passDay_97 rfl (lv_at hl 1 rfl) ?_
    refine xg_4_7 C w lf_3_34 dX3_passDay_98 ?_
    refine lv_iload hx hb dX3_passDay_101 (lv_at hl 0 rfl) ?_
    refine lv_isub hx hb dX3_passDay_103 ?_
    exact hret _ _ _ _ _ _ hf w dX3_passDay_104
  unfold fX3_passDay at hf
  refine lv_iload_n hx hb dX3_passDay_0 rfl (lv_at hl 1 rfl) ?_
  refine lv_bipush (v := 6) hx hb dX3_passDay_1 (by decide) ?_
  refine lv_imul hx hb dX3_passDay_3 ?_
  refine lv_istore_n (lv' := [(3, .int (v1 * 6)), (0, .ref (q 4)), (1, .int v1), (2, .int v2)]) hx hb dX3_passDay_4 rfl hl (by decide) rfl (fun ls hl => ?_)
  refine lv_iload_n hx hb dX3_passDay_5 rfl (lv_at hl 0 rfl) ?_
  refine lv_bipush (v := 6) hx hb dX3_passDay_6 (by decide) ?_
  refine lv_iadd hx hb dX3_passDay_8 ?_
  refine lv_istore (lv' := [(4, .int ((v1 * 6) + 6)), (3, .int (v1 * 6)), (0, .ref (q 4)), (1, .int v1), (2, .int v2)]) hx hb dX3_passDay_9 hl (by decide) rfl (fun ls hl => ?_)
  refine lv_iconst (v := 0) hx hb dX3_passDay_11 (by decide) ?_
  refine lv_istore (lv' := [(5, .int 0), (4, .int ((v1 * 6) + 6)), (3, .int (v1 * 6)), (0, .ref (q 4)), (1, .int v1), (2, .int v2)]) hx hb dX3_passDay_12 hl (by decide) rfl (fun ls hl => ?_)
  have lp14 : ∀ (v2 : Int32) (v3 : Int32) (v4 : Int32) (n : Nat) (x : zs_T × Int32), zf_loop (fun ag x => fX3_passDay_b14 N v2 v3 v4 (fun u v5 => ag (u, v5)) x.1 x.2) n x = some z → ∀ (H : Heap) (locs : List Loc) (ls : Array Slot), zg_W D cs A s (wX q cs x.1) H locs → lv_has ls 6 [(0, .ref (q 4)), (2, .int v2), (3, .int v3), (4, .int v4), (5, .int x.2)] → W p l e (zg_rm 2) s m args below meth c H locs 0 0 Q (F0 m 14 ls []) := by
    intro v2 v3 v4
    refine zf_loop_W (fun x : zs_T × Int32 => ∀ (H : Heap) (locs : List Loc) (ls : Array Slot), zg_W D cs A s (wX q cs x.1) H locs → lv_has ls 6 [(0, .ref (q 4)), (2, .int v2), (3, .int v3), (4, .int v4), (5, .int x.2)] → W p l e (zg_rm 2) s m args below meth c H locs 0 0 Q (F0 m 14 ls [])) ?_
    intro ag14 x hag14 hf
    obtain ⟨u, v5⟩ := x
    intro H locs ls w hl
    replace hf : fX3_passDay_b14 N v2 v3 v4 (fun u v5 => ag14 (u, v5)) u v5 = some z := hf
    replace hl : lv_has ls 6 [(0, .ref (q 4)), (2, .int v2), (3, .int v3), (4, .int v4), (5, .int v5)] := hl
    replace w : zg_W D cs A s (wX q cs u) H locs := w
    unfold fX3_passDay_b14 at hf
    refine lv_iload hx hb dX3_passDay_14 (lv_at hl 4 rfl) ?_
    refine lv_aload_n hx hb dX3_passDay_16 rfl (lv_at hl 0 rfl) ?_
    refine xg_4_6 C w lf_3_31 dX3_passDay_17 ?_
    refine lv_icmp_ge (tgt := 65) hx hb dX3_passDay_20 (by decide) (fun h => ?_) (fun h => ?_)
    · replace hf := zf_t h hf
      exact hj65 _ _ _ H locs ls w (lv_sub hl [0, 1, 3] rfl) hf
    · replace hf := zf_f h hf
      refine lv_aload_n hx hb dX3_passDay_23 rfl (lv_at hl 0 rfl) ?_
      refine xg_4_3 C w lf_3_22 dX3_passDay_24 ?_
      refine lv_iload hx hb dX3_passDay_27 (lv_at hl 3 rfl) ?_
      refine lv_iload hx hb dX3_passDay_29 (lv_at hl 4 rfl) ?_
      refine lv_iadd hx hb dX3_passDay_31 ?_
      refine lv_aload_n hx hb dX3_passDay_32 rfl (lv_at hl 0 rfl) ?_
      refine xg_4_3 C w lf_3_22 dX3_passDay_33 ?_
      refine lv_iload_n hx hb dX3_passDay_36 rfl (lv_at hl 2 rfl) ?_
      refine lv_iload hx hb dX3_passDay_37 (lv_at hl 4 rfl) ?_
      refine lv_iadd hx hb dX3_passDay_39 ?_
      obtain ⟨hi, hf⟩ := zf_gd hf
      refine xa_17 C w hi dX3_passDay_40 ?_
      refine lv_aload_n hx hb dX3_passDay_41 rfl (lv_at hl 0 rfl) ?_
      refine xg_4_4 C w lf_3_25 dX3_passDay_42 ?_
      refine lv_iload hx hb dX3_passDay_45 (lv_at hl 4 rfl) ?_
      obtain ⟨hi, hf⟩ := zf_gd hf
      refine xa_18 C w hi dX3_passDay_47 ?_
      refine lv_aload_n hx hb dX3_passDay_48 rfl (lv_at hl 0 rfl) ?_
      refine xg_4_5 C w lf_3_28 dX3_passDay_49 ?_
      refine lv_iload hx hb dX3_passDay_52 (lv_at hl 4 rfl) ?_
      obtain ⟨hi, hf⟩ := zf_gd hf
      refine xa_19 C w hi dX3_passDay_54 ?_
      obtain ⟨r1, hc, hf⟩ := zf_bp_ex hf
      refine zc_ri wX_ad w (zc_S C w (kX2_grown l D q cs _ _ _ _ _ hc _) cf_2_grown ci_2_grown lm_3_79 ⟨Nat.le_of_ble_eq_true rfl, Nat.le_of_ble_eq_true rfl⟩ hl.1 rfl (Nat.le_of_ble_eq_true rfl) dX3_passDay_55 ⟨Nat.le_refl _, Nat.le_refl _⟩) (fun H locs w => ?_)
      obtain ⟨hi, hf⟩ := zf_gd hf
      refine xs_17 C w hi dX3_passDay_58 (fun H locs w => ?_)
      refine lv_iinc (v := v5 + 1) (lv' := [(5, .int (v5 + 1)), (0, .ref (q 4)), (2, .int v2), (3, .int v3), (4, .int v4)]) hx hb dX3_passDay_59 hl (k := 4) rfl rfl (by decide) rfl (fun ls hl => ?_)
      refine lv_goto (tgt := 14) hx hb dX3_passDay_62 (by decide) ?_
      exact hag14 (zs_sa u 8 (upd (zs_a u 8) (v4 + v5).toNatClampNeg r1), v5 + 1) hf H locs ls w (lv_sub hl [1, 2, 3, 4, 0] rfl)
  exact lp14 _ _ _ _ _ hf H locs ls w (lv_sub hl [3, 5, 2, 1, 0] rfl)
def fX3_explore_b46 (N : Nat) (self : zs_T → Int32 → Int32 → Int32 → Option zs_T) (v1 : Int32) (v3 : Int32) (v4 : Int32) (ag46 : zs_T → Int32 → Option zs_T) (u : zs_T) (v5 : Int32) : Option zs_T :=
  (if v4 < v5 then some u else (if zf_in v1 8 then (zf_bi (fX3_passDay N (zs_sa u 7 (upd (zs_a u 7) v1.toNatClampNeg v5)) v1 v5) fun r1 u2 => (zf_bv (self u2 (v1 + 1) v5 (v3 + r1)) fun u4 => ag46 u4 (v5 + 1))) else none))
def fX3_explore_1 (N : Nat) (self : zs_T → Int32 → Int32 → Int32 → Option zs_T) (u : zs_T) (v1 : Int32) (v2 : Int32) (v3 : Int32) : Option zs_T :=
  (if v3 ≤ zs_i u 10 then (if v1 < zs_i u 7 then zf_loop (fun ag x => fX3_explore_b46 N self v1 v3 (zr_imin ((zs_i u 8) - 1) (v2 + 1)) (fun u v5 => ag (u, v5)) x.1 x.2) N (u, zr_imax 0 (v2 - 1)) else (zf_bv (fX3_judge N u v3) fun u6 => some u6)) else some u)
def fX3_explore (N : Nat) : Nat → zs_T → Int32 → Int32 → Int32 → Option zs_T
  | 0, _, _, _, _ => none
  | d + 1, u, v1, v2, v3 => fX3_explore_1 N (fX3_explore N d) u v1 v2 v3
set_option maxHeartbeats 4000000 in
set_option maxRecDepth 100000 in
theorem kX3_explore_1 (l : Launch) (D : va_G) (q : Nat → Nat) (cs : Nat → ClassId) (N : Nat) (d : Nat) (self : zs_T → Int32 → Int32 → Int32 → Option zs_T) (hself : ∀ (u : zs_T) (v1 : Int32) (v2 : Int32) (v3 : Int32) (z : zs_T), self u v1 v2 v3 = some z → zg_Cv l yX3_explore cX3_explore 7 none (3 + d) D cs (wX q cs) u [.ref (q 4), .int v1, .int v2, .int v3] z) (u : zs_T) (v1 : Int32) (v2 : Int32) (v3 : Int32) (z : zs_T) (hf : fX3_explore_1 N self u v1 v2 v3 = some z) : zg_Cv l yX3_explore cX3_explore 7 none (3 + d + 1) D cs (wX q cs) u [.ref (q 4), .int v1, .int v2, .int v3] z := by
  refine zg_Cv_of (own := RX3) (by decide) rfl wX_ad (Nat.le_of_ble_eq_true rfl) ?_
  intro p e s m args below meth c A Q C hret w ls hl
  obtain ⟨hx, hb, -⟩ := id C
  have hl : lv_has ls 7 [(0, .ref (q 4)), (1, .int v1), (2, .int v2), (3, .int v3)] := hl
  generalize hH : s.heap = H at w ⊢
  generalize hLc : ([] : List Loc) = locs at w ⊢
  unfold fX3_explore_1 at hf
  refine lv_iload_n hx hb dX3_explore_0 rfl (lv_at hl 3 rfl) ?_
  refine lv_aload_n hx hb dX3_explore_1 rfl (lv_at hl 0 rfl) ?_
  refine xg_4_8 C w lf_3_37 dX3_explore_2 ?_
  refine lv_icmp_le (tgt := 9) hx hb dX3_explore_5 (by decide) (fun h => ?_) (fun h => ?_)
  · replace hf := zf_t h hf
    refine lv_iload_n hx hb dX3_explore_9 rfl (lv_at hl 1 rfl) ?_
    refine lv_aload_n hx hb dX3_explore_10 rfl (lv_at hl 0 rfl) ?_
    refine xg_4_1 C w lf_3_15 dX3_explore_11 ?_
    refine lv_icmp_lt (tgt := 23) hx hb dX3_explore_14 (by decide) (fun h => ?_) (fun h => ?_)
    · replace hf := zf_t h hf
      refine lv_aload_n hx hb dX3_explore_23 rfl (lv_at hl 0 rfl) ?_
      refine xg_4_6 C w lf_3_31 dX3_explore_24 ?_
      refine lv_iconst (v := 1) hx hb dX3_explore_27 (by decide) ?_
      refine lv_isub hx hb dX3_explore_28 ?_
      refine lv_iload_n hx hb dX3_explore_29 rfl (lv_at hl 2 rfl) ?_
      refine lv_iconst (v := 1) hx hb dX3_explore_30 (by decide) ?_
      refine lv_iadd hx hb dX3_explore_31 ?_
      refine zr_min C hl.1 lm_3_68 ⟨by simp only [zg_rm]; omega, by simp only [zg_rm, List.map_nil, List.map_cons, List.sum_nil, List.sum_cons, Value.category]; omega⟩ ⟨Nat.le_refl _, Nat.le_refl _⟩ dX3_explore_32 ?_
      refine lv_istore (lv' := [(4, .int (zr_imin ((zs_i u 8) - 1) (v2 + 1))), (0, .ref (q 4)), (1, .int v1), (2, .int v2), (3, .int v3)]) hx hb dX3_explore_35 hl (by decide) rfl (fun ls hl => ?_)
      refine lv_iconst (v := 0) hx hb dX3_explore_37 (by decide) ?_
      refine lv_iload_n hx hb dX3_explore_38 rfl (lv_at hl 3 rfl) ?_
      refine lv_iconst (v := 1) hx hb dX3_explore_39 (by decide) ?_
      refine lv_isub hx hb dX3_explore_40 ?_
      refine zr_max C hl.1 lm_3_73 ⟨by simp only [zg_rm]; omega, by simp only [zg_rm, List.map_nil, List.map_cons, List.sum_nil, List.sum_cons, Value.category]; omega⟩ ⟨Nat.le_refl _, Nat.le_refl _⟩ dX3_explore_41 ?_
      refine lv_istore (lv' := [(5, .int (zr_imax 0 (v2 - 1))), (4, .int (zr_imin ((zs_i u 8) - 1) (v2 + 1))), (0, .ref (q 4)), (1, .int v1), (2, .int v2), (3, .int v3)]) hx hb dX3_explore_44 hl (by decide) rfl (fun ls hl => ?_)
      have lp46 : ∀ (v1 : Int32) (v3 : Int32) (v4 : Int32) (n : Nat) (x : zs_T × Int32), zf_loop (fun ag x => fX3_explore_b46 N self v1 v3 v4 (fun u v5 => ag (u, v5)) x.1 x.2) n x = some z → ∀ (H : Heap) (locs : List Loc) (ls : Array Slot), zg_W D cs A s (wX q cs x.1) H locs → lv_has ls 7 [(0, .ref (q 4)), (1, .int v1), (3, .int v3), (4, .int v4), (5, .int x.2)] → W p l e (zg_rm (3 + d + 1)) s m args below meth c H locs 0 0 Q (F0 m 46 ls []) := by
        intro v1 v3 v4
        refine zf_loop_W (fun x : zs_T × Int32 => ∀ (H : Heap) (locs : List Loc) (ls : Array Slot), zg_W D cs A s (wX q cs x.1) H locs → lv_has ls 7 [(0, .ref (q 4)), (1, .int v1), (3, .int v3), (4, .int v4), (5, .int x.2)] → W p l e (zg_rm (3 + d + 1)) s m args below meth c H locs 0 0 Q (F0 m 46 ls [])) ?_
        intro ag46 x hag46 hf
        obtain ⟨u, v5⟩ := x
        intro H locs ls w hl
        replace hf : fX3_explore_b46 N self v1 v3 v4 (fun u v5 => ag46 (u, v5)) u v5 = some z := hf
        replace hl : lv_has ls 7 [(0, .ref (q 4)), (1, .int v1), (3, .int v3), (4, .int v4), (5, .int v5)] := hl
        replace w : zg_W D cs A s (wX q cs u) H locs := w
        unfold fX3_explore_b46 at hf
        refine lv_iload hx hb dX3_explore_46 (lv_at hl 4 rfl) ?_
        refine lv_iload hx hb dX3_explore_48 (lv_at hl 3 rfl) ?_
        refine lv_icmp_gt (tgt := 89) hx hb dX3_explore_50 (by decide) (fun h => ?_) (fun h => ?_)
        · replace hf := zf_t h hf
          exact hret _ _ _ _ _ hf w dX3_explore_89
        · replace hf := zf_f h hf
          refine lv_aload_n hx hb dX3_explore_53 rfl (lv_at hl 0 rfl) ?_
          refine xg_4_2 C w lf_3_19 dX3_explore_54 ?_
          refine lv_iload_n hx hb dX3_explore_57 rfl (lv_at hl 1 rfl) ?_
          refine lv_iload hx hb dX3_explore_58 (lv_at hl 4 rfl) ?_
          obtain ⟨hi, hf⟩ := zf_gd hf
          refine xs_16 C w hi dX3_explore_60 (fun H locs w => ?_)
          refine lv_aload_n hx hb dX3_explore_61 rfl (lv_at hl 0 rfl) ?_
          refine lv_iload_n hx hb dX3_explore_62 rfl (lv_at hl 1 rfl) ?_
          refine lv_iload hx hb dX3_explore_63 (lv_at hl 4 rfl) ?_
          obtain ⟨r1, u2, hc, hf⟩ := zf_bi_ex hf
          refine zc_ri wX_ad w (zc_V C w (kX3_passDay l D q cs N _ _ _ _ hc _) cf_3_passDay ci_3_passDay lm_3_76 rcX_4 ⟨by simp only [zg_rm]; omega, by simp only [zg_rm, List.map_nil, List.map_cons, List.sum_nil, List.sum_cons, Value.category]; omega⟩ hl.1 rfl (Nat.le_of_ble_eq_true rfl) dX3_explore_65 ⟨Nat.le_refl _, Nat.le_refl _⟩) (fun H locs w => ?_)
          refine lv_istore (lv' := [(6, .int r1), (0, .ref (q 4)), (1, .int v1), (3, .int v3), (4, .int v4), (5, .int v5)]) hx hb dX3_explore_68 hl (by decide) rfl (fun ls hl => ?_)
          refine lv_aload_n hx hb dX3_explore_70 rfl (lv_at hl 1 rfl) ?_
          refine lv_iload_n hx hb dX3_explore_71 rfl (lv_at hl 2 rfl) ?_
          refine lv_iconst (v := 1) hx hb dX3_explore_72 (by decide) ?_
          refine lv_iadd hx hb dX3_explore_73 ?_
          refine lv_iload hx hb dX3_explore_74 (lv_at hl 5 rfl) ?_
          refine lv_iload_n hx hb dX3_explore_76 rfl (lv_at hl 3 rfl) ?_
          refine lv_iload hx hb dX3_explore_77 (lv_at hl 0 rfl) ?_
          refine lv_iadd hx hb dX3_explore_79 ?_
          obtain ⟨u4, hc, hf⟩ := zf_bv_ex hf
          refine zc_rv wX_ad w (zc_S C w (hself _ _ _ _ _ hc _) cf_3_explore ci_3_explore lm_3_60 ⟨by simp only [zg_rm]; omega, by simp only [zg_rm, List.map_nil, List.map_cons, List.sum_nil, List.sum_cons, Value.category]; omega⟩ hl.1 rfl (Nat.le_of_ble_eq_true rfl) dX3_explore_80 ⟨Nat.le_refl _, Nat.le_refl _⟩) (fun H locs w => ?_)
          refine lv_iinc (v := v5 + 1) (lv' := [(5, .int (v5 + 1)), (6, .int r1), (0, .ref (q 4)), (1, .int v1), (3, .int v3), (4, .int v4)]) hx hb dX3_explore_83 hl (k := 5) rfl rfl (by decide) rfl (fun ls hl => ?_)
          refine lv_goto (tgt := 46) hx hb dX3_explore_86 (by decide) ?_
          exact hag46 (u4, v5 + 1) hf H locs ls w (lv_sub hl [2, 3, 4, 5, 0] rfl)
      exact lp46 _ _ _ _ _ hf H locs ls w (lv_sub hl [2, 3, 5, 1, 0] rfl)
    · replace hf := zf_f h hf
      refine lv_aload_n hx hb dX3_explore_17 rfl (lv_at hl 0 rfl) ?_
      refine lv_iload_n hx hb dX3_explore_18 rfl (lv_at hl 3 rfl) ?_
      obtain ⟨u6, hc, hf⟩ := zf_bv_ex hf
      refine zc_rv wX_ad w (zc_V C w (kX3_judge l D q cs N _ _ _ hc _) cf_3_judge ci_3_judge lm_3_64 rcX_4 ⟨by simp only [zg_rm]; omega, by simp only [zg_rm, List.map_nil, List.map_cons, List.sum_nil, List.sum_cons, Value.category]; omega⟩ hl.1 rfl (Nat.le_of_ble_eq_true rfl) dX3_explore_19 ⟨Nat.le_refl _, Nat.le_refl _⟩) (fun H locs w => ?_)
      exact hret _ _ _ _ _ hf w dX3_explore_22
  · replace hf := zf_f h hf
    exact hret _ _ _ _ _ hf w dX3_explore_8
theorem kX3_explore (l : Launch) (D : va_G) (q : Nat → Nat) (cs : Nat → ClassId) (N : Nat) : ∀ (d : Nat) (u : zs_T) (v1 : Int32) (v2 : Int32) (v3 : Int32) (z : zs_T), fX3_explore N d u v1 v2 v3 = some z → zg_Cv l yX3_explore cX3_explore 7 none (3 + d) D cs (wX q cs) u [.ref (q 4), .int v1, .int v2, .int v3] z
  | 0, _, _, _, _, _, h => by cases h
  | d + 1, u, v1, v2, v3, z, h => kX3_explore_1 l D q cs N d (fX3_explore N d) (fun u v1 v2 v3 z h => kX3_explore l D q cs N d u v1 v2 v3 z h) u v1 v2 v3 z h
def fX3_findBest_j69 (N : Nat) (u : zs_T) (v2 : Int32) (v3 : Int32) : Option (Int32 × zs_T) :=
  (zf_bv (fX3_explore N 9 (zs_si (zs_si (zs_si (zs_si u 7 v3) 9 (10 * v2)) 10 2147483647) 11 0) 0 (zs_i (zs_si (zs_si (zs_si (zs_si u 7 v3) 9 (10 * v2)) 10 2147483647) 11 0) 5) 0) fun u2 => some (zs_i u2 10, u2))
def fX3_findBest_b11 (N : Nat) (v2 : Int32) (v3 : Int32) (v4 : Int32) (ag11 : zs_T → Int32 → Option (Int32 × zs_T)) (u : zs_T) (v5 : Int32) : Option (Int32 × zs_T) :=
  (if zs_i u 8 ≤ v5 then fX3_findBest_j69 N u v2 v3 else (if zf_in v5 6 then (if zf_in v5 54 then (if zf_in v5 6 then (if zf_in v5 6 then (zf_bp (fX2_gainOn (zs_sa (zs_sa u 8 (upd (zs_a u 8) v5.toNatClampNeg (zs_a u 3 v5.toNatClampNeg))) 9 (upd (zs_a (zs_sa u 8 (upd (zs_a u 8) v5.toNatClampNeg (zs_a u 3 v5.toNatClampNeg))) 9) v5.toNatClampNeg (zs_a (zs_sa u 8 (upd (zs_a u 8) v5.toNatClampNeg (zs_a u 3 v5.toNatClampNeg))) 4 v5.toNatClampNeg))) v5 v4) fun r3 => (if zf_in v5 6 then ag11 (zs_sa (zs_sa (zs_sa u 8 (upd (zs_a u 8) v5.toNatClampNeg (zs_a u 3 v5.toNatClampNeg))) 9 (upd (zs_a (zs_sa u 8 (upd (zs_a u 8) v5.toNatClampNeg (zs_a u 3 v5.toNatClampNeg))) 9) v5.toNatClampNeg (zs_a (zs_sa u 8 (upd (zs_a u 8) v5.toNatClampNeg (zs_a u 3 v5.toNatClampNeg))) 4 v5.toNatClampNeg))) 10 (upd (zs_a (zs_sa (zs_sa u 8 (upd (zs_a u 8) v5.toNatClampNeg (zs_a u 3 v5.toNatClampNeg))) 9 (upd (zs_a (zs_sa u 8 (upd (zs_a u 8) v5.toNatClampNeg (zs_a u 3 v5.toNatClampNeg))) 9) v5.toNatClampNeg (zs_a (zs_sa u 8 (upd (zs_a u 8) v5.toNatClampNeg (zs_a u 3 v5.toNatClampNeg))) 4 v5.toNatClampNeg))) 10) v5.toNatClampNeg r3)) (v5 + 1) else none)) else none) else none) else none) else none))
def fX3_findBest (N : Nat) (u : zs_T) (v2 : Int32) (v3 : Int32) (v4 : Int32) : Option (Int32 × zs_T) :=
  zf_loop (fun ag x => fX3_findBest_b11 N v2 v3 v4 (fun u v5 => ag (u, v5)) x.1 x.2) N (zs_si u 8 (zs_i u 3), 0)
set_option maxHeartbeats 4000000 in
set_option maxRecDepth 100000 in
theorem kX3_findBest (l : Launch) (D : va_G) (q : Nat → Nat) (cs : Nat → ClassId) (N : Nat) (u : zs_T) (v2 : Int32) (v3 : Int32) (v4 : Int32) (z : (Int32 × zs_T)) (hf : fX3_findBest N u v2 v3 v4 = some z) : zg_Ci l yX3_findBest cX3_findBest 6 (some .int) 13 D cs (wX q cs) u [.ref (q 4), .ref (q 3), .int v2, .int v3, .int v4] z.1 z.2 := by
  refine zg_Ci_of (own := RX3) (by decide) rfl wX_ad (Nat.le_of_ble_eq_true rfl) ?_
  intro p e s m args below meth c A Q C hret w ls hl
  obtain ⟨hx, hb, -⟩ := id C
  have hl : lv_has ls 6 [(0, .ref (q 4)), (1, .ref (q 3)), (2, .int v2), (3, .int v3), (4, .int v4)] := hl
  generalize hH : s.heap = H at w ⊢
  generalize hLc : ([] : List Loc) = locs at w ⊢
  have hj69 : ∀ (u : zs_T) (v2 : Int32) (v3 : Int32) (H : Heap) (locs : List Loc) (ls : Array Slot), zg_W D cs A s (wX q cs u) H locs → lv_has ls 6 [(0, .ref (q 4)), (1, .ref (q 3)), (2, .int v2), (3, .int v3)] → fX3_findBest_j69 N u v2 v3 = some z → W p l e (zg_rm 13) s m args below meth c H locs 0 0 Q (F0 m 69 ls []) := by
    intro u v2 v3 H locs ls w hl hf
    unfold fX3_findBest_j69 at hf
    refine lv_aload_n hx hb dX3_findBest_69 rfl (lv_at hl 0 rfl) ?_
    refine lv_iload_n hx hb dX3_findBest_70 rfl (lv_at hl 3 rfl) ?_
    refine xp_4_1 C w lf_3_15 dX3_findBest_71 (fun H locs w => ?_)
    refine lv_aload_n hx hb dX3_findBest_74 rfl (lv_at hl 0 rfl) ?_
    refine lv_bipush (v := 10) hx hb dX3_findBest_75 (by decide) ?_
    refine lv_iload_n hx hb dX3_findBest_77 rfl (lv_at hl 2 rfl) ?_
    refine lv_imul hx hb dX3_findBest_78 ?_
    refine xp_4_7 C w lf_3_34 dX3_findBest_79 (fun H locs w => ?_)
    refine lv_aload_n hx hb dX3_findBest_82 rfl (lv_at hl 0 rfl) ?_
    refine zr_ldc C lc_3_56 dX3_findBest_83 ?_
    refine xp_4_8 C w lf_3_37 dX3_findBest_85 (fun H locs w => ?_)
    refine lv_aload_n hx hb dX3_findBest_88 rfl (lv_at hl 0 rfl) ?_
    refine lv_iconst (v := 0) hx hb dX3_findBest_89 (by decide) ?_
    refine xp_4_9 C w lf_3_40 dX3_findBest_90 (fun H locs w => ?_)
    refine lv_aload_n hx hb dX3_findBest_93 rfl (lv_at hl 0 rfl) ?_
    refine lv_iconst (v := 0) hx hb dX3_findBest_94 (by decide) ?_
    refine lv_aload_n hx hb dX3_findBest_95 rfl (lv_at hl 1 rfl) ?_
    refine xg_3_5 C w lf_3_57 dX3_findBest_96 ?_
    refine lv_iconst (v := 0) hx hb dX3_findBest_99 (by decide) ?_
    obtain ⟨u2, hc, hf⟩ := zf_bv_ex hf
    refine zc_rv wX_ad w (zc_S C w (kX3_explore l D q cs N 9 _ _ _ _ _ hc _) cf_3_explore ci_3_explore lm_3_60 ⟨Nat.le_of_ble_eq_true rfl, Nat.le_of_ble_eq_true rfl⟩ hl.1 rfl (Nat.le_of_ble_eq_true rfl) dX3_findBest_100 ⟨Nat.le_refl _, Nat.le_refl _⟩) (fun H locs w => ?_)
    refine lv_aload_n hx hb dX3_findBest_103 rfl (lv_at hl 0 rfl) ?_
    refine xg_4_8 C w lf_3_37 dX3_findBest_104 ?_
    exact hret _ _ _ _ _ _ hf w dX3_findBest_107
  unfold fX3_findBest at hf
  refine lv_aload_n hx hb dX3_findBest_0 rfl (lv_at hl 0 rfl) ?_
  refine lv_aload_n hx hb dX3_findBest_1 rfl (lv_at hl 1 rfl) ?_
  refine xg_3_3 C w lf_3_43 dX3_findBest_2 ?_
  refine xp_4_6 C w lf_3_31 dX3_findBest_5 (fun H locs w => ?_)
  refine lv_iconst (v := 0) hx hb dX3_findBest_8 (by decide) ?_
  refine lv_istore (lv' := [(5, .int 0), (0, .ref (q 4)), (1, .ref (q 3)), (2, .int v2), (3, .int v3), (4, .int v4)]) hx hb dX3_findBest_9 hl (by decide) rfl (fun ls hl => ?_)
  have lp11 : ∀ (v2 : Int32) (v3 : Int32) (v4 : Int32) (n : Nat) (x : zs_T × Int32), zf_loop (fun ag x => fX3_findBest_b11 N v2 v3 v4 (fun u v5 => ag (u, v5)) x.1 x.2) n x = some z → ∀ (H : Heap) (locs : List Loc) (ls : Array Slot), zg_W D cs A s (wX q cs x.1) H locs → lv_has ls 6 [(0, .ref (q 4)), (1, .ref (q 3)), (2, .int v2), (3, .int v3), (4, .int v4), (5, .int x.2)] → W p l e (zg_rm 13) s m args below meth c H locs 0 0 Q (F0 m 11 ls []) := by
    intro v2 v3 v4
    refine zf_loop_W (fun x : zs_T × Int32 => ∀ (H : Heap) (locs : List Loc) (ls : Array Slot), zg_W D cs A s (wX q cs x.1) H locs → lv_has ls 6 [(0, .ref (q 4)), (1, .ref (q 3)), (2, .int v2), (3, .int v3), (4, .int v4), (5, .int x.2)] → W p l e (zg_rm 13) s m args below meth c H locs 0 0 Q (F0 m 11 ls [])) ?_
    intro ag11 x hag11 hf
    obtain ⟨u, v5⟩ := x
    intro H locs ls w hl
    replace hf : fX3_findBest_b11 N v2 v3 v4 (fun u v5 => ag11 (u, v5)) u v5 = some z := hf
    replace hl : lv_has ls 6 [(0, .ref (q 4)), (1, .ref (q 3)), (2, .int v2), (3, .int v3), (4, .int v4), (5, .int v5)] := hl
    replace w : zg_W D cs A s (wX q cs u) H locs := w
    unfold fX3_findBest_b11 at hf
    refine lv_iload hx hb dX3_findBest_11 (lv_at hl 5 rfl) ?_
    refine lv_aload_n hx hb dX3_findBest_13 rfl (lv_at hl 0 rfl) ?_
    refine xg_4_6 C w lf_3_31 dX3_findBest_14 ?_
    refine lv_icmp_ge (tgt := 69) hx hb dX3_findBest_17 (by decide) (fun h => ?_) (fun h => ?_)
    · replace hf := zf_t h hf
      exact hj69 _ _ _ H locs ls w (lv_sub hl [0, 1, 2, 3] rfl) hf
    · replace hf := zf_f h hf
      refine lv_aload_n hx hb dX3_findBest_20 rfl (lv_at hl 0 rfl) ?_
      refine xg_4_3 C w lf_3_22 dX3_findBest_21 ?_
      refine lv_iload hx hb dX3_findBest_24 (lv_at hl 5 rfl) ?_
      refine lv_aload_n hx hb dX3_findBest_26 rfl (lv_at hl 1 rfl) ?_
      refine xg_3_0 C w lf_3_46 dX3_findBest_27 ?_
      refine lv_iload hx hb dX3_findBest_30 (lv_at hl 5 rfl) ?_
      obtain ⟨hi, hf⟩ := zf_gd hf
      refine xa_12 C w hi dX3_findBest_32 ?_
      obtain ⟨hi, hf⟩ := zf_gd hf
      refine xs_17 C w hi dX3_findBest_33 (fun H locs w => ?_)
      refine lv_aload_n hx hb dX3_findBest_34 rfl (lv_at hl 0 rfl) ?_
      refine xg_4_4 C w lf_3_25 dX3_findBest_35 ?_
      refine lv_iload hx hb dX3_findBest_38 (lv_at hl 5 rfl) ?_
      refine lv_aload_n hx hb dX3_findBest_40 rfl (lv_at hl 1 rfl) ?_
      refine xg_3_1 C w lf_3_49 dX3_findBest_41 ?_
      refine lv_iload hx hb dX3_findBest_44 (lv_at hl 5 rfl) ?_
      obtain ⟨hi, hf⟩ := zf_gd hf
      refine xa_13 C w hi dX3_findBest_46 ?_
      obtain ⟨hi, hf⟩ := zf_gd hf
      refine xs_18 C w hi dX3_findBest_47 (fun H locs w => ?_)
      refine lv_aload_n hx hb dX3_findBest_48 rfl (lv_at hl 0 rfl) ?_
      refine xg_4_5 C w lf_3_28 dX3_findBest_49 ?_
      refine lv_iload hx hb dX3_findBest_52 (lv_at hl 5 rfl) ?_
      refine lv_aload_n hx hb dX3_findBest_54 rfl (lv_at hl 1 rfl) ?_
      refine lv_iload hx hb dX3_findBest_55 (lv_at hl 5 rfl) ?_
      refine lv_iload hx hb dX3_findBest_57 (lv_at hl 4 rfl) ?_
      obtain ⟨r3, hc, hf⟩ := zf_bp_ex hf
      refine zc_ri wX_ad w (zc_V C w (kX2_gainOn l D q cs _ _ _ _ hc _) cf_2_gainOn ci_2_gainOn lm_3_50 rcX_3 ⟨Nat.le_of_ble_eq_true rfl, Nat.le_of_ble_eq_true rfl⟩ hl.1 rfl (Nat.le_of_ble_eq_true rfl) dX3_findBest_59 ⟨Nat.le_refl _, Nat.le_refl _⟩) (fun H locs w => ?_)
      obtain ⟨hi, hf⟩ := zf_gd hf
      refine xs_19 C w hi dX3_findBest_62 (fun H locs w => ?_)
      refine lv_iinc (v := v5 + 1) (lv' := [(5, .int (v5 + 1)), (0, .ref (q 4)), (1, .ref (q 3)), (2, .int v2), (3, .int v3), (4, .int v4)]) hx hb dX3_findBest_63 hl (k := 5) rfl rfl (by decide) rfl (fun ls hl => ?_)
      refine lv_goto (tgt := 11) hx hb dX3_findBest_66 (by decide) ?_
      exact hag11 (zs_sa (zs_sa (zs_sa u 8 (upd (zs_a u 8) v5.toNatClampNeg (zs_a u 3 v5.toNatClampNeg))) 9 (upd (zs_a (zs_sa u 8 (upd (zs_a u 8) v5.toNatClampNeg (zs_a u 3 v5.toNatClampNeg))) 9) v5.toNatClampNeg (zs_a (zs_sa u 8 (upd (zs_a u 8) v5.toNatClampNeg (zs_a u 3 v5.toNatClampNeg))) 4 v5.toNatClampNeg))) 10 (upd (zs_a (zs_sa (zs_sa u 8 (upd (zs_a u 8) v5.toNatClampNeg (zs_a u 3 v5.toNatClampNeg))) 9 (upd (zs_a (zs_sa u 8 (upd (zs_a u 8) v5.toNatClampNeg (zs_a u 3 v5.toNatClampNeg))) 9) v5.toNatClampNeg (zs_a (zs_sa u 8 (upd (zs_a u 8) v5.toNatClampNeg (zs_a u 3 v5.toNatClampNeg))) 4 v5.toNatClampNeg))) 10) v5.toNatClampNeg r3), v5 + 1) hf H locs ls w (lv_sub hl [1, 2, 3, 4, 5, 0] rfl)
  exact lp11 _ _ _ _ _ hf H locs ls w (lv_sub hl [1, 2, 3, 4, 5, 0] rfl)
