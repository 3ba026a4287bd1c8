def fM9_grows_j60 (N : Nat) (ag2 : zs_T → Int32 → Option zs_T) (u : zs_T) (v1 : Int32) (v2 : Int32) (v3 : Int32) (t0 : Int32) : Option zs_T :=
  (if zf_in v2 6 then (if (zs_a u 2 v2.toNatClampNeg) + v3 ≤ t0 then (if zf_in v2 6 then (if zf_in v2 6 then ag2 (zs_sa u 2 (upd (zs_a u 2) v2.toNatClampNeg ((zs_a u 2 v2.toNatClampNeg) + v3))) (v2 + 1) else none) else none) else (if zf_in v2 6 then ag2 (zs_sa u 2 (upd (zs_a u 2) v2.toNatClampNeg t0)) (v2 + 1) else none)) else none)
def fM9_grows_b2 (N : Nat) (v1 : Int32) (ag2 : zs_T → Int32 → Option zs_T) (u : zs_T) (v2 : Int32) : Option zs_T :=
  (if zs_i u 6 ≤ v2 then some u else (if zf_in v2 6 then (if 0 < (zs_a u 4 v2.toNatClampNeg) * (v1 - (3 * v2)) then (if zf_in v2 6 then (if zf_in v2 6 then (if zs_a u 2 v2.toNatClampNeg ≤ zs_a u 3 v2.toNatClampNeg then (if zf_in v2 6 then fM9_grows_j60 N ag2 u v1 v2 ((zs_a u 4 v2.toNatClampNeg) * (v1 - (3 * v2))) (zs_a u 3 v2.toNatClampNeg) else none) else (if zf_in v2 6 then fM9_grows_j60 N ag2 u v1 v2 ((zs_a u 4 v2.toNatClampNeg) * (v1 - (3 * v2))) (zs_a u 2 v2.toNatClampNeg) else none)) else none) else none) else ag2 u (v2 + 1)) else none))
def fM9_grows (N : Nat) (u : zs_T) (v1 : Int32) : Option zs_T :=
  zf_loop (fun ag x => fM9_grows_b2 N v1 (fun u v2 => ag (u, v2)) x.1 x.2) N (u, 0)
set_option maxHeartbeats 4000000 in
set_option maxRecDepth 100000 in
theorem kM9_grows (l : Launch) (D : va_G) (q : Nat → Nat) (cs : Nat → ClassId) (N : Nat) (u : zs_T) (v1 : Int32) (z : zs_T) (hf : fM9_grows N u v1 = some z) : zg_Cv l yX9_grows cX9_grows 5 none 0 D cs (wM q cs) u [.ref (q 0), .int v1] z := by
  refine zg_Cv_of (own := RX9) (by decide) rfl wM_ad (Nat.le_of_ble_eq_true rfl) ?_
  intro p e s m args below meth c A Q C hret w ls hl
  obtain ⟨hx, hb, -⟩ := id C
  have hl : lv_has ls 5 [(0, .ref (q 0)), (1, .int v1)] := hl
  generalize hH : s.heap = H at w ⊢
  generalize hLc : ([] : List Loc) = locs at w ⊢
  unfold fM9_grows at hf
  refine lv_iconst (v := 0) hx hb dX9_grows_0 (by decide) ?_
  refine lv_istore_n (lv' := [(2, .int 0), (0, .ref (q 0)), (1, .int v1)]) hx hb dX9_grows_1 rfl hl (by decide) rfl (fun ls hl => ?_)
  have lp2 : ∀ (v1 : Int32) (n : Nat) (x : zs_T × Int32), zf_loop (fun ag x => fM9_grows_b2 N v1 (fun u v2 => ag (u, v2)) x.1 x.2) n x = some z → ∀ (H : Heap) (locs : List Loc) (ls : Array Slot), zg_W D cs A s (wM q cs x.1) H locs → lv_has ls 5 [(0, .ref (q 0)), (1, .int v1), (2, .int x.2)] → W p l e (zg_rm 0) s m args below meth c H locs 0 0 Q (F0 m 2 ls []) := by
    intro v1
    refine zf_loop_W (fun x : zs_T × Int32 => ∀ (H : Heap) (locs : List Loc) (ls : Array Slot), zg_W D cs A s (wM q cs x.1) H locs → lv_has ls 5 [(0, .ref (q 0)), (1, .int v1), (2, .int x.2)] → W p l e (zg_rm 0) s m args below meth c H locs 0 0 Q (F0 m 2 ls [])) ?_
    intro ag2 x hag2 hf
    obtain ⟨u, v2⟩ := x
    intro H locs ls w hl
    replace hf : fM9_grows_b2 N v1 (fun u v2 => ag2 (u, v2)) u v2 = some z := hf
    replace hl : lv_has ls 5 [(0, .ref (q 0)), (1, .int v1), (2, .int v2)] := hl
    replace w : zg_W D cs A s (wM q cs u) H locs := w
    have hj60 : ∀ (u : zs_T) (v2 : Int32) (v3 : Int32) (t0 : Int32) (H : Heap) (locs : List Loc) (ls : Array Slot), zg_W D cs A s (wM q cs u) H locs → lv_has ls 5 [(0, .ref (q 0)), (1, .int v1), (2, .int v2), (3, .int v3)] → fM9_grows_j60 N (fun u v2 => ag2 (u, v2)) u v1 v2 v3 t0 = some z → W p l e (zg_rm 0) s m args below meth c H locs 0 0 Q (F0 m 60 ls [.int t0]) := by
      intro u v2 v3 t0 H locs ls w hl hf
      unfold fM9_grows_j60 at hf
      refine lv_istore (lv' := [(4, .int t0), (0, .ref (q 0)), (1, .int v1), (2, .int v2), (3, .int v3)]) hx hb dX9_grows_60 hl (by decide) rfl (fun ls hl => ?_)
      refine lv_aload_n hx hb dX9_grows_62 rfl (lv_at hl 1 rfl) ?_
      refine mg_0_14 C w lf_9_39 dX9_grows_63 ?_
      refine lv_iload_n hx hb dX9_grows_66 rfl (lv_at hl 3 rfl) ?_
      refine lv_aload_n hx hb dX9_grows_67 rfl (lv_at hl 1 rfl) ?_
      refine mg_0_14 C w lf_9_39 dX9_grows_68 ?_
      refine lv_iload_n hx hb dX9_grows_71 rfl (lv_at hl 3 rfl) ?_
      obtain ⟨hi, hf⟩ := zf_gd hf
      refine ma_3 C w hi dX9_grows_72 ?_
      refine lv_iload_n hx hb dX9_grows_73 rfl (lv_at hl 4 rfl) ?_
      refine lv_iadd hx hb dX9_grows_74 ?_
      refine lv_iload hx hb dX9_grows_75 (lv_at hl 0 rfl) ?_
      refine lv_icmp_le (tgt := 85) hx hb dX9_grows_77 (by decide) (fun h => ?_) (fun h => ?_)
      · replace hf := zf_t h hf
        refine lv_aload_n hx hb dX9_grows_85 rfl (lv_at hl 1 rfl) ?_
        refine mg_0_14 C w lf_9_39 dX9_grows_86 ?_
        refine lv_iload_n hx hb dX9_grows_89 rfl (lv_at hl 3 rfl) ?_
        obtain ⟨hi, hf⟩ := zf_gd hf
        refine ma_3 C w hi dX9_grows_90 ?_
        refine lv_iload_n hx hb dX9_grows_91 rfl (lv_at hl 4 rfl) ?_
        refine lv_iadd hx hb dX9_grows_92 ?_
        obtain ⟨hi, hf⟩ := zf_gd hf
        refine ms_3 C w hi dX9_grows_93 (fun H locs w => ?_)
        refine lv_iinc (v := v2 + 1) (lv' := [(2, .int (v2 + 1)), (4, .int t0), (0, .ref (q 0)), (1, .int v1), (3, .int v3)]) hx hb dX9_grows_94 hl (k := 3) rfl rfl (by decide) rfl (fun ls hl => ?_)
        refine lv_goto (tgt := 2) hx hb dX9_grows_97 (by decide) ?_
        exact hag2 (zs_sa u 2 (upd (zs_a u 2) v2.toNatClampNeg ((zs_a u 2 v2.toNatClampNeg) + v3)), v2 + 1) hf H locs ls w (lv_sub hl [2, 3, 0] rfl)
      · replace hf := zf_f h hf
        refine lv_iload hx hb dX9_grows_80 (lv_at hl 0 rfl) ?_
        refine lv_goto (tgt := 93) hx hb dX9_grows_82 (by decide) ?_
        obtain ⟨hi, hf⟩ := zf_gd hf
        refine ms_3 C w hi dX9_grows_93 (fun H locs w => ?_)
        refine lv_iinc (v := v2 + 1) (lv' := [(2, .int (v2 + 1)), (4, .int t0), (0, .ref (q 0)), (1, .int v1), (3, .int v3)]) hx hb dX9_grows_94 hl (k := 3) rfl rfl (by decide) rfl (fun ls hl => ?_)
        refine lv_goto (tgt := 2) hx hb dX9_grows_97 (by decide) ?_
        exact hag2 (zs_sa u 2 (upd (zs_a u 2) v2.toNatClampNeg t0), v2 + 1) hf H locs ls w (lv_sub hl [2, 3, 0] rfl)
    unfold fM9_grows_b2 at hf
    refine lv_iload_n hx hb dX9_grows_2 rfl (lv_at hl 2 rfl) ?_
    refine lv_aload_n hx hb dX9_grows_3 rfl (lv_at hl 0 rfl) ?_
    refine mg_0_8 C w lf_9_30 dX9_grows_4 ?_
    refine lv_icmp_ge (tgt := 100) hx hb dX9_grows_7 (by decide) (fun h => ?_) (fun h => ?_)
    · replace hf := zf_t h hf
      exact hret _ _ _ _ _ hf w dX9_grows_100
    · replace hf := zf_f h hf
      refine lv_aload_n hx hb dX9_grows_10 rfl (lv_at hl 0 rfl) ?_
      refine mg_0_16 C w lf_9_45 dX9_grows_11 ?_
      refine lv_iload_n hx hb dX9_grows_14 rfl (lv_at hl 2 rfl) ?_
      obtain ⟨hi, hf⟩ := zf_gd hf
      refine ma_5 C w hi dX9_grows_15 ?_
      refine lv_iload_n hx hb dX9_grows_16 rfl (lv_at hl 1 rfl) ?_
      refine lv_iconst (v := 3) hx hb dX9_grows_17 (by decide) ?_
      refine lv_iload_n hx hb dX9_grows_18 rfl (lv_at hl 2 rfl) ?_
      refine lv_imul hx hb dX9_grows_19 ?_
      refine lv_isub hx hb dX9_grows_20 ?_
      refine lv_imul hx hb dX9_grows_21 ?_
      refine lv_istore_n (lv' := [(3, .int ((zs_a u 4 v2.toNatClampNeg) * (v1 - (3 * v2)))), (0, .ref (q 0)), (1, .int v1), (2, .int v2)]) hx hb dX9_grows_22 rfl hl (by decide) rfl (fun ls hl => ?_)
      refine lv_iload_n hx hb dX9_grows_23 rfl (lv_at hl 0 rfl) ?_
      refine lv_if_gt (tgt := 30) hx hb dX9_grows_24 (by decide) (fun h => ?_) (fun h => ?_)
      · replace hf := zf_t h hf
        refine lv_aload_n hx hb dX9_grows_30 rfl (lv_at hl 1 rfl) ?_
        refine mg_0_14 C w lf_9_39 dX9_grows_31 ?_
        refine lv_iload_n hx hb dX9_grows_34 rfl (lv_at hl 3 rfl) ?_
        obtain ⟨hi, hf⟩ := zf_gd hf
        refine ma_3 C w hi dX9_grows_35 ?_
        refine lv_aload_n hx hb dX9_grows_36 rfl (lv_at hl 1 rfl) ?_
        refine mg_0_15 C w lf_9_42 dX9_grows_37 ?_
        refine lv_iload_n hx hb dX9_grows_40 rfl (lv_at hl 3 rfl) ?_
        obtain ⟨hi, hf⟩ := zf_gd hf
        refine ma_4 C w hi dX9_grows_41 ?_
        refine lv_icmp_le (tgt := 54) hx hb dX9_grows_42 (by decide) (fun h => ?_) (fun h => ?_)
        · replace hf := zf_t h hf
          refine lv_aload_n hx hb dX9_grows_54 rfl (lv_at hl 1 rfl) ?_
          refine mg_0_15 C w lf_9_42 dX9_grows_55 ?_
          refine lv_iload_n hx hb dX9_grows_58 rfl (lv_at hl 3 rfl) ?_
          obtain ⟨hi, hf⟩ := zf_gd hf
          refine ma_4 C w hi dX9_grows_59 ?_
          exact hj60 _ _ _ _ H locs ls w (lv_sub hl [1, 2, 3, 0] rfl) hf
        · replace hf := zf_f h hf
          refine lv_aload_n hx hb dX9_grows_45 rfl (lv_at hl 1 rfl) ?_
          refine mg_0_14 C w lf_9_39 dX9_grows_46 ?_
          refine lv_iload_n hx hb dX9_grows_49 rfl (lv_at hl 3 rfl) ?_
          obtain ⟨hi, hf⟩ := zf_gd hf
          refine ma_3 C w hi dX9_grows_50 ?_
          refine lv_goto (tgt := 60) hx hb dX9_grows_51 (by decide) ?_
          exact hj60 _ _ _ _ H locs ls w (lv_sub hl [1, 2, 3, 0] rfl) hf
      · replace hf := zf_f h hf
        refine lv_goto (tgt := 94) hx hb dX9_grows_27 (by decide) ?_
        refine lv_iinc (v := v2 + 1) (lv' := [(2, .int (v2 + 1)), (3, .int ((zs_a u 4 v2.toNatClampNeg) * (v1 - (3 * v2)))), (0, .ref (q 0)), (1, .int v1)]) hx hb dX9_grows_94 hl (k := 3) rfl rfl (by decide) rfl (fun ls hl => ?_)
        refine lv_goto (tgt := 2) hx hb dX9_grows_97 (by decide) ?_
        exact hag2 (u, v2 + 1) hf H locs ls w (lv_sub hl [2, 3, 0] rfl)
  exact lp2 _ _ _ hf H locs ls w (lv_sub hl [1, 2, 0] rfl)
def fM9_eats_j25 (u : zs_T) (v1 : Int32) (v3 : Int32) (t0 : Int32) : Option (Int32 × zs_T) :=
  (if zf_in v1 6 then (if zf_in v1 6 then some (v3 - t0, zs_sa u 2 (upd (zs_a u 2) v1.toNatClampNeg ((zs_a u 2 v1.toNatClampNeg) - t0))) else none) else none)
def fM9_eats (u : zs_T) (v1 : Int32) (v2 : Int32) : Option (Int32 × zs_T) :=
  (if zf_in v1 6 then (if zs_a u 2 v1.toNatClampNeg ≤ 10 * v2 then (if zf_in v1 6 then fM9_eats_j25 u v1 (10 * v2) (zs_a u 2 v1.toNatClampNeg) else none) else fM9_eats_j25 u v1 (10 * v2) (10 * v2)) else none)
set_option maxHeartbeats 4000000 in
set_option maxRecDepth 100000 in
theorem kM9_eats (l : Launch) (D : va_G) (q : Nat → Nat) (cs : Nat → ClassId) (u : zs_T) (v1 : Int32) (v2 : Int32) (z : (Int32 × zs_T)) (hf : fM9_eats u v1 v2 = some z) : zg_Ci l yX9_eats cX9_eats 5 (some .int) 0 D cs (wM q cs) u [.ref (q 0), .int v1, .int v2] z.1 z.2 := by
  refine zg_Ci_of (own := RX9) (by decide) rfl wM_ad (Nat.le_of_ble_eq_true rfl) ?_
  intro p e s m args below meth c A Q C hret w ls hl
  obtain ⟨hx, hb, -⟩ := id C
  have hl : lv_has ls 5 [(0, .ref (q 0)), (1, .int v1), (2, .int v2)] := hl
  generalize hH : s.heap = H at w ⊢
  generalize hLc : ([] : List Loc) = locs at w ⊢
  have hj25 : ∀ (u : zs_T) (v1 : Int32) (v3 : Int32) (t0 : Int32) (H : Heap) (locs : List Loc) (ls : Array Slot), zg_W D cs A s (wM q cs u) H locs → lv_has ls 5 [(0, .ref (q 0)), (1, .int v1), (3, .int v3)] → fM9_eats_j25 u v1 v3 t0 = some z → W p l e (zg_rm 0) s m args below meth c H locs 0 0 Q (F0 m 25 ls [.int t0]) := by
    intro u v1 v3 t0 H locs ls w hl hf
    unfold fM9_eats_j25 at hf
    refine lv_istore (lv' := [(4, .int t0), (0, .ref (q 0)), (1, .int v1), (3, .int v3)]) hx hb dX9_eats_25 hl (by decide) rfl (fun ls hl => ?_)
    refine lv_aload_n hx hb dX9_eats_27 rfl (lv_at hl 1 rfl) ?_
    refine mg_0_14 C w lf_9_39 dX9_eats_28 ?_
    refine lv_iload_n hx hb dX9_eats_31 rfl (lv_at hl 2 rfl) ?_
    refine lv_aload_n hx hb dX9_eats_32 rfl (lv_at hl 1 rfl) ?_
    refine mg_0_14 C w lf_9_39 dX9_eats_33 ?_
    refine lv_iload_n hx hb dX9_eats_36 rfl (lv_at hl 2 rfl) ?_
    obtain ⟨hi, hf⟩ := zf_gd hf
    refine ma_3 C w hi dX9_eats_37 ?_
    refine lv_iload hx hb dX9_eats_38 (lv_at hl 0 rfl) ?_
    refine lv_isub hx hb dX9_eats_40 ?_
    obtain ⟨hi, hf⟩ := zf_gd hf
    refine ms_3 C w hi dX9_eats_41 (fun H locs w => ?_)
    refine lv_iload_n hx hb dX9_eats_42 rfl (lv_at hl 3 rfl) ?_
    refine lv_iload hx hb dX9_eats_43 (lv_at hl 0 rfl) ?_
    refine lv_isub hx hb dX9_eats_45 ?_
    exact hret _ _ _ _ _ _ hf w dX9_eats_46
  unfold fM9_eats at hf
  refine lv_bipush (v := 10) hx hb dX9_eats_0 (by decide) ?_
  refine lv_iload_n hx hb dX9_eats_2 rfl (lv_at hl 2 rfl) ?_
  refine lv_imul hx hb dX9_eats_3 ?_
  refine lv_istore_n (lv' := [(3, .int (10 * v2)), (0, .ref (q 0)), (1, .int v1), (2, .int v2)]) hx hb dX9_eats_4 rfl hl (by decide) rfl (fun ls hl => ?_)
  refine lv_iload_n hx hb dX9_eats_5 rfl (lv_at hl 0 rfl) ?_
  refine lv_aload_n hx hb dX9_eats_6 rfl (lv_at hl 1 rfl) ?_
  refine mg_0_14 C w lf_9_39 dX9_eats_7 ?_
  refine lv_iload_n hx hb dX9_eats_10 rfl (lv_at hl 2 rfl) ?_
  obtain ⟨hi, hf⟩ := zf_gd hf
  refine ma_3 C w hi dX9_eats_11 ?_
  refine lv_icmp_ge (tgt := 19) hx hb dX9_eats_12 (by decide) (fun h => ?_) (fun h => ?_)
  · replace hf := zf_t h hf
    refine lv_aload_n hx hb dX9_eats_19 rfl (lv_at hl 1 rfl) ?_
    refine mg_0_14 C w lf_9_39 dX9_eats_20 ?_
    refine lv_iload_n hx hb dX9_eats_23 rfl (lv_at hl 2 rfl) ?_
    obtain ⟨hi, hf⟩ := zf_gd hf
    refine ma_3 C w hi dX9_eats_24 ?_
    exact hj25 _ _ _ _ H locs ls w (lv_sub hl [1, 2, 0] rfl) hf
  · replace hf := zf_f h hf
    refine lv_iload_n hx hb dX9_eats_15 rfl (lv_at hl 0 rfl) ?_
    refine lv_goto (tgt := 25) hx hb dX9_eats_16 (by decide) ?_
    exact hj25 _ _ _ _ H locs ls w (lv_sub hl [1, 2, 0] rfl) hf
def fM9_fitsAct (u : zs_T) (v1 : Int32) : Option Int32 :=
  (if zf_in v1 100 then (if zs_a u 11 v1.toNatClampNeg = 0 then (if zs_i u 18 = 0 then (if zs_i u 19 = 0 then some 1 else some 0) else some 0) else (if zs_a u 11 v1.toNatClampNeg = 1 then (if zf_z (zs_i u 18) then some (zs_i u 18) else none) else (if zs_a u 11 v1.toNatClampNeg = 2 then (if zf_z (zs_i u 18) then some (zs_i u 18) else none) else (if zs_i u 19 = 0 then (if zf_in v1 100 then (if zs_a u 14 v1.toNatClampNeg = zs_i u 20 then some 0 else some 1) else none) else some 0)))) else none)
set_option maxHeartbeats 4000000 in
set_option maxRecDepth 100000 in
theorem kM9_fitsAct (l : Launch) (D : va_G) (q : Nat → Nat) (cs : Nat → ClassId) (u : zs_T) (v1 : Int32) (z : Int32) (hf : fM9_fitsAct u v1 = some z) : zg_Ci l yX9_fitsAct cX9_fitsAct 2 (some .boolean) 0 D cs (wM q cs) u [.ref (q 0), .int v1] z u := by
  refine zg_Cz_of (own := RX9) (by decide) rfl wM_ad (Nat.le_of_ble_eq_true rfl) ?_
  intro p e s m args below meth c A Q C hret w ls hl
  obtain ⟨hx, hb, -⟩ := id C
  have hl : lv_has ls 2 [(0, .ref (q 0)), (1, .int v1)] := hl
  generalize hH : s.heap = H at w ⊢
  generalize hLc : ([] : List Loc) = locs at w ⊢
  unfold fM9_fitsAct at hf
  refine lv_aload_n hx hb dX9_fitsAct_0 rfl (lv_at hl 0 rfl) ?_
  refine mg_0_30 C w lf_9_70 dX9_fitsAct_1 ?_
  refine lv_iload_n hx hb dX9_fitsAct_4 rfl (lv_at hl 1 rfl) ?_
  obtain ⟨hi, hf⟩ := zf_gd hf
  refine ma_12 C w hi dX9_fitsAct_5 ?_
  by_cases hs1 : zs_a u 11 v1.toNatClampNeg = 0
  · replace hf := zf_t hs1 hf
    refine lv_tableIn (off := 26) (tgt := 32) hx hb dX9_fitsAct_6 (by rw [hs1]; decide) (by rw [hs1]; decide) (by rw [hs1]; rfl) (by decide) ?_
    refine lv_aload_n hx hb dX9_fitsAct_32 rfl (lv_at hl 0 rfl) ?_
    refine mg_0_34 C w lf_9_174 dX9_fitsAct_33 ?_
    refine lv_if_ne (tgt := 50) hx hb dX9_fitsAct_36 (by decide) (fun h => ?_) (fun h => ?_)
    · replace hf := zf_f h hf
      refine lv_iconst (v := 0) hx hb dX9_fitsAct_50 (by decide) ?_
      exact hret _ _ _ _ _ _ (by rfl) (zf_pr hf) w dX9_fitsAct_51
    · replace hf := zf_t h hf
      refine lv_aload_n hx hb dX9_fitsAct_39 rfl (lv_at hl 0 rfl) ?_
      refine mg_0_35 C w lf_9_178 dX9_fitsAct_40 ?_
      refine lv_if_ne (tgt := 50) hx hb dX9_fitsAct_43 (by decide) (fun h => ?_) (fun h => ?_)
      · replace hf := zf_f h hf
        refine lv_iconst (v := 0) hx hb dX9_fitsAct_50 (by decide) ?_
        exact hret _ _ _ _ _ _ (by rfl) (zf_pr hf) w dX9_fitsAct_51
      · replace hf := zf_t h hf
        refine lv_iconst (v := 1) hx hb dX9_fitsAct_46 (by decide) ?_
        refine lv_goto (tgt := 51) hx hb dX9_fitsAct_47 (by decide) ?_
        exact hret _ _ _ _ _ _ (by rfl) (zf_pr hf) w dX9_fitsAct_51
  · replace hf := zf_f hs1 hf
    by_cases hs2 : zs_a u 11 v1.toNatClampNeg = 1
    · replace hf := zf_t hs2 hf
      refine lv_tableIn (off := 46) (tgt := 52) hx hb dX9_fitsAct_6 (by rw [hs2]; decide) (by rw [hs2]; decide) (by rw [hs2]; rfl) (by decide) ?_
      refine lv_aload_n hx hb dX9_fitsAct_52 rfl (lv_at hl 0 rfl) ?_
      refine mg_0_34 C w lf_9_174 dX9_fitsAct_53 ?_
      obtain ⟨hz, hf⟩ := zf_gd hf
      exact hret _ _ _ _ _ _ hz (zf_pr hf) w dX9_fitsAct_56
    · replace hf := zf_f hs2 hf
      by_cases hs3 : zs_a u 11 v1.toNatClampNeg = 2
      · replace hf := zf_t hs3 hf
        refine lv_tableIn (off := 46) (tgt := 52) hx hb dX9_fitsAct_6 (by rw [hs3]; decide) (by rw [hs3]; decide) (by rw [hs3]; rfl) (by decide) ?_
        refine lv_aload_n hx hb dX9_fitsAct_52 rfl (lv_at hl 0 rfl) ?_
        refine mg_0_34 C w lf_9_174 dX9_fitsAct_53 ?_
        obtain ⟨hz, hf⟩ := zf_gd hf
        exact hret _ _ _ _ _ _ hz (zf_pr hf) w dX9_fitsAct_56
      · replace hf := zf_f hs3 hf
        have e_hs1 : (zs_a u 11 v1.toNatClampNeg).toInt ≠ 0 := zf_ne hs1
        have e_hs2 : (zs_a u 11 v1.toNatClampNeg).toInt ≠ 1 := zf_ne hs2
        have e_hs3 : (zs_a u 11 v1.toNatClampNeg).toInt ≠ 2 := zf_ne hs3
        refine lv_tableOut (tgt := 57) hx hb dX9_fitsAct_6 (by omega) (by decide) ?_
        refine lv_aload_n hx hb dX9_fitsAct_57 rfl (lv_at hl 0 rfl) ?_
        refine mg_0_35 C w lf_9_178 dX9_fitsAct_58 ?_
        refine lv_if_ne (tgt := 81) hx hb dX9_fitsAct_61 (by decide) (fun h => ?_) (fun h => ?_)
        · replace hf := zf_f h hf
          refine lv_iconst (v := 0) hx hb dX9_fitsAct_81 (by decide) ?_
          exact hret _ _ _ _ _ _ (by rfl) (zf_pr hf) w dX9_fitsAct_82
        · replace hf := zf_t h hf
          refine lv_aload_n hx hb dX9_fitsAct_64 rfl (lv_at hl 0 rfl) ?_
          refine mg_0_33 C w lf_9_79 dX9_fitsAct_65 ?_
          refine lv_iload_n hx hb dX9_fitsAct_68 rfl (lv_at hl 1 rfl) ?_
          obtain ⟨hi, hf⟩ := zf_gd hf
          refine ma_15 C w hi dX9_fitsAct_69 ?_
          refine lv_aload_n hx hb dX9_fitsAct_70 rfl (lv_at hl 0 rfl) ?_
          refine mg_0_36 C w lf_9_181 dX9_fitsAct_71 ?_
          refine lv_icmp_eq (tgt := 81) hx hb dX9_fitsAct_74 (by decide) (fun h => ?_) (fun h => ?_)
          · replace hf := zf_t h hf
            refine lv_iconst (v := 0) hx hb dX9_fitsAct_81 (by decide) ?_
            exact hret _ _ _ _ _ _ (by rfl) (zf_pr hf) w dX9_fitsAct_82
          · replace hf := zf_f h hf
            refine lv_iconst (v := 1) hx hb dX9_fitsAct_77 (by decide) ?_
            refine lv_goto (tgt := 82) hx hb dX9_fitsAct_78 (by decide) ?_
            exact hret _ _ _ _ _ _ (by rfl) (zf_pr hf) w dX9_fitsAct_82
def fM9_does_j38 (u : zs_T) (v1 : Int32) (t0 : Int32) : Option zs_T :=
  (if zf_z t0 then (if zf_in v1 100 then (if zs_a (zs_si u 18 t0) 11 v1.toNatClampNeg = 2 then some (zs_si (zs_si u 18 t0) 19 1) else some (zs_si u 18 t0)) else none) else none)
def fM9_does (u : zs_T) (v1 : Int32) : Option zs_T :=
  (if zf_in v1 100 then (if zs_a u 11 v1.toNatClampNeg = 3 then (if zf_in v1 100 then (if zf_in v1 100 then (if zs_a (zs_si u 20 (zs_a u 14 v1.toNatClampNeg)) 11 v1.toNatClampNeg = 2 then some (zs_si (zs_si u 20 (zs_a u 14 v1.toNatClampNeg)) 19 1) else some (zs_si u 20 (zs_a u 14 v1.toNatClampNeg))) else none) else none) else (if zf_in v1 100 then (if zs_a u 11 v1.toNatClampNeg = 0 then fM9_does_j38 u v1 1 else fM9_does_j38 u v1 0) else none)) else none)
set_option maxHeartbeats 4000000 in
set_option maxRecDepth 100000 in
theorem kM9_does (l : Launch) (D : va_G) (q : Nat → Nat) (cs : Nat → ClassId) (u : zs_T) (v1 : Int32) (z : zs_T) (hf : fM9_does u v1 = some z) : zg_Cv l yX9_does cX9_does 2 none 0 D cs (wM q cs) u [.ref (q 0), .int v1] z := by
  refine zg_Cv_of (own := RX9) (by decide) rfl wM_ad (Nat.le_of_ble_eq_true rfl) ?_
  intro p e s m args below meth c A Q C hret w ls hl
  obtain ⟨hx, hb, -⟩ := id C
  have hl : lv_has ls 2 [(0, .ref (q 0)), (1, .int v1)] := hl
  generalize hH : s.heap = H at w ⊢
  generalize hLc : ([] : List Loc) = locs at w ⊢
  have hj38 : ∀ (u : zs_T) (v1 : Int32) (t0 : Int32) (H : Heap) (locs : List Loc) (ls : Array Slot), zg_W D cs A s (wM q cs u) H locs → lv_has ls 2 [(0, .ref (q 0)), (1, .int v1)] → fM9_does_j38 u v1 t0 = some z → W p l e (zg_rm 0) s m args below meth c H locs 0 0 Q (F0 m 38 ls [.int t0, .ref (q 0)]) := by
    intro u v1 t0 H locs ls w hl hf
    unfold fM9_does_j38 at hf
    obtain ⟨hz, hf⟩ := zf_gd hf
    refine mp_0_34 C w hz lf_9_174 dX9_does_38 (fun H locs w => ?_)
    refine lv_aload_n hx hb dX9_does_41 rfl (lv_at hl 0 rfl) ?_
    refine mg_0_30 C w lf_9_70 dX9_does_42 ?_
    refine lv_iload_n hx hb dX9_does_45 rfl (lv_at hl 1 rfl) ?_
    obtain ⟨hi, hf⟩ := zf_gd hf
    refine ma_12 C w hi dX9_does_46 ?_
    refine lv_iconst (v := 2) hx hb dX9_does_47 (by decide) ?_
    refine lv_icmp_ne (tgt := 56) hx hb dX9_does_48 (by decide) (fun h => ?_) (fun h => ?_)
    · replace hf := zf_f h hf
      exact hret _ _ _ _ _ hf w dX9_does_56
    · replace hf := zf_t h hf
      refine lv_aload_n hx hb dX9_does_51 rfl (lv_at hl 0 rfl) ?_
      refine lv_iconst (v := 1) hx hb dX9_does_52 (by decide) ?_
      refine mp_0_35 C w (by rfl) lf_9_178 dX9_does_53 (fun H locs w => ?_)
      exact hret _ _ _ _ _ hf w dX9_does_56
  unfold fM9_does at hf
  refine lv_aload_n hx hb dX9_does_0 rfl (lv_at hl 0 rfl) ?_
  refine mg_0_30 C w lf_9_70 dX9_does_1 ?_
  refine lv_iload_n hx hb dX9_does_4 rfl (lv_at hl 1 rfl) ?_
  obtain ⟨hi, hf⟩ := zf_gd hf
  refine ma_12 C w hi dX9_does_5 ?_
  refine lv_iconst (v := 3) hx hb dX9_does_6 (by decide) ?_
  refine lv_icmp_ne (tgt := 23) hx hb dX9_does_7 (by decide) (fun h => ?_) (fun h => ?_)
  · replace hf := zf_f h hf
    refine lv_aload_n hx hb dX9_does_23 rfl (lv_at hl 0 rfl) ?_
    refine lv_aload_n hx hb dX9_does_24 rfl (lv_at hl 0 rfl) ?_
    refine mg_0_30 C w lf_9_70 dX9_does_25 ?_
    refine lv_iload_n hx hb dX9_does_28 rfl (lv_at hl 1 rfl) ?_
    obtain ⟨hi, hf⟩ := zf_gd hf
    refine ma_12 C w hi dX9_does_29 ?_
    refine lv_if_ne (tgt := 37) hx hb dX9_does_30 (by decide) (fun h => ?_) (fun h => ?_)
    · replace hf := zf_f h hf
      refine lv_iconst (v := 0) hx hb dX9_does_37 (by decide) ?_
      exact hj38 _ _ _ H locs ls w (lv_sub hl [0, 1] rfl) hf
    · replace hf := zf_t h hf
      refine lv_iconst (v := 1) hx hb dX9_does_33 (by decide) ?_
      refine lv_goto (tgt := 38) hx hb dX9_does_34 (by decide) ?_
      exact hj38 _ _ _ H locs ls w (lv_sub hl [0, 1] rfl) hf
  · replace hf := zf_t h hf
    refine lv_aload_n hx hb dX9_does_10 rfl (lv_at hl 0 rfl) ?_
    refine lv_aload_n hx hb dX9_does_11 rfl (lv_at hl 0 rfl) ?_
    refine mg_0_33 C w lf_9_79 dX9_does_12 ?_
    refine lv_iload_n hx hb dX9_does_15 rfl (lv_at hl 1 rfl) ?_
    obtain ⟨hi, hf⟩ := zf_gd hf
    refine ma_15 C w hi dX9_does_16 ?_
    refine mp_0_36 C w lf_9_181 dX9_does_17 (fun H locs w => ?_)
    refine lv_goto (tgt := 41) hx hb dX9_does_20 (by decide) ?_
    refine lv_aload_n hx hb dX9_does_41 rfl (lv_at hl 0 rfl) ?_
    refine mg_0_30 C w lf_9_70 dX9_does_42 ?_
    refine lv_iload_n hx hb dX9_does_45 rfl (lv_at hl 1 rfl) ?_
    obtain ⟨hi, hf⟩ := zf_gd hf
    refine ma_12 C w hi dX9_does_46 ?_
    refine lv_iconst (v := 2) hx hb dX9_does_47 (by decide) ?_
    refine lv_icmp_ne (tgt := 56) hx hb dX9_does_48 (by decide) (fun h => ?_) (fun h => ?_)
    · replace hf := zf_f h hf
      exact hret _ _ _ _ _ hf w dX9_does_56
    · replace hf := zf_t h hf
      refine lv_aload_n hx hb dX9_does_51 rfl (lv_at hl 0 rfl) ?_
      refine lv_iconst (v := 1) hx hb dX9_does_52 (by decide) ?_
      refine mp_0_35 C w (by rfl) lf_9_178 dX9_does_53 (fun H locs w => ?_)
      exact hret _ _ _ _ _ hf w dX9_does_56
def fM9_asks_b40 (N : Nat) (ag31 : zs_T → Int32 → Int32 → Option (Int32 × zs_T)) (v1 : Int32) (v2 : Int32) (v3 : Int32) (v5 : Int32) (ag40 : zs_T → Int32 → Int32 → Option (Int32 × zs_T)) (u : zs_T) (v4 : Int32) (v6 : Int32) : Option (Int32 × zs_T) :=
  (if v1 ≤ v6 then ag31 u v4 (v5 + 1) else (if zf_in v6 100 then (if zs_a u 12 v6.toNatClampNeg = v2 then (if zf_in v6 100 then (if zs_a u 13 v6.toNatClampNeg = v5 then (if v4 = 0 then (zf_bv (fM9_does u v6) fun u2 => ag40 u2 0 (v6 + 1)) else (zf_bp (fM9_fitsAct u v6) fun r3 => (if r3 = 0 then (zf_bv (fM9_does u v6) fun u6 => ag40 u6 0 (v6 + 1)) else (zf_bv (fM9_does u v6) fun u8 => ag40 u8 1 (v6 + 1))))) else ag40 u v4 (v6 + 1)) else none) else ag40 u v4 (v6 + 1)) else none))
def fM9_asks_b31 (N : Nat) (v1 : Int32) (v2 : Int32) (v3 : Int32) (ag31 : zs_T → Int32 → Int32 → Option (Int32 × zs_T)) (u : zs_T) (v4 : Int32) (v5 : Int32) : Option (Int32 × zs_T) :=
  (if v3 < v5 then (if zf_z v4 then some (v4, u) else none) else zf_loop (fun ag x => fM9_asks_b40 N ag31 v1 v2 v3 v5 (fun u v4 v6 => ag (u, v4, v6)) x.1 x.2.1 x.2.2) N (u, v4, 0))
def fM9_asks (N : Nat) (u : zs_T) (v1 : Int32) (v2 : Int32) (v3 : Int32) : Option (Int32 × zs_T) :=
  (if zf_in v2 80 then (if zf_z (zs_a (zs_si u 18 0) 10 v2.toNatClampNeg) then (if zf_in v2 80 then zf_loop (fun ag x => fM9_asks_b31 N v1 v2 v3 (fun u v4 v5 => ag (u, v4, v5)) x.1 x.2.1 x.2.2) N (zs_si (zs_si (zs_si u 18 0) 19 (zs_a (zs_si u 18 0) 10 v2.toNatClampNeg)) 20 (zs_a (zs_si (zs_si u 18 0) 19 (zs_a (zs_si u 18 0) 10 v2.toNatClampNeg)) 8 v2.toNatClampNeg), 1, 1) else none) else none) else none)
set_option maxHeartbeats 4000000 in
set_option maxRecDepth 100000 in
theorem kM9_asks (l : Launch) (D : va_G) (q : Nat → Nat) (cs : Nat → ClassId) (N : Nat) (u : zs_T) (v1 : Int32) (v2 : Int32) (v3 : Int32) (z : (Int32 × zs_T)) (hf : fM9_asks N u v1 v2 v3 = some z) : zg_Ci l yX9_asks cX9_asks 7 (some .boolean) 1 D cs (wM q cs) u [.ref (q 0), .int v1, .int v2, .int v3] z.1 z.2 := by
  refine zg_Cz_of (own := RX9) (by decide) rfl wM_ad (Nat.le_of_ble_eq_true rfl) ?_
  intro p e s m args below meth c A Q C hret w ls hl
  obtain ⟨hx, hb, -⟩ := id C
  have hl : lv_has ls 7 [(0, .ref (q 0)), (1, .int v1), (2, .int v2), (3, .int v3)] := hl
  generalize hH : s.heap = H at w ⊢
  generalize hLc : ([] : List Loc) = locs at w ⊢
  unfold fM9_asks at hf
  refine lv_aload_n hx hb dX9_asks_0 rfl (lv_at hl 0 rfl) ?_
  refine lv_iconst (v := 0) hx hb dX9_asks_1 (by decide) ?_
  refine mp_0_34 C w (by rfl) lf_9_174 dX9_asks_2 (fun H locs w => ?_)
  refine lv_aload_n hx hb dX9_asks_5 rfl (lv_at hl 0 rfl) ?_
  refine lv_aload_n hx hb dX9_asks_6 rfl (lv_at hl 0 rfl) ?_
  refine mg_0_29 C w lf_9_66 dX9_asks_7 ?_
  refine lv_iload_n hx hb dX9_asks_10 rfl (lv_at hl 2 rfl) ?_
  obtain ⟨hi, hf⟩ := zf_gd hf
  refine ma_11 C w hi dX9_asks_11 ?_
  obtain ⟨hz, hf⟩ := zf_gd hf
  refine mp_0_35 C w hz lf_9_178 dX9_asks_12 (fun H locs w => ?_)
  refine lv_aload_n hx hb dX9_asks_15 rfl (lv_at hl 0 rfl) ?_
  refine lv_aload_n hx hb dX9_asks_16 rfl (lv_at hl 0 rfl) ?_
  refine mg_0_27 C w lf_9_60 dX9_asks_17 ?_
  refine lv_iload_n hx hb dX9_asks_20 rfl (lv_at hl 2 rfl) ?_
  obtain ⟨hi, hf⟩ := zf_gd hf
  refine ma_9 C w hi dX9_asks_21 ?_
  refine mp_0_36 C w lf_9_181 dX9_asks_22 (fun H locs w => ?_)
  refine lv_iconst (v := 1) hx hb dX9_asks_25 (by decide) ?_
  refine lv_istore (lv' := [(4, .int 1), (0, .ref (q 0)), (1, .int v1), (2, .int v2), (3, .int v3)]) hx hb dX9_asks_26 hl (by decide) rfl (fun ls hl => ?_)
  refine lv_iconst (v := 1) hx hb dX9_asks_28 (by decide) ?_
  refine lv_istore (lv' := [(5, .int 1), (4, .int 1), (0, .ref (q 0)), (1, .int v1), (2, .int v2), (3, .int v3)]) hx hb dX9_asks_29 hl (by decide) rfl (fun ls hl => ?_)
  have lp31 : ∀ (v1 : Int32) (v2 : Int32) (v3 : Int32) (n : Nat) (x : zs_T × Int32 × Int32), zf_loop (fun ag x => fM9_asks_b31 N v1 v2 v3 (fun u v4 v5 => ag (u, v4, v5)) x.1 x.2.1 x.2.2) n x = some z → ∀ (H : Heap) (locs : List Loc) (ls : Array Slot), zg_W D cs A s (wM q cs x.1) H locs → lv_has ls 7 [(0, .ref (q 0)), (1, .int v1), (2, .int v2), (3, .int v3), (4, .int x.2.1), (5, .int x.2.2)] → W p l e (zg_rm 1) s m args below meth c H locs 0 0 Q (F0 m 31 ls []) := by
    intro v1 v2 v3
    refine zf_loop_W (fun x : zs_T × Int32 × Int32 => ∀ (H : Heap) (locs : List Loc) (ls : Array Slot), zg_W D cs A s (wM q cs x.1) H locs → lv_has ls 7 [(0, .ref (q 0)), (1, .int v1), (2, .int v2), (3, .int v3), (4, .int x.2.1), (5, .int x.2.2)] → W p l e (zg_rm 1) s m args below meth c H locs 0 0 Q (F0 m 31 ls [])) ?_
    intro ag31 x hag31 hf
    obtain ⟨u, v4, v5⟩ := x
    intro H locs ls w hl
    replace hf : fM9_asks_b31 N v1 v2 v3 (fun u v4 v5 => ag31 (u, v4, v5)) u v4 v5 = some z := hf
    replace hl : lv_has ls 7 [(0, .ref (q 0)), (1, .int v1), (2, .int v2), (3, .int v3), (4, .int v4), (5, .int v5)] := hl
    replace w : zg_W D cs A s (wM q cs u) H locs := w
    unfold fM9_asks_b31 at hf
    refine lv_iload hx hb dX9_asks_31 (lv_at hl 5 rfl) ?_
    refine lv_iload_n hx hb dX9_asks_33 rfl (lv_at hl 3 rfl) ?_
    refine lv_icmp_gt (tgt := 111) hx hb dX9_asks_34 (by decide) (fun h => ?_) (fun h => ?_)
    · replace hf := zf_t h hf
      refine lv_iload hx hb dX9_asks_111 (lv_at hl 4 rfl) ?_
      obtain ⟨hz, hf⟩ := zf_gd hf
      exact hret _ _ _ _ _ _ hz hf w dX9_asks_113
    · replace hf := zf_f h hf
      refine lv_iconst (v := 0) hx hb dX9_asks_37 (by decide) ?_
      refine lv_istore (lv' := [(6, .int 0), (0, .ref (q 0)), (1, .int v1), (2, .int v2), (3, .int v3), (4, .int v4), (5, .int v5)]) hx hb dX9_asks_38 hl (by decide) rfl (fun ls hl => ?_)
      have lp40 : ∀ (v5 : Int32) (n : Nat) (x : zs_T × Int32 × Int32), zf_loop (fun ag x => fM9_asks_b40 N (fun u v4 v5 => ag31 (u, v4, v5)) v1 v2 v3 v5 (fun u v4 v6 => ag (u, v4, v6)) x.1 x.2.1 x.2.2) n x = some z → ∀ (H : Heap) (locs : List Loc) (ls : Array Slot), zg_W D cs A s (wM q cs x.1) H locs → lv_has ls 7 [(0, .ref (q 0)), (1, .int v1), (2, .int v2), (3, .int v3), (4, .int x.2.1), (5, .int v5), (6, .int x.2.2)] → W p l e (zg_rm 1) s m args below meth c H locs 0 0 Q (F0 m 40 ls []) := by
        intro v5
        refine zf_loop_W (fun x : zs_T × Int32 × Int32 => ∀ (H : Heap) (locs : List Loc) (ls : Array Slot), zg_W D cs A s (wM q cs x.1) H locs → lv_has ls 7 [(0, .ref (q 0)), (1, .int v1), (2, .int v2), (3, .int v3), (4, .int x.2.1), (5, .int v5), (6, .int x.2.2)] → W p l e (zg_rm 1) s m args below meth c H locs 0 0 Q (F0 m 40 ls [])) ?_
        intro ag40 x hag40 hf
        obtain ⟨u, v4, v6⟩ := x
        intro H locs ls w hl
        replace hf : fM9_asks_b40 N (fun u v4 v5 => ag31 (u, v4, v5)) v1 v2 v3 v5 (fun u v4 v6 => ag40 (u, v4, v6)) u v4 v6 = some z := hf
        replace hl : lv_has ls 7 [(0, .ref (q 0)), (1, .int v1), (2, .int v2), (3, .int v3), (4, .int v4), (5, .int v5), (6, .int v6)] := hl
        replace w : zg_W D cs A s (wM q cs u) H locs := w
        unfold fM9_asks_b40 at hf
        refine lv_iload hx hb dX9_asks_40 (lv_at hl 6 rfl) ?_
        refine lv_iload_n hx hb dX9_asks_42 rfl (lv_at hl 1 rfl) ?_
        refine lv_icmp_ge (tgt := 105) hx hb dX9_asks_43 (by decide) (fun h => ?_) (fun h => ?_)
        · replace hf := zf_t h hf
          refine lv_iinc (v := v5 + 1) (lv' := [(5, .int (v5 + 1)), (0, .ref (q 0)), (1, .int v1), (2, .int v2), (3, .int v3), (4, .int v4), (6, .int v6)]) hx hb dX9_asks_105 hl (k := 5) rfl rfl (by decide) rfl (fun ls hl => ?_)
          refine lv_goto (tgt := 31) hx hb dX9_asks_108 (by decide) ?_
          exact hag31 (u, v4, v5 + 1) hf H locs ls w (lv_sub hl [1, 2, 3, 4, 5, 0] rfl)
        · replace hf := zf_f h hf
          refine lv_aload_n hx hb dX9_asks_46 rfl (lv_at hl 0 rfl) ?_
          refine mg_0_31 C w lf_9_73 dX9_asks_47 ?_
          refine lv_iload hx hb dX9_asks_50 (lv_at hl 6 rfl) ?_
          obtain ⟨hi, hf⟩ := zf_gd hf
          refine ma_13 C w hi dX9_asks_52 ?_
          refine lv_iload_n hx hb dX9_asks_53 rfl (lv_at hl 2 rfl) ?_
          refine lv_icmp_ne (tgt := 99) hx hb dX9_asks_54 (by decide) (fun h => ?_) (fun h => ?_)
          · replace hf := zf_f h hf
            refine lv_iinc (v := v6 + 1) (lv' := [(6, .int (v6 + 1)), (0, .ref (q 0)), (1, .int v1), (2, .int v2), (3, .int v3), (4, .int v4), (5, .int v5)]) hx hb dX9_asks_99 hl (k := 6) rfl rfl (by decide) rfl (fun ls hl => ?_)
            refine lv_goto (tgt := 40) hx hb dX9_asks_102 (by decide) ?_
            exact hag40 (u, v4, v6 + 1) hf H locs ls w (lv_sub hl [1, 2, 3, 4, 5, 6, 0] rfl)
          · replace hf := zf_t h hf
            refine lv_aload_n hx hb dX9_asks_57 rfl (lv_at hl 0 rfl) ?_
            refine mg_0_32 C w lf_9_76 dX9_asks_58 ?_
            refine lv_iload hx hb dX9_asks_61 (lv_at hl 6 rfl) ?_
            obtain ⟨hi, hf⟩ := zf_gd hf
            refine ma_14 C w hi dX9_asks_63 ?_
            refine lv_iload hx hb dX9_asks_64 (lv_at hl 5 rfl) ?_
            refine lv_icmp_eq (tgt := 72) hx hb dX9_asks_66 (by decide) (fun h => ?_) (fun h => ?_)
            · replace hf := zf_t h hf
              refine lv_iload hx hb dX9_asks_72 (lv_at hl 4 rfl) ?_
              refine lv_if_eq (tgt := 90) hx hb dX9_asks_74 (by decide) (fun h => ?_) (fun h => ?_)
              · replace hf := zf_t h hf
                refine lv_iconst (v := 0) hx hb dX9_asks_90 (by decide) ?_
                refine lv_istore (lv' := [(4, .int 0), (0, .ref (q 0)), (1, .int v1), (2, .int v2), (3, .int v3), (5, .int v5), (6, .int v6)]) hx hb dX9_asks_91 hl (by decide) rfl (fun ls hl => ?_)
                refine lv_aload_n hx hb dX9_asks_93 rfl (lv_at hl 1 rfl) ?_
                refine lv_iload hx hb dX9_asks_94 (lv_at hl 6 rfl) ?_
                obtain ⟨u2, hc, hf⟩ := zf_bv_ex hf
                refine zc_rv wM_ad w (zc_V C w (kM9_does l D q cs _ _ _ hc _) cf_9_does ci_9_does lm_9_187 rcM_0 ⟨Nat.le_of_ble_eq_true rfl, Nat.le_of_ble_eq_true rfl⟩ hl.1 rfl (Nat.le_of_ble_eq_true rfl) dX9_asks_96 ⟨Nat.le_refl _, Nat.le_refl _⟩) (fun H locs w => ?_)
                refine lv_iinc (v := v6 + 1) (lv' := [(6, .int (v6 + 1)), (4, .int 0), (0, .ref (q 0)), (1, .int v1), (2, .int v2), (3, .int v3), (5, .int v5)]) hx hb dX9_asks_99 hl (k := 6) rfl rfl (by decide) rfl (fun ls hl => ?_)
                refine lv_goto (tgt := 40) hx hb dX9_asks_102 (by decide) ?_
                exact hag40 (u2, 0, v6 + 1) hf H locs ls w (lv_sub hl [2, 3, 4, 5, 1, 6, 0] rfl)
              · replace hf := zf_f h hf
                refine lv_aload_n hx hb dX9_asks_77 rfl (lv_at hl 0 rfl) ?_
                refine lv_iload hx hb dX9_asks_78 (lv_at hl 6 rfl) ?_
                obtain ⟨r3, hc, hf⟩ := zf_bp_ex hf
                refine zc_ri wM_ad w (zc_V C w (kM9_fitsAct l D q cs _ _ _ hc _) cf_9_fitsAct ci_9_fitsAct lm_9_184 rcM_0 ⟨Nat.le_of_ble_eq_true rfl, Nat.le_of_ble_eq_true rfl⟩ hl.1 rfl (Nat.le_of_ble_eq_true rfl) dX9_asks_80 ⟨Nat.le_refl _, Nat.le_refl _⟩) (fun H locs w => ?_)
                refine lv_if_eq (tgt := 90) hx hb dX9_asks_83 (by decide) (fun h => ?_) (fun h => ?_)
                · replace hf := zf_t h hf
                  refine lv_iconst (v := 0) hx hb dX9_asks_90 (by decide) ?_
                  refine lv_istore (lv' := [(4, .int 0), (0, .ref (q 0)), (1, .int v1), (2, .int v2), (3, .int v3), (5, .int v5), (6, .int v6)]) hx hb dX9_asks_91 hl (by decide) rfl (fun ls hl => ?_)
                  refine lv_aload_n hx hb dX9_asks_93 rfl (lv_at hl 1 rfl) ?_
                  refine lv_iload hx hb dX9_asks_94 (lv_at hl 6 rfl) ?_
                  obtain ⟨u6, hc, hf⟩ := zf_bv_ex hf
                  refine zc_rv wM_ad w (zc_V C w (kM9_does l D q cs _ _ _ hc _) cf_9_does ci_9_does lm_9_187 rcM_0 ⟨Nat.le_of_ble_eq_true rfl, Nat.le_of_ble_eq_true rfl⟩ hl.1 rfl (Nat.le_of_ble_eq_true rfl) dX9_asks_96 ⟨Nat.le_refl _, Nat.le_refl _⟩) (fun H locs w => ?_)
                  refine lv_iinc (v := v6 + 1) (lv' := [(6, .int (v6 + 1)), (4, .int 0), (0, .ref (q 0)), (1, .int v1), (2, .int v2), (3, .int v3), (5, .int v5)]) hx hb dX9_asks_99 hl (k := 6) rfl rfl (by decide) rfl (fun ls hl => ?_)
                  refine lv_goto (tgt := 40) hx hb dX9_asks_102 (by decide) ?_
                  exact hag40 (u6, 0, v6 + 1) hf H locs ls w (lv_sub hl [2, 3, 4, 5, 1, 6, 0] rfl)
                · replace hf := zf_f h hf
                  refine lv_iconst (v := 1) hx hb dX9_asks_86 (by decide) ?_
                  refine lv_goto (tgt := 91) hx hb dX9_asks_87 (by decide) ?_
                  refine lv_istore (lv' := [(4, .int 1), (0, .ref (q 0)), (1, .int v1), (2, .int v2), (3, .int v3), (5, .int v5), (6, .int v6)]) hx hb dX9_asks_91 hl (by decide) rfl (fun ls hl => ?_)
                  refine lv_aload_n hx hb dX9_asks_93 rfl (lv_at hl 1 rfl) ?_
                  refine lv_iload hx hb dX9_asks_94 (lv_at hl 6 rfl) ?_
                  obtain ⟨u8, hc, hf⟩ := zf_bv_ex hf
                  refine zc_rv wM_ad w (zc_V C w (kM9_does l D q cs _ _ _ hc _) cf_9_does ci_9_does lm_9_187 rcM_0 ⟨Nat.le_of_ble_eq_true rfl, Nat.le_of_ble_eq_true rfl⟩ hl.1 rfl (Nat.le_of_ble_eq_true rfl) dX9_asks_96 ⟨Nat.le_refl _, Nat.le_refl _⟩) (fun H locs w => ?_)
                  refine lv_iinc (v := v6 + 1) (lv' := [(6, .int (v6 + 1)), (4, .int 1), (0, .ref (q 0)), (1, .int v1), (2, .int v2), (3, .int v3), (5, .int v5)]) hx hb dX9_asks_99 hl (k := 6) rfl rfl (by decide) rfl (fun ls hl => ?_)
                  refine lv_goto (tgt := 40) hx hb dX9_asks_102 (by decide) ?_
                  exact hag40 (u8, 1, v6 + 1) hf H locs ls w (lv_sub hl [2, 3, 4, 5, 1, 6, 0] rfl)
            · replace hf := zf_f h hf
              refine lv_goto (tgt := 99) hx hb dX9_asks_69 (by decide) ?_
              refine lv_iinc (v := v6 + 1) (lv' := [(6, .int (v6 + 1)), (0, .ref (q 0)), (1, .int v1), (2, .int v2), (3, .int v3), (4, .int v4), (5, .int v5)]) hx hb dX9_asks_99 hl (k := 6) rfl rfl (by decide) rfl (fun ls hl => ?_)
              refine lv_goto (tgt := 40) hx hb dX9_asks_102 (by decide) ?_
              exact hag40 (u, v4, v6 + 1) hf H locs ls w (lv_sub hl [1, 2, 3, 4, 5, 6, 0] rfl)
      exact lp40 _ _ _ hf H locs ls w (lv_sub hl [1, 2, 3, 4, 5, 6, 0] rfl)
  exact lp31 _ _ _ _ _ hf H locs ls w (lv_sub hl [2, 3, 4, 5, 1, 0] rfl)
def fM9_ups_b4 (N : Nat) (v1 : Int32) (ag4 : zs_T → Int32 → Int32 → Option (Int32 × zs_T)) (u : zs_T) (v2 : Int32) (v3 : Int32) : Option (Int32 × zs_T) :=
  (if zs_i u 15 ≤ v3 then some (v2, u) else (zf_bi (fM9_asks N u (zs_i u 16) v3 v1) fun r1 u2 => (if zs_i u2 18 = 0 then ag4 u2 (v2 + 0) (v3 + 1) else ag4 u2 (v2 + 1) (v3 + 1))))
def fM9_ups (N : Nat) (u : zs_T) (v1 : Int32) : Option (Int32 × zs_T) :=
  zf_loop (fun ag x => fM9_ups_b4 N v1 (fun u v2 v3 => ag (u, v2, v3)) x.1 x.2.1 x.2.2) N (u, 0, 0)
set_option maxHeartbeats 4000000 in
set_option maxRecDepth 100000 in
theorem kM9_ups (l : Launch) (D : va_G) (q : Nat → Nat) (cs : Nat → ClassId) (N : Nat) (u : zs_T) (v1 : Int32) (z : (Int32 × zs_T)) (hf : fM9_ups N u v1 = some z) : zg_Ci l yX9_ups cX9_ups 4 (some .int) 2 D cs (wM q cs) u [.ref (q 0), .int v1] z.1 z.2 := by
  refine zg_Ci_of (own := RX9) (by decide) rfl wM_ad (Nat.le_of_ble_eq_true rfl) ?_
  intro p e s m args below meth c A Q C hret w ls hl
  obtain ⟨hx, hb, -⟩ := id C
  have hl : lv_has ls 4 [(0, .ref (q 0)), (1, .int v1)] := hl
  generalize hH : s.heap = H at w ⊢
  generalize hLc : ([] : List Loc) = locs at w ⊢
  unfold fM9_ups at hf
  refine lv_iconst (v := 0) hx hb dX9_ups_0 (by decide) ?_
  refine lv_istore_n (lv' := [(2, .int 0), (0, .ref (q 0)), (1, .int v1)]) hx hb dX9_ups_1 rfl hl (by decide) rfl (fun ls hl => ?_)
  refine lv_iconst (v := 0) hx hb dX9_ups_2 (by decide) ?_
  refine lv_istore_n (lv' := [(3, .int 0), (2, .int 0), (0, .ref (q 0)), (1, .int v1)]) hx hb dX9_ups_3 rfl hl (by decide) rfl (fun ls hl => ?_)
  have lp4 : ∀ (v1 : Int32) (n : Nat) (x : zs_T × Int32 × Int32), zf_loop (fun ag x => fM9_ups_b4 N v1 (fun u v2 v3 => ag (u, v2, v3)) x.1 x.2.1 x.2.2) n x = some z → ∀ (H : Heap) (locs : List Loc) (ls : Array Slot), zg_W D cs A s (wM q cs x.1) H locs → lv_has ls 4 [(0, .ref (q 0)), (1, .int v1), (2, .int x.2.1), (3, .int x.2.2)] → W p l e (zg_rm 2) s m args below meth c H locs 0 0 Q (F0 m 4 ls []) := by
    intro v1
    refine zf_loop_W (fun x : zs_T × Int32 × Int32 => ∀ (H : Heap) (locs : List Loc) (ls : Array Slot), zg_W D cs A s (wM q cs x.1) H locs → lv_has ls 4 [(0, .ref (q 0)), (1, .int v1), (2, .int x.2.1), (3, .int x.2.2)] → W p l e (zg_rm 2) s m args below meth c H locs 0 0 Q (F0 m 4 ls [])) ?_
    intro ag4 x hag4 hf
    obtain ⟨u, v2, v3⟩ := x
    intro H locs ls w hl
    replace hf : fM9_ups_b4 N v1 (fun u v2 v3 => ag4 (u, v2, v3)) u v2 v3 = some z := hf
    replace hl : lv_has ls 4 [(0, .ref (q 0)), (1, .int v1), (2, .int v2), (3, .int v3)] := hl
    replace w : zg_W D cs A s (wM q cs u) H locs := w
    unfold fM9_ups_b4 at hf
    refine lv_iload_n hx hb dX9_ups_4 rfl (lv_at hl 3 rfl) ?_
    refine lv_aload_n hx hb dX9_ups_5 rfl (lv_at hl 0 rfl) ?_
    refine mg_0_24 C w lf_9_171 dX9_ups_6 ?_
    refine lv_icmp_ge (tgt := 44) hx hb dX9_ups_9 (by decide) (fun h => ?_) (fun h => ?_)
    · replace hf := zf_t h hf
      refine lv_iload_n hx hb dX9_ups_44 rfl (lv_at hl 2 rfl) ?_
      exact hret _ _ _ _ _ _ hf w dX9_ups_45
    · replace hf := zf_f h hf
      refine lv_aload_n hx hb dX9_ups_12 rfl (lv_at hl 0 rfl) ?_
      refine lv_aload_n hx hb dX9_ups_13 rfl (lv_at hl 0 rfl) ?_
      refine mg_0_25 C w lf_9_128 dX9_ups_14 ?_
      refine lv_iload_n hx hb dX9_ups_17 rfl (lv_at hl 3 rfl) ?_
      refine lv_iload_n hx hb dX9_ups_18 rfl (lv_at hl 1 rfl) ?_
      obtain ⟨r1, u2, hc, hf⟩ := zf_bi_ex hf
      refine zc_ri wM_ad w (zc_V C w (kM9_asks l D q cs N _ _ _ _ _ hc _) cf_9_asks ci_9_asks lm_9_190 rcM_0 ⟨Nat.le_of_ble_eq_true rfl, Nat.le_of_ble_eq_true rfl⟩ hl.1 rfl (Nat.le_of_ble_eq_true rfl) dX9_ups_19 ⟨Nat.le_refl _, Nat.le_refl _⟩) (fun H locs w => ?_)
      refine lv_pop hx hb dX9_ups_22 rfl ?_
      refine lv_iload_n hx hb dX9_ups_23 rfl (lv_at hl 2 rfl) ?_
      refine lv_aload_n hx hb dX9_ups_24 rfl (lv_at hl 0 rfl) ?_
      refine mg_0_34 C w lf_9_174 dX9_ups_25 ?_
      refine lv_if_eq (tgt := 35) hx hb dX9_ups_28 (by decide) (fun h => ?_) (fun h => ?_)
      · replace hf := zf_t h hf
        refine lv_iconst (v := 0) hx hb dX9_ups_35 (by decide) ?_
        refine lv_iadd hx hb dX9_ups_36 ?_
        refine lv_istore_n (lv' := [(2, .int (v2 + 0)), (0, .ref (q 0)), (1, .int v1), (3, .int v3)]) hx hb dX9_ups_37 rfl hl (by decide) rfl (fun ls hl => ?_)
        refine lv_iinc (v := v3 + 1) (lv' := [(3, .int (v3 + 1)), (2, .int (v2 + 0)), (0, .ref (q 0)), (1, .int v1)]) hx hb dX9_ups_38 hl (k := 3) rfl rfl (by decide) rfl (fun ls hl => ?_)
        refine lv_goto (tgt := 4) hx hb dX9_ups_41 (by decide) ?_
        exact hag4 (u2, v2 + 0, v3 + 1) hf H locs ls w (lv_sub hl [2, 3, 1, 0] rfl)
      · replace hf := zf_f h hf
        refine lv_iconst (v := 1) hx hb dX9_ups_31 (by decide) ?_
        refine lv_goto (tgt := 36) hx hb dX9_ups_32 (by decide) ?_
        refine lv_iadd hx hb dX9_ups_36 ?_
        refine lv_istore_n (lv' := [(2, .int (v2 + 1)), (0, .ref (q 0)), (1, .int v1), (3, .int v3)]) hx hb dX9_ups_37 rfl hl (by decide) rfl (fun ls hl => ?_)
        refine lv_iinc (v := v3 + 1) (lv' := [(3, .int (v3 + 1)), (2, .int (v2 + 1)), (0, .ref (q 0)), (1, .int v1)]) hx hb dX9_ups_38 hl (k := 3) rfl rfl (by decide) rfl (fun ls hl => ?_)
        refine lv_goto (tgt := 4) hx hb dX9_ups_41 (by decide) ?_
        exact hag4 (u2, v2 + 1, v3 + 1) hf H locs ls w (lv_sub hl [2, 3, 1, 0] rfl)
  exact lp4 _ _ _ hf H locs ls w (lv_sub hl [2, 3, 1, 0] rfl)
