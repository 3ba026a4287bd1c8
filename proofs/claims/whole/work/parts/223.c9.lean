def fM9_gives (u : zs_T) (v1 : Int32) (v2 : Int32) : Option zs_T :=
  (if zf_in v1 12 then (if zf_in v1 12 then (if zf_in v1 12 then (if zf_in v1 12 then some (zs_sa (zs_sa u 18 (upd (zs_a u 18) v1.toNatClampNeg ((zs_a u 18 v1.toNatClampNeg) + v2))) 19 (upd (zs_a (zs_sa u 18 (upd (zs_a u 18) v1.toNatClampNeg ((zs_a u 18 v1.toNatClampNeg) + v2))) 19) v1.toNatClampNeg ((zs_a (zs_sa u 18 (upd (zs_a u 18) v1.toNatClampNeg ((zs_a u 18 v1.toNatClampNeg) + v2))) 19 v1.toNatClampNeg) + v2))) else none) else none) else none) else none)
set_option maxHeartbeats 4000000 in
set_option maxRecDepth 100000 in
theorem kM9_gives (l : Launch) (D : va_G) (q : Nat → Nat) (cs : Nat → ClassId) (u : zs_T) (v1 : Int32) (v2 : Int32) (z : zs_T) (hf : fM9_gives u v1 v2 = some z) : zg_Cv l yX9_gives cX9_gives 3 none 0 D cs (wM q cs) u [.ref (q 0), .int v1, .int v2] z := by
  refine zg_Cv_of (own := RX9) (by decide) rfl wM_ad (Nat.le_of_ble_eq_true rfl) ?_
  intro p e s m args below meth c A Q C hret w ls hl
  obtain ⟨hx, hb, -⟩ := id C
  have hl : lv_has ls 3 [(0, .ref (q 0)), (1, .int v1), (2, .int v2)] := hl
  generalize hH : s.heap = H at w ⊢
  generalize hLc : ([] : List Loc) = locs at w ⊢
  unfold fM9_gives at hf
  refine lv_aload_n hx hb dX9_gives_0 rfl (lv_at hl 0 rfl) ?_
  refine mg_0_40 C w lf_9_91 dX9_gives_1 ?_
  refine lv_iload_n hx hb dX9_gives_4 rfl (lv_at hl 1 rfl) ?_
  refine lv_aload_n hx hb dX9_gives_5 rfl (lv_at hl 0 rfl) ?_
  refine mg_0_40 C w lf_9_91 dX9_gives_6 ?_
  refine lv_iload_n hx hb dX9_gives_9 rfl (lv_at hl 1 rfl) ?_
  obtain ⟨hi, hf⟩ := zf_gd hf
  refine ma_19 C w hi dX9_gives_10 ?_
  refine lv_iload_n hx hb dX9_gives_11 rfl (lv_at hl 2 rfl) ?_
  refine lv_iadd hx hb dX9_gives_12 ?_
  obtain ⟨hi, hf⟩ := zf_gd hf
  refine ms_19 C w hi dX9_gives_13 (fun H locs w => ?_)
  refine lv_aload_n hx hb dX9_gives_14 rfl (lv_at hl 0 rfl) ?_
  refine mg_0_41 C w lf_9_94 dX9_gives_15 ?_
  refine lv_iload_n hx hb dX9_gives_18 rfl (lv_at hl 1 rfl) ?_
  refine lv_aload_n hx hb dX9_gives_19 rfl (lv_at hl 0 rfl) ?_
  refine mg_0_41 C w lf_9_94 dX9_gives_20 ?_
  refine lv_iload_n hx hb dX9_gives_23 rfl (lv_at hl 1 rfl) ?_
  obtain ⟨hi, hf⟩ := zf_gd hf
  refine ma_20 C w hi dX9_gives_24 ?_
  refine lv_iload_n hx hb dX9_gives_25 rfl (lv_at hl 2 rfl) ?_
  refine lv_iadd hx hb dX9_gives_26 ?_
  obtain ⟨hi, hf⟩ := zf_gd hf
  refine ms_20 C w hi dX9_gives_27 (fun H locs w => ?_)
  exact hret _ _ _ _ _ hf w dX9_gives_28
def fM9_endsTurn_j35 (N : Nat) (u : zs_T) (v2 : Int32) : Option zs_T :=
  some (zs_sa u 17 (upd (zs_a u 17) (11 : Int32).toNatClampNeg v2))
def fM9_endsTurn_b9 (N : Nat) (v2 : Int32) (ag9 : zs_T → Int32 → Option zs_T) (u : zs_T) (v3 : Int32) : Option zs_T :=
  (if 11 ≤ v3 then fM9_endsTurn_j35 N u v2 else (if zf_in (v3 + 1) 12 then (if zf_in v3 12 then ag9 (zs_sa u 17 (upd (zs_a u 17) v3.toNatClampNeg (zs_a u 17 (v3 + 1).toNatClampNeg))) (v3 + 1) else none) else none))
def fM9_endsTurn (N : Nat) (u : zs_T) (v1 : Int32) : Option zs_T :=
  (if zf_in v1 12 then zf_loop (fun ag x => fM9_endsTurn_b9 N (zs_a u 17 v1.toNatClampNeg) (fun u v3 => ag (u, v3)) x.1 x.2) N (u, v1) else none)
set_option maxHeartbeats 4000000 in
set_option maxRecDepth 100000 in
theorem kM9_endsTurn (l : Launch) (D : va_G) (q : Nat → Nat) (cs : Nat → ClassId) (N : Nat) (u : zs_T) (v1 : Int32) (z : zs_T) (hf : fM9_endsTurn N u v1 = some z) : zg_Cv l yX9_endsTurn cX9_endsTurn 4 none 0 D cs (wM q cs) u [.ref (q 0), .int v1] z := by
  refine zg_Cv_of (own := RX9) (by decide) rfl wM_ad (Nat.le_of_ble_eq_true rfl) ?_
  intro p e s m args below meth c A Q C hret w ls hl
  obtain ⟨hx, hb, -⟩ := id C
  have hl : lv_has ls 4 [(0, .ref (q 0)), (1, .int v1)] := hl
  generalize hH : s.heap = H at w ⊢
  generalize hLc : ([] : List Loc) = locs at w ⊢
  have hj35 : ∀ (u : zs_T) (v2 : Int32) (H : Heap) (locs : List Loc) (ls : Array Slot), zg_W D cs A s (wM q cs u) H locs → lv_has ls 4 [(0, .ref (q 0)), (2, .int v2)] → fM9_endsTurn_j35 N u v2 = some z → W p l e (zg_rm 0) s m args below meth c H locs 0 0 Q (F0 m 35 ls []) := by
    intro u v2 H locs ls w hl hf
    unfold fM9_endsTurn_j35 at hf
    refine lv_aload_n hx hb dX9_endsTurn_35 rfl (lv_at hl 0 rfl) ?_
    refine mg_0_39 C w lf_9_88 dX9_endsTurn_36 ?_
    refine lv_bipush (v := 11) hx hb dX9_endsTurn_39 (by decide) ?_
    refine lv_iload_n hx hb dX9_endsTurn_41 rfl (lv_at hl 1 rfl) ?_
    refine ms_18 C w (by decide) dX9_endsTurn_42 (fun H locs w => ?_)
    exact hret _ _ _ _ _ hf w dX9_endsTurn_43
  unfold fM9_endsTurn at hf
  refine lv_aload_n hx hb dX9_endsTurn_0 rfl (lv_at hl 0 rfl) ?_
  refine mg_0_39 C w lf_9_88 dX9_endsTurn_1 ?_
  refine lv_iload_n hx hb dX9_endsTurn_4 rfl (lv_at hl 1 rfl) ?_
  obtain ⟨hi, hf⟩ := zf_gd hf
  refine ma_18 C w hi dX9_endsTurn_5 ?_
  refine lv_istore_n (lv' := [(2, .int (zs_a u 17 v1.toNatClampNeg)), (0, .ref (q 0)), (1, .int v1)]) hx hb dX9_endsTurn_6 rfl hl (by decide) rfl (fun ls hl => ?_)
  refine lv_iload_n hx hb dX9_endsTurn_7 rfl (lv_at hl 2 rfl) ?_
  refine lv_istore_n (lv' := [(3, .int v1), (2, .int (zs_a u 17 v1.toNatClampNeg)), (0, .ref (q 0)), (1, .int v1)]) hx hb dX9_endsTurn_8 rfl hl (by decide) rfl (fun ls hl => ?_)
  have lp9 : ∀ (v2 : Int32) (n : Nat) (x : zs_T × Int32), zf_loop (fun ag x => fM9_endsTurn_b9 N v2 (fun u v3 => ag (u, v3)) x.1 x.2) n x = some z → ∀ (H : Heap) (locs : List Loc) (ls : Array Slot), zg_W D cs A s (wM q cs x.1) H locs → lv_has ls 4 [(0, .ref (q 0)), (2, .int v2), (3, .int x.2)] → W p l e (zg_rm 0) s m args below meth c H locs 0 0 Q (F0 m 9 ls []) := by
    intro v2
    refine zf_loop_W (fun x : zs_T × Int32 => ∀ (H : Heap) (locs : List Loc) (ls : Array Slot), zg_W D cs A s (wM q cs x.1) H locs → lv_has ls 4 [(0, .ref (q 0)), (2, .int v2), (3, .int x.2)] → W p l e (zg_rm 0) s m args below meth c H locs 0 0 Q (F0 m 9 ls [])) ?_
    intro ag9 x hag9 hf
    obtain ⟨u, v3⟩ := x
    intro H locs ls w hl
    replace hf : fM9_endsTurn_b9 N v2 (fun u v3 => ag9 (u, v3)) u v3 = some z := hf
    replace hl : lv_has ls 4 [(0, .ref (q 0)), (2, .int v2), (3, .int v3)] := hl
    replace w : zg_W D cs A s (wM q cs u) H locs := w
    unfold fM9_endsTurn_b9 at hf
    refine lv_iload_n hx hb dX9_endsTurn_9 rfl (lv_at hl 2 rfl) ?_
    refine lv_bipush (v := 11) hx hb dX9_endsTurn_10 (by decide) ?_
    refine lv_icmp_ge (tgt := 35) hx hb dX9_endsTurn_12 (by decide) (fun h => ?_) (fun h => ?_)
    · replace hf := zf_t h hf
      exact hj35 _ _ H locs ls w (lv_sub hl [0, 1] rfl) hf
    · replace hf := zf_f h hf
      refine lv_aload_n hx hb dX9_endsTurn_15 rfl (lv_at hl 0 rfl) ?_
      refine mg_0_39 C w lf_9_88 dX9_endsTurn_16 ?_
      refine lv_iload_n hx hb dX9_endsTurn_19 rfl (lv_at hl 2 rfl) ?_
      refine lv_aload_n hx hb dX9_endsTurn_20 rfl (lv_at hl 0 rfl) ?_
      refine mg_0_39 C w lf_9_88 dX9_endsTurn_21 ?_
      refine lv_iload_n hx hb dX9_endsTurn_24 rfl (lv_at hl 2 rfl) ?_
      refine lv_iconst (v := 1) hx hb dX9_endsTurn_25 (by decide) ?_
      refine lv_iadd hx hb dX9_endsTurn_26 ?_
      obtain ⟨hi, hf⟩ := zf_gd hf
      refine ma_18 C w hi dX9_endsTurn_27 ?_
      obtain ⟨hi, hf⟩ := zf_gd hf
      refine ms_18 C w hi dX9_endsTurn_28 (fun H locs w => ?_)
      refine lv_iinc (v := v3 + 1) (lv' := [(3, .int (v3 + 1)), (0, .ref (q 0)), (2, .int v2)]) hx hb dX9_endsTurn_29 hl (k := 2) rfl rfl (by decide) rfl (fun ls hl => ?_)
      refine lv_goto (tgt := 9) hx hb dX9_endsTurn_32 (by decide) ?_
      exact hag9 (zs_sa u 17 (upd (zs_a u 17) v3.toNatClampNeg (zs_a u 17 (v3 + 1).toNatClampNeg)), v3 + 1) hf H locs ls w (lv_sub hl [1, 2, 0] rfl)
  exact lp9 _ _ _ hf H locs ls w (lv_sub hl [2, 1, 0] rfl)
def fM9_wasUp_b4 (N : Nat) (v1 : Int32) (ag4 : zs_T → Int32 → Int32 → Option (Int32 × zs_T)) (u : zs_T) (v2 : Int32) (v3 : Int32) : Option (Int32 × zs_T) :=
  (if zs_i u 10 < v3 then (if zf_z v2 then some (v2, u) else none) else (zf_bi (fM9_asks N u (zs_i u 16) v1 v3) fun r1 u2 => (if v2 = 0 then (if zs_i u2 18 = 0 then ag4 u2 0 (v3 + 1) else ag4 u2 1 (v3 + 1)) else ag4 u2 1 (v3 + 1))))
def fM9_wasUp (N : Nat) (u : zs_T) (v1 : Int32) : Option (Int32 × zs_T) :=
  zf_loop (fun ag x => fM9_wasUp_b4 N v1 (fun u v2 v3 => ag (u, v2, v3)) x.1 x.2.1 x.2.2) N (u, 0, 1)
set_option maxHeartbeats 4000000 in
set_option maxRecDepth 100000 in
theorem kM9_wasUp (l : Launch) (D : va_G) (q : Nat → Nat) (cs : Nat → ClassId) (N : Nat) (u : zs_T) (v1 : Int32) (z : (Int32 × zs_T)) (hf : fM9_wasUp N u v1 = some z) : zg_Ci l yX9_wasUp cX9_wasUp 4 (some .boolean) 2 D cs (wM q cs) u [.ref (q 0), .int v1] z.1 z.2 := by
  refine zg_Cz_of (own := RX9) (by decide) rfl wM_ad (Nat.le_of_ble_eq_true rfl) ?_
  intro p e s m args below meth c A Q C hret w ls hl
  obtain ⟨hx, hb, -⟩ := id C
  have hl : lv_has ls 4 [(0, .ref (q 0)), (1, .int v1)] := hl
  generalize hH : s.heap = H at w ⊢
  generalize hLc : ([] : List Loc) = locs at w ⊢
  unfold fM9_wasUp at hf
  refine lv_iconst (v := 0) hx hb dX9_wasUp_0 (by decide) ?_
  refine lv_istore_n (lv' := [(2, .int 0), (0, .ref (q 0)), (1, .int v1)]) hx hb dX9_wasUp_1 rfl hl (by decide) rfl (fun ls hl => ?_)
  refine lv_iconst (v := 1) hx hb dX9_wasUp_2 (by decide) ?_
  refine lv_istore_n (lv' := [(3, .int 1), (2, .int 0), (0, .ref (q 0)), (1, .int v1)]) hx hb dX9_wasUp_3 rfl hl (by decide) rfl (fun ls hl => ?_)
  have lp4 : ∀ (v1 : Int32) (n : Nat) (x : zs_T × Int32 × Int32), zf_loop (fun ag x => fM9_wasUp_b4 N v1 (fun u v2 v3 => ag (u, v2, v3)) x.1 x.2.1 x.2.2) n x = some z → ∀ (H : Heap) (locs : List Loc) (ls : Array Slot), zg_W D cs A s (wM q cs x.1) H locs → lv_has ls 4 [(0, .ref (q 0)), (1, .int v1), (2, .int x.2.1), (3, .int x.2.2)] → W p l e (zg_rm 2) s m args below meth c H locs 0 0 Q (F0 m 4 ls []) := by
    intro v1
    refine zf_loop_W (fun x : zs_T × Int32 × Int32 => ∀ (H : Heap) (locs : List Loc) (ls : Array Slot), zg_W D cs A s (wM q cs x.1) H locs → lv_has ls 4 [(0, .ref (q 0)), (1, .int v1), (2, .int x.2.1), (3, .int x.2.2)] → W p l e (zg_rm 2) s m args below meth c H locs 0 0 Q (F0 m 4 ls [])) ?_
    intro ag4 x hag4 hf
    obtain ⟨u, v2, v3⟩ := x
    intro H locs ls w hl
    replace hf : fM9_wasUp_b4 N v1 (fun u v2 v3 => ag4 (u, v2, v3)) u v2 v3 = some z := hf
    replace hl : lv_has ls 4 [(0, .ref (q 0)), (1, .int v1), (2, .int v2), (3, .int v3)] := hl
    replace w : zg_W D cs A s (wM q cs u) H locs := w
    unfold fM9_wasUp_b4 at hf
    refine lv_iload_n hx hb dX9_wasUp_4 rfl (lv_at hl 3 rfl) ?_
    refine lv_aload_n hx hb dX9_wasUp_5 rfl (lv_at hl 0 rfl) ?_
    refine mg_0_12 C w lf_9_125 dX9_wasUp_6 ?_
    refine lv_icmp_gt (tgt := 46) hx hb dX9_wasUp_9 (by decide) (fun h => ?_) (fun h => ?_)
    · replace hf := zf_t h hf
      refine lv_iload_n hx hb dX9_wasUp_46 rfl (lv_at hl 2 rfl) ?_
      obtain ⟨hz, hf⟩ := zf_gd hf
      exact hret _ _ _ _ _ _ hz hf w dX9_wasUp_47
    · replace hf := zf_f h hf
      refine lv_aload_n hx hb dX9_wasUp_12 rfl (lv_at hl 0 rfl) ?_
      refine lv_aload_n hx hb dX9_wasUp_13 rfl (lv_at hl 0 rfl) ?_
      refine mg_0_25 C w lf_9_128 dX9_wasUp_14 ?_
      refine lv_iload_n hx hb dX9_wasUp_17 rfl (lv_at hl 1 rfl) ?_
      refine lv_iload_n hx hb dX9_wasUp_18 rfl (lv_at hl 3 rfl) ?_
      obtain ⟨r1, u2, hc, hf⟩ := zf_bi_ex hf
      refine zc_ri wM_ad w (zc_V C w (kM9_asks l D q cs N _ _ _ _ _ hc _) cf_9_asks ci_9_asks lm_9_190 rcM_0 ⟨Nat.le_of_ble_eq_true rfl, Nat.le_of_ble_eq_true rfl⟩ hl.1 rfl (Nat.le_of_ble_eq_true rfl) dX9_wasUp_19 ⟨Nat.le_refl _, Nat.le_refl _⟩) (fun H locs w => ?_)
      refine lv_pop hx hb dX9_wasUp_22 rfl ?_
      refine lv_iload_n hx hb dX9_wasUp_23 rfl (lv_at hl 2 rfl) ?_
      refine lv_if_ne (tgt := 34) hx hb dX9_wasUp_24 (by decide) (fun h => ?_) (fun h => ?_)
      · replace hf := zf_f h hf
        refine lv_iconst (v := 1) hx hb dX9_wasUp_34 (by decide) ?_
        refine lv_goto (tgt := 39) hx hb dX9_wasUp_35 (by decide) ?_
        refine lv_istore_n (lv' := [(2, .int 1), (0, .ref (q 0)), (1, .int v1), (3, .int v3)]) hx hb dX9_wasUp_39 rfl hl (by decide) rfl (fun ls hl => ?_)
        refine lv_iinc (v := v3 + 1) (lv' := [(3, .int (v3 + 1)), (2, .int 1), (0, .ref (q 0)), (1, .int v1)]) hx hb dX9_wasUp_40 hl (k := 3) rfl rfl (by decide) rfl (fun ls hl => ?_)
        refine lv_goto (tgt := 4) hx hb dX9_wasUp_43 (by decide) ?_
        exact hag4 (u2, 1, v3 + 1) hf H locs ls w (lv_sub hl [2, 3, 1, 0] rfl)
      · replace hf := zf_t h hf
        refine lv_aload_n hx hb dX9_wasUp_27 rfl (lv_at hl 0 rfl) ?_
        refine mg_0_34 C w lf_9_174 dX9_wasUp_28 ?_
        refine lv_if_eq (tgt := 38) hx hb dX9_wasUp_31 (by decide) (fun h => ?_) (fun h => ?_)
        · replace hf := zf_t h hf
          refine lv_iconst (v := 0) hx hb dX9_wasUp_38 (by decide) ?_
          refine lv_istore_n (lv' := [(2, .int 0), (0, .ref (q 0)), (1, .int v1), (3, .int v3)]) hx hb dX9_wasUp_39 rfl hl (by decide) rfl (fun ls hl => ?_)
          refine lv_iinc (v := v3 + 1) (lv' := [(3, .int (v3 + 1)), (2, .int 0), (0, .ref (q 0)), (1, .int v1)]) hx hb dX9_wasUp_40 hl (k := 3) rfl rfl (by decide) rfl (fun ls hl => ?_)
          refine lv_goto (tgt := 4) hx hb dX9_wasUp_43 (by decide) ?_
          exact hag4 (u2, 0, v3 + 1) hf H locs ls w (lv_sub hl [2, 3, 1, 0] rfl)
        · replace hf := zf_f h hf
          refine lv_iconst (v := 1) hx hb dX9_wasUp_34 (by decide) ?_
          refine lv_goto (tgt := 39) hx hb dX9_wasUp_35 (by decide) ?_
          refine lv_istore_n (lv' := [(2, .int 1), (0, .ref (q 0)), (1, .int v1), (3, .int v3)]) hx hb dX9_wasUp_39 rfl hl (by decide) rfl (fun ls hl => ?_)
          refine lv_iinc (v := v3 + 1) (lv' := [(3, .int (v3 + 1)), (2, .int 1), (0, .ref (q 0)), (1, .int v1)]) hx hb dX9_wasUp_40 hl (k := 3) rfl rfl (by decide) rfl (fun ls hl => ?_)
          refine lv_goto (tgt := 4) hx hb dX9_wasUp_43 (by decide) ?_
          exact hag4 (u2, 1, v3 + 1) hf H locs ls w (lv_sub hl [2, 3, 1, 0] rfl)
  exact lp4 _ _ _ hf H locs ls w (lv_sub hl [2, 3, 1, 0] rfl)
def fM9_pays_j173 (N : Nat) (u : zs_T) (v3 : Int64) (v5 : Int64) : Option zs_T :=
  some (zs_sl u 1 (((zs_l u 1) + v3) - v5))
def fM9_pays_b116 (N : Nat) (v1 : Int64) (v3 : Int64) (ag116 : zs_T → Int64 → Int32 → Option zs_T) (u : zs_T) (v5 : Int64) (v7 : Int32) : Option zs_T :=
  (if 12 ≤ v7 then fM9_pays_j173 N u v3 v5 else (if lg_cmp v1 0 ≤ 0 then fM9_pays_j173 N u v3 v5 else (if zf_in v7 12 then (if ¬ v1 = 0 then (if zf_in v7 12 then (if zf_in v7 12 then ag116 (zs_sb u 1 (vp_updL (zs_b u 1) v7.toNatClampNeg ((zs_b u 1 v7.toNatClampNeg) - ((v3 * ((zs_a u 16 v7.toNatClampNeg).toInt64)) / v1)))) (v5 + ((v3 * ((zs_a u 16 v7.toNatClampNeg).toInt64)) / v1)) (v7 + 1) else none) else none) else none) else none)))
def fM9_pays_j110 (N : Nat) (u : zs_T) (v1 : Int64) (v3 : Int64) : Option zs_T :=
  zf_loop (fun ag x => fM9_pays_b116 N v1 v3 (fun u v5 v7 => ag (u, v5, v7)) x.1 x.2.1 x.2.2) N (u, 0, 0)
def fM9_pays_j72 (N : Nat) (ag5 : zs_T → Int64 → Int32 → Option zs_T) (u : zs_T) (v1 : Int64) (v3 : Int64) (v5 : Int32) : Option zs_T :=
  (if zf_in (zs_i u 20) 12 then (if zf_in (zs_i u 20) 12 then ag5 (zs_sb u 1 (vp_updL (zs_b u 1) (zs_i u 20).toNatClampNeg ((zs_b u 1 (zs_i u 20).toNatClampNeg) + ((zs_i u 5).toInt64)))) (v3 + ((zs_i (zs_sb u 1 (vp_updL (zs_b u 1) (zs_i u 20).toNatClampNeg ((zs_b u 1 (zs_i u 20).toNatClampNeg) + ((zs_i u 5).toInt64)))) 5).toInt64)) (v5 + 1) else none) else none)
def fM9_pays_b5 (N : Nat) (v1 : Int64) (ag5 : zs_T → Int64 → Int32 → Option zs_T) (u : zs_T) (v3 : Int64) (v5 : Int32) : Option zs_T :=
  (if zs_i u 15 ≤ v5 then fM9_pays_j110 N u v1 v3 else (if zf_in v5 80 then (if zs_a u 10 v5.toNatClampNeg = 0 then (zf_bi (fM9_wasUp N u v5) fun r1 u2 => (zf_bi (fM9_asks N u2 (zs_i u2 16) v5 (zs_i u2 10)) fun r3 u4 => (if zs_i u4 19 = 0 then (if r1 = 0 then ag5 u4 v3 (v5 + 1) else (if zs_i u4 18 = 0 then fM9_pays_j72 N ag5 u4 v1 v3 v5 else ag5 u4 v3 (v5 + 1))) else fM9_pays_j72 N ag5 u4 v1 v3 v5))) else ag5 u v3 (v5 + 1)) else none))
def fM9_pays (N : Nat) (u : zs_T) (v1 : Int64) : Option zs_T :=
  zf_loop (fun ag x => fM9_pays_b5 N v1 (fun u v3 v5 => ag (u, v3, v5)) x.1 x.2.1 x.2.2) N (u, 0, 0)
set_option maxHeartbeats 4000000 in
set_option maxRecDepth 100000 in
theorem kM9_pays (l : Launch) (D : va_G) (q : Nat → Nat) (cs : Nat → ClassId) (N : Nat) (u : zs_T) (v1 : Int64) (z : zs_T) (hf : fM9_pays N u v1 = some z) : zg_Cv l yX9_pays cX9_pays 10 none 3 D cs (wM q cs) u [.ref (q 0), .long v1] z := by
  refine zg_Cv_of (own := RX9) (by decide) rfl wM_ad (Nat.le_of_ble_eq_true rfl) ?_
  intro p e s m args below meth c A Q C hret w ls hl
  obtain ⟨hx, hb, -⟩ := id C
  have hl : lv_has ls 10 [(0, .ref (q 0)), (1, .long v1)] := hl
  generalize hH : s.heap = H at w ⊢
  generalize hLc : ([] : List Loc) = locs at w ⊢
  have hj173 : ∀ (u : zs_T) (v3 : Int64) (v5 : Int64) (H : Heap) (locs : List Loc) (ls : Array Slot), zg_W D cs A s (wM q cs u) H locs → lv_has ls 10 [(0, .ref (q 0)), (3, .long v3), (5, .long v5)] → fM9_pays_j173 N u v3 v5 = some z → W p l e (zg_rm 3) s m args below meth c H locs 0 0 Q (F0 m 173 ls []) := by
    intro u v3 v5 H locs ls w hl hf
    unfold fM9_pays_j173 at hf
    refine lv_aload_n hx hb dX9_pays_173 rfl (lv_at hl 0 rfl) ?_
    refine lv_aload_n hx hb dX9_pays_174 rfl (lv_at hl 0 rfl) ?_
    refine mg_0_44 C w lf_9_231 dX9_pays_175 ?_
    refine lv_lload_n hx hb dX9_pays_178 rfl (lv_at hl 1 rfl) ?_
    refine lv_ladd hx hb dX9_pays_179 ?_
    refine lv_lload hx hb dX9_pays_180 (lv_at hl 2 rfl) ?_
    refine lv_lsub hx hb dX9_pays_182 ?_
    refine mp_0_44 C w lf_9_231 dX9_pays_183 (fun H locs w => ?_)
    exact hret _ _ _ _ _ hf w dX9_pays_186
  have hj110 : ∀ (u : zs_T) (v1 : Int64) (v3 : Int64) (H : Heap) (locs : List Loc) (ls : Array Slot), zg_W D cs A s (wM q cs u) H locs → lv_has ls 10 [(0, .ref (q 0)), (1, .long v1), (3, .long v3)] → fM9_pays_j110 N u v1 v3 = some z → W p l e (zg_rm 3) s m args below meth c H locs 0 0 Q (F0 m 110 ls []) := by
    intro u v1 v3 H locs ls w hl hf
    unfold fM9_pays_j110 at hf
    refine lv_lconst (v := 0) hx hb dX9_pays_110 (by decide) ?_
    refine lv_lstore (lv' := [(5, .long 0), (0, .ref (q 0)), (1, .long v1), (3, .long v3)]) hx hb dX9_pays_111 hl (by decide) rfl (fun ls hl => ?_)
    refine lv_iconst (v := 0) hx hb dX9_pays_113 (by decide) ?_
    refine lv_istore (lv' := [(7, .int 0), (5, .long 0), (0, .ref (q 0)), (1, .long v1), (3, .long v3)]) hx hb dX9_pays_114 hl (by decide) rfl (fun ls hl => ?_)
    have lp116 : ∀ (v1 : Int64) (v3 : Int64) (n : Nat) (x : zs_T × Int64 × Int32), zf_loop (fun ag x => fM9_pays_b116 N v1 v3 (fun u v5 v7 => ag (u, v5, v7)) x.1 x.2.1 x.2.2) n x = some z → ∀ (H : Heap) (locs : List Loc) (ls : Array Slot), zg_W D cs A s (wM q cs x.1) H locs → lv_has ls 10 [(0, .ref (q 0)), (1, .long v1), (3, .long v3), (5, .long x.2.1), (7, .int x.2.2)] → W p l e (zg_rm 3) s m args below meth c H locs 0 0 Q (F0 m 116 ls []) := by
      intro v1 v3
      refine zf_loop_W (fun x : zs_T × Int64 × Int32 => ∀ (H : Heap) (locs : List Loc) (ls : Array Slot), zg_W D cs A s (wM q cs x.1) H locs → lv_has ls 10 [(0, .ref (q 0)), (1, .long v1), (3, .long v3), (5, .long x.2.1), (7, .int x.2.2)] → W p l e (zg_rm 3) s m args below meth c H locs 0 0 Q (F0 m 116 ls [])) ?_
      intro ag116 x hag116 hf
      obtain ⟨u, v5, v7⟩ := x
      intro H locs ls w hl
      replace hf : fM9_pays_b116 N v1 v3 (fun u v5 v7 => ag116 (u, v5, v7)) u v5 v7 = some z := hf
      replace hl : lv_has ls 10 [(0, .ref (q 0)), (1, .long v1), (3, .long v3), (5, .long v5), (7, .int v7)] := hl
      replace w : zg_W D cs A s (wM q cs u) H locs := w
      unfold fM9_pays_b116 at hf
      refine lv_iload hx hb dX9_pays_116 (lv_at hl 4 rfl) ?_
      refine lv_bipush (v := 12) hx hb dX9_pays_118 (by decide) ?_
      refine lv_icmp_ge (tgt := 173) hx hb dX9_pays_120 (by decide) (fun h => ?_) (fun h => ?_)
      · replace hf := zf_t h hf
        exact hj173 _ _ _ H locs ls w (lv_sub hl [0, 2, 3] rfl) hf
      · replace hf := zf_f h hf
        refine lv_lload_n hx hb dX9_pays_123 rfl (lv_at hl 1 rfl) ?_
        refine lv_lconst (v := 0) hx hb dX9_pays_124 (by decide) ?_
        refine W.lcmp hx hb dX9_pays_125 ?_
        refine lv_if_le (tgt := 173) hx hb dX9_pays_126 (by decide) (fun h => ?_) (fun h => ?_)
        · replace hf := zf_t h hf
          exact hj173 _ _ _ H locs ls w (lv_sub hl [0, 2, 3] rfl) hf
        · replace hf := zf_f h hf
          refine lv_lload_n hx hb dX9_pays_129 rfl (lv_at hl 2 rfl) ?_
          refine lv_aload_n hx hb dX9_pays_130 rfl (lv_at hl 0 rfl) ?_
          refine mg_0_38 C w lf_9_85 dX9_pays_131 ?_
          refine lv_iload hx hb dX9_pays_134 (lv_at hl 4 rfl) ?_
          obtain ⟨hi, hf⟩ := zf_gd hf
          refine ma_17 C w hi dX9_pays_136 ?_
          refine lv_i2l hx hb dX9_pays_137 rfl ?_
          refine lv_lmul hx hb dX9_pays_138 ?_
          refine lv_lload_n hx hb dX9_pays_139 rfl (lv_at hl 1 rfl) ?_
          obtain ⟨hne, hf⟩ := zf_gd hf
          refine lv_ldiv hx hb dX9_pays_140 hne ?_
          refine lv_lstore (lv' := [(8, .long ((v3 * ((zs_a u 16 v7.toNatClampNeg).toInt64)) / v1)), (0, .ref (q 0)), (1, .long v1), (3, .long v3), (5, .long v5), (7, .int v7)]) hx hb dX9_pays_141 hl (by decide) rfl (fun ls hl => ?_)
          refine lv_aload_n hx hb dX9_pays_143 rfl (lv_at hl 1 rfl) ?_
          refine mg_0_43 C w lf_9_101 dX9_pays_144 ?_
          refine lv_iload hx hb dX9_pays_147 (lv_at hl 5 rfl) ?_
          refine lv_aload_n hx hb dX9_pays_149 rfl (lv_at hl 1 rfl) ?_
          refine mg_0_43 C w lf_9_101 dX9_pays_150 ?_
          refine lv_iload hx hb dX9_pays_153 (lv_at hl 5 rfl) ?_
          obtain ⟨hi, hf⟩ := zf_gd hf
          refine ma_22 C w hi dX9_pays_155 ?_
          refine lv_lload hx hb dX9_pays_156 (lv_at hl 0 rfl) ?_
          refine lv_lsub hx hb dX9_pays_158 ?_
          obtain ⟨hi, hf⟩ := zf_gd hf
          refine ms_22 C w hi dX9_pays_159 (fun H locs w => ?_)
          refine lv_lload hx hb dX9_pays_160 (lv_at hl 4 rfl) ?_
          refine lv_lload hx hb dX9_pays_162 (lv_at hl 0 rfl) ?_
          refine lv_ladd hx hb dX9_pays_164 ?_
          refine lv_lstore (lv' := [(5, .long (v5 + ((v3 * ((zs_a u 16 v7.toNatClampNeg).toInt64)) / v1))), (8, .long ((v3 * ((zs_a u 16 v7.toNatClampNeg).toInt64)) / v1)), (0, .ref (q 0)), (1, .long v1), (3, .long v3), (7, .int v7)]) hx hb dX9_pays_165 hl (by decide) rfl (fun ls hl => ?_)
          refine lv_iinc (v := v7 + 1) (lv' := [(7, .int (v7 + 1)), (5, .long (v5 + ((v3 * ((zs_a u 16 v7.toNatClampNeg).toInt64)) / v1))), (8, .long ((v3 * ((zs_a u 16 v7.toNatClampNeg).toInt64)) / v1)), (0, .ref (q 0)), (1, .long v1), (3, .long v3)]) hx hb dX9_pays_167 hl (k := 5) rfl rfl (by decide) rfl (fun ls hl => ?_)
          refine lv_goto (tgt := 116) hx hb dX9_pays_170 (by decide) ?_
          exact hag116 (zs_sb u 1 (vp_updL (zs_b u 1) v7.toNatClampNeg ((zs_b u 1 v7.toNatClampNeg) - ((v3 * ((zs_a u 16 v7.toNatClampNeg).toInt64)) / v1))), v5 + ((v3 * ((zs_a u 16 v7.toNatClampNeg).toInt64)) / v1), v7 + 1) hf H locs ls w (lv_sub hl [3, 4, 5, 1, 0] rfl)
    exact lp116 _ _ _ _ hf H locs ls w (lv_sub hl [2, 3, 4, 1, 0] rfl)
  unfold fM9_pays at hf
  refine lv_lconst (v := 0) hx hb dX9_pays_0 (by decide) ?_
  refine lv_lstore_n (lv' := [(3, .long 0), (0, .ref (q 0)), (1, .long v1)]) hx hb dX9_pays_1 rfl hl (by decide) rfl (fun ls hl => ?_)
  refine lv_iconst (v := 0) hx hb dX9_pays_2 (by decide) ?_
  refine lv_istore (lv' := [(5, .int 0), (3, .long 0), (0, .ref (q 0)), (1, .long v1)]) hx hb dX9_pays_3 hl (by decide) rfl (fun ls hl => ?_)
  have lp5 : ∀ (v1 : Int64) (n : Nat) (x : zs_T × Int64 × Int32), zf_loop (fun ag x => fM9_pays_b5 N v1 (fun u v3 v5 => ag (u, v3, v5)) x.1 x.2.1 x.2.2) n x = some z → ∀ (H : Heap) (locs : List Loc) (ls : Array Slot), zg_W D cs A s (wM q cs x.1) H locs → lv_has ls 10 [(0, .ref (q 0)), (1, .long v1), (3, .long x.2.1), (5, .int x.2.2)] → W p l e (zg_rm 3) s m args below meth c H locs 0 0 Q (F0 m 5 ls []) := by
    intro v1
    refine zf_loop_W (fun x : zs_T × Int64 × Int32 => ∀ (H : Heap) (locs : List Loc) (ls : Array Slot), zg_W D cs A s (wM q cs x.1) H locs → lv_has ls 10 [(0, .ref (q 0)), (1, .long v1), (3, .long x.2.1), (5, .int x.2.2)] → W p l e (zg_rm 3) s m args below meth c H locs 0 0 Q (F0 m 5 ls [])) ?_
    intro ag5 x hag5 hf
    obtain ⟨u, v3, v5⟩ := x
    intro H locs ls w hl
    replace hf : fM9_pays_b5 N v1 (fun u v3 v5 => ag5 (u, v3, v5)) u v3 v5 = some z := hf
    replace hl : lv_has ls 10 [(0, .ref (q 0)), (1, .long v1), (3, .long v3), (5, .int v5)] := hl
    replace w : zg_W D cs A s (wM q cs u) H locs := w
    have hj72 : ∀ (u : zs_T) (v3 : Int64) (v5 : Int32) (H : Heap) (locs : List Loc) (ls : Array Slot), zg_W D cs A s (wM q cs u) H locs → lv_has ls 10 [(0, .ref (q 0)), (1, .long v1), (3, .long v3), (5, .int v5)] → fM9_pays_j72 N (fun u v3 v5 => ag5 (u, v3, v5)) u v1 v3 v5 = some z → W p l e (zg_rm 3) s m args below meth c H locs 0 0 Q (F0 m 72 ls []) := by
      intro u v3 v5 H locs ls w hl hf
      unfold fM9_pays_j72 at hf
      refine lv_aload_n hx hb dX9_pays_72 rfl (lv_at hl 0 rfl) ?_
      refine mg_0_43 C w lf_9_101 dX9_pays_73 ?_
      refine lv_aload_n hx hb dX9_pays_76 rfl (lv_at hl 0 rfl) ?_
      refine mg_0_36 C w lf_9_181 dX9_pays_77 ?_
      refine lv_aload_n hx hb dX9_pays_80 rfl (lv_at hl 0 rfl) ?_
      refine mg_0_43 C w lf_9_101 dX9_pays_81 ?_
      refine lv_aload_n hx hb dX9_pays_84 rfl (lv_at hl 0 rfl) ?_
      refine mg_0_36 C w lf_9_181 dX9_pays_85 ?_
      obtain ⟨hi, hf⟩ := zf_gd hf
      refine ma_22 C w hi dX9_pays_88 ?_
      refine lv_aload_n hx hb dX9_pays_89 rfl (lv_at hl 0 rfl) ?_
      refine mg_0_6 C w lf_9_23 dX9_pays_90 ?_
      refine lv_i2l hx hb dX9_pays_93 rfl ?_
      refine lv_ladd hx hb dX9_pays_94 ?_
      obtain ⟨hi, hf⟩ := zf_gd hf
      refine ms_22 C w hi dX9_pays_95 (fun H locs w => ?_)
      refine lv_lload_n hx hb dX9_pays_96 rfl (lv_at hl 2 rfl) ?_
      refine lv_aload_n hx hb dX9_pays_97 rfl (lv_at hl 0 rfl) ?_
      refine mg_0_6 C w lf_9_23 dX9_pays_98 ?_
      refine lv_i2l hx hb dX9_pays_101 rfl ?_
      refine lv_ladd hx hb dX9_pays_102 ?_
      refine lv_lstore_n (lv' := [(3, .long (v3 + ((zs_i (zs_sb u 1 (vp_updL (zs_b u 1) (zs_i u 20).toNatClampNeg ((zs_b u 1 (zs_i u 20).toNatClampNeg) + ((zs_i u 5).toInt64)))) 5).toInt64))), (0, .ref (q 0)), (1, .long v1), (5, .int v5)]) hx hb dX9_pays_103 rfl hl (by decide) rfl (fun ls hl => ?_)
      refine lv_iinc (v := v5 + 1) (lv' := [(5, .int (v5 + 1)), (3, .long (v3 + ((zs_i (zs_sb u 1 (vp_updL (zs_b u 1) (zs_i u 20).toNatClampNeg ((zs_b u 1 (zs_i u 20).toNatClampNeg) + ((zs_i u 5).toInt64)))) 5).toInt64))), (0, .ref (q 0)), (1, .long v1)]) hx hb dX9_pays_104 hl (k := 3) rfl rfl (by decide) rfl (fun ls hl => ?_)
      refine lv_goto (tgt := 5) hx hb dX9_pays_107 (by decide) ?_
      exact hag5 (zs_sb u 1 (vp_updL (zs_b u 1) (zs_i u 20).toNatClampNeg ((zs_b u 1 (zs_i u 20).toNatClampNeg) + ((zs_i u 5).toInt64))), v3 + ((zs_i (zs_sb u 1 (vp_updL (zs_b u 1) (zs_i u 20).toNatClampNeg ((zs_b u 1 (zs_i u 20).toNatClampNeg) + ((zs_i u 5).toInt64)))) 5).toInt64), v5 + 1) hf H locs ls w (lv_sub hl [2, 3, 1, 0] rfl)
    unfold fM9_pays_b5 at hf
    refine lv_iload hx hb dX9_pays_5 (lv_at hl 3 rfl) ?_
    refine lv_aload_n hx hb dX9_pays_7 rfl (lv_at hl 0 rfl) ?_
    refine mg_0_24 C w lf_9_171 dX9_pays_8 ?_
    refine lv_icmp_ge (tgt := 110) hx hb dX9_pays_11 (by decide) (fun h => ?_) (fun h => ?_)
    · replace hf := zf_t h hf
      exact hj110 _ _ _ H locs ls w (lv_sub hl [0, 1, 2] rfl) hf
    · replace hf := zf_f h hf
      refine lv_aload_n hx hb dX9_pays_14 rfl (lv_at hl 0 rfl) ?_
      refine mg_0_29 C w lf_9_66 dX9_pays_15 ?_
      refine lv_iload hx hb dX9_pays_18 (lv_at hl 3 rfl) ?_
      obtain ⟨hi, hf⟩ := zf_gd hf
      refine ma_11 C w hi dX9_pays_20 ?_
      refine lv_if_eq (tgt := 27) hx hb dX9_pays_21 (by decide) (fun h => ?_) (fun h => ?_)
      · replace hf := zf_t h hf
        refine lv_aload_n hx hb dX9_pays_27 rfl (lv_at hl 0 rfl) ?_
        refine lv_iload hx hb dX9_pays_28 (lv_at hl 3 rfl) ?_
        obtain ⟨r1, u2, hc, hf⟩ := zf_bi_ex hf
        refine zc_ri wM_ad w (zc_V C w (kM9_wasUp l D q cs N _ _ _ hc _) cf_9_wasUp ci_9_wasUp lm_9_228 rcM_0 ⟨Nat.le_of_ble_eq_true rfl, Nat.le_of_ble_eq_true rfl⟩ hl.1 rfl (Nat.le_of_ble_eq_true rfl) dX9_pays_30 ⟨Nat.le_refl _, Nat.le_refl _⟩) (fun H locs w => ?_)
        refine lv_istore (lv' := [(6, .int r1), (0, .ref (q 0)), (1, .long v1), (3, .long v3), (5, .int v5)]) hx hb dX9_pays_33 hl (by decide) rfl (fun ls hl => ?_)
        refine lv_aload_n hx hb dX9_pays_35 rfl (lv_at hl 1 rfl) ?_
        refine lv_aload_n hx hb dX9_pays_36 rfl (lv_at hl 1 rfl) ?_
        refine mg_0_25 C w lf_9_128 dX9_pays_37 ?_
        refine lv_iload hx hb dX9_pays_40 (lv_at hl 4 rfl) ?_
        refine lv_aload_n hx hb dX9_pays_42 rfl (lv_at hl 1 rfl) ?_
        refine mg_0_12 C w lf_9_125 dX9_pays_43 ?_
        obtain ⟨r3, u4, hc, hf⟩ := zf_bi_ex hf
        refine zc_ri wM_ad w (zc_V C w (kM9_asks l D q cs N _ _ _ _ _ hc _) cf_9_asks ci_9_asks lm_9_190 rcM_0 ⟨Nat.le_of_ble_eq_true rfl, Nat.le_of_ble_eq_true rfl⟩ hl.1 rfl (Nat.le_of_ble_eq_true rfl) dX9_pays_46 ⟨Nat.le_refl _, Nat.le_refl _⟩) (fun H locs w => ?_)
        refine lv_pop hx hb dX9_pays_49 rfl ?_
        refine lv_aload_n hx hb dX9_pays_50 rfl (lv_at hl 1 rfl) ?_
        refine mg_0_35 C w lf_9_178 dX9_pays_51 ?_
        refine lv_if_ne (tgt := 72) hx hb dX9_pays_54 (by decide) (fun h => ?_) (fun h => ?_)
        · replace hf := zf_f h hf
          exact hj72 _ _ _ H locs ls w (lv_sub hl [1, 2, 3, 4] rfl) hf
        · replace hf := zf_t h hf
          refine lv_iload hx hb dX9_pays_57 (lv_at hl 0 rfl) ?_
          refine lv_if_eq (tgt := 104) hx hb dX9_pays_59 (by decide) (fun h => ?_) (fun h => ?_)
          · replace hf := zf_t h hf
            refine lv_iinc (v := v5 + 1) (lv' := [(5, .int (v5 + 1)), (6, .int r1), (0, .ref (q 0)), (1, .long v1), (3, .long v3)]) hx hb dX9_pays_104 hl (k := 4) rfl rfl (by decide) rfl (fun ls hl => ?_)
            refine lv_goto (tgt := 5) hx hb dX9_pays_107 (by decide) ?_
            exact hag5 (u4, v3, v5 + 1) hf H locs ls w (lv_sub hl [2, 3, 4, 0] rfl)
          · replace hf := zf_f h hf
            refine lv_aload_n hx hb dX9_pays_62 rfl (lv_at hl 1 rfl) ?_
            refine mg_0_34 C w lf_9_174 dX9_pays_63 ?_
            refine lv_if_eq (tgt := 72) hx hb dX9_pays_66 (by decide) (fun h => ?_) (fun h => ?_)
            · replace hf := zf_t h hf
              exact hj72 _ _ _ H locs ls w (lv_sub hl [1, 2, 3, 4] rfl) hf
            · replace hf := zf_f h hf
              refine lv_goto (tgt := 104) hx hb dX9_pays_69 (by decide) ?_
              refine lv_iinc (v := v5 + 1) (lv' := [(5, .int (v5 + 1)), (6, .int r1), (0, .ref (q 0)), (1, .long v1), (3, .long v3)]) hx hb dX9_pays_104 hl (k := 4) rfl rfl (by decide) rfl (fun ls hl => ?_)
              refine lv_goto (tgt := 5) hx hb dX9_pays_107 (by decide) ?_
              exact hag5 (u4, v3, v5 + 1) hf H locs ls w (lv_sub hl [2, 3, 4, 0] rfl)
      · replace hf := zf_f h hf
        refine lv_goto (tgt := 104) hx hb dX9_pays_24 (by decide) ?_
        refine lv_iinc (v := v5 + 1) (lv' := [(5, .int (v5 + 1)), (0, .ref (q 0)), (1, .long v1), (3, .long v3)]) hx hb dX9_pays_104 hl (k := 3) rfl rfl (by decide) rfl (fun ls hl => ?_)
        refine lv_goto (tgt := 5) hx hb dX9_pays_107 (by decide) ?_
        exact hag5 (u, v3, v5 + 1) hf H locs ls w (lv_sub hl [1, 2, 3, 0] rfl)
  exact lp5 _ _ _ hf H locs ls w (lv_sub hl [2, 3, 1, 0] rfl)
def fM9_begins_j57 (N : Nat) (u : zs_T) : Option zs_T :=
  some (zs_si (zs_si (zs_si (zs_si (zs_si u 9 ((zs_i u 9) + 1)) 10 0) 16 0) 17 (-1)) 11 0)
def fM9_begins_b2 (N : Nat) (ag2 : zs_T → Int32 → Option zs_T) (u : zs_T) (v1 : Int32) : Option zs_T :=
  (if zs_i u 15 ≤ v1 then fM9_begins_j57 N u else (zf_bi (fM9_asks N u (zs_i u 16) v1 (zs_i u 10)) fun r1 u2 => (if zf_in v1 80 then (if zf_in v1 80 then (if zf_z (zs_i (zs_sa u2 8 (upd (zs_a u2 8) v1.toNatClampNeg (zs_i u2 20))) 19) then (if zf_in v1 80 then ag2 (zs_sa (zs_sa (zs_sa u2 8 (upd (zs_a u2 8) v1.toNatClampNeg (zs_i u2 20))) 10 (upd (zs_a (zs_sa u2 8 (upd (zs_a u2 8) v1.toNatClampNeg (zs_i u2 20))) 10) v1.toNatClampNeg (zs_i (zs_sa u2 8 (upd (zs_a u2 8) v1.toNatClampNeg (zs_i u2 20))) 19))) 9 (upd (zs_a (zs_sa (zs_sa u2 8 (upd (zs_a u2 8) v1.toNatClampNeg (zs_i u2 20))) 10 (upd (zs_a (zs_sa u2 8 (upd (zs_a u2 8) v1.toNatClampNeg (zs_i u2 20))) 10) v1.toNatClampNeg (zs_i (zs_sa u2 8 (upd (zs_a u2 8) v1.toNatClampNeg (zs_i u2 20))) 19))) 9) v1.toNatClampNeg 0)) (v1 + 1) else none) else none) else none) else none)))
def fM9_begins (N : Nat) (u : zs_T) : Option zs_T :=
  zf_loop (fun ag x => fM9_begins_b2 N (fun u v1 => ag (u, v1)) x.1 x.2) N (u, 0)
set_option maxHeartbeats 4000000 in
set_option maxRecDepth 100000 in
theorem kM9_begins (l : Launch) (D : va_G) (q : Nat → Nat) (cs : Nat → ClassId) (N : Nat) (u : zs_T) (z : zs_T) (hf : fM9_begins N u = some z) : zg_Cv l yX9_begins cX9_begins 2 none 2 D cs (wM q cs) u [.ref (q 0)] z := by
  refine zg_Cv_of (own := RX9) (by decide) rfl wM_ad (Nat.le_of_ble_eq_true rfl) ?_
  intro p e s m args below meth c A Q C hret w ls hl
  obtain ⟨hx, hb, -⟩ := id C
  have hl : lv_has ls 2 [(0, .ref (q 0))] := hl
  generalize hH : s.heap = H at w ⊢
  generalize hLc : ([] : List Loc) = locs at w ⊢
  have hj57 : ∀ (u : zs_T)  (H : Heap) (locs : List Loc) (ls : Array Slot), zg_W D cs A s (wM q cs u) H locs → lv_has ls 2 [(0, .ref (q 0))] → fM9_begins_j57 N u = some z → W p l e (zg_rm 2) s m args below meth c H locs 0 0 Q (F0 m 57 ls []) := by
    intro u H locs ls w hl hf
    unfold fM9_begins_j57 at hf
    refine lv_aload_n hx hb dX9_begins_57 rfl (lv_at hl 0 rfl) ?_
    refine lv_aload_n hx hb dX9_begins_58 rfl (lv_at hl 0 rfl) ?_
    refine mg_0_11 C w lf_9_36 dX9_begins_59 ?_
    refine lv_iconst (v := 1) hx hb dX9_begins_62 (by decide) ?_
    refine lv_iadd hx hb dX9_begins_63 ?_
    refine mp_0_11 C w lf_9_36 dX9_begins_64 (fun H locs w => ?_)
    refine lv_aload_n hx hb dX9_begins_67 rfl (lv_at hl 0 rfl) ?_
    refine lv_iconst (v := 0) hx hb dX9_begins_68 (by decide) ?_
    refine mp_0_12 C w lf_9_125 dX9_begins_69 (fun H locs w => ?_)
    refine lv_aload_n hx hb dX9_begins_72 rfl (lv_at hl 0 rfl) ?_
    refine lv_iconst (v := 0) hx hb dX9_begins_73 (by decide) ?_
    refine mp_0_25 C w lf_9_128 dX9_begins_74 (fun H locs w => ?_)
    refine lv_aload_n hx hb dX9_begins_77 rfl (lv_at hl 0 rfl) ?_
    refine lv_iconst (v := (-1)) hx hb dX9_begins_78 (by decide) ?_
    refine mp_0_26 C w lf_9_57 dX9_begins_79 (fun H locs w => ?_)
    refine lv_aload_n hx hb dX9_begins_82 rfl (lv_at hl 0 rfl) ?_
    refine lv_iconst (v := 0) hx hb dX9_begins_83 (by decide) ?_
    refine mp_0_13 C w lf_9_149 dX9_begins_84 (fun H locs w => ?_)
    exact hret _ _ _ _ _ hf w dX9_begins_87
  unfold fM9_begins at hf
  refine lv_iconst (v := 0) hx hb dX9_begins_0 (by decide) ?_
  refine lv_istore_n (lv' := [(1, .int 0), (0, .ref (q 0))]) hx hb dX9_begins_1 rfl hl (by decide) rfl (fun ls hl => ?_)
  have lp2 : ∀ (n : Nat) (x : zs_T × Int32), zf_loop (fun ag x => fM9_begins_b2 N (fun u v1 => ag (u, v1)) x.1 x.2) n x = some z → ∀ (H : Heap) (locs : List Loc) (ls : Array Slot), zg_W D cs A s (wM q cs x.1) H locs → lv_has ls 2 [(0, .ref (q 0)), (1, .int x.2)] → W p l e (zg_rm 2) s m args below meth c H locs 0 0 Q (F0 m 2 ls []) := by
    refine zf_loop_W (fun x : zs_T × Int32 => ∀ (H : Heap) (locs : List Loc) (ls : Array Slot), zg_W D cs A s (wM q cs x.1) H locs → lv_has ls 2 [(0, .ref (q 0)), (1, .int x.2)] → W p l e (zg_rm 2) s m args below meth c H locs 0 0 Q (F0 m 2 ls [])) ?_
    intro ag2 x hag2 hf
    obtain ⟨u, v1⟩ := x
    intro H locs ls w hl
    replace hf : fM9_begins_b2 N (fun u v1 => ag2 (u, v1)) u v1 = some z := hf
    replace hl : lv_has ls 2 [(0, .ref (q 0)), (1, .int v1)] := hl
    replace w : zg_W D cs A s (wM q cs u) H locs := w
    unfold fM9_begins_b2 at hf
    refine lv_iload_n hx hb dX9_begins_2 rfl (lv_at hl 1 rfl) ?_
    refine lv_aload_n hx hb dX9_begins_3 rfl (lv_at hl 0 rfl) ?_
    refine mg_0_24 C w lf_9_171 dX9_begins_4 ?_
    refine lv_icmp_ge (tgt := 57) hx hb dX9_begins_7 (by decide) (fun h => ?_) (fun h => ?_)
    · replace hf := zf_t h hf
      exact hj57 _ H locs ls w (lv_sub hl [0] rfl) hf
    · replace hf := zf_f h hf
      refine lv_aload_n hx hb dX9_begins_10 rfl (lv_at hl 0 rfl) ?_
      refine lv_aload_n hx hb dX9_begins_11 rfl (lv_at hl 0 rfl) ?_
      refine mg_0_25 C w lf_9_128 dX9_begins_12 ?_
      refine lv_iload_n hx hb dX9_begins_15 rfl (lv_at hl 1 rfl) ?_
      refine lv_aload_n hx hb dX9_begins_16 rfl (lv_at hl 0 rfl) ?_
      refine mg_0_12 C w lf_9_125 dX9_begins_17 ?_
      obtain ⟨r1, u2, hc, hf⟩ := zf_bi_ex hf
      refine zc_ri wM_ad w (zc_V C w (kM9_asks l D q cs N _ _ _ _ _ hc _) cf_9_asks ci_9_asks lm_9_190 rcM_0 ⟨Nat.le_of_ble_eq_true rfl, Nat.le_of_ble_eq_true rfl⟩ hl.1 rfl (Nat.le_of_ble_eq_true rfl) dX9_begins_20 ⟨Nat.le_refl _, Nat.le_refl _⟩) (fun H locs w => ?_)
      refine lv_pop hx hb dX9_begins_23 rfl ?_
      refine lv_aload_n hx hb dX9_begins_24 rfl (lv_at hl 0 rfl) ?_
      refine mg_0_27 C w lf_9_60 dX9_begins_25 ?_
      refine lv_iload_n hx hb dX9_begins_28 rfl (lv_at hl 1 rfl) ?_
      refine lv_aload_n hx hb dX9_begins_29 rfl (lv_at hl 0 rfl) ?_
      refine mg_0_36 C w lf_9_181 dX9_begins_30 ?_
      obtain ⟨hi, hf⟩ := zf_gd hf
      refine ms_9 C w hi dX9_begins_33 (fun H locs w => ?_)
      refine lv_aload_n hx hb dX9_begins_34 rfl (lv_at hl 0 rfl) ?_
      refine mg_0_29 C w lf_9_66 dX9_begins_35 ?_
      refine lv_iload_n hx hb dX9_begins_38 rfl (lv_at hl 1 rfl) ?_
      refine lv_aload_n hx hb dX9_begins_39 rfl (lv_at hl 0 rfl) ?_
      refine mg_0_35 C w lf_9_178 dX9_begins_40 ?_
      obtain ⟨hi, hf⟩ := zf_gd hf
      obtain ⟨hz, hf⟩ := zf_gd hf
      refine ms_11 C w hi hz dX9_begins_43 (fun H locs w => ?_)
      refine lv_aload_n hx hb dX9_begins_44 rfl (lv_at hl 0 rfl) ?_
      refine mg_0_28 C w lf_9_63 dX9_begins_45 ?_
      refine lv_iload_n hx hb dX9_begins_48 rfl (lv_at hl 1 rfl) ?_
      refine lv_iconst (v := 0) hx hb dX9_begins_49 (by decide) ?_
      obtain ⟨hi, hf⟩ := zf_gd hf
      refine ms_10 C w hi dX9_begins_50 (fun H locs w => ?_)
      refine lv_iinc (v := v1 + 1) (lv' := [(1, .int (v1 + 1)), (0, .ref (q 0))]) hx hb dX9_begins_51 hl (k := 1) rfl rfl (by decide) rfl (fun ls hl => ?_)
      refine lv_goto (tgt := 2) hx hb dX9_begins_54 (by decide) ?_
      exact hag2 (zs_sa (zs_sa (zs_sa u2 8 (upd (zs_a u2 8) v1.toNatClampNeg (zs_i u2 20))) 10 (upd (zs_a (zs_sa u2 8 (upd (zs_a u2 8) v1.toNatClampNeg (zs_i u2 20))) 10) v1.toNatClampNeg (zs_i (zs_sa u2 8 (upd (zs_a u2 8) v1.toNatClampNeg (zs_i u2 20))) 19))) 9 (upd (zs_a (zs_sa (zs_sa u2 8 (upd (zs_a u2 8) v1.toNatClampNeg (zs_i u2 20))) 10 (upd (zs_a (zs_sa u2 8 (upd (zs_a u2 8) v1.toNatClampNeg (zs_i u2 20))) 10) v1.toNatClampNeg (zs_i (zs_sa u2 8 (upd (zs_a u2 8) v1.toNatClampNeg (zs_i u2 20))) 19))) 9) v1.toNatClampNeg 0), v1 + 1) hf H locs ls w (lv_sub hl [1, 0] rfl)
  exact lp2 _ _ hf H locs ls w (lv_sub hl [1, 0] rfl)
