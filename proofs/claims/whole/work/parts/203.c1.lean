def fX1_placeOf_b2 (N : Nat) (u : zs_T) (v1 : Int32) (ag2 : Int32 → Option Int32) (v2 : Int32) : Option Int32 :=
  (if 12 ≤ v2 then some (-1) else (if zf_in v2 12 then (if zs_a u 22 v2.toNatClampNeg = v1 then some v2 else ag2 (v2 + 1)) else none))
def fX1_placeOf (N : Nat) (u : zs_T) (v1 : Int32) : Option Int32 :=
  zf_loop (fun ag x => fX1_placeOf_b2 N u v1 (fun v2 => ag v2) x) N 0
set_option maxHeartbeats 4000000 in
set_option maxRecDepth 100000 in
theorem kX1_placeOf (l : Launch) (D : va_G) (q : Nat → Nat) (cs : Nat → ClassId) (N : Nat) (u : zs_T) (v1 : Int32) (z : Int32) (hf : fX1_placeOf N u v1 = some z) : zg_Ci l yX1_placeOf cX1_placeOf 3 (some .int) 0 D cs (wX q cs) u [.ref (q 8), .int v1] z u := by
  refine zg_Ci_of (own := RX1) (by decide) rfl wX_ad (Nat.le_of_ble_eq_true rfl) ?_
  intro p e s m args below meth c A Q C hret w ls hl
  obtain ⟨hx, hb, -⟩ := id C
  have hl : lv_has ls 3 [(0, .ref (q 8)), (1, .int v1)] := hl
  generalize hH : s.heap = H at w ⊢
  generalize hLc : ([] : List Loc) = locs at w ⊢
  unfold fX1_placeOf at hf
  refine lv_iconst (v := 0) hx hb dX1_placeOf_0 (by decide) ?_
  refine lv_istore_n (lv' := [(2, .int 0), (0, .ref (q 8)), (1, .int v1)]) hx hb dX1_placeOf_1 rfl hl (by decide) rfl (fun ls hl => ?_)
  have lp2 : ∀ (v1 : Int32) (n : Nat) (x : Int32), zf_loop (fun ag x => fX1_placeOf_b2 N u v1 (fun v2 => ag v2) x) n x = some z → ∀ (H : Heap) (locs : List Loc) (ls : Array Slot), zg_W D cs A s (wX q cs u) H locs → lv_has ls 3 [(0, .ref (q 8)), (1, .int v1), (2, .int x)] → W p l e (zg_rm 0) s m args below meth c H locs 0 0 Q (F0 m 2 ls []) := by
    intro v1
    refine zf_loop_W (fun x : Int32 => ∀ (H : Heap) (locs : List Loc) (ls : Array Slot), zg_W D cs A s (wX q cs u) H locs → lv_has ls 3 [(0, .ref (q 8)), (1, .int v1), (2, .int x)] → W p l e (zg_rm 0) s m args below meth c H locs 0 0 Q (F0 m 2 ls [])) ?_
    intro ag2 v2 hag2 hf
    intro H locs ls w hl
    replace hf : fX1_placeOf_b2 N u v1 (fun v2 => ag2 v2) v2 = some z := hf
    replace hl : lv_has ls 3 [(0, .ref (q 8)), (1, .int v1), (2, .int v2)] := hl
    replace w : zg_W D cs A s (wX q cs u) H locs := w
    unfold fX1_placeOf_b2 at hf
    refine lv_iload_n hx hb dX1_placeOf_2 rfl (lv_at hl 2 rfl) ?_
    refine lv_bipush (v := 12) hx hb dX1_placeOf_3 (by decide) ?_
    refine lv_icmp_ge (tgt := 26) hx hb dX1_placeOf_5 (by decide) (fun h => ?_) (fun h => ?_)
    · replace hf := zf_t h hf
      refine lv_iconst (v := (-1)) hx hb dX1_placeOf_26 (by decide) ?_
      exact hret _ _ _ _ _ _ (zf_pr hf) w dX1_placeOf_27
    · replace hf := zf_f h hf
      refine lv_aload_n hx hb dX1_placeOf_8 rfl (lv_at hl 0 rfl) ?_
      refine xg_8_5 C w lf_1_29 dX1_placeOf_9 ?_
      refine lv_iload_n hx hb dX1_placeOf_12 rfl (lv_at hl 2 rfl) ?_
      obtain ⟨hi, hf⟩ := zf_gd hf
      refine xa_34 C w hi dX1_placeOf_13 ?_
      refine lv_iload_n hx hb dX1_placeOf_14 rfl (lv_at hl 1 rfl) ?_
      refine lv_icmp_ne (tgt := 20) hx hb dX1_placeOf_15 (by decide) (fun h => ?_) (fun h => ?_)
      · replace hf := zf_f h hf
        refine lv_iinc (v := v2 + 1) (lv' := [(2, .int (v2 + 1)), (0, .ref (q 8)), (1, .int v1)]) hx hb dX1_placeOf_20 hl (k := 2) rfl rfl (by decide) rfl (fun ls hl => ?_)
        refine lv_goto (tgt := 2) hx hb dX1_placeOf_23 (by decide) ?_
        exact hag2 (v2 + 1) hf H locs ls w (lv_sub hl [1, 2, 0] rfl)
      · replace hf := zf_t h hf
        refine lv_iload_n hx hb dX1_placeOf_18 rfl (lv_at hl 2 rfl) ?_
        exact hret _ _ _ _ _ _ (zf_pr hf) w dX1_placeOf_19
  exact lp2 _ _ _ hf H locs ls w (lv_sub hl [1, 2, 0] rfl)
def fX1_shareOf_j29 (N : Nat) (u : zs_T) (v0 : Int64) (v2 : Int32) (v4 : Int64) : Option Int64 :=
  (if lg_cmp v4 0 ≤ 0 then some 0 else (if zf_in v2 12 then (if ¬ v4 = 0 then some ((v0 * ((zs_a u 20 v2.toNatClampNeg).toInt64)) / v4) else none) else none))
def fX1_shareOf_b6 (N : Nat) (u : zs_T) (v0 : Int64) (v2 : Int32) (ag6 : Int64 → Int32 → Option Int64) (v4 : Int64) (v6 : Int32) : Option Int64 :=
  (if 12 ≤ v6 then fX1_shareOf_j29 N u v0 v2 v4 else (if zf_in v6 12 then ag6 (v4 + ((zs_a u 20 v6.toNatClampNeg).toInt64)) (v6 + 1) else none))
def fX1_shareOf (N : Nat) (u : zs_T) (v0 : Int64) (v2 : Int32) : Option Int64 :=
  zf_loop (fun ag x => fX1_shareOf_b6 N u v0 v2 (fun v4 v6 => ag (v4, v6)) x.1 x.2) N (0, 0)
set_option maxHeartbeats 4000000 in
set_option maxRecDepth 100000 in
theorem kX1_shareOf (l : Launch) (D : va_G) (q : Nat → Nat) (cs : Nat → ClassId) (N : Nat) (u : zs_T) (v0 : Int64) (v2 : Int32) (z : Int64) (hf : fX1_shareOf N u v0 v2 = some z) : zg_Cl l yX1_shareOf cX1_shareOf 7 (some .long) 0 D cs (wX q cs) u [.long v0, .int v2, .ref (q 29)] z u := by
  refine zg_Cl_of (own := RX1) (by decide) rfl wX_ad (Nat.le_of_ble_eq_true rfl) ?_
  intro p e s m args below meth c A Q C hret w ls hl
  obtain ⟨hx, hb, -⟩ := id C
  have hl : lv_has ls 7 [(0, .long v0), (2, .int v2), (3, .ref (q 29))] := hl
  generalize hH : s.heap = H at w ⊢
  generalize hLc : ([] : List Loc) = locs at w ⊢
  have hj29 : ∀ (v0 : Int64) (v2 : Int32) (v4 : Int64) (H : Heap) (locs : List Loc) (ls : Array Slot), zg_W D cs A s (wX q cs u) H locs → lv_has ls 7 [(0, .long v0), (2, .int v2), (3, .ref (q 29)), (4, .long v4)] → fX1_shareOf_j29 N u v0 v2 v4 = some z → W p l e (zg_rm 0) s m args below meth c H locs 0 0 Q (F0 m 29 ls []) := by
    intro v0 v2 v4 H locs ls w hl hf
    unfold fX1_shareOf_j29 at hf
    refine lv_lload hx hb dX1_shareOf_29 (lv_at hl 3 rfl) ?_
    refine lv_lconst (v := 0) hx hb dX1_shareOf_31 (by decide) ?_
    refine W.lcmp hx hb dX1_shareOf_32 ?_
    refine lv_if_le (tgt := 48) hx hb dX1_shareOf_33 (by decide) (fun h => ?_) (fun h => ?_)
    · replace hf := zf_t h hf
      refine lv_lconst (v := 0) hx hb dX1_shareOf_48 (by decide) ?_
      exact hret _ _ _ _ _ _ (zf_pr hf) w dX1_shareOf_49
    · replace hf := zf_f h hf
      refine lv_lload_n hx hb dX1_shareOf_36 rfl (lv_at hl 0 rfl) ?_
      refine lv_aload_n hx hb dX1_shareOf_37 rfl (lv_at hl 2 rfl) ?_
      refine lv_iload_n hx hb dX1_shareOf_38 rfl (lv_at hl 1 rfl) ?_
      obtain ⟨hi, hf⟩ := zf_gd hf
      refine xa_29 C w hi dX1_shareOf_39 ?_
      refine lv_i2l hx hb dX1_shareOf_40 rfl ?_
      refine lv_lmul hx hb dX1_shareOf_41 ?_
      refine lv_lload hx hb dX1_shareOf_42 (lv_at hl 3 rfl) ?_
      obtain ⟨hne, hf⟩ := zf_gd hf
      refine lv_ldiv hx hb dX1_shareOf_44 hne ?_
      refine lv_goto (tgt := 49) hx hb dX1_shareOf_45 (by decide) ?_
      exact hret _ _ _ _ _ _ (zf_pr hf) w dX1_shareOf_49
  unfold fX1_shareOf at hf
  refine lv_lconst (v := 0) hx hb dX1_shareOf_0 (by decide) ?_
  refine lv_lstore (lv' := [(4, .long 0), (0, .long v0), (2, .int v2), (3, .ref (q 29))]) hx hb dX1_shareOf_1 hl (by decide) rfl (fun ls hl => ?_)
  refine lv_iconst (v := 0) hx hb dX1_shareOf_3 (by decide) ?_
  refine lv_istore (lv' := [(6, .int 0), (4, .long 0), (0, .long v0), (2, .int v2), (3, .ref (q 29))]) hx hb dX1_shareOf_4 hl (by decide) rfl (fun ls hl => ?_)
  have lp6 : ∀ (v0 : Int64) (v2 : Int32) (n : Nat) (x : Int64 × Int32), zf_loop (fun ag x => fX1_shareOf_b6 N u v0 v2 (fun v4 v6 => ag (v4, v6)) x.1 x.2) n x = some z → ∀ (H : Heap) (locs : List Loc) (ls : Array Slot), zg_W D cs A s (wX q cs u) H locs → lv_has ls 7 [(0, .long v0), (2, .int v2), (3, .ref (q 29)), (4, .long x.1), (6, .int x.2)] → W p l e (zg_rm 0) s m args below meth c H locs 0 0 Q (F0 m 6 ls []) := by
    intro v0 v2
    refine zf_loop_W (fun x : Int64 × Int32 => ∀ (H : Heap) (locs : List Loc) (ls : Array Slot), zg_W D cs A s (wX q cs u) H locs → lv_has ls 7 [(0, .long v0), (2, .int v2), (3, .ref (q 29)), (4, .long x.1), (6, .int x.2)] → W p l e (zg_rm 0) s m args below meth c H locs 0 0 Q (F0 m 6 ls [])) ?_
    intro ag6 x hag6 hf
    obtain ⟨v4, v6⟩ := x
    intro H locs ls w hl
    replace hf : fX1_shareOf_b6 N u v0 v2 (fun v4 v6 => ag6 (v4, v6)) v4 v6 = some z := hf
    replace hl : lv_has ls 7 [(0, .long v0), (2, .int v2), (3, .ref (q 29)), (4, .long v4), (6, .int v6)] := hl
    replace w : zg_W D cs A s (wX q cs u) H locs := w
    unfold fX1_shareOf_b6 at hf
    refine lv_iload hx hb dX1_shareOf_6 (lv_at hl 4 rfl) ?_
    refine lv_bipush (v := 12) hx hb dX1_shareOf_8 (by decide) ?_
    refine lv_icmp_ge (tgt := 29) hx hb dX1_shareOf_10 (by decide) (fun h => ?_) (fun h => ?_)
    · replace hf := zf_t h hf
      exact hj29 _ _ _ H locs ls w (lv_sub hl [0, 1, 2, 3] rfl) hf
    · replace hf := zf_f h hf
      refine lv_lload hx hb dX1_shareOf_13 (lv_at hl 3 rfl) ?_
      refine lv_aload_n hx hb dX1_shareOf_15 rfl (lv_at hl 2 rfl) ?_
      refine lv_iload hx hb dX1_shareOf_16 (lv_at hl 4 rfl) ?_
      obtain ⟨hi, hf⟩ := zf_gd hf
      refine xa_29 C w hi dX1_shareOf_18 ?_
      refine lv_i2l hx hb dX1_shareOf_19 rfl ?_
      refine lv_ladd hx hb dX1_shareOf_20 ?_
      refine lv_lstore (lv' := [(4, .long (v4 + ((zs_a u 20 v6.toNatClampNeg).toInt64))), (0, .long v0), (2, .int v2), (3, .ref (q 29)), (6, .int v6)]) hx hb dX1_shareOf_21 hl (by decide) rfl (fun ls hl => ?_)
      refine lv_iinc (v := v6 + 1) (lv' := [(6, .int (v6 + 1)), (4, .long (v4 + ((zs_a u 20 v6.toNatClampNeg).toInt64))), (0, .long v0), (2, .int v2), (3, .ref (q 29))]) hx hb dX1_shareOf_23 hl (k := 4) rfl rfl (by decide) rfl (fun ls hl => ?_)
      refine lv_goto (tgt := 6) hx hb dX1_shareOf_26 (by decide) ?_
      exact hag6 (v4 + ((zs_a u 20 v6.toNatClampNeg).toInt64), v6 + 1) hf H locs ls w (lv_sub hl [2, 3, 4, 1, 0] rfl)
  exact lp6 _ _ _ _ hf H locs ls w (lv_sub hl [2, 3, 4, 1, 0] rfl)
def fX1_takeTurn_j72 (N : Nat) (u : zs_T) (v3 : Int32) : Option (Int32 × zs_T) :=
  some (v3, zs_sa u 22 (upd (zs_a u 22) (11 : Int32).toNatClampNeg v3))
def fX1_takeTurn_b43 (N : Nat) (v3 : Int32) (ag43 : zs_T → Int32 → Option (Int32 × zs_T)) (u : zs_T) (v4 : Int32) : Option (Int32 × zs_T) :=
  (if 11 ≤ v4 then fX1_takeTurn_j72 N u v3 else (if zf_in (v4 + 1) 12 then (if zf_in v4 12 then ag43 (zs_sa u 22 (upd (zs_a u 22) v4.toNatClampNeg (zs_a u 22 (v4 + 1).toNatClampNeg))) (v4 + 1) else none) else none))
def fX1_takeTurn_j25 (N : Nat) (u : zs_T) (v2 : Int32) : Option (Int32 × zs_T) :=
  (if v2 < 12 then (if zf_in v2 12 then zf_loop (fun ag x => fX1_takeTurn_b43 N (zs_a u 22 v2.toNatClampNeg) (fun u v4 => ag (u, v4)) x.1 x.2) N (u, v2) else none) else some ((-1), u))
def fX1_takeTurn_b2 (N : Nat) (u : zs_T) (ag2 : Int32 → Option (Int32 × zs_T)) (v2 : Int32) : Option (Int32 × zs_T) :=
  (if 12 ≤ v2 then fX1_takeTurn_j25 N u v2 else (if zf_in v2 12 then (if zf_in (zs_a u 22 v2.toNatClampNeg) 12 then (if zs_a u 20 (zs_a u 22 v2.toNatClampNeg).toNatClampNeg = 0 then ag2 (v2 + 1) else fX1_takeTurn_j25 N u v2) else none) else none))
def fX1_takeTurn (N : Nat) (u : zs_T) : Option (Int32 × zs_T) :=
  zf_loop (fun ag x => fX1_takeTurn_b2 N u (fun v2 => ag v2) x) N 0
set_option maxHeartbeats 4000000 in
set_option maxRecDepth 100000 in
theorem kX1_takeTurn (l : Launch) (D : va_G) (q : Nat → Nat) (cs : Nat → ClassId) (N : Nat) (u : zs_T) (z : (Int32 × zs_T)) (hf : fX1_takeTurn N u = some z) : zg_Ci l yX1_takeTurn cX1_takeTurn 5 (some .int) 0 D cs (wX q cs) u [.ref (q 8), .ref (q 29)] z.1 z.2 := by
  refine zg_Ci_of (own := RX1) (by decide) rfl wX_ad (Nat.le_of_ble_eq_true rfl) ?_
  intro p e s m args below meth c A Q C hret w ls hl
  obtain ⟨hx, hb, -⟩ := id C
  have hl : lv_has ls 5 [(0, .ref (q 8)), (1, .ref (q 29))] := hl
  generalize hH : s.heap = H at w ⊢
  generalize hLc : ([] : List Loc) = locs at w ⊢
  have hj72 : ∀ (u : zs_T) (v3 : Int32) (H : Heap) (locs : List Loc) (ls : Array Slot), zg_W D cs A s (wX q cs u) H locs → lv_has ls 5 [(0, .ref (q 8)), (3, .int v3)] → fX1_takeTurn_j72 N u v3 = some z → W p l e (zg_rm 0) s m args below meth c H locs 0 0 Q (F0 m 72 ls []) := by
    intro u v3 H locs ls w hl hf
    unfold fX1_takeTurn_j72 at hf
    refine lv_aload_n hx hb dX1_takeTurn_72 rfl (lv_at hl 0 rfl) ?_
    refine xg_8_5 C w lf_1_29 dX1_takeTurn_73 ?_
    refine lv_bipush (v := 11) hx hb dX1_takeTurn_76 (by decide) ?_
    refine lv_iload_n hx hb dX1_takeTurn_78 rfl (lv_at hl 1 rfl) ?_
    refine xs_34 C w (by decide) dX1_takeTurn_79 (fun H locs w => ?_)
    refine lv_iload_n hx hb dX1_takeTurn_80 rfl (lv_at hl 1 rfl) ?_
    exact hret _ _ _ _ _ _ hf w dX1_takeTurn_81
  have hj25 : ∀ (u : zs_T) (v2 : Int32) (H : Heap) (locs : List Loc) (ls : Array Slot), zg_W D cs A s (wX q cs u) H locs → lv_has ls 5 [(0, .ref (q 8)), (2, .int v2)] → fX1_takeTurn_j25 N u v2 = some z → W p l e (zg_rm 0) s m args below meth c H locs 0 0 Q (F0 m 25 ls []) := by
    intro u v2 H locs ls w hl hf
    unfold fX1_takeTurn_j25 at hf
    refine lv_iload_n hx hb dX1_takeTurn_25 rfl (lv_at hl 1 rfl) ?_
    refine lv_bipush (v := 12) hx hb dX1_takeTurn_26 (by decide) ?_
    refine lv_icmp_lt (tgt := 33) hx hb dX1_takeTurn_28 (by decide) (fun h => ?_) (fun h => ?_)
    · replace hf := zf_t h hf
      refine lv_aload_n hx hb dX1_takeTurn_33 rfl (lv_at hl 0 rfl) ?_
      refine xg_8_5 C w lf_1_29 dX1_takeTurn_34 ?_
      refine lv_iload_n hx hb dX1_takeTurn_37 rfl (lv_at hl 1 rfl) ?_
      obtain ⟨hi, hf⟩ := zf_gd hf
      refine xa_34 C w hi dX1_takeTurn_38 ?_
      refine lv_istore_n (lv' := [(3, .int (zs_a u 22 v2.toNatClampNeg)), (0, .ref (q 8)), (2, .int v2)]) hx hb dX1_takeTurn_39 rfl hl (by decide) rfl (fun ls hl => ?_)
      refine lv_iload_n hx hb dX1_takeTurn_40 rfl (lv_at hl 2 rfl) ?_
      refine lv_istore (lv' := [(4, .int v2), (3, .int (zs_a u 22 v2.toNatClampNeg)), (0, .ref (q 8)), (2, .int v2)]) hx hb dX1_takeTurn_41 hl (by decide) rfl (fun ls hl => ?_)
      have lp43 : ∀ (v3 : Int32) (n : Nat) (x : zs_T × Int32), zf_loop (fun ag x => fX1_takeTurn_b43 N v3 (fun u v4 => ag (u, v4)) x.1 x.2) n x = some z → ∀ (H : Heap) (locs : List Loc) (ls : Array Slot), zg_W D cs A s (wX q cs x.1) H locs → lv_has ls 5 [(0, .ref (q 8)), (3, .int v3), (4, .int x.2)] → W p l e (zg_rm 0) s m args below meth c H locs 0 0 Q (F0 m 43 ls []) := by
        intro v3
        refine zf_loop_W (fun x : zs_T × Int32 => ∀ (H : Heap) (locs : List Loc) (ls : Array Slot), zg_W D cs A s (wX q cs x.1) H locs → lv_has ls 5 [(0, .ref (q 8)), (3, .int v3), (4, .int x.2)] → W p l e (zg_rm 0) s m args below meth c H locs 0 0 Q (F0 m 43 ls [])) ?_
        intro ag43 x hag43 hf
        obtain ⟨u, v4⟩ := x
        intro H locs ls w hl
        replace hf : fX1_takeTurn_b43 N v3 (fun u v4 => ag43 (u, v4)) u v4 = some z := hf
        replace hl : lv_has ls 5 [(0, .ref (q 8)), (3, .int v3), (4, .int v4)] := hl
        replace w : zg_W D cs A s (wX q cs u) H locs := w
        unfold fX1_takeTurn_b43 at hf
        refine lv_iload hx hb dX1_takeTurn_43 (lv_at hl 2 rfl) ?_
        refine lv_bipush (v := 11) hx hb dX1_takeTurn_45 (by decide) ?_
        refine lv_icmp_ge (tgt := 72) hx hb dX1_takeTurn_47 (by decide) (fun h => ?_) (fun h => ?_)
        · replace hf := zf_t h hf
          exact hj72 _ _ H locs ls w (lv_sub hl [0, 1] rfl) hf
        · replace hf := zf_f h hf
          refine lv_aload_n hx hb dX1_takeTurn_50 rfl (lv_at hl 0 rfl) ?_
          refine xg_8_5 C w lf_1_29 dX1_takeTurn_51 ?_
          refine lv_iload hx hb dX1_takeTurn_54 (lv_at hl 2 rfl) ?_
          refine lv_aload_n hx hb dX1_takeTurn_56 rfl (lv_at hl 0 rfl) ?_
          refine xg_8_5 C w lf_1_29 dX1_takeTurn_57 ?_
          refine lv_iload hx hb dX1_takeTurn_60 (lv_at hl 2 rfl) ?_
          refine lv_iconst (v := 1) hx hb dX1_takeTurn_62 (by decide) ?_
          refine lv_iadd hx hb dX1_takeTurn_63 ?_
          obtain ⟨hi, hf⟩ := zf_gd hf
          refine xa_34 C w hi dX1_takeTurn_64 ?_
          obtain ⟨hi, hf⟩ := zf_gd hf
          refine xs_34 C w hi dX1_takeTurn_65 (fun H locs w => ?_)
          refine lv_iinc (v := v4 + 1) (lv' := [(4, .int (v4 + 1)), (0, .ref (q 8)), (3, .int v3)]) hx hb dX1_takeTurn_66 hl (k := 2) rfl rfl (by decide) rfl (fun ls hl => ?_)
          refine lv_goto (tgt := 43) hx hb dX1_takeTurn_69 (by decide) ?_
          exact hag43 (zs_sa u 22 (upd (zs_a u 22) v4.toNatClampNeg (zs_a u 22 (v4 + 1).toNatClampNeg)), v4 + 1) hf H locs ls w (lv_sub hl [1, 2, 0] rfl)
      exact lp43 _ _ _ hf H locs ls w (lv_sub hl [2, 1, 0] rfl)
    · replace hf := zf_f h hf
      refine lv_iconst (v := (-1)) hx hb dX1_takeTurn_31 (by decide) ?_
      exact hret _ _ _ _ _ _ hf w dX1_takeTurn_32
  unfold fX1_takeTurn at hf
  refine lv_iconst (v := 0) hx hb dX1_takeTurn_0 (by decide) ?_
  refine lv_istore_n (lv' := [(2, .int 0), (0, .ref (q 8)), (1, .ref (q 29))]) hx hb dX1_takeTurn_1 rfl hl (by decide) rfl (fun ls hl => ?_)
  have lp2 : ∀ (u : zs_T) (n : Nat) (x : Int32), zf_loop (fun ag x => fX1_takeTurn_b2 N u (fun v2 => ag v2) x) n x = some z → ∀ (H : Heap) (locs : List Loc) (ls : Array Slot), zg_W D cs A s (wX q cs u) H locs → lv_has ls 5 [(0, .ref (q 8)), (1, .ref (q 29)), (2, .int x)] → W p l e (zg_rm 0) s m args below meth c H locs 0 0 Q (F0 m 2 ls []) := by
    intro u
    refine zf_loop_W (fun x : Int32 => ∀ (H : Heap) (locs : List Loc) (ls : Array Slot), zg_W D cs A s (wX q cs u) H locs → lv_has ls 5 [(0, .ref (q 8)), (1, .ref (q 29)), (2, .int x)] → W p l e (zg_rm 0) s m args below meth c H locs 0 0 Q (F0 m 2 ls [])) ?_
    intro ag2 v2 hag2 hf
    intro H locs ls w hl
    replace hf : fX1_takeTurn_b2 N u (fun v2 => ag2 v2) v2 = some z := hf
    replace hl : lv_has ls 5 [(0, .ref (q 8)), (1, .ref (q 29)), (2, .int v2)] := hl
    replace w : zg_W D cs A s (wX q cs u) H locs := w
    unfold fX1_takeTurn_b2 at hf
    refine lv_iload_n hx hb dX1_takeTurn_2 rfl (lv_at hl 2 rfl) ?_
    refine lv_bipush (v := 12) hx hb dX1_takeTurn_3 (by decide) ?_
    refine lv_icmp_ge (tgt := 25) hx hb dX1_takeTurn_5 (by decide) (fun h => ?_) (fun h => ?_)
    · replace hf := zf_t h hf
      exact hj25 _ _ H locs ls w (lv_sub hl [0, 2] rfl) hf
    · replace hf := zf_f h hf
      refine lv_aload_n hx hb dX1_takeTurn_8 rfl (lv_at hl 1 rfl) ?_
      refine lv_aload_n hx hb dX1_takeTurn_9 rfl (lv_at hl 0 rfl) ?_
      refine xg_8_5 C w lf_1_29 dX1_takeTurn_10 ?_
      refine lv_iload_n hx hb dX1_takeTurn_13 rfl (lv_at hl 2 rfl) ?_
      obtain ⟨hi, hf⟩ := zf_gd hf
      refine xa_34 C w hi dX1_takeTurn_14 ?_
      obtain ⟨hi, hf⟩ := zf_gd hf
      refine xa_29 C w hi dX1_takeTurn_15 ?_
      refine lv_if_ne (tgt := 25) hx hb dX1_takeTurn_16 (by decide) (fun h => ?_) (fun h => ?_)
      · replace hf := zf_f h hf
        exact hj25 _ _ H locs ls w (lv_sub hl [0, 2] rfl) hf
      · replace hf := zf_t h hf
        refine lv_iinc (v := v2 + 1) (lv' := [(2, .int (v2 + 1)), (0, .ref (q 8)), (1, .ref (q 29))]) hx hb dX1_takeTurn_19 hl (k := 2) rfl rfl (by decide) rfl (fun ls hl => ?_)
        refine lv_goto (tgt := 2) hx hb dX1_takeTurn_22 (by decide) ?_
        exact hag2 (v2 + 1) hf H locs ls w (lv_sub hl [1, 2, 0] rfl)
  exact lp2 _ _ _ hf H locs ls w (lv_sub hl [1, 2, 0] rfl)
def fX1_partCheeses_b97 (N : Nat) (v3 : Int32) (ag97 : zs_T → Int32 → Option (Int32 × zs_T)) (u : zs_T) (v4 : Int32) : Option (Int32 × zs_T) :=
  (if 12 ≤ v4 then some (v3, u) else (if zf_in v4 12 then (if zf_in v4 12 then (if zf_in v4 12 then ag97 (zs_sb u 0 (vp_updL (zs_b u 0) v4.toNatClampNeg ((zs_b u 0 v4.toNatClampNeg) + ((zs_a u 21 v4.toNatClampNeg).toInt64)))) (v4 + 1) else none) else none) else none))
def fX1_partCheeses_j94 (N : Nat) (u : zs_T) (v3 : Int32) : Option (Int32 × zs_T) :=
  zf_loop (fun ag x => fX1_partCheeses_b97 N v3 (fun u v4 => ag (u, v4)) x.1 x.2) N (u, 0)
def fX1_partCheeses_j71 (N : Nat) (u : zs_T) (v3 : Int32) : Option (Int32 × zs_T) :=
  fX1_partCheeses_j94 N u v3
def fX1_partCheeses_b47 (N : Nat) (ag47 : zs_T → Int32 → Int32 → Option (Int32 × zs_T)) (u : zs_T) (v3 : Int32) (v4 : Int32) : Option (Int32 × zs_T) :=
  (if 12 ≤ v4 then fX1_partCheeses_j94 N u v3 else (if v3 ≤ 0 then fX1_partCheeses_j94 N u v3 else (zf_bi (fX1_takeTurn N u) fun r1 u2 => (if r1 = (-1) then fX1_partCheeses_j71 N u2 v3 else (if zf_in r1 12 then (if zf_in r1 12 then ag47 (zs_sa u2 21 (upd (zs_a u2 21) r1.toNatClampNeg ((zs_a u2 21 r1.toNatClampNeg) + 1))) (v3 + (-1)) (v4 + 1) else none) else none)))))
def fX1_partCheeses_j44 (N : Nat) (u : zs_T) (v3 : Int32) : Option (Int32 × zs_T) :=
  zf_loop (fun ag x => fX1_partCheeses_b47 N (fun u v3 v4 => ag (u, v3, v4)) x.1 x.2.1 x.2.2) N (u, v3, 0)
def fX1_partCheeses_b5 (N : Nat) (v2 : Int32) (ag5 : zs_T → Int32 → Int32 → Option (Int32 × zs_T)) (u : zs_T) (v3 : Int32) (v4 : Int32) : Option (Int32 × zs_T) :=
  (if 12 ≤ v4 then fX1_partCheeses_j44 N u v3 else (zf_bp (fX1_shareOf N u v2.toInt64 v4) fun r3 => (if zf_in v4 12 then (if zf_in v4 12 then ag5 (zs_sa u 21 (upd (zs_a u 21) v4.toNatClampNeg r3.toInt32)) (v3 - (zs_a (zs_sa u 21 (upd (zs_a u 21) v4.toNatClampNeg r3.toInt32)) 21 v4.toNatClampNeg)) (v4 + 1) else none) else none)))
def fX1_partCheeses (N : Nat) (u : zs_T) (v2 : Int32) : Option (Int32 × zs_T) :=
  zf_loop (fun ag x => fX1_partCheeses_b5 N v2 (fun u v3 v4 => ag (u, v3, v4)) x.1 x.2.1 x.2.2) N (u, v2, 0)
set_option maxHeartbeats 4000000 in
set_option maxRecDepth 100000 in
theorem kX1_partCheeses (l : Launch) (D : va_G) (q : Nat → Nat) (cs : Nat → ClassId) (N : Nat) (u : zs_T) (v2 : Int32) (z : (Int32 × zs_T)) (hf : fX1_partCheeses N u v2 = some z) : zg_Ci l yX1_partCheeses cX1_partCheeses 6 (some .int) 1 D cs (wX q cs) u [.ref (q 8), .ref (q 29), .int v2] z.1 z.2 := by
  refine zg_Ci_of (own := RX1) (by decide) rfl wX_ad (Nat.le_of_ble_eq_true rfl) ?_
  intro p e s m args below meth c A Q C hret w ls hl
  obtain ⟨hx, hb, -⟩ := id C
  have hl : lv_has ls 6 [(0, .ref (q 8)), (1, .ref (q 29)), (2, .int v2)] := hl
  generalize hH : s.heap = H at w ⊢
  generalize hLc : ([] : List Loc) = locs at w ⊢
  have hj94 : ∀ (u : zs_T) (v3 : Int32) (H : Heap) (locs : List Loc) (ls : Array Slot), zg_W D cs A s (wX q cs u) H locs → lv_has ls 6 [(0, .ref (q 8)), (3, .int v3)] → fX1_partCheeses_j94 N u v3 = some z → W p l e (zg_rm 1) s m args below meth c H locs 0 0 Q (F0 m 94 ls []) := by
    intro u v3 H locs ls w hl hf
    unfold fX1_partCheeses_j94 at hf
    refine lv_iconst (v := 0) hx hb dX1_partCheeses_94 (by decide) ?_
    refine lv_istore (lv' := [(4, .int 0), (0, .ref (q 8)), (3, .int v3)]) hx hb dX1_partCheeses_95 hl (by decide) rfl (fun ls hl => ?_)
    have lp97 : ∀ (v3 : Int32) (n : Nat) (x : zs_T × Int32), zf_loop (fun ag x => fX1_partCheeses_b97 N v3 (fun u v4 => ag (u, v4)) x.1 x.2) n x = some z → ∀ (H : Heap) (locs : List Loc) (ls : Array Slot), zg_W D cs A s (wX q cs x.1) H locs → lv_has ls 6 [(0, .ref (q 8)), (3, .int v3), (4, .int x.2)] → W p l e (zg_rm 1) s m args below meth c H locs 0 0 Q (F0 m 97 ls []) := by
      intro v3
      refine zf_loop_W (fun x : zs_T × Int32 => ∀ (H : Heap) (locs : List Loc) (ls : Array Slot), zg_W D cs A s (wX q cs x.1) H locs → lv_has ls 6 [(0, .ref (q 8)), (3, .int v3), (4, .int x.2)] → W p l e (zg_rm 1) s m args below meth c H locs 0 0 Q (F0 m 97 ls [])) ?_
      intro ag97 x hag97 hf
      obtain ⟨u, v4⟩ := x
      intro H locs ls w hl
      replace hf : fX1_partCheeses_b97 N v3 (fun u v4 => ag97 (u, v4)) u v4 = some z := hf
      replace hl : lv_has ls 6 [(0, .ref (q 8)), (3, .int v3), (4, .int v4)] := hl
      replace w : zg_W D cs A s (wX q cs u) H locs := w
      unfold fX1_partCheeses_b97 at hf
      refine lv_iload hx hb dX1_partCheeses_97 (lv_at hl 2 rfl) ?_
      refine lv_bipush (v := 12) hx hb dX1_partCheeses_99 (by decide) ?_
      refine lv_icmp_ge (tgt := 128) hx hb dX1_partCheeses_101 (by decide) (fun h => ?_) (fun h => ?_)
      · replace hf := zf_t h hf
        refine lv_iload_n hx hb dX1_partCheeses_128 rfl (lv_at hl 1 rfl) ?_
        exact hret _ _ _ _ _ _ hf w dX1_partCheeses_129
      · replace hf := zf_f h hf
        refine lv_aload_n hx hb dX1_partCheeses_104 rfl (lv_at hl 0 rfl) ?_
        refine xg_8_0 C w lf_1_9 dX1_partCheeses_105 ?_
        refine lv_iload hx hb dX1_partCheeses_108 (lv_at hl 2 rfl) ?_
        refine lv_dup2_11 hx hb dX1_partCheeses_110 rfl rfl ?_
        obtain ⟨hi, hf⟩ := zf_gd hf
        refine xa_30 C w hi dX1_partCheeses_111 ?_
        refine lv_aload_n hx hb dX1_partCheeses_112 rfl (lv_at hl 0 rfl) ?_
        refine xg_8_1 C w lf_1_15 dX1_partCheeses_113 ?_
        refine lv_iload hx hb dX1_partCheeses_116 (lv_at hl 2 rfl) ?_
        obtain ⟨hi, hf⟩ := zf_gd hf
        refine xa_31 C w hi dX1_partCheeses_118 ?_
        refine lv_i2l hx hb dX1_partCheeses_119 rfl ?_
        refine lv_ladd hx hb dX1_partCheeses_120 ?_
        obtain ⟨hi, hf⟩ := zf_gd hf
        refine xs_30 C w hi dX1_partCheeses_121 (fun H locs w => ?_)
        refine lv_iinc (v := v4 + 1) (lv' := [(4, .int (v4 + 1)), (0, .ref (q 8)), (3, .int v3)]) hx hb dX1_partCheeses_122 hl (k := 2) rfl rfl (by decide) rfl (fun ls hl => ?_)
        refine lv_goto (tgt := 97) hx hb dX1_partCheeses_125 (by decide) ?_
        exact hag97 (zs_sb u 0 (vp_updL (zs_b u 0) v4.toNatClampNeg ((zs_b u 0 v4.toNatClampNeg) + ((zs_a u 21 v4.toNatClampNeg).toInt64))), v4 + 1) hf H locs ls w (lv_sub hl [1, 2, 0] rfl)
    exact lp97 _ _ _ hf H locs ls w (lv_sub hl [1, 2, 0] rfl)
  have hj71 : ∀ (u : zs_T) (v3 : Int32) (H : Heap) (locs : List Loc) (ls : Array Slot), zg_W D cs A s (wX q cs u) H locs → lv_has ls 6 [(0, .ref (q 8)), (3, .int v3)] → fX1_partCheeses_j71 N u v3 = some z → W p l e (zg_rm 1) s m args below meth c H locs 0 0 Q (F0 m 71 ls []) := by
    intro u v3 H locs ls w hl hf
    unfold fX1_partCheeses_j71 at hf
    refine lv_goto (tgt := 94) hx hb dX1_partCheeses_71 (by decide) ?_
    exact hj94 _ _ H locs ls w (lv_sub hl [0, 1] rfl) hf
  have hj44 : ∀ (u : zs_T) (v3 : Int32) (H : Heap) (locs : List Loc) (ls : Array Slot), zg_W D cs A s (wX q cs u) H locs → lv_has ls 6 [(0, .ref (q 8)), (1, .ref (q 29)), (3, .int v3)] → fX1_partCheeses_j44 N u v3 = some z → W p l e (zg_rm 1) s m args below meth c H locs 0 0 Q (F0 m 44 ls []) := by
    intro u v3 H locs ls w hl hf
    unfold fX1_partCheeses_j44 at hf
    refine lv_iconst (v := 0) hx hb dX1_partCheeses_44 (by decide) ?_
    refine lv_istore (lv' := [(4, .int 0), (0, .ref (q 8)), (1, .ref (q 29)), (3, .int v3)]) hx hb dX1_partCheeses_45 hl (by decide) rfl (fun ls hl => ?_)
    have lp47 : ∀ (n : Nat) (x : zs_T × Int32 × Int32), zf_loop (fun ag x => fX1_partCheeses_b47 N (fun u v3 v4 => ag (u, v3, v4)) x.1 x.2.1 x.2.2) n x = some z → ∀ (H : Heap) (locs : List Loc) (ls : Array Slot), zg_W D cs A s (wX q cs x.1) H locs → lv_has ls 6 [(0, .ref (q 8)), (1, .ref (q 29)), (3, .int x.2.1), (4, .int x.2.2)] → W p l e (zg_rm 1) s m args below meth c H locs 0 0 Q (F0 m 47 ls []) := by
      refine zf_loop_W (fun x : zs_T × Int32 × Int32 => ∀ (H : Heap) (locs : List Loc) (ls : Array Slot), zg_W D cs A s (wX q cs x.1) H locs → lv_has ls 6 [(0, .ref (q 8)), (1, .ref (q 29)), (3, .int x.2.1), (4, .int x.2.2)] → W p l e (zg_rm 1) s m args below meth c H locs 0 0 Q (F0 m 47 ls [])) ?_
      intro ag47 x hag47 hf
      obtain ⟨u, v3, v4⟩ := x
      intro H locs ls w hl
      replace hf : fX1_partCheeses_b47 N (fun u v3 v4 => ag47 (u, v3, v4)) u v3 v4 = some z := hf
      replace hl : lv_has ls 6 [(0, .ref (q 8)), (1, .ref (q 29)), (3, .int v3), (4, .int v4)] := hl
      replace w : zg_W D cs A s (wX q cs u) H locs := w
      unfold fX1_partCheeses_b47 at hf
      refine lv_iload hx hb dX1_partCheeses_47 (lv_at hl 3 rfl) ?_
      refine lv_bipush (v := 12) hx hb dX1_partCheeses_49 (by decide) ?_
      refine lv_icmp_ge (tgt := 94) hx hb dX1_partCheeses_51 (by decide) (fun h => ?_) (fun h => ?_)
      · replace hf := zf_t h hf
        exact hj94 _ _ H locs ls w (lv_sub hl [0, 2] rfl) hf
      · replace hf := zf_f h hf
        refine lv_iload_n hx hb dX1_partCheeses_54 rfl (lv_at hl 2 rfl) ?_
        refine lv_if_le (tgt := 94) hx hb dX1_partCheeses_55 (by decide) (fun h => ?_) (fun h => ?_)
        · replace hf := zf_t h hf
          exact hj94 _ _ H locs ls w (lv_sub hl [0, 2] rfl) hf
        · replace hf := zf_f h hf
          refine lv_aload_n hx hb dX1_partCheeses_58 rfl (lv_at hl 0 rfl) ?_
          refine lv_aload_n hx hb dX1_partCheeses_59 rfl (lv_at hl 1 rfl) ?_
          obtain ⟨r1, u2, hc, hf⟩ := zf_bi_ex hf
          refine zc_ri wX_ad w (zc_V C w (kX1_takeTurn l D q cs N _ _ hc _) cf_1_takeTurn ci_1_takeTurn lm_1_39 rcX_8 ⟨Nat.le_of_ble_eq_true rfl, Nat.le_of_ble_eq_true rfl⟩ hl.1 rfl (Nat.le_of_ble_eq_true rfl) dX1_partCheeses_60 ⟨Nat.le_refl _, Nat.le_refl _⟩) (fun H locs w => ?_)
          refine lv_istore (lv' := [(5, .int r1), (0, .ref (q 8)), (1, .ref (q 29)), (3, .int v3), (4, .int v4)]) hx hb dX1_partCheeses_63 hl (by decide) rfl (fun ls hl => ?_)
          refine lv_iload hx hb dX1_partCheeses_65 (lv_at hl 0 rfl) ?_
          refine lv_iconst (v := (-1)) hx hb dX1_partCheeses_67 (by decide) ?_
          refine lv_icmp_ne (tgt := 74) hx hb dX1_partCheeses_68 (by decide) (fun h => ?_) (fun h => ?_)
          · replace hf := zf_f h hf
            refine lv_aload_n hx hb dX1_partCheeses_74 rfl (lv_at hl 1 rfl) ?_
            refine xg_8_1 C w lf_1_15 dX1_partCheeses_75 ?_
            refine lv_iload hx hb dX1_partCheeses_78 (lv_at hl 0 rfl) ?_
            refine lv_dup2_11 hx hb dX1_partCheeses_80 rfl rfl ?_
            obtain ⟨hi, hf⟩ := zf_gd hf
            refine xa_31 C w hi dX1_partCheeses_81 ?_
            refine lv_iconst (v := 1) hx hb dX1_partCheeses_82 (by decide) ?_
            refine lv_iadd hx hb dX1_partCheeses_83 ?_
            obtain ⟨hi, hf⟩ := zf_gd hf
            refine xs_31 C w hi dX1_partCheeses_84 (fun H locs w => ?_)
            refine lv_iinc (v := v3 + (-1)) (lv' := [(3, .int (v3 + (-1))), (5, .int r1), (0, .ref (q 8)), (1, .ref (q 29)), (4, .int v4)]) hx hb dX1_partCheeses_85 hl (k := 3) rfl rfl (by decide) rfl (fun ls hl => ?_)
            refine lv_iinc (v := v4 + 1) (lv' := [(4, .int (v4 + 1)), (3, .int (v3 + (-1))), (5, .int r1), (0, .ref (q 8)), (1, .ref (q 29))]) hx hb dX1_partCheeses_88 hl (k := 4) rfl rfl (by decide) rfl (fun ls hl => ?_)
            refine lv_goto (tgt := 47) hx hb dX1_partCheeses_91 (by decide) ?_
            exact hag47 (zs_sa u2 21 (upd (zs_a u2 21) r1.toNatClampNeg ((zs_a u2 21 r1.toNatClampNeg) + 1)), v3 + (-1), v4 + 1) hf H locs ls w (lv_sub hl [3, 4, 1, 0] rfl)
          · replace hf := zf_t h hf
            exact hj71 _ _ H locs ls w (lv_sub hl [1, 3] rfl) hf
    exact lp47 _ _ hf H locs ls w (lv_sub hl [1, 2, 3, 0] rfl)
  unfold fX1_partCheeses at hf
  refine lv_iload_n hx hb dX1_partCheeses_0 rfl (lv_at hl 2 rfl) ?_
  refine lv_istore_n (lv' := [(3, .int v2), (0, .ref (q 8)), (1, .ref (q 29)), (2, .int v2)]) hx hb dX1_partCheeses_1 rfl hl (by decide) rfl (fun ls hl => ?_)
  refine lv_iconst (v := 0) hx hb dX1_partCheeses_2 (by decide) ?_
  refine lv_istore (lv' := [(4, .int 0), (3, .int v2), (0, .ref (q 8)), (1, .ref (q 29)), (2, .int v2)]) hx hb dX1_partCheeses_3 hl (by decide) rfl (fun ls hl => ?_)
  have lp5 : ∀ (v2 : Int32) (n : Nat) (x : zs_T × Int32 × Int32), zf_loop (fun ag x => fX1_partCheeses_b5 N v2 (fun u v3 v4 => ag (u, v3, v4)) x.1 x.2.1 x.2.2) n x = some z → ∀ (H : Heap) (locs : List Loc) (ls : Array Slot), zg_W D cs A s (wX q cs x.1) H locs → lv_has ls 6 [(0, .ref (q 8)), (1, .ref (q 29)), (2, .int v2), (3, .int x.2.1), (4, .int x.2.2)] → W p l e (zg_rm 1) s m args below meth c H locs 0 0 Q (F0 m 5 ls []) := by
    intro v2
    refine zf_loop_W (fun x : zs_T × Int32 × Int32 => ∀ (H : Heap) (locs : List Loc) (ls : Array Slot), zg_W D cs A s (wX q cs x.1) H locs → lv_has ls 6 [(0, .ref (q 8)), (1, .ref (q 29)), (2, .int v2), (3, .int x.2.1), (4, .int x.2.2)] → W p l e (zg_rm 1) s m args below meth c H locs 0 0 Q (F0 m 5 ls [])) ?_
    intro ag5 x hag5 hf
    obtain ⟨u, v3, v4⟩ := x
    intro H locs ls w hl
    replace hf : fX1_partCheeses_b5 N v2 (fun u v3 v4 => ag5 (u, v3, v4)) u v3 v4 = some z := hf
    replace hl : lv_has ls 6 [(0, .ref (q 8)), (1, .ref (q 29)), (2, .int v2), (3, .int v3), (4, .int v4)] := hl
    replace w : zg_W D cs A s (wX q cs u) H locs := w
    unfold fX1_partCheeses_b5 at hf
    refine lv_iload hx hb dX1_partCheeses_5 (lv_at hl 4 rfl) ?_
    refine lv_bipush (v := 12) hx hb dX1_partCheeses_7 (by decide) ?_
    refine lv_icmp_ge (tgt := 44) hx hb dX1_partCheeses_9 (by decide) (fun h => ?_) (fun h => ?_)
    · replace hf := zf_t h hf
      exact hj44 _ _ H locs ls w (lv_sub hl [0, 1, 3] rfl) hf
    · replace hf := zf_f h hf
      refine lv_aload_n hx hb dX1_partCheeses_12 rfl (lv_at hl 0 rfl) ?_
      refine xg_8_1 C w lf_1_15 dX1_partCheeses_13 ?_
      refine lv_iload hx hb dX1_partCheeses_16 (lv_at hl 4 rfl) ?_
      refine lv_iload_n hx hb dX1_partCheeses_18 rfl (lv_at hl 2 rfl) ?_
      refine lv_i2l hx hb dX1_partCheeses_19 rfl ?_
      refine lv_iload hx hb dX1_partCheeses_20 (lv_at hl 4 rfl) ?_
      refine lv_aload_n hx hb dX1_partCheeses_22 rfl (lv_at hl 1 rfl) ?_
      obtain ⟨r3, hc, hf⟩ := zf_bp_ex hf
      refine zc_rl wX_ad w (zc_S C w (kX1_shareOf l D q cs N _ _ _ _ hc _) cf_1_shareOf ci_1_shareOf lm_1_35 ⟨Nat.le_of_ble_eq_true rfl, Nat.le_of_ble_eq_true rfl⟩ hl.1 rfl (Nat.le_of_ble_eq_true rfl) dX1_partCheeses_23 ⟨Nat.le_refl _, Nat.le_refl _⟩) (fun H locs w => ?_)
      refine lv_l2i hx hb dX1_partCheeses_26 rfl ?_
      obtain ⟨hi, hf⟩ := zf_gd hf
      refine xs_31 C w hi dX1_partCheeses_27 (fun H locs w => ?_)
      refine lv_iload_n hx hb dX1_partCheeses_28 rfl (lv_at hl 3 rfl) ?_
      refine lv_aload_n hx hb dX1_partCheeses_29 rfl (lv_at hl 0 rfl) ?_
      refine xg_8_1 C w lf_1_15 dX1_partCheeses_30 ?_
      refine lv_iload hx hb dX1_partCheeses_33 (lv_at hl 4 rfl) ?_
      obtain ⟨hi, hf⟩ := zf_gd hf
      refine xa_31 C w hi dX1_partCheeses_35 ?_
      refine lv_isub hx hb dX1_partCheeses_36 ?_
      refine lv_istore_n (lv' := [(3, .int (v3 - (zs_a (zs_sa u 21 (upd (zs_a u 21) v4.toNatClampNeg r3.toInt32)) 21 v4.toNatClampNeg))), (0, .ref (q 8)), (1, .ref (q 29)), (2, .int v2), (4, .int v4)]) hx hb dX1_partCheeses_37 rfl hl (by decide) rfl (fun ls hl => ?_)
      refine lv_iinc (v := v4 + 1) (lv' := [(4, .int (v4 + 1)), (3, .int (v3 - (zs_a (zs_sa u 21 (upd (zs_a u 21) v4.toNatClampNeg r3.toInt32)) 21 v4.toNatClampNeg))), (0, .ref (q 8)), (1, .ref (q 29)), (2, .int v2)]) hx hb dX1_partCheeses_38 hl (k := 4) rfl rfl (by decide) rfl (fun ls hl => ?_)
      refine lv_goto (tgt := 5) hx hb dX1_partCheeses_41 (by decide) ?_
      exact hag5 (zs_sa u 21 (upd (zs_a u 21) v4.toNatClampNeg r3.toInt32), v3 - (zs_a (zs_sa u 21 (upd (zs_a u 21) v4.toNatClampNeg r3.toInt32)) 21 v4.toNatClampNeg), v4 + 1) hf H locs ls w (lv_sub hl [2, 3, 4, 1, 0] rfl)
  exact lp5 _ _ _ hf H locs ls w (lv_sub hl [2, 3, 4, 1, 0] rfl)
def fX1_oweWork_b2 (N : Nat) (v2 : Int32) (ag2 : zs_T → Int32 → Option zs_T) (u : zs_T) (v3 : Int32) : Option zs_T :=
  (if 12 ≤ v3 then some u else (if zf_in v3 12 then (if zf_in v3 12 then (if zf_in v3 12 then ag2 (zs_sb u 1 (vp_updL (zs_b u 1) v3.toNatClampNeg ((zs_b u 1 v3.toNatClampNeg) + (((v2.toInt64 * ((zs_a u 20 v3.toNatClampNeg).toInt64)) + 999) / 1000)))) (v3 + 1) else none) else none) else none))
def fX1_oweWork (N : Nat) (u : zs_T) (v2 : Int32) : Option zs_T :=
  zf_loop (fun ag x => fX1_oweWork_b2 N v2 (fun u v3 => ag (u, v3)) x.1 x.2) N (u, 0)
set_option maxHeartbeats 4000000 in
set_option maxRecDepth 100000 in
theorem kX1_oweWork (l : Launch) (D : va_G) (q : Nat → Nat) (cs : Nat → ClassId) (N : Nat) (u : zs_T) (v2 : Int32) (z : zs_T) (hf : fX1_oweWork N u v2 = some z) : zg_Cv l yX1_oweWork cX1_oweWork 4 none 0 D cs (wX q cs) u [.ref (q 8), .ref (q 29), .int v2] z := by
  refine zg_Cv_of (own := RX1) (by decide) rfl wX_ad (Nat.le_of_ble_eq_true rfl) ?_
  intro p e s m args below meth c A Q C hret w ls hl
  obtain ⟨hx, hb, -⟩ := id C
  have hl : lv_has ls 4 [(0, .ref (q 8)), (1, .ref (q 29)), (2, .int v2)] := hl
  generalize hH : s.heap = H at w ⊢
  generalize hLc : ([] : List Loc) = locs at w ⊢
  unfold fX1_oweWork at hf
  refine lv_iconst (v := 0) hx hb dX1_oweWork_0 (by decide) ?_
  refine lv_istore_n (lv' := [(3, .int 0), (0, .ref (q 8)), (1, .ref (q 29)), (2, .int v2)]) hx hb dX1_oweWork_1 rfl hl (by decide) rfl (fun ls hl => ?_)
  have lp2 : ∀ (v2 : Int32) (n : Nat) (x : zs_T × Int32), zf_loop (fun ag x => fX1_oweWork_b2 N v2 (fun u v3 => ag (u, v3)) x.1 x.2) n x = some z → ∀ (H : Heap) (locs : List Loc) (ls : Array Slot), zg_W D cs A s (wX q cs x.1) H locs → lv_has ls 4 [(0, .ref (q 8)), (1, .ref (q 29)), (2, .int v2), (3, .int x.2)] → W p l e (zg_rm 0) s m args below meth c H locs 0 0 Q (F0 m 2 ls []) := by
    intro v2
    refine zf_loop_W (fun x : zs_T × Int32 => ∀ (H : Heap) (locs : List Loc) (ls : Array Slot), zg_W D cs A s (wX q cs x.1) H locs → lv_has ls 4 [(0, .ref (q 8)), (1, .ref (q 29)), (2, .int v2), (3, .int x.2)] → W p l e (zg_rm 0) s m args below meth c H locs 0 0 Q (F0 m 2 ls [])) ?_
    intro ag2 x hag2 hf
    obtain ⟨u, v3⟩ := x
    intro H locs ls w hl
    replace hf : fX1_oweWork_b2 N v2 (fun u v3 => ag2 (u, v3)) u v3 = some z := hf
    replace hl : lv_has ls 4 [(0, .ref (q 8)), (1, .ref (q 29)), (2, .int v2), (3, .int v3)] := hl
    replace w : zg_W D cs A s (wX q cs u) H locs := w
    unfold fX1_oweWork_b2 at hf
    refine lv_iload_n hx hb dX1_oweWork_2 rfl (lv_at hl 3 rfl) ?_
    refine lv_bipush (v := 12) hx hb dX1_oweWork_3 (by decide) ?_
    refine lv_icmp_ge (tgt := 38) hx hb dX1_oweWork_5 (by decide) (fun h => ?_) (fun h => ?_)
    · replace hf := zf_t h hf
      exact hret _ _ _ _ _ hf w dX1_oweWork_38
    · replace hf := zf_f h hf
      refine lv_aload_n hx hb dX1_oweWork_8 rfl (lv_at hl 0 rfl) ?_
      refine xg_8_2 C w lf_1_19 dX1_oweWork_9 ?_
      refine lv_iload_n hx hb dX1_oweWork_12 rfl (lv_at hl 3 rfl) ?_
      refine lv_dup2_11 hx hb dX1_oweWork_13 rfl rfl ?_
      obtain ⟨hi, hf⟩ := zf_gd hf
      refine xa_32 C w hi dX1_oweWork_14 ?_
      refine lv_iload_n hx hb dX1_oweWork_15 rfl (lv_at hl 2 rfl) ?_
      refine lv_i2l hx hb dX1_oweWork_16 rfl ?_
      refine lv_aload_n hx hb dX1_oweWork_17 rfl (lv_at hl 1 rfl) ?_
      refine lv_iload_n hx hb dX1_oweWork_18 rfl (lv_at hl 3 rfl) ?_
      obtain ⟨hi, hf⟩ := zf_gd hf
      refine xa_29 C w hi dX1_oweWork_19 ?_
      refine lv_i2l hx hb dX1_oweWork_20 rfl ?_
      refine lv_lmul hx hb dX1_oweWork_21 ?_
      refine zr_ldc2 C lc_1_43 dX1_oweWork_22 ?_
      refine lv_ladd hx hb dX1_oweWork_25 ?_
      refine zr_ldc2 C lc_1_45 dX1_oweWork_26 ?_
      refine lv_ldiv hx hb dX1_oweWork_29 (by decide) ?_
      refine lv_ladd hx hb dX1_oweWork_30 ?_
      obtain ⟨hi, hf⟩ := zf_gd hf
      refine xs_32 C w hi dX1_oweWork_31 (fun H locs w => ?_)
      refine lv_iinc (v := v3 + 1) (lv' := [(3, .int (v3 + 1)), (0, .ref (q 8)), (1, .ref (q 29)), (2, .int v2)]) hx hb dX1_oweWork_32 hl (k := 3) rfl rfl (by decide) rfl (fun ls hl => ?_)
      refine lv_goto (tgt := 2) hx hb dX1_oweWork_35 (by decide) ?_
      exact hag2 (zs_sb u 1 (vp_updL (zs_b u 1) v3.toNatClampNeg ((zs_b u 1 v3.toNatClampNeg) + (((v2.toInt64 * ((zs_a u 20 v3.toNatClampNeg).toInt64)) + 999) / 1000))), v3 + 1) hf H locs ls w (lv_sub hl [1, 2, 3, 0] rfl)
  exact lp2 _ _ _ hf H locs ls w (lv_sub hl [1, 2, 3, 0] rfl)
def fX1_payLosses_j76 (N : Nat) (ag8 : zs_T → Int32 → Option zs_T) (u : zs_T) (v3 : Int32) (v4 : Int32) (v5 : Int32) : Option zs_T :=
  (if zf_in (zs_i u 14) 12 then (if zf_in (zs_i u 14) 12 then ag8 (zs_sl (zs_sb u 2 (vp_updL (zs_b u 2) (zs_i u 14).toNatClampNeg ((zs_b u 2 (zs_i u 14).toNatClampNeg) + v4.toInt64))) 2 ((zs_l (zs_sb u 2 (vp_updL (zs_b u 2) (zs_i u 14).toNatClampNeg ((zs_b u 2 (zs_i u 14).toNatClampNeg) + v4.toInt64))) 2) + v4.toInt64)) (v5 + 1) else none) else none)
def fX1_payLosses_j62 (N : Nat) (ag8 : zs_T → Int32 → Option zs_T) (u : zs_T) (v3 : Int32) (v4 : Int32) (v5 : Int32) (t0 : Int32) : Option zs_T :=
  (if zs_i u 16 = 0 then (if t0 = 0 then ag8 u (v5 + 1) else fX1_payLosses_j76 N ag8 u v3 v4 v5) else fX1_payLosses_j76 N ag8 u v3 v4 v5)
def fX1_payLosses_j61 (N : Nat) (ag8 : zs_T → Int32 → Option zs_T) (u : zs_T) (v3 : Int32) (v4 : Int32) (v5 : Int32) : Option zs_T :=
  fX1_payLosses_j62 N ag8 u v3 v4 v5 0
def fX1_payLosses_b8 (N : Nat) (v3 : Int32) (v4 : Int32) (ag8 : zs_T → Int32 → Option zs_T) (u : zs_T) (v5 : Int32) : Option zs_T :=
  (if zs_i u 12 ≤ v5 then some u else (if zf_in v5 80 then (if zs_a u 12 v5.toNatClampNeg = 0 then (zf_bi (fX7_replay N u v5 (zs_i u 13) v3) fun r1 u2 => (if zs_i u2 17 ≤ 0 then fX1_payLosses_j61 N ag8 u2 v3 v4 v5 else (if zs_i u2 15 = 0 then fX1_payLosses_j62 N ag8 u2 v3 v4 v5 1 else fX1_payLosses_j61 N ag8 u2 v3 v4 v5))) else ag8 u (v5 + 1)) else none))
def fX1_payLosses (N : Nat) (u : zs_T) (v3 : Int32) (v4 : Int32) : Option zs_T :=
  zf_loop (fun ag x => fX1_payLosses_b8 N v3 v4 (fun u v5 => ag (u, v5)) x.1 x.2) N (zs_sl u 2 0, 0)
set_option maxHeartbeats 4000000 in
set_option maxRecDepth 100000 in
theorem kX1_payLosses (l : Launch) (D : va_G) (q : Nat → Nat) (cs : Nat → ClassId) (N : Nat) (u : zs_T) (v3 : Int32) (v4 : Int32) (z : zs_T) (hf : fX1_payLosses N u v3 v4 = some z) : zg_Cv l yX1_payLosses cX1_payLosses 7 none 3 D cs (wX q cs) u [.ref (q 8), .ref (q 5), .ref (q 6), .int v3, .int v4] z := by
  refine zg_Cv_of (own := RX1) (by decide) rfl wX_ad (Nat.le_of_ble_eq_true rfl) ?_
  intro p e s m args below meth c A Q C hret w ls hl
  obtain ⟨hx, hb, -⟩ := id C
  have hl : lv_has ls 7 [(0, .ref (q 8)), (1, .ref (q 5)), (2, .ref (q 6)), (3, .int v3), (4, .int v4)] := hl
  generalize hH : s.heap = H at w ⊢
  generalize hLc : ([] : List Loc) = locs at w ⊢
  unfold fX1_payLosses at hf
  refine lv_aload_n hx hb dX1_payLosses_0 rfl (lv_at hl 0 rfl) ?_
  refine lv_lconst (v := 0) hx hb dX1_payLosses_1 (by decide) ?_
  refine xp_8_6 C w lf_1_32 dX1_payLosses_2 (fun H locs w => ?_)
  refine lv_iconst (v := 0) hx hb dX1_payLosses_5 (by decide) ?_
  refine lv_istore (lv' := [(5, .int 0), (0, .ref (q 8)), (1, .ref (q 5)), (2, .ref (q 6)), (3, .int v3), (4, .int v4)]) hx hb dX1_payLosses_6 hl (by decide) rfl (fun ls hl => ?_)
  have lp8 : ∀ (v3 : Int32) (v4 : Int32) (n : Nat) (x : zs_T × Int32), zf_loop (fun ag x => fX1_payLosses_b8 N v3 v4 (fun u v5 => ag (u, v5)) x.1 x.2) n x = some z → ∀ (H : Heap) (locs : List Loc) (ls : Array Slot), zg_W D cs A s (wX q cs x.1) H locs → lv_has ls 7 [(0, .ref (q 8)), (1, .ref (q 5)), (2, .ref (q 6)), (3, .int v3), (4, .int v4), (5, .int x.2)] → W p l e (zg_rm 3) s m args below meth c H locs 0 0 Q (F0 m 8 ls []) := by
    intro v3 v4
    refine zf_loop_W (fun x : zs_T × Int32 => ∀ (H : Heap) (locs : List Loc) (ls : Array Slot), zg_W D cs A s (wX q cs x.1) H locs → lv_has ls 7 [(0, .ref (q 8)), (1, .ref (q 5)), (2, .ref (q 6)), (3, .int v3), (4, .int v4), (5, .int x.2)] → W p l e (zg_rm 3) s m args below meth c H locs 0 0 Q (F0 m 8 ls [])) ?_
    intro ag8 x hag8 hf
    obtain ⟨u, v5⟩ := x
    intro H locs ls w hl
    replace hf : fX1_payLosses_b8 N v3 v4 (fun u v5 => ag8 (u, v5)) u v5 = some z := hf
    replace hl : lv_has ls 7 [(0, .ref (q 8)), (1, .ref (q 5)), (2, .ref (q 6)), (3, .int v3), (4, .int v4), (5, .int v5)] := hl
    replace w : zg_W D cs A s (wX q cs u) H locs := w
    have hj76 : ∀ (u : zs_T) (v5 : Int32) (H : Heap) (locs : List Loc) (ls : Array Slot), zg_W D cs A s (wX q cs u) H locs → lv_has ls 7 [(0, .ref (q 8)), (1, .ref (q 5)), (2, .ref (q 6)), (3, .int v3), (4, .int v4), (5, .int v5)] → fX1_payLosses_j76 N (fun u v5 => ag8 (u, v5)) u v3 v4 v5 = some z → W p l e (zg_rm 3) s m args below meth c H locs 0 0 Q (F0 m 76 ls []) := by
      intro u v5 H locs ls w hl hf
      unfold fX1_payLosses_j76 at hf
      refine lv_aload_n hx hb dX1_payLosses_76 rfl (lv_at hl 0 rfl) ?_
      refine xg_8_3 C w lf_1_22 dX1_payLosses_77 ?_
      refine lv_aload_n hx hb dX1_payLosses_80 rfl (lv_at hl 2 rfl) ?_
      refine xg_6_0 C w lf_1_76 dX1_payLosses_81 ?_
      refine lv_dup2_11 hx hb dX1_payLosses_84 rfl rfl ?_
      obtain ⟨hi, hf⟩ := zf_gd hf
      refine xa_33 C w hi dX1_payLosses_85 ?_
      refine lv_iload hx hb dX1_payLosses_86 (lv_at hl 4 rfl) ?_
      refine lv_i2l hx hb dX1_payLosses_88 rfl ?_
      refine lv_ladd hx hb dX1_payLosses_89 ?_
      obtain ⟨hi, hf⟩ := zf_gd hf
      refine xs_33 C w hi dX1_payLosses_90 (fun H locs w => ?_)
      refine lv_aload_n hx hb dX1_payLosses_91 rfl (lv_at hl 0 rfl) ?_
      refine lv_dup hx hb dX1_payLosses_92 rfl ?_
      refine xg_8_6 C w lf_1_32 dX1_payLosses_93 ?_
      refine lv_iload hx hb dX1_payLosses_96 (lv_at hl 4 rfl) ?_
      refine lv_i2l hx hb dX1_payLosses_98 rfl ?_
      refine lv_ladd hx hb dX1_payLosses_99 ?_
      refine xp_8_6 C w lf_1_32 dX1_payLosses_100 (fun H locs w => ?_)
      refine lv_iinc (v := v5 + 1) (lv' := [(5, .int (v5 + 1)), (0, .ref (q 8)), (1, .ref (q 5)), (2, .ref (q 6)), (3, .int v3), (4, .int v4)]) hx hb dX1_payLosses_103 hl (k := 5) rfl rfl (by decide) rfl (fun ls hl => ?_)
      refine lv_goto (tgt := 8) hx hb dX1_payLosses_106 (by decide) ?_
      exact hag8 (zs_sl (zs_sb u 2 (vp_updL (zs_b u 2) (zs_i u 14).toNatClampNeg ((zs_b u 2 (zs_i u 14).toNatClampNeg) + v4.toInt64))) 2 ((zs_l (zs_sb u 2 (vp_updL (zs_b u 2) (zs_i u 14).toNatClampNeg ((zs_b u 2 (zs_i u 14).toNatClampNeg) + v4.toInt64))) 2) + v4.toInt64), v5 + 1) hf H locs ls w (lv_sub hl [1, 2, 3, 4, 5, 0] rfl)
    have hj62 : ∀ (u : zs_T) (v5 : Int32) (t0 : Int32) (H : Heap) (locs : List Loc) (ls : Array Slot), zg_W D cs A s (wX q cs u) H locs → lv_has ls 7 [(0, .ref (q 8)), (1, .ref (q 5)), (2, .ref (q 6)), (3, .int v3), (4, .int v4), (5, .int v5)] → fX1_payLosses_j62 N (fun u v5 => ag8 (u, v5)) u v3 v4 v5 t0 = some z → W p l e (zg_rm 3) s m args below meth c H locs 0 0 Q (F0 m 62 ls [.int t0]) := by
      intro u v5 t0 H locs ls w hl hf
      unfold fX1_payLosses_j62 at hf
      refine lv_istore (lv' := [(6, .int t0), (0, .ref (q 8)), (1, .ref (q 5)), (2, .ref (q 6)), (3, .int v3), (4, .int v4), (5, .int v5)]) hx hb dX1_payLosses_62 hl (by decide) rfl (fun ls hl => ?_)
      refine lv_aload_n hx hb dX1_payLosses_64 rfl (lv_at hl 3 rfl) ?_
      refine xg_6_2 C w lf_1_73 dX1_payLosses_65 ?_
      refine lv_if_ne (tgt := 76) hx hb dX1_payLosses_68 (by decide) (fun h => ?_) (fun h => ?_)
      · replace hf := zf_f h hf
        exact hj76 _ _ H locs ls w (lv_sub hl [1, 2, 3, 4, 5, 6] rfl) hf
      · replace hf := zf_t h hf
        refine lv_iload hx hb dX1_payLosses_71 (lv_at hl 0 rfl) ?_
        refine lv_if_eq (tgt := 103) hx hb dX1_payLosses_73 (by decide) (fun h => ?_) (fun h => ?_)
        · replace hf := zf_t h hf
          refine lv_iinc (v := v5 + 1) (lv' := [(5, .int (v5 + 1)), (6, .int t0), (0, .ref (q 8)), (1, .ref (q 5)), (2, .ref (q 6)), (3, .int v3), (4, .int v4)]) hx hb dX1_payLosses_103 hl (k := 6) rfl rfl (by decide) rfl (fun ls hl => ?_)
          refine lv_goto (tgt := 8) hx hb dX1_payLosses_106 (by decide) ?_
          exact hag8 (u, v5 + 1) hf H locs ls w (lv_sub hl [2, 3, 4, 5, 6, 0] rfl)
        · replace hf := zf_f h hf
          exact hj76 _ _ H locs ls w (lv_sub hl [1, 2, 3, 4, 5, 6] rfl) hf
    have hj61 : ∀ (u : zs_T) (v5 : Int32) (H : Heap) (locs : List Loc) (ls : Array Slot), zg_W D cs A s (wX q cs u) H locs → lv_has ls 7 [(0, .ref (q 8)), (1, .ref (q 5)), (2, .ref (q 6)), (3, .int v3), (4, .int v4), (5, .int v5)] → fX1_payLosses_j61 N (fun u v5 => ag8 (u, v5)) u v3 v4 v5 = some z → W p l e (zg_rm 3) s m args below meth c H locs 0 0 Q (F0 m 61 ls []) := by
      intro u v5 H locs ls w hl hf
      unfold fX1_payLosses_j61 at hf
      refine lv_iconst (v := 0) hx hb dX1_payLosses_61 (by decide) ?_
      exact hj62 _ _ _ H locs ls w (lv_sub hl [0, 1, 2, 3, 4, 5] rfl) hf
    unfold fX1_payLosses_b8 at hf
    refine lv_iload hx hb dX1_payLosses_8 (lv_at hl 5 rfl) ?_
    refine lv_aload_n hx hb dX1_payLosses_10 rfl (lv_at hl 1 rfl) ?_
    refine xg_5_2 C w lf_1_47 dX1_payLosses_11 ?_
    refine lv_icmp_ge (tgt := 109) hx hb dX1_payLosses_14 (by decide) (fun h => ?_) (fun h => ?_)
    · replace hf := zf_t h hf
      exact hret _ _ _ _ _ hf w dX1_payLosses_109
    · replace hf := zf_f h hf
      refine lv_aload_n hx hb dX1_payLosses_17 rfl (lv_at hl 1 rfl) ?_
      refine xg_5_1 C w lf_1_53 dX1_payLosses_18 ?_
      refine lv_iload hx hb dX1_payLosses_21 (lv_at hl 5 rfl) ?_
      obtain ⟨hi, hf⟩ := zf_gd hf
      refine xa_21 C w hi dX1_payLosses_23 ?_
      refine lv_if_eq (tgt := 30) hx hb dX1_payLosses_24 (by decide) (fun h => ?_) (fun h => ?_)
      · replace hf := zf_t h hf
        refine lv_aload_n hx hb dX1_payLosses_30 rfl (lv_at hl 2 rfl) ?_
        refine lv_aload_n hx hb dX1_payLosses_31 rfl (lv_at hl 1 rfl) ?_
        refine lv_iload hx hb dX1_payLosses_32 (lv_at hl 5 rfl) ?_
        refine lv_aload_n hx hb dX1_payLosses_34 rfl (lv_at hl 1 rfl) ?_
        refine xg_5_8 C w lf_1_57 dX1_payLosses_35 ?_
        refine lv_iload_n hx hb dX1_payLosses_38 rfl (lv_at hl 3 rfl) ?_
        obtain ⟨r1, u2, hc, hf⟩ := zf_bi_ex hf
        refine zc_ri wX_ad w (zc_V C w (kX7_replay l D q cs N _ _ _ _ _ hc _) cf_7_replay ci_7_replay lm_1_60 rcX_6 ⟨Nat.le_of_ble_eq_true rfl, Nat.le_of_ble_eq_true rfl⟩ hl.1 rfl (Nat.le_of_ble_eq_true rfl) dX1_payLosses_39 ⟨Nat.le_refl _, Nat.le_refl _⟩) (fun H locs w => ?_)
        refine lv_pop hx hb dX1_payLosses_42 rfl ?_
        refine lv_aload_n hx hb dX1_payLosses_43 rfl (lv_at hl 2 rfl) ?_
        refine xg_6_3 C w lf_1_66 dX1_payLosses_44 ?_
        refine lv_if_le (tgt := 61) hx hb dX1_payLosses_47 (by decide) (fun h => ?_) (fun h => ?_)
        · replace hf := zf_t h hf
          exact hj61 _ _ H locs ls w (lv_sub hl [0, 1, 2, 3, 4, 5] rfl) hf
        · replace hf := zf_f h hf
          refine lv_aload_n hx hb dX1_payLosses_50 rfl (lv_at hl 2 rfl) ?_
          refine xg_6_1 C w lf_1_69 dX1_payLosses_51 ?_
          refine lv_if_ne (tgt := 61) hx hb dX1_payLosses_54 (by decide) (fun h => ?_) (fun h => ?_)
          · replace hf := zf_f h hf
            exact hj61 _ _ H locs ls w (lv_sub hl [0, 1, 2, 3, 4, 5] rfl) hf
          · replace hf := zf_t h hf
            refine lv_iconst (v := 1) hx hb dX1_payLosses_57 (by decide) ?_
            refine lv_goto (tgt := 62) hx hb dX1_payLosses_58 (by decide) ?_
            exact hj62 _ _ _ H locs ls w (lv_sub hl [0, 1, 2, 3, 4, 5] rfl) hf
      · replace hf := zf_f h hf
        refine lv_goto (tgt := 103) hx hb dX1_payLosses_27 (by decide) ?_
        refine lv_iinc (v := v5 + 1) (lv' := [(5, .int (v5 + 1)), (0, .ref (q 8)), (1, .ref (q 5)), (2, .ref (q 6)), (3, .int v3), (4, .int v4)]) hx hb dX1_payLosses_103 hl (k := 5) rfl rfl (by decide) rfl (fun ls hl => ?_)
        refine lv_goto (tgt := 8) hx hb dX1_payLosses_106 (by decide) ?_
        exact hag8 (u, v5 + 1) hf H locs ls w (lv_sub hl [1, 2, 3, 4, 5, 0] rfl)
  exact lp8 _ _ _ _ hf H locs ls w (lv_sub hl [1, 2, 3, 4, 5, 0] rfl)
