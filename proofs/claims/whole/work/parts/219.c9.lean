def fM9_day_j79 (N : Nat) (u : zs_T) (v1 : Int32) : Option (Int32 × zs_T) :=
  (zf_bv (fM9_grows N u v1) fun u2 => (if zs_i u2 7 = (-1) then some (zs_i u2 10, u2) else (zf_bi (fM9_ups N u2 (zs_i u2 10)) fun r3 u4 => (zf_bi (fM9_eats u4 (zs_i u4 7) r3) fun r5 u6 => some (zs_i (zs_sl (zs_si u6 11 ((zs_i u6 11) + r5)) 0 (((zs_l (zs_si u6 11 ((zs_i u6 11) + r5)) 0) + ((10 * r3).toInt64)) - r5.toInt64)) 10, zs_sl (zs_si u6 11 ((zs_i u6 11) + r5)) 0 (((zs_l (zs_si u6 11 ((zs_i u6 11) + r5)) 0) + ((10 * r3).toInt64)) - r5.toInt64))))))
def fM9_day_j63 (N : Nat) (u : zs_T) (v1 : Int32) (t0 : Int32) (t1 : Int32) : Option (Int32 × zs_T) :=
  (if 0 ≤ zs_i (zs_si u 8 (t1 - t0)) 8 then fM9_day_j79 N (zs_si u 8 (t1 - t0)) v1 else fM9_day_j79 N (zs_si (zs_si u 8 (t1 - t0)) 8 0) v1)
def fM9_day (N : Nat) (u : zs_T) (v1 : Int32) (v2 : Int32) : Option (Int32 × zs_T) :=
  (if v1 < (-30) then some ((-1), u) else (if 40 < v1 then some ((-1), u) else (if v2 < 0 then some ((-1), u) else (if 300 < v2 then some ((-1), u) else (if zs_i u 10 = 150 then some ((-1), u) else (if v1 ≤ 0 then fM9_day_j63 N (zs_si u 10 ((zs_i u 10) + 1)) v1 0 ((zs_i (zs_si u 10 ((zs_i u 10) + 1)) 8) + v2) else fM9_day_j63 N (zs_si u 10 ((zs_i u 10) + 1)) v1 (4 * v1) ((zs_i (zs_si u 10 ((zs_i u 10) + 1)) 8) + v2)))))))
set_option maxHeartbeats 4000000 in
set_option maxRecDepth 100000 in
theorem kM9_day (l : Launch) (D : va_G) (q : Nat → Nat) (cs : Nat → ClassId) (N : Nat) (u : zs_T) (v1 : Int32) (v2 : Int32) (z : (Int32 × zs_T)) (hf : fM9_day N u v1 v2 = some z) : zg_Ci l yX9_day cX9_day 5 (some .int) 3 D cs (wM q cs) u [.ref (q 0), .int v1, .int v2] z.1 z.2 := by
  refine zg_Ci_of (own := RX9) (by decide) rfl wM_ad (Nat.le_of_ble_eq_true rfl) ?_
  intro p e s m args below meth c A Q C hret w ls hl
  obtain ⟨hx, hb, -⟩ := id C
  have hl : lv_has ls 5 [(0, .ref (q 0)), (1, .int v1), (2, .int v2)] := hl
  generalize hH : s.heap = H at w ⊢
  generalize hLc : ([] : List Loc) = locs at w ⊢
  have hj79 : ∀ (u : zs_T) (v1 : Int32) (H : Heap) (locs : List Loc) (ls : Array Slot), zg_W D cs A s (wM q cs u) H locs → lv_has ls 5 [(0, .ref (q 0)), (1, .int v1)] → fM9_day_j79 N u v1 = some z → W p l e (zg_rm 3) s m args below meth c H locs 0 0 Q (F0 m 79 ls []) := by
    intro u v1 H locs ls w hl hf
    unfold fM9_day_j79 at hf
    refine lv_aload_n hx hb dX9_day_79 rfl (lv_at hl 0 rfl) ?_
    refine lv_iload_n hx hb dX9_day_80 rfl (lv_at hl 1 rfl) ?_
    obtain ⟨u2, hc, hf⟩ := zf_bv_ex hf
    refine zc_rv wM_ad w (zc_V C w (kM9_grows l D q cs N _ _ _ hc _) cf_9_grows ci_9_grows lm_9_139 rcM_0 ⟨Nat.le_of_ble_eq_true rfl, Nat.le_of_ble_eq_true rfl⟩ hl.1 rfl (Nat.le_of_ble_eq_true rfl) dX9_day_81 ⟨Nat.le_refl _, Nat.le_refl _⟩) (fun H locs w => ?_)
    refine lv_aload_n hx hb dX9_day_84 rfl (lv_at hl 0 rfl) ?_
    refine mg_0_9 C w lf_9_33 dX9_day_85 ?_
    refine lv_iconst (v := (-1)) hx hb dX9_day_88 (by decide) ?_
    refine lv_icmp_eq (tgt := 141) hx hb dX9_day_89 (by decide) (fun h => ?_) (fun h => ?_)
    · replace hf := zf_t h hf
      refine lv_aload_n hx hb dX9_day_141 rfl (lv_at hl 0 rfl) ?_
      refine mg_0_12 C w lf_9_125 dX9_day_142 ?_
      exact hret _ _ _ _ _ _ hf w dX9_day_145
    · replace hf := zf_f h hf
      refine lv_aload_n hx hb dX9_day_92 rfl (lv_at hl 0 rfl) ?_
      refine lv_aload_n hx hb dX9_day_93 rfl (lv_at hl 0 rfl) ?_
      refine mg_0_12 C w lf_9_125 dX9_day_94 ?_
      obtain ⟨r3, u4, hc, hf⟩ := zf_bi_ex hf
      refine zc_ri wM_ad w (zc_V C w (kM9_ups l D q cs N _ _ _ hc _) cf_9_ups ci_9_ups lm_9_142 rcM_0 ⟨Nat.le_of_ble_eq_true rfl, Nat.le_of_ble_eq_true rfl⟩ hl.1 rfl (Nat.le_of_ble_eq_true rfl) dX9_day_97 ⟨Nat.le_refl _, Nat.le_refl _⟩) (fun H locs w => ?_)
      refine lv_istore_n (lv' := [(3, .int r3), (0, .ref (q 0)), (1, .int v1)]) hx hb dX9_day_100 rfl hl (by decide) rfl (fun ls hl => ?_)
      refine lv_aload_n hx hb dX9_day_101 rfl (lv_at hl 1 rfl) ?_
      refine lv_aload_n hx hb dX9_day_102 rfl (lv_at hl 1 rfl) ?_
      refine mg_0_9 C w lf_9_33 dX9_day_103 ?_
      refine lv_iload_n hx hb dX9_day_106 rfl (lv_at hl 0 rfl) ?_
      obtain ⟨r5, u6, hc, hf⟩ := zf_bi_ex hf
      refine zc_ri wM_ad w (zc_V C w (kM9_eats l D q cs _ _ _ _ hc _) cf_9_eats ci_9_eats lm_9_145 rcM_0 ⟨Nat.le_of_ble_eq_true rfl, Nat.le_of_ble_eq_true rfl⟩ hl.1 rfl (Nat.le_of_ble_eq_true rfl) dX9_day_107 ⟨Nat.le_refl _, Nat.le_refl _⟩) (fun H locs w => ?_)
      refine lv_istore (lv' := [(4, .int r5), (3, .int r3), (0, .ref (q 0)), (1, .int v1)]) hx hb dX9_day_110 hl (by decide) rfl (fun ls hl => ?_)
      refine lv_aload_n hx hb dX9_day_112 rfl (lv_at hl 2 rfl) ?_
      refine lv_aload_n hx hb dX9_day_113 rfl (lv_at hl 2 rfl) ?_
      refine mg_0_13 C w lf_9_149 dX9_day_114 ?_
      refine lv_iload hx hb dX9_day_117 (lv_at hl 0 rfl) ?_
      refine lv_iadd hx hb dX9_day_119 ?_
      refine mp_0_13 C w lf_9_149 dX9_day_120 (fun H locs w => ?_)
      refine lv_aload_n hx hb dX9_day_123 rfl (lv_at hl 2 rfl) ?_
      refine lv_aload_n hx hb dX9_day_124 rfl (lv_at hl 2 rfl) ?_
      refine mg_0_17 C w lf_9_152 dX9_day_125 ?_
      refine lv_bipush (v := 10) hx hb dX9_day_128 (by decide) ?_
      refine lv_iload_n hx hb dX9_day_130 rfl (lv_at hl 1 rfl) ?_
      refine lv_imul hx hb dX9_day_131 ?_
      refine lv_i2l hx hb dX9_day_132 rfl ?_
      refine lv_ladd hx hb dX9_day_133 ?_
      refine lv_iload hx hb dX9_day_134 (lv_at hl 0 rfl) ?_
      refine lv_i2l hx hb dX9_day_136 rfl ?_
      refine lv_lsub hx hb dX9_day_137 ?_
      refine mp_0_17 C w lf_9_152 dX9_day_138 (fun H locs w => ?_)
      refine lv_aload_n hx hb dX9_day_141 rfl (lv_at hl 2 rfl) ?_
      refine mg_0_12 C w lf_9_125 dX9_day_142 ?_
      exact hret _ _ _ _ _ _ hf w dX9_day_145
  have hj63 : ∀ (u : zs_T) (v1 : Int32) (t0 : Int32) (t1 : Int32) (H : Heap) (locs : List Loc) (ls : Array Slot), zg_W D cs A s (wM q cs u) H locs → lv_has ls 5 [(0, .ref (q 0)), (1, .int v1)] → fM9_day_j63 N u v1 t0 t1 = some z → W p l e (zg_rm 3) s m args below meth c H locs 0 0 Q (F0 m 63 ls [.int t0, .int t1, .ref (q 0)]) := by
    intro u v1 t0 t1 H locs ls w hl hf
    unfold fM9_day_j63 at hf
    refine lv_isub hx hb dX9_day_63 ?_
    refine mp_0_10 C w lf_9_136 dX9_day_64 (fun H locs w => ?_)
    refine lv_aload_n hx hb dX9_day_67 rfl (lv_at hl 0 rfl) ?_
    refine mg_0_10 C w lf_9_136 dX9_day_68 ?_
    refine lv_if_ge (tgt := 79) hx hb dX9_day_71 (by decide) (fun h => ?_) (fun h => ?_)
    · replace hf := zf_t h hf
      exact hj79 _ _ H locs ls w (lv_sub hl [0, 1] rfl) hf
    · replace hf := zf_f h hf
      refine lv_aload_n hx hb dX9_day_74 rfl (lv_at hl 0 rfl) ?_
      refine lv_iconst (v := 0) hx hb dX9_day_75 (by decide) ?_
      refine mp_0_10 C w lf_9_136 dX9_day_76 (fun H locs w => ?_)
      exact hj79 _ _ H locs ls w (lv_sub hl [0, 1] rfl) hf
  unfold fM9_day at hf
  refine lv_iload_n hx hb dX9_day_0 rfl (lv_at hl 1 rfl) ?_
  refine lv_bipush (v := (-30)) hx hb dX9_day_1 (by decide) ?_
  refine lv_icmp_lt (tgt := 33) hx hb dX9_day_3 (by decide) (fun h => ?_) (fun h => ?_)
  · replace hf := zf_t h hf
    refine lv_iconst (v := (-1)) hx hb dX9_day_33 (by decide) ?_
    exact hret _ _ _ _ _ _ hf w dX9_day_34
  · replace hf := zf_f h hf
    refine lv_iload_n hx hb dX9_day_6 rfl (lv_at hl 1 rfl) ?_
    refine lv_bipush (v := 40) hx hb dX9_day_7 (by decide) ?_
    refine lv_icmp_gt (tgt := 33) hx hb dX9_day_9 (by decide) (fun h => ?_) (fun h => ?_)
    · replace hf := zf_t h hf
      refine lv_iconst (v := (-1)) hx hb dX9_day_33 (by decide) ?_
      exact hret _ _ _ _ _ _ hf w dX9_day_34
    · replace hf := zf_f h hf
      refine lv_iload_n hx hb dX9_day_12 rfl (lv_at hl 2 rfl) ?_
      refine lv_if_lt (tgt := 33) hx hb dX9_day_13 (by decide) (fun h => ?_) (fun h => ?_)
      · replace hf := zf_t h hf
        refine lv_iconst (v := (-1)) hx hb dX9_day_33 (by decide) ?_
        exact hret _ _ _ _ _ _ hf w dX9_day_34
      · replace hf := zf_f h hf
        refine lv_iload_n hx hb dX9_day_16 rfl (lv_at hl 2 rfl) ?_
        refine lv_sipush (v := 300) hx hb dX9_day_17 (by decide) ?_
        refine lv_icmp_gt (tgt := 33) hx hb dX9_day_20 (by decide) (fun h => ?_) (fun h => ?_)
        · replace hf := zf_t h hf
          refine lv_iconst (v := (-1)) hx hb dX9_day_33 (by decide) ?_
          exact hret _ _ _ _ _ _ hf w dX9_day_34
        · replace hf := zf_f h hf
          refine lv_aload_n hx hb dX9_day_23 rfl (lv_at hl 0 rfl) ?_
          refine mg_0_12 C w lf_9_125 dX9_day_24 ?_
          refine lv_sipush (v := 150) hx hb dX9_day_27 (by decide) ?_
          refine lv_icmp_ne (tgt := 35) hx hb dX9_day_30 (by decide) (fun h => ?_) (fun h => ?_)
          · replace hf := zf_f h hf
            refine lv_aload_n hx hb dX9_day_35 rfl (lv_at hl 0 rfl) ?_
            refine lv_aload_n hx hb dX9_day_36 rfl (lv_at hl 0 rfl) ?_
            refine mg_0_12 C w lf_9_125 dX9_day_37 ?_
            refine lv_iconst (v := 1) hx hb dX9_day_40 (by decide) ?_
            refine lv_iadd hx hb dX9_day_41 ?_
            refine mp_0_12 C w lf_9_125 dX9_day_42 (fun H locs w => ?_)
            refine lv_aload_n hx hb dX9_day_45 rfl (lv_at hl 0 rfl) ?_
            refine lv_aload_n hx hb dX9_day_46 rfl (lv_at hl 0 rfl) ?_
            refine mg_0_10 C w lf_9_136 dX9_day_47 ?_
            refine lv_iload_n hx hb dX9_day_50 rfl (lv_at hl 2 rfl) ?_
            refine lv_iadd hx hb dX9_day_51 ?_
            refine lv_iload_n hx hb dX9_day_52 rfl (lv_at hl 1 rfl) ?_
            refine lv_if_le (tgt := 62) hx hb dX9_day_53 (by decide) (fun h => ?_) (fun h => ?_)
            · replace hf := zf_t h hf
              refine lv_iconst (v := 0) hx hb dX9_day_62 (by decide) ?_
              exact hj63 _ _ _ _ H locs ls w (lv_sub hl [0, 1] rfl) hf
            · replace hf := zf_f h hf
              refine lv_iconst (v := 4) hx hb dX9_day_56 (by decide) ?_
              refine lv_iload_n hx hb dX9_day_57 rfl (lv_at hl 1 rfl) ?_
              refine lv_imul hx hb dX9_day_58 ?_
              refine lv_goto (tgt := 63) hx hb dX9_day_59 (by decide) ?_
              exact hj63 _ _ _ _ H locs ls w (lv_sub hl [0, 1] rfl) hf
          · replace hf := zf_t h hf
            refine lv_iconst (v := (-1)) hx hb dX9_day_33 (by decide) ?_
            exact hret _ _ _ _ _ _ hf w dX9_day_34
def fM9_lays_j68 (N : Nat) (ag11 : zs_T → Int32 → Int32 → Int32 → Option (Int32 × zs_T)) (u : zs_T) (v2 : Int32) (v3 : Int32) (v4 : Int32) (v5 : Int32) : Option (Int32 × zs_T) :=
  (if v4 < 0 then some (0, u) else (if v4 < zs_i u 6 then (if zf_in v5 8 then ag11 (zs_sa u 6 (upd (zs_a u 6) v5.toNatClampNeg v4)) (v3 / 3) v4 (v5 + 1) else none) else some (0, u)))
def fM9_lays_j46 (N : Nat) (ag11 : zs_T → Int32 → Int32 → Int32 → Option (Int32 × zs_T)) (u : zs_T) (v2 : Int32) (v3 : Int32) (v4 : Int32) (v5 : Int32) : Option (Int32 × zs_T) :=
  (if v5 = 0 then (if zs_i u 7 = (-1) then (if v3 - v3 / 3 * 3 = 1 then fM9_lays_j68 N ag11 u v2 v3 v4 v5 else some (0, u)) else fM9_lays_j68 N ag11 u v2 v3 v4 v5) else fM9_lays_j68 N ag11 u v2 v3 v4 v5)
def fM9_lays_j36 (N : Nat) (ag11 : zs_T → Int32 → Int32 → Int32 → Option (Int32 × zs_T)) (u : zs_T) (v2 : Int32) (v3 : Int32) (v4 : Int32) (v5 : Int32) : Option (Int32 × zs_T) :=
  fM9_lays_j46 N ag11 u v2 v3 ((v4 + (v3 - v3 / 3 * 3)) - 1) v5
def fM9_lays_b11 (N : Nat) (v2 : Int32) (ag11 : zs_T → Int32 → Int32 → Int32 → Option (Int32 × zs_T)) (u : zs_T) (v3 : Int32) (v4 : Int32) (v5 : Int32) : Option (Int32 × zs_T) :=
  (if v2 ≤ v5 then some (1, u) else (if v5 = 0 then (if zs_i u 7 = (-1) then fM9_lays_j46 N ag11 u v2 v3 0 v5 else fM9_lays_j36 N ag11 u v2 v3 v4 v5) else fM9_lays_j36 N ag11 u v2 v3 v4 v5))
def fM9_lays (N : Nat) (u : zs_T) (v1 : Int32) (v2 : Int32) : Option (Int32 × zs_T) :=
  zf_loop (fun ag x => fM9_lays_b11 N v2 (fun u v3 v4 v5 => ag (u, v3, v4, v5)) x.1 x.2.1 x.2.2.1 x.2.2.2) N (u, v1, zs_i u 7, 0)
set_option maxHeartbeats 4000000 in
set_option maxRecDepth 100000 in
theorem kM9_lays (l : Launch) (D : va_G) (q : Nat → Nat) (cs : Nat → ClassId) (N : Nat) (u : zs_T) (v1 : Int32) (v2 : Int32) (z : (Int32 × zs_T)) (hf : fM9_lays N u v1 v2 = some z) : zg_Ci l yX9_lays cX9_lays 6 (some .boolean) 0 D cs (wM q cs) u [.ref (q 0), .int v1, .int v2] z.1 z.2 := by
  refine zg_Cz_of (own := RX9) (by decide) rfl wM_ad (Nat.le_of_ble_eq_true rfl) ?_
  intro p e s m args below meth c A Q C hret w ls hl
  obtain ⟨hx, hb, -⟩ := id C
  have hl : lv_has ls 6 [(0, .ref (q 0)), (1, .int v1), (2, .int v2)] := hl
  generalize hH : s.heap = H at w ⊢
  generalize hLc : ([] : List Loc) = locs at w ⊢
  unfold fM9_lays at hf
  refine lv_iload_n hx hb dX9_lays_0 rfl (lv_at hl 1 rfl) ?_
  refine lv_istore_n (lv' := [(3, .int v1), (0, .ref (q 0)), (1, .int v1), (2, .int v2)]) hx hb dX9_lays_1 rfl hl (by decide) rfl (fun ls hl => ?_)
  refine lv_aload_n hx hb dX9_lays_2 rfl (lv_at hl 1 rfl) ?_
  refine mg_0_9 C w lf_9_33 dX9_lays_3 ?_
  refine lv_istore (lv' := [(4, .int (zs_i u 7)), (3, .int v1), (0, .ref (q 0)), (1, .int v1), (2, .int v2)]) hx hb dX9_lays_6 hl (by decide) rfl (fun ls hl => ?_)
  refine lv_iconst (v := 0) hx hb dX9_lays_8 (by decide) ?_
  refine lv_istore (lv' := [(5, .int 0), (4, .int (zs_i u 7)), (3, .int v1), (0, .ref (q 0)), (1, .int v1), (2, .int v2)]) hx hb dX9_lays_9 hl (by decide) rfl (fun ls hl => ?_)
  have lp11 : ∀ (v2 : Int32) (n : Nat) (x : zs_T × Int32 × Int32 × Int32), zf_loop (fun ag x => fM9_lays_b11 N v2 (fun u v3 v4 v5 => ag (u, v3, v4, v5)) x.1 x.2.1 x.2.2.1 x.2.2.2) n x = some z → ∀ (H : Heap) (locs : List Loc) (ls : Array Slot), zg_W D cs A s (wM q cs x.1) H locs → lv_has ls 6 [(0, .ref (q 0)), (2, .int v2), (3, .int x.2.1), (4, .int x.2.2.1), (5, .int x.2.2.2)] → W p l e (zg_rm 0) s m args below meth c H locs 0 0 Q (F0 m 11 ls []) := by
    intro v2
    refine zf_loop_W (fun x : zs_T × Int32 × Int32 × Int32 => ∀ (H : Heap) (locs : List Loc) (ls : Array Slot), zg_W D cs A s (wM q cs x.1) H locs → lv_has ls 6 [(0, .ref (q 0)), (2, .int v2), (3, .int x.2.1), (4, .int x.2.2.1), (5, .int x.2.2.2)] → W p l e (zg_rm 0) s m args below meth c H locs 0 0 Q (F0 m 11 ls [])) ?_
    intro ag11 x hag11 hf
    obtain ⟨u, v3, v4, v5⟩ := x
    intro H locs ls w hl
    replace hf : fM9_lays_b11 N v2 (fun u v3 v4 v5 => ag11 (u, v3, v4, v5)) u v3 v4 v5 = some z := hf
    replace hl : lv_has ls 6 [(0, .ref (q 0)), (2, .int v2), (3, .int v3), (4, .int v4), (5, .int v5)] := hl
    replace w : zg_W D cs A s (wM q cs u) H locs := w
    have hj68 : ∀ (u : zs_T) (v3 : Int32) (v4 : Int32) (v5 : Int32) (H : Heap) (locs : List Loc) (ls : Array Slot), zg_W D cs A s (wM q cs u) H locs → lv_has ls 6 [(0, .ref (q 0)), (2, .int v2), (3, .int v3), (4, .int v4), (5, .int v5)] → fM9_lays_j68 N (fun u v3 v4 v5 => ag11 (u, v3, v4, v5)) u v2 v3 v4 v5 = some z → W p l e (zg_rm 0) s m args below meth c H locs 0 0 Q (F0 m 68 ls []) := by
      intro u v3 v4 v5 H locs ls w hl hf
      unfold fM9_lays_j68 at hf
      refine lv_iload hx hb dX9_lays_68 (lv_at hl 3 rfl) ?_
      refine lv_if_lt (tgt := 82) hx hb dX9_lays_70 (by decide) (fun h => ?_) (fun h => ?_)
      · replace hf := zf_t h hf
        refine lv_iconst (v := 0) hx hb dX9_lays_82 (by decide) ?_
        exact hret _ _ _ _ _ _ (by rfl) hf w dX9_lays_83
      · replace hf := zf_f h hf
        refine lv_iload hx hb dX9_lays_73 (lv_at hl 3 rfl) ?_
        refine lv_aload_n hx hb dX9_lays_75 rfl (lv_at hl 0 rfl) ?_
        refine mg_0_8 C w lf_9_30 dX9_lays_76 ?_
        refine lv_icmp_lt (tgt := 84) hx hb dX9_lays_79 (by decide) (fun h => ?_) (fun h => ?_)
        · replace hf := zf_t h hf
          refine lv_aload_n hx hb dX9_lays_84 rfl (lv_at hl 0 rfl) ?_
          refine mg_0_19 C w lf_9_51 dX9_lays_85 ?_
          refine lv_iload hx hb dX9_lays_88 (lv_at hl 4 rfl) ?_
          refine lv_iload hx hb dX9_lays_90 (lv_at hl 3 rfl) ?_
          obtain ⟨hi, hf⟩ := zf_gd hf
          refine ms_7 C w hi dX9_lays_92 (fun H locs w => ?_)
          refine lv_iload_n hx hb dX9_lays_93 rfl (lv_at hl 2 rfl) ?_
          refine lv_iconst (v := 3) hx hb dX9_lays_94 (by decide) ?_
          refine lv_idiv hx hb dX9_lays_95 (by decide) ?_
          refine lv_istore_n (lv' := [(3, .int (v3 / 3)), (0, .ref (q 0)), (2, .int v2), (4, .int v4), (5, .int v5)]) hx hb dX9_lays_96 rfl hl (by decide) rfl (fun ls hl => ?_)
          refine lv_iinc (v := v5 + 1) (lv' := [(5, .int (v5 + 1)), (3, .int (v3 / 3)), (0, .ref (q 0)), (2, .int v2), (4, .int v4)]) hx hb dX9_lays_97 hl (k := 4) rfl rfl (by decide) rfl (fun ls hl => ?_)
          refine lv_goto (tgt := 11) hx hb dX9_lays_100 (by decide) ?_
          exact hag11 (zs_sa u 6 (upd (zs_a u 6) v5.toNatClampNeg v4), v3 / 3, v4, v5 + 1) hf H locs ls w (lv_sub hl [2, 3, 1, 4, 0] rfl)
        · replace hf := zf_f h hf
          refine lv_iconst (v := 0) hx hb dX9_lays_82 (by decide) ?_
          exact hret _ _ _ _ _ _ (by rfl) hf w dX9_lays_83
    have hj46 : ∀ (u : zs_T) (v3 : Int32) (v4 : Int32) (v5 : Int32) (H : Heap) (locs : List Loc) (ls : Array Slot), zg_W D cs A s (wM q cs u) H locs → lv_has ls 6 [(0, .ref (q 0)), (2, .int v2), (3, .int v3), (4, .int v4), (5, .int v5)] → fM9_lays_j46 N (fun u v3 v4 v5 => ag11 (u, v3, v4, v5)) u v2 v3 v4 v5 = some z → W p l e (zg_rm 0) s m args below meth c H locs 0 0 Q (F0 m 46 ls []) := by
      intro u v3 v4 v5 H locs ls w hl hf
      unfold fM9_lays_j46 at hf
      refine lv_iload hx hb dX9_lays_46 (lv_at hl 4 rfl) ?_
      refine lv_if_ne (tgt := 68) hx hb dX9_lays_48 (by decide) (fun h => ?_) (fun h => ?_)
      · replace hf := zf_f h hf
        exact hj68 _ _ _ _ H locs ls w (lv_sub hl [0, 1, 2, 3, 4] rfl) hf
      · replace hf := zf_t h hf
        refine lv_aload_n hx hb dX9_lays_51 rfl (lv_at hl 0 rfl) ?_
        refine mg_0_9 C w lf_9_33 dX9_lays_52 ?_
        refine lv_iconst (v := (-1)) hx hb dX9_lays_55 (by decide) ?_
        refine lv_icmp_ne (tgt := 68) hx hb dX9_lays_56 (by decide) (fun h => ?_) (fun h => ?_)
        · replace hf := zf_f h hf
          exact hj68 _ _ _ _ H locs ls w (lv_sub hl [0, 1, 2, 3, 4] rfl) hf
        · replace hf := zf_t h hf
          refine lv_iload_n hx hb dX9_lays_59 rfl (lv_at hl 2 rfl) ?_
          refine lv_iconst (v := 3) hx hb dX9_lays_60 (by decide) ?_
          refine lv_irem hx hb dX9_lays_61 (by decide) ?_
          refine lv_iconst (v := 1) hx hb dX9_lays_62 (by decide) ?_
          refine lv_icmp_eq (tgt := 68) hx hb dX9_lays_63 (by decide) (fun h => ?_) (fun h => ?_)
          · replace hf := zf_t h hf
            exact hj68 _ _ _ _ H locs ls w (lv_sub hl [0, 1, 2, 3, 4] rfl) hf
          · replace hf := zf_f h hf
            refine lv_iconst (v := 0) hx hb dX9_lays_66 (by decide) ?_
            exact hret _ _ _ _ _ _ (by rfl) hf w dX9_lays_67
    have hj36 : ∀ (u : zs_T) (v3 : Int32) (v4 : Int32) (v5 : Int32) (H : Heap) (locs : List Loc) (ls : Array Slot), zg_W D cs A s (wM q cs u) H locs → lv_has ls 6 [(0, .ref (q 0)), (2, .int v2), (3, .int v3), (4, .int v4), (5, .int v5)] → fM9_lays_j36 N (fun u v3 v4 v5 => ag11 (u, v3, v4, v5)) u v2 v3 v4 v5 = some z → W p l e (zg_rm 0) s m args below meth c H locs 0 0 Q (F0 m 36 ls []) := by
      intro u v3 v4 v5 H locs ls w hl hf
      unfold fM9_lays_j36 at hf
      refine lv_iload hx hb dX9_lays_36 (lv_at hl 3 rfl) ?_
      refine lv_iload_n hx hb dX9_lays_38 rfl (lv_at hl 2 rfl) ?_
      refine lv_iconst (v := 3) hx hb dX9_lays_39 (by decide) ?_
      refine lv_irem hx hb dX9_lays_40 (by decide) ?_
      refine lv_iadd hx hb dX9_lays_41 ?_
      refine lv_iconst (v := 1) hx hb dX9_lays_42 (by decide) ?_
      refine lv_isub hx hb dX9_lays_43 ?_
      refine lv_istore (lv' := [(4, .int ((v4 + (v3 - v3 / 3 * 3)) - 1)), (0, .ref (q 0)), (2, .int v2), (3, .int v3), (5, .int v5)]) hx hb dX9_lays_44 hl (by decide) rfl (fun ls hl => ?_)
      exact hj46 _ _ _ _ H locs ls w (lv_sub hl [1, 2, 3, 0, 4] rfl) hf
    unfold fM9_lays_b11 at hf
    refine lv_iload hx hb dX9_lays_11 (lv_at hl 4 rfl) ?_
    refine lv_iload_n hx hb dX9_lays_13 rfl (lv_at hl 1 rfl) ?_
    refine lv_icmp_ge (tgt := 103) hx hb dX9_lays_14 (by decide) (fun h => ?_) (fun h => ?_)
    · replace hf := zf_t h hf
      refine lv_iconst (v := 1) hx hb dX9_lays_103 (by decide) ?_
      exact hret _ _ _ _ _ _ (by rfl) hf w dX9_lays_104
    · replace hf := zf_f h hf
      refine lv_iload hx hb dX9_lays_17 (lv_at hl 4 rfl) ?_
      refine lv_if_ne (tgt := 36) hx hb dX9_lays_19 (by decide) (fun h => ?_) (fun h => ?_)
      · replace hf := zf_f h hf
        exact hj36 _ _ _ _ H locs ls w (lv_sub hl [0, 1, 2, 3, 4] rfl) hf
      · replace hf := zf_t h hf
        refine lv_aload_n hx hb dX9_lays_22 rfl (lv_at hl 0 rfl) ?_
        refine mg_0_9 C w lf_9_33 dX9_lays_23 ?_
        refine lv_iconst (v := (-1)) hx hb dX9_lays_26 (by decide) ?_
        refine lv_icmp_ne (tgt := 36) hx hb dX9_lays_27 (by decide) (fun h => ?_) (fun h => ?_)
        · replace hf := zf_f h hf
          exact hj36 _ _ _ _ H locs ls w (lv_sub hl [0, 1, 2, 3, 4] rfl) hf
        · replace hf := zf_t h hf
          refine lv_iconst (v := 0) hx hb dX9_lays_30 (by decide) ?_
          refine lv_istore (lv' := [(4, .int 0), (0, .ref (q 0)), (2, .int v2), (3, .int v3), (5, .int v5)]) hx hb dX9_lays_31 hl (by decide) rfl (fun ls hl => ?_)
          refine lv_goto (tgt := 46) hx hb dX9_lays_33 (by decide) ?_
          exact hj46 _ _ _ _ H locs ls w (lv_sub hl [1, 2, 3, 0, 4] rfl) hf
  exact lp11 _ _ _ hf H locs ls w (lv_sub hl [3, 5, 2, 1, 0] rfl)
def fM9_isLess_j22 (N : Nat) (u : zs_T) (v2 : Int32) : Option Int32 :=
  (if zf_in v2 8 then (if zf_in v2 8 then (if zs_a u 7 v2.toNatClampNeg ≤ zs_a u 6 v2.toNatClampNeg then some 0 else some 1) else none) else none)
def fM9_isLess_b2 (N : Nat) (u : zs_T) (v1 : Int32) (ag2 : Int32 → Option Int32) (v2 : Int32) : Option Int32 :=
  (if v1 ≤ v2 then some 0 else (if zf_in v2 8 then (if zf_in v2 8 then (if zs_a u 6 v2.toNatClampNeg = zs_a u 7 v2.toNatClampNeg then ag2 (v2 + 1) else fM9_isLess_j22 N u v2) else none) else none))
def fM9_isLess (N : Nat) (u : zs_T) (v1 : Int32) : Option Int32 :=
  zf_loop (fun ag x => fM9_isLess_b2 N u v1 (fun v2 => ag v2) x) N 0
set_option maxHeartbeats 4000000 in
set_option maxRecDepth 100000 in
theorem kM9_isLess (l : Launch) (D : va_G) (q : Nat → Nat) (cs : Nat → ClassId) (N : Nat) (u : zs_T) (v1 : Int32) (z : Int32) (hf : fM9_isLess N u v1 = some z) : zg_Ci l yX9_isLess cX9_isLess 3 (some .boolean) 0 D cs (wM q cs) u [.ref (q 0), .int v1] z u := by
  refine zg_Cz_of (own := RX9) (by decide) rfl wM_ad (Nat.le_of_ble_eq_true rfl) ?_
  intro p e s m args below meth c A Q C hret w ls hl
  obtain ⟨hx, hb, -⟩ := id C
  have hl : lv_has ls 3 [(0, .ref (q 0)), (1, .int v1)] := hl
  generalize hH : s.heap = H at w ⊢
  generalize hLc : ([] : List Loc) = locs at w ⊢
  have hj22 : ∀ (v2 : Int32) (H : Heap) (locs : List Loc) (ls : Array Slot), zg_W D cs A s (wM q cs u) H locs → lv_has ls 3 [(0, .ref (q 0)), (2, .int v2)] → fM9_isLess_j22 N u v2 = some z → W p l e (zg_rm 0) s m args below meth c H locs 0 0 Q (F0 m 22 ls []) := by
    intro v2 H locs ls w hl hf
    unfold fM9_isLess_j22 at hf
    refine lv_aload_n hx hb dX9_isLess_22 rfl (lv_at hl 0 rfl) ?_
    refine mg_0_19 C w lf_9_51 dX9_isLess_23 ?_
    refine lv_iload_n hx hb dX9_isLess_26 rfl (lv_at hl 1 rfl) ?_
    obtain ⟨hi, hf⟩ := zf_gd hf
    refine ma_7 C w hi dX9_isLess_27 ?_
    refine lv_aload_n hx hb dX9_isLess_28 rfl (lv_at hl 0 rfl) ?_
    refine mg_0_20 C w lf_9_54 dX9_isLess_29 ?_
    refine lv_iload_n hx hb dX9_isLess_32 rfl (lv_at hl 1 rfl) ?_
    obtain ⟨hi, hf⟩ := zf_gd hf
    refine ma_8 C w hi dX9_isLess_33 ?_
    refine lv_icmp_ge (tgt := 41) hx hb dX9_isLess_34 (by decide) (fun h => ?_) (fun h => ?_)
    · replace hf := zf_t h hf
      refine lv_iconst (v := 0) hx hb dX9_isLess_41 (by decide) ?_
      exact hret _ _ _ _ _ _ (by rfl) (zf_pr hf) w dX9_isLess_42
    · replace hf := zf_f h hf
      refine lv_iconst (v := 1) hx hb dX9_isLess_37 (by decide) ?_
      refine lv_goto (tgt := 42) hx hb dX9_isLess_38 (by decide) ?_
      exact hret _ _ _ _ _ _ (by rfl) (zf_pr hf) w dX9_isLess_42
  unfold fM9_isLess at hf
  refine lv_iconst (v := 0) hx hb dX9_isLess_0 (by decide) ?_
  refine lv_istore_n (lv' := [(2, .int 0), (0, .ref (q 0)), (1, .int v1)]) hx hb dX9_isLess_1 rfl hl (by decide) rfl (fun ls hl => ?_)
  have lp2 : ∀ (v1 : Int32) (n : Nat) (x : Int32), zf_loop (fun ag x => fM9_isLess_b2 N u v1 (fun v2 => ag v2) x) n x = some z → ∀ (H : Heap) (locs : List Loc) (ls : Array Slot), zg_W D cs A s (wM q cs u) H locs → lv_has ls 3 [(0, .ref (q 0)), (1, .int v1), (2, .int x)] → W p l e (zg_rm 0) s m args below meth c H locs 0 0 Q (F0 m 2 ls []) := by
    intro v1
    refine zf_loop_W (fun x : Int32 => ∀ (H : Heap) (locs : List Loc) (ls : Array Slot), zg_W D cs A s (wM q cs u) H locs → lv_has ls 3 [(0, .ref (q 0)), (1, .int v1), (2, .int x)] → W p l e (zg_rm 0) s m args below meth c H locs 0 0 Q (F0 m 2 ls [])) ?_
    intro ag2 v2 hag2 hf
    intro H locs ls w hl
    replace hf : fM9_isLess_b2 N u v1 (fun v2 => ag2 v2) v2 = some z := hf
    replace hl : lv_has ls 3 [(0, .ref (q 0)), (1, .int v1), (2, .int v2)] := hl
    replace w : zg_W D cs A s (wM q cs u) H locs := w
    unfold fM9_isLess_b2 at hf
    refine lv_iload_n hx hb dX9_isLess_2 rfl (lv_at hl 2 rfl) ?_
    refine lv_iload_n hx hb dX9_isLess_3 rfl (lv_at hl 1 rfl) ?_
    refine lv_icmp_ge (tgt := 49) hx hb dX9_isLess_4 (by decide) (fun h => ?_) (fun h => ?_)
    · replace hf := zf_t h hf
      refine lv_iconst (v := 0) hx hb dX9_isLess_49 (by decide) ?_
      exact hret _ _ _ _ _ _ (by rfl) (zf_pr hf) w dX9_isLess_50
    · replace hf := zf_f h hf
      refine lv_aload_n hx hb dX9_isLess_7 rfl (lv_at hl 0 rfl) ?_
      refine mg_0_19 C w lf_9_51 dX9_isLess_8 ?_
      refine lv_iload_n hx hb dX9_isLess_11 rfl (lv_at hl 2 rfl) ?_
      obtain ⟨hi, hf⟩ := zf_gd hf
      refine ma_7 C w hi dX9_isLess_12 ?_
      refine lv_aload_n hx hb dX9_isLess_13 rfl (lv_at hl 0 rfl) ?_
      refine mg_0_20 C w lf_9_54 dX9_isLess_14 ?_
      refine lv_iload_n hx hb dX9_isLess_17 rfl (lv_at hl 2 rfl) ?_
      obtain ⟨hi, hf⟩ := zf_gd hf
      refine ma_8 C w hi dX9_isLess_18 ?_
      refine lv_icmp_eq (tgt := 43) hx hb dX9_isLess_19 (by decide) (fun h => ?_) (fun h => ?_)
      · replace hf := zf_t h hf
        refine lv_iinc (v := v2 + 1) (lv' := [(2, .int (v2 + 1)), (0, .ref (q 0)), (1, .int v1)]) hx hb dX9_isLess_43 hl (k := 2) rfl rfl (by decide) rfl (fun ls hl => ?_)
        refine lv_goto (tgt := 2) hx hb dX9_isLess_46 (by decide) ?_
        exact hag2 (v2 + 1) hf H locs ls w (lv_sub hl [1, 2, 0] rfl)
      · replace hf := zf_f h hf
        exact hj22 _ H locs ls w (lv_sub hl [0, 2] rfl) hf
  exact lp2 _ _ _ hf H locs ls w (lv_sub hl [1, 2, 0] rfl)
