def fM9_creditOf_j101 (N : Nat) (u : zs_T) (v2 : Int32) (v3 : Int32) (t0 : Int32) : Option (Int32 × zs_T) :=
  (if t0 ≤ 1000 - ((zs_i u 2) * v3) then (if zf_in v2 80 then some (((zs_a u 9 v2.toNatClampNeg) * (1000 - ((zs_i u 2) * v3))) / 1000, u) else none) else (if zf_in v2 80 then some (((zs_a u 9 v2.toNatClampNeg) * t0) / 1000, u) else none))
def fM9_creditOf_j81 (N : Nat) (u : zs_T) (v2 : Int32) (v3 : Int32) : Option (Int32 × zs_T) :=
  (if zs_i u 3 ≤ 1000 then fM9_creditOf_j101 N u v2 v3 (zs_i u 3) else fM9_creditOf_j101 N u v2 v3 1000)
def fM9_creditOf_b42 (N : Nat) (v1 : Int32) (v2 : Int32) (ag42 : zs_T → Int32 → Int32 → Option (Int32 × zs_T)) (u : zs_T) (v3 : Int32) (v4 : Int32) : Option (Int32 × zs_T) :=
  (if zs_i u 10 < v4 then fM9_creditOf_j81 N u v2 v3 else (zf_bi (fM9_asks N u v1 v2 v4) fun r3 u4 => (if zs_i u4 18 = 0 then ag42 u4 (v3 + 1) (v4 + 1) else ag42 u4 (v3 + 0) (v4 + 1))))
def fM9_creditOf (N : Nat) (u : zs_T) (v1 : Int32) (v2 : Int32) : Option (Int32 × zs_T) :=
  (if zs_i u 10 = 0 then some (0, u) else (if zs_i u 17 = (-1) then some (0, u) else (zf_bi (fM9_asks N u v1 v2 (zs_i u 17)) fun r1 u2 => (if zs_i u2 18 = 0 then some (0, u2) else zf_loop (fun ag x => fM9_creditOf_b42 N v1 v2 (fun u v3 v4 => ag (u, v3, v4)) x.1 x.2.1 x.2.2) N (u2, 0, 1)))))
set_option maxHeartbeats 4000000 in
set_option maxRecDepth 100000 in
theorem kM9_creditOf (l : Launch) (D : va_G) (q : Nat → Nat) (cs : Nat → ClassId) (N : Nat) (u : zs_T) (v1 : Int32) (v2 : Int32) (z : (Int32 × zs_T)) (hf : fM9_creditOf N u v1 v2 = some z) : zg_Ci l yX9_creditOf cX9_creditOf 6 (some .int) 2 D cs (wM q cs) u [.ref (q 0), .int v1, .int v2] z.1 z.2 := by
  refine zg_Ci_of (own := RX9) (by decide) rfl wM_ad (Nat.le_of_ble_eq_true rfl) ?_
  intro p e s m args below meth c A Q C hret w ls hl
  obtain ⟨hx, hb, -⟩ := id C
  have hl : lv_has ls 6 [(0, .ref (q 0)), (1, .int v1), (2, .int v2)] := hl
  generalize hH : s.heap = H at w ⊢
  generalize hLc : ([] : List Loc) = locs at w ⊢
  have hj101 : ∀ (u : zs_T) (v2 : Int32) (v3 : Int32) (t0 : Int32) (H : Heap) (locs : List Loc) (ls : Array Slot), zg_W D cs A s (wM q cs u) H locs → lv_has ls 6 [(0, .ref (q 0)), (2, .int v2), (3, .int v3)] → fM9_creditOf_j101 N u v2 v3 t0 = some z → W p l e (zg_rm 2) s m args below meth c H locs 0 0 Q (F0 m 101 ls [.int t0]) := by
    intro u v2 v3 t0 H locs ls w hl hf
    unfold fM9_creditOf_j101 at hf
    refine lv_istore (lv' := [(4, .int t0), (0, .ref (q 0)), (2, .int v2), (3, .int v3)]) hx hb dX9_creditOf_101 hl (by decide) rfl (fun ls hl => ?_)
    refine lv_sipush (v := 1000) hx hb dX9_creditOf_103 (by decide) ?_
    refine lv_aload_n hx hb dX9_creditOf_106 rfl (lv_at hl 1 rfl) ?_
    refine mg_0_3 C w lf_9_13 dX9_creditOf_107 ?_
    refine lv_iload_n hx hb dX9_creditOf_110 rfl (lv_at hl 3 rfl) ?_
    refine lv_imul hx hb dX9_creditOf_111 ?_
    refine lv_isub hx hb dX9_creditOf_112 ?_
    refine lv_istore (lv' := [(5, .int (1000 - ((zs_i u 2) * v3))), (4, .int t0), (0, .ref (q 0)), (2, .int v2), (3, .int v3)]) hx hb dX9_creditOf_113 hl (by decide) rfl (fun ls hl => ?_)
    refine lv_iload hx hb dX9_creditOf_115 (lv_at hl 0 rfl) ?_
    refine lv_iload hx hb dX9_creditOf_117 (lv_at hl 1 rfl) ?_
    refine lv_icmp_ge (tgt := 126) hx hb dX9_creditOf_119 (by decide) (fun h => ?_) (fun h => ?_)
    · replace hf := zf_t h hf
      refine lv_aload_n hx hb dX9_creditOf_126 rfl (lv_at hl 2 rfl) ?_
      refine mg_0_28 C w lf_9_63 dX9_creditOf_127 ?_
      refine lv_iload_n hx hb dX9_creditOf_130 rfl (lv_at hl 3 rfl) ?_
      obtain ⟨hi, hf⟩ := zf_gd hf
      refine ma_10 C w hi dX9_creditOf_131 ?_
      refine lv_iload hx hb dX9_creditOf_132 (lv_at hl 0 rfl) ?_
      refine lv_imul hx hb dX9_creditOf_134 ?_
      refine lv_sipush (v := 1000) hx hb dX9_creditOf_135 (by decide) ?_
      refine lv_idiv hx hb dX9_creditOf_138 (by decide) ?_
      exact hret _ _ _ _ _ _ hf w dX9_creditOf_139
    · replace hf := zf_f h hf
      refine lv_iload hx hb dX9_creditOf_122 (lv_at hl 1 rfl) ?_
      refine lv_istore (lv' := [(5, .int t0), (4, .int t0), (0, .ref (q 0)), (2, .int v2), (3, .int v3)]) hx hb dX9_creditOf_124 hl (by decide) rfl (fun ls hl => ?_)
      refine lv_aload_n hx hb dX9_creditOf_126 rfl (lv_at hl 2 rfl) ?_
      refine mg_0_28 C w lf_9_63 dX9_creditOf_127 ?_
      refine lv_iload_n hx hb dX9_creditOf_130 rfl (lv_at hl 3 rfl) ?_
      obtain ⟨hi, hf⟩ := zf_gd hf
      refine ma_10 C w hi dX9_creditOf_131 ?_
      refine lv_iload hx hb dX9_creditOf_132 (lv_at hl 0 rfl) ?_
      refine lv_imul hx hb dX9_creditOf_134 ?_
      refine lv_sipush (v := 1000) hx hb dX9_creditOf_135 (by decide) ?_
      refine lv_idiv hx hb dX9_creditOf_138 (by decide) ?_
      exact hret _ _ _ _ _ _ hf w dX9_creditOf_139
  have hj81 : ∀ (u : zs_T) (v2 : Int32) (v3 : Int32) (H : Heap) (locs : List Loc) (ls : Array Slot), zg_W D cs A s (wM q cs u) H locs → lv_has ls 6 [(0, .ref (q 0)), (2, .int v2), (3, .int v3)] → fM9_creditOf_j81 N u v2 v3 = some z → W p l e (zg_rm 2) s m args below meth c H locs 0 0 Q (F0 m 81 ls []) := by
    intro u v2 v3 H locs ls w hl hf
    unfold fM9_creditOf_j81 at hf
    refine lv_aload_n hx hb dX9_creditOf_81 rfl (lv_at hl 0 rfl) ?_
    refine mg_0_4 C w lf_9_17 dX9_creditOf_82 ?_
    refine lv_sipush (v := 1000) hx hb dX9_creditOf_85 (by decide) ?_
    refine lv_icmp_le (tgt := 97) hx hb dX9_creditOf_88 (by decide) (fun h => ?_) (fun h => ?_)
    · replace hf := zf_t h hf
      refine lv_aload_n hx hb dX9_creditOf_97 rfl (lv_at hl 0 rfl) ?_
      refine mg_0_4 C w lf_9_17 dX9_creditOf_98 ?_
      exact hj101 _ _ _ _ H locs ls w (lv_sub hl [0, 1, 2] rfl) hf
    · replace hf := zf_f h hf
      refine lv_sipush (v := 1000) hx hb dX9_creditOf_91 (by decide) ?_
      refine lv_goto (tgt := 101) hx hb dX9_creditOf_94 (by decide) ?_
      exact hj101 _ _ _ _ H locs ls w (lv_sub hl [0, 1, 2] rfl) hf
  unfold fM9_creditOf at hf
  refine lv_aload_n hx hb dX9_creditOf_0 rfl (lv_at hl 0 rfl) ?_
  refine mg_0_12 C w lf_9_125 dX9_creditOf_1 ?_
  refine lv_if_eq (tgt := 15) hx hb dX9_creditOf_4 (by decide) (fun h => ?_) (fun h => ?_)
  · replace hf := zf_t h hf
    refine lv_iconst (v := 0) hx hb dX9_creditOf_15 (by decide) ?_
    exact hret _ _ _ _ _ _ hf w dX9_creditOf_16
  · replace hf := zf_f h hf
    refine lv_aload_n hx hb dX9_creditOf_7 rfl (lv_at hl 0 rfl) ?_
    refine mg_0_26 C w lf_9_57 dX9_creditOf_8 ?_
    refine lv_iconst (v := (-1)) hx hb dX9_creditOf_11 (by decide) ?_
    refine lv_icmp_ne (tgt := 17) hx hb dX9_creditOf_12 (by decide) (fun h => ?_) (fun h => ?_)
    · replace hf := zf_f h hf
      refine lv_aload_n hx hb dX9_creditOf_17 rfl (lv_at hl 0 rfl) ?_
      refine lv_iload_n hx hb dX9_creditOf_18 rfl (lv_at hl 1 rfl) ?_
      refine lv_iload_n hx hb dX9_creditOf_19 rfl (lv_at hl 2 rfl) ?_
      refine lv_aload_n hx hb dX9_creditOf_20 rfl (lv_at hl 0 rfl) ?_
      refine mg_0_26 C w lf_9_57 dX9_creditOf_21 ?_
      obtain ⟨r1, u2, hc, hf⟩ := zf_bi_ex hf
      refine zc_ri wM_ad w (zc_V C w (kM9_asks l D q cs N _ _ _ _ _ hc _) cf_9_asks ci_9_asks lm_9_190 rcM_0 ⟨Nat.le_of_ble_eq_true rfl, Nat.le_of_ble_eq_true rfl⟩ hl.1 rfl (Nat.le_of_ble_eq_true rfl) dX9_creditOf_24 ⟨Nat.le_refl _, Nat.le_refl _⟩) (fun H locs w => ?_)
      refine lv_pop hx hb dX9_creditOf_27 rfl ?_
      refine lv_aload_n hx hb dX9_creditOf_28 rfl (lv_at hl 0 rfl) ?_
      refine mg_0_34 C w lf_9_174 dX9_creditOf_29 ?_
      refine lv_if_ne (tgt := 37) hx hb dX9_creditOf_32 (by decide) (fun h => ?_) (fun h => ?_)
      · replace hf := zf_f h hf
        refine lv_iconst (v := 0) hx hb dX9_creditOf_37 (by decide) ?_
        refine lv_istore_n (lv' := [(3, .int 0), (0, .ref (q 0)), (1, .int v1), (2, .int v2)]) hx hb dX9_creditOf_38 rfl hl (by decide) rfl (fun ls hl => ?_)
        refine lv_iconst (v := 1) hx hb dX9_creditOf_39 (by decide) ?_
        refine lv_istore (lv' := [(4, .int 1), (3, .int 0), (0, .ref (q 0)), (1, .int v1), (2, .int v2)]) hx hb dX9_creditOf_40 hl (by decide) rfl (fun ls hl => ?_)
        have lp42 : ∀ (v1 : Int32) (v2 : Int32) (n : Nat) (x : zs_T × Int32 × Int32), zf_loop (fun ag x => fM9_creditOf_b42 N v1 v2 (fun u v3 v4 => ag (u, v3, v4)) x.1 x.2.1 x.2.2) n x = some z → ∀ (H : Heap) (locs : List Loc) (ls : Array Slot), zg_W D cs A s (wM q cs x.1) H locs → lv_has ls 6 [(0, .ref (q 0)), (1, .int v1), (2, .int v2), (3, .int x.2.1), (4, .int x.2.2)] → W p l e (zg_rm 2) s m args below meth c H locs 0 0 Q (F0 m 42 ls []) := by
          intro v1 v2
          refine zf_loop_W (fun x : zs_T × Int32 × Int32 => ∀ (H : Heap) (locs : List Loc) (ls : Array Slot), zg_W D cs A s (wM q cs x.1) H locs → lv_has ls 6 [(0, .ref (q 0)), (1, .int v1), (2, .int v2), (3, .int x.2.1), (4, .int x.2.2)] → W p l e (zg_rm 2) s m args below meth c H locs 0 0 Q (F0 m 42 ls [])) ?_
          intro ag42 x hag42 hf
          obtain ⟨u, v3, v4⟩ := x
          intro H locs ls w hl
          replace hf : fM9_creditOf_b42 N v1 v2 (fun u v3 v4 => ag42 (u, v3, v4)) u v3 v4 = some z := hf
          replace hl : lv_has ls 6 [(0, .ref (q 0)), (1, .int v1), (2, .int v2), (3, .int v3), (4, .int v4)] := hl
          replace w : zg_W D cs A s (wM q cs u) H locs := w
          unfold fM9_creditOf_b42 at hf
          refine lv_iload hx hb dX9_creditOf_42 (lv_at hl 4 rfl) ?_
          refine lv_aload_n hx hb dX9_creditOf_44 rfl (lv_at hl 0 rfl) ?_
          refine mg_0_12 C w lf_9_125 dX9_creditOf_45 ?_
          refine lv_icmp_gt (tgt := 81) hx hb dX9_creditOf_48 (by decide) (fun h => ?_) (fun h => ?_)
          · replace hf := zf_t h hf
            exact hj81 _ _ _ H locs ls w (lv_sub hl [0, 2, 3] rfl) hf
          · replace hf := zf_f h hf
            refine lv_aload_n hx hb dX9_creditOf_51 rfl (lv_at hl 0 rfl) ?_
            refine lv_iload_n hx hb dX9_creditOf_52 rfl (lv_at hl 1 rfl) ?_
            refine lv_iload_n hx hb dX9_creditOf_53 rfl (lv_at hl 2 rfl) ?_
            refine lv_iload hx hb dX9_creditOf_54 (lv_at hl 4 rfl) ?_
            obtain ⟨r3, u4, hc, hf⟩ := zf_bi_ex hf
            refine zc_ri wM_ad w (zc_V C w (kM9_asks l D q cs N _ _ _ _ _ hc _) cf_9_asks ci_9_asks lm_9_190 rcM_0 ⟨Nat.le_of_ble_eq_true rfl, Nat.le_of_ble_eq_true rfl⟩ hl.1 rfl (Nat.le_of_ble_eq_true rfl) dX9_creditOf_56 ⟨Nat.le_refl _, Nat.le_refl _⟩) (fun H locs w => ?_)
            refine lv_pop hx hb dX9_creditOf_59 rfl ?_
            refine lv_iload_n hx hb dX9_creditOf_60 rfl (lv_at hl 3 rfl) ?_
            refine lv_aload_n hx hb dX9_creditOf_61 rfl (lv_at hl 0 rfl) ?_
            refine mg_0_34 C w lf_9_174 dX9_creditOf_62 ?_
            refine lv_if_eq (tgt := 72) hx hb dX9_creditOf_65 (by decide) (fun h => ?_) (fun h => ?_)
            · replace hf := zf_t h hf
              refine lv_iconst (v := 1) hx hb dX9_creditOf_72 (by decide) ?_
              refine lv_iadd hx hb dX9_creditOf_73 ?_
              refine lv_istore_n (lv' := [(3, .int (v3 + 1)), (0, .ref (q 0)), (1, .int v1), (2, .int v2), (4, .int v4)]) hx hb dX9_creditOf_74 rfl hl (by decide) rfl (fun ls hl => ?_)
              refine lv_iinc (v := v4 + 1) (lv' := [(4, .int (v4 + 1)), (3, .int (v3 + 1)), (0, .ref (q 0)), (1, .int v1), (2, .int v2)]) hx hb dX9_creditOf_75 hl (k := 4) rfl rfl (by decide) rfl (fun ls hl => ?_)
              refine lv_goto (tgt := 42) hx hb dX9_creditOf_78 (by decide) ?_
              exact hag42 (u4, v3 + 1, v4 + 1) hf H locs ls w (lv_sub hl [2, 3, 4, 1, 0] rfl)
            · replace hf := zf_f h hf
              refine lv_iconst (v := 0) hx hb dX9_creditOf_68 (by decide) ?_
              refine lv_goto (tgt := 73) hx hb dX9_creditOf_69 (by decide) ?_
              refine lv_iadd hx hb dX9_creditOf_73 ?_
              refine lv_istore_n (lv' := [(3, .int (v3 + 0)), (0, .ref (q 0)), (1, .int v1), (2, .int v2), (4, .int v4)]) hx hb dX9_creditOf_74 rfl hl (by decide) rfl (fun ls hl => ?_)
              refine lv_iinc (v := v4 + 1) (lv' := [(4, .int (v4 + 1)), (3, .int (v3 + 0)), (0, .ref (q 0)), (1, .int v1), (2, .int v2)]) hx hb dX9_creditOf_75 hl (k := 4) rfl rfl (by decide) rfl (fun ls hl => ?_)
              refine lv_goto (tgt := 42) hx hb dX9_creditOf_78 (by decide) ?_
              exact hag42 (u4, v3 + 0, v4 + 1) hf H locs ls w (lv_sub hl [2, 3, 4, 1, 0] rfl)
        exact lp42 _ _ _ _ hf H locs ls w (lv_sub hl [2, 3, 4, 1, 0] rfl)
      · replace hf := zf_t h hf
        refine lv_iconst (v := 0) hx hb dX9_creditOf_35 (by decide) ?_
        exact hret _ _ _ _ _ _ hf w dX9_creditOf_36
    · replace hf := zf_t h hf
      refine lv_iconst (v := 0) hx hb dX9_creditOf_15 (by decide) ?_
      exact hret _ _ _ _ _ _ hf w dX9_creditOf_16
def fM9_credit (N : Nat) (u : zs_T) (v1 : Int32) (v2 : Int32) : Option (Int32 × zs_T) :=
  (zf_bp (fM9_isKnowing u v1) fun r1 => (if r1 = 0 then some ((-1), u) else (zf_bp (fM9_isSheep u v2) fun r3 => (if r3 = 0 then some ((-1), u) else (zf_bi (fM9_creditOf N u v1 v2) fun r5 u6 => some (r5, u6))))))
set_option maxHeartbeats 4000000 in
set_option maxRecDepth 100000 in
theorem kM9_credit (l : Launch) (D : va_G) (q : Nat → Nat) (cs : Nat → ClassId) (N : Nat) (u : zs_T) (v1 : Int32) (v2 : Int32) (z : (Int32 × zs_T)) (hf : fM9_credit N u v1 v2 = some z) : zg_Ci l yX9_credit cX9_credit 3 (some .int) 3 D cs (wM q cs) u [.ref (q 0), .int v1, .int v2] z.1 z.2 := by
  refine zg_Ci_of (own := RX9) (by decide) rfl wM_ad (Nat.le_of_ble_eq_true rfl) ?_
  intro p e s m args below meth c A Q C hret w ls hl
  obtain ⟨hx, hb, -⟩ := id C
  have hl : lv_has ls 3 [(0, .ref (q 0)), (1, .int v1), (2, .int v2)] := hl
  generalize hH : s.heap = H at w ⊢
  generalize hLc : ([] : List Loc) = locs at w ⊢
  unfold fM9_credit at hf
  refine lv_aload_n hx hb dX9_credit_0 rfl (lv_at hl 0 rfl) ?_
  refine lv_iload_n hx hb dX9_credit_1 rfl (lv_at hl 1 rfl) ?_
  obtain ⟨r1, hc, hf⟩ := zf_bp_ex hf
  refine zc_ri wM_ad w (zc_V C w (kM9_isKnowing l D q cs _ _ _ hc _) cf_9_isKnowing ci_9_isKnowing lm_9_197 rcM_0 ⟨Nat.le_of_ble_eq_true rfl, Nat.le_of_ble_eq_true rfl⟩ hl.1 rfl (Nat.le_of_ble_eq_true rfl) dX9_credit_2 ⟨Nat.le_refl _, Nat.le_refl _⟩) (fun H locs w => ?_)
  refine lv_if_eq (tgt := 25) hx hb dX9_credit_5 (by decide) (fun h => ?_) (fun h => ?_)
  · replace hf := zf_t h hf
    refine lv_iconst (v := (-1)) hx hb dX9_credit_25 (by decide) ?_
    exact hret _ _ _ _ _ _ hf w dX9_credit_26
  · replace hf := zf_f h hf
    refine lv_aload_n hx hb dX9_credit_8 rfl (lv_at hl 0 rfl) ?_
    refine lv_iload_n hx hb dX9_credit_9 rfl (lv_at hl 2 rfl) ?_
    obtain ⟨r3, hc, hf⟩ := zf_bp_ex hf
    refine zc_ri wM_ad w (zc_V C w (kM9_isSheep l D q cs _ _ _ hc _) cf_9_isSheep ci_9_isSheep lm_9_194 rcM_0 ⟨Nat.le_of_ble_eq_true rfl, Nat.le_of_ble_eq_true rfl⟩ hl.1 rfl (Nat.le_of_ble_eq_true rfl) dX9_credit_10 ⟨Nat.le_refl _, Nat.le_refl _⟩) (fun H locs w => ?_)
    refine lv_if_eq (tgt := 25) hx hb dX9_credit_13 (by decide) (fun h => ?_) (fun h => ?_)
    · replace hf := zf_t h hf
      refine lv_iconst (v := (-1)) hx hb dX9_credit_25 (by decide) ?_
      exact hret _ _ _ _ _ _ hf w dX9_credit_26
    · replace hf := zf_f h hf
      refine lv_aload_n hx hb dX9_credit_16 rfl (lv_at hl 0 rfl) ?_
      refine lv_iload_n hx hb dX9_credit_17 rfl (lv_at hl 1 rfl) ?_
      refine lv_iload_n hx hb dX9_credit_18 rfl (lv_at hl 2 rfl) ?_
      obtain ⟨r5, u6, hc, hf⟩ := zf_bi_ex hf
      refine zc_ri wM_ad w (zc_V C w (kM9_creditOf l D q cs N _ _ _ _ hc _) cf_9_creditOf ci_9_creditOf lm_9_200 rcM_0 ⟨Nat.le_of_ble_eq_true rfl, Nat.le_of_ble_eq_true rfl⟩ hl.1 rfl (Nat.le_of_ble_eq_true rfl) dX9_credit_19 ⟨Nat.le_refl _, Nat.le_refl _⟩) (fun H locs w => ?_)
      refine lv_goto (tgt := 26) hx hb dX9_credit_22 (by decide) ?_
      exact hret _ _ _ _ _ _ hf w dX9_credit_26
def fM9_reckons_j175 (N : Nat) (ag23 : zs_T → Int32 → Option zs_T) (u : zs_T) (v1 : Int32) (v2 : Int32) (v4 : Int32) : Option zs_T :=
  (if zf_in (zs_i u 20) 12 then (if zf_in (zs_i u 20) 12 then ag23 (zs_sa u 16 (upd (zs_a u 16) (zs_i u 20).toNatClampNeg ((zs_a u 16 (zs_i u 20).toNatClampNeg) + v4))) (v2 + 1) else none) else none)
def fM9_reckons_b122 (N : Nat) (ag23 : zs_T → Int32 → Option zs_T) (v1 : Int32) (v2 : Int32) (v3 : Int32) (ag122 : zs_T → Int32 → Int32 → Option zs_T) (u : zs_T) (v4 : Int32) (v5 : Int32) : Option zs_T :=
  (if 12 ≤ v5 then fM9_reckons_j175 N ag23 u v1 v2 v4 else (if zf_in v5 12 then (if ¬ zs_i u 10 = 0 then (if zf_in v5 12 then (if zf_in v5 12 then ag122 (zs_sa u 16 (upd (zs_a u 16) v5.toNatClampNeg ((zs_a u 16 v5.toNatClampNeg) + ((v3 * (zs_a u 15 v5.toNatClampNeg)) / (zs_i u 10))))) (v4 - ((v3 * (zs_a u 15 v5.toNatClampNeg)) / (zs_i u 10))) (v5 + 1) else none) else none) else none) else none))
def fM9_reckons_j116 (N : Nat) (ag23 : zs_T → Int32 → Option zs_T) (u : zs_T) (v1 : Int32) (v2 : Int32) (v3 : Int32) : Option zs_T :=
  zf_loop (fun ag x => fM9_reckons_b122 N ag23 v1 v2 v3 (fun u v4 v5 => ag (u, v4, v5)) x.1 x.2.1 x.2.2) N (u, v3, 0)
def fM9_reckons_b72 (N : Nat) (ag23 : zs_T → Int32 → Option zs_T) (v1 : Int32) (v2 : Int32) (v3 : Int32) (ag72 : zs_T → Int32 → Option zs_T) (u : zs_T) (v4 : Int32) : Option zs_T :=
  (if zs_i u 10 < v4 then fM9_reckons_j116 N ag23 u v1 v2 v3 else (zf_bi (fM9_asks N u v1 v2 v4) fun r3 u4 => (if zf_in (zs_i u4 20) 12 then (if zf_in (zs_i u4 20) 12 then ag72 (zs_sa u4 15 (upd (zs_a u4 15) (zs_i u4 20).toNatClampNeg ((zs_a u4 15 (zs_i u4 20).toNatClampNeg) + 1))) (v4 + 1) else none) else none)))
def fM9_reckons_j69 (N : Nat) (ag23 : zs_T → Int32 → Option zs_T) (u : zs_T) (v1 : Int32) (v2 : Int32) (v3 : Int32) : Option zs_T :=
  zf_loop (fun ag x => fM9_reckons_b72 N ag23 v1 v2 v3 (fun u v4 => ag (u, v4)) x.1 x.2) N (u, 1)
def fM9_reckons_b48 (N : Nat) (ag23 : zs_T → Int32 → Option zs_T) (v1 : Int32) (v2 : Int32) (v3 : Int32) (ag48 : zs_T → Int32 → Option zs_T) (u : zs_T) (v4 : Int32) : Option zs_T :=
  (if 12 ≤ v4 then fM9_reckons_j69 N ag23 u v1 v2 v3 else (if zf_in v4 12 then ag48 (zs_sa u 15 (upd (zs_a u 15) v4.toNatClampNeg 0)) (v4 + 1) else none))
def fM9_reckons_b23 (N : Nat) (v1 : Int32) (ag23 : zs_T → Int32 → Option zs_T) (u : zs_T) (v2 : Int32) : Option zs_T :=
  (if zs_i u 15 ≤ v2 then some u else (zf_bi (fM9_creditOf N u v1 v2) fun r1 u2 => (if r1 = 0 then ag23 u2 (v2 + 1) else zf_loop (fun ag x => fM9_reckons_b48 N ag23 v1 v2 r1 (fun u v4 => ag (u, v4)) x.1 x.2) N (u2, 0))))
def fM9_reckons_j21 (N : Nat) (u : zs_T) (v1 : Int32) : Option zs_T :=
  zf_loop (fun ag x => fM9_reckons_b23 N v1 (fun u v2 => ag (u, v2)) x.1 x.2) N (u, 0)
def fM9_reckons_b2 (N : Nat) (v1 : Int32) (ag2 : zs_T → Int32 → Option zs_T) (u : zs_T) (v2 : Int32) : Option zs_T :=
  (if 12 ≤ v2 then fM9_reckons_j21 N u v1 else (if zf_in v2 12 then ag2 (zs_sa u 16 (upd (zs_a u 16) v2.toNatClampNeg 0)) (v2 + 1) else none))
def fM9_reckons (N : Nat) (u : zs_T) (v1 : Int32) : Option zs_T :=
  zf_loop (fun ag x => fM9_reckons_b2 N v1 (fun u v2 => ag (u, v2)) x.1 x.2) N (u, 0)
set_option maxHeartbeats 4000000 in
set_option maxRecDepth 100000 in
theorem kM9_reckons (l : Launch) (D : va_G) (q : Nat → Nat) (cs : Nat → ClassId) (N : Nat) (u : zs_T) (v1 : Int32) (z : zs_T) (hf : fM9_reckons N u v1 = some z) : zg_Cv l yX9_reckons cX9_reckons 7 none 3 D cs (wM q cs) u [.ref (q 0), .int v1] z := by
  refine zg_Cv_of (own := RX9) (by decide) rfl wM_ad (Nat.le_of_ble_eq_true rfl) ?_
  intro p e s m args below meth c A Q C hret w ls hl
  obtain ⟨hx, hb, -⟩ := id C
  have hl : lv_has ls 7 [(0, .ref (q 0)), (1, .int v1)] := hl
  generalize hH : s.heap = H at w ⊢
  generalize hLc : ([] : List Loc) = locs at w ⊢
  have hj21 : ∀ (u : zs_T) (v1 : Int32) (H : Heap) (locs : List Loc) (ls : Array Slot), zg_W D cs A s (wM q cs u) H locs → lv_has ls 7 [(0, .ref (q 0)), (1, .int v1)] → fM9_reckons_j21 N u v1 = some z → W p l e (zg_rm 3) s m args below meth c H locs 0 0 Q (F0 m 21 ls []) := by
    intro u v1 H locs ls w hl hf
    unfold fM9_reckons_j21 at hf
    refine lv_iconst (v := 0) hx hb dX9_reckons_21 (by decide) ?_
    refine lv_istore_n (lv' := [(2, .int 0), (0, .ref (q 0)), (1, .int v1)]) hx hb dX9_reckons_22 rfl hl (by decide) rfl (fun ls hl => ?_)
    have lp23 : ∀ (v1 : Int32) (n : Nat) (x : zs_T × Int32), zf_loop (fun ag x => fM9_reckons_b23 N v1 (fun u v2 => ag (u, v2)) x.1 x.2) n x = some z → ∀ (H : Heap) (locs : List Loc) (ls : Array Slot), zg_W D cs A s (wM q cs x.1) H locs → lv_has ls 7 [(0, .ref (q 0)), (1, .int v1), (2, .int x.2)] → W p l e (zg_rm 3) s m args below meth c H locs 0 0 Q (F0 m 23 ls []) := by
      intro v1
      refine zf_loop_W (fun x : zs_T × Int32 => ∀ (H : Heap) (locs : List Loc) (ls : Array Slot), zg_W D cs A s (wM q cs x.1) H locs → lv_has ls 7 [(0, .ref (q 0)), (1, .int v1), (2, .int x.2)] → W p l e (zg_rm 3) s m args below meth c H locs 0 0 Q (F0 m 23 ls [])) ?_
      intro ag23 x hag23 hf
      obtain ⟨u, v2⟩ := x
      intro H locs ls w hl
      replace hf : fM9_reckons_b23 N v1 (fun u v2 => ag23 (u, v2)) u v2 = some z := hf
      replace hl : lv_has ls 7 [(0, .ref (q 0)), (1, .int v1), (2, .int v2)] := hl
      replace w : zg_W D cs A s (wM q cs u) H locs := w
      have hj175 : ∀ (u : zs_T) (v2 : Int32) (v4 : Int32) (H : Heap) (locs : List Loc) (ls : Array Slot), zg_W D cs A s (wM q cs u) H locs → lv_has ls 7 [(0, .ref (q 0)), (1, .int v1), (2, .int v2), (4, .int v4)] → fM9_reckons_j175 N (fun u v2 => ag23 (u, v2)) u v1 v2 v4 = some z → W p l e (zg_rm 3) s m args below meth c H locs 0 0 Q (F0 m 175 ls []) := by
        intro u v2 v4 H locs ls w hl hf
        unfold fM9_reckons_j175 at hf
        refine lv_aload_n hx hb dX9_reckons_175 rfl (lv_at hl 0 rfl) ?_
        refine mg_0_38 C w lf_9_85 dX9_reckons_176 ?_
        refine lv_aload_n hx hb dX9_reckons_179 rfl (lv_at hl 0 rfl) ?_
        refine mg_0_36 C w lf_9_181 dX9_reckons_180 ?_
        refine lv_aload_n hx hb dX9_reckons_183 rfl (lv_at hl 0 rfl) ?_
        refine mg_0_38 C w lf_9_85 dX9_reckons_184 ?_
        refine lv_aload_n hx hb dX9_reckons_187 rfl (lv_at hl 0 rfl) ?_
        refine mg_0_36 C w lf_9_181 dX9_reckons_188 ?_
        obtain ⟨hi, hf⟩ := zf_gd hf
        refine ma_17 C w hi dX9_reckons_191 ?_
        refine lv_iload hx hb dX9_reckons_192 (lv_at hl 3 rfl) ?_
        refine lv_iadd hx hb dX9_reckons_194 ?_
        obtain ⟨hi, hf⟩ := zf_gd hf
        refine ms_17 C w hi dX9_reckons_195 (fun H locs w => ?_)
        refine lv_iinc (v := v2 + 1) (lv' := [(2, .int (v2 + 1)), (0, .ref (q 0)), (1, .int v1), (4, .int v4)]) hx hb dX9_reckons_196 hl (k := 2) rfl rfl (by decide) rfl (fun ls hl => ?_)
        refine lv_goto (tgt := 23) hx hb dX9_reckons_199 (by decide) ?_
        exact hag23 (zs_sa u 16 (upd (zs_a u 16) (zs_i u 20).toNatClampNeg ((zs_a u 16 (zs_i u 20).toNatClampNeg) + v4)), v2 + 1) hf H locs ls w (lv_sub hl [1, 2, 0] rfl)
      have hj116 : ∀ (u : zs_T) (v2 : Int32) (v3 : Int32) (H : Heap) (locs : List Loc) (ls : Array Slot), zg_W D cs A s (wM q cs u) H locs → lv_has ls 7 [(0, .ref (q 0)), (1, .int v1), (2, .int v2), (3, .int v3)] → fM9_reckons_j116 N (fun u v2 => ag23 (u, v2)) u v1 v2 v3 = some z → W p l e (zg_rm 3) s m args below meth c H locs 0 0 Q (F0 m 116 ls []) := by
        intro u v2 v3 H locs ls w hl hf
        unfold fM9_reckons_j116 at hf
        refine lv_iload_n hx hb dX9_reckons_116 rfl (lv_at hl 3 rfl) ?_
        refine lv_istore (lv' := [(4, .int v3), (0, .ref (q 0)), (1, .int v1), (2, .int v2), (3, .int v3)]) hx hb dX9_reckons_117 hl (by decide) rfl (fun ls hl => ?_)
        refine lv_iconst (v := 0) hx hb dX9_reckons_119 (by decide) ?_
        refine lv_istore (lv' := [(5, .int 0), (4, .int v3), (0, .ref (q 0)), (1, .int v1), (2, .int v2), (3, .int v3)]) hx hb dX9_reckons_120 hl (by decide) rfl (fun ls hl => ?_)
        have lp122 : ∀ (v2 : Int32) (v3 : Int32) (n : Nat) (x : zs_T × Int32 × Int32), zf_loop (fun ag x => fM9_reckons_b122 N (fun u v2 => ag23 (u, v2)) v1 v2 v3 (fun u v4 v5 => ag (u, v4, v5)) x.1 x.2.1 x.2.2) n x = some z → ∀ (H : Heap) (locs : List Loc) (ls : Array Slot), zg_W D cs A s (wM q cs x.1) H locs → lv_has ls 7 [(0, .ref (q 0)), (1, .int v1), (2, .int v2), (3, .int v3), (4, .int x.2.1), (5, .int x.2.2)] → W p l e (zg_rm 3) s m args below meth c H locs 0 0 Q (F0 m 122 ls []) := by
          intro v2 v3
          refine zf_loop_W (fun x : zs_T × Int32 × Int32 => ∀ (H : Heap) (locs : List Loc) (ls : Array Slot), zg_W D cs A s (wM q cs x.1) H locs → lv_has ls 7 [(0, .ref (q 0)), (1, .int v1), (2, .int v2), (3, .int v3), (4, .int x.2.1), (5, .int x.2.2)] → W p l e (zg_rm 3) s m args below meth c H locs 0 0 Q (F0 m 122 ls [])) ?_
          intro ag122 x hag122 hf
          obtain ⟨u, v4, v5⟩ := x
          intro H locs ls w hl
          replace hf : fM9_reckons_b122 N (fun u v2 => ag23 (u, v2)) v1 v2 v3 (fun u v4 v5 => ag122 (u, v4, v5)) u v4 v5 = some z := hf
          replace hl : lv_has ls 7 [(0, .ref (q 0)), (1, .int v1), (2, .int v2), (3, .int v3), (4, .int v4), (5, .int v5)] := hl
          replace w : zg_W D cs A s (wM q cs u) H locs := w
          unfold fM9_reckons_b122 at hf
          refine lv_iload hx hb dX9_reckons_122 (lv_at hl 5 rfl) ?_
          refine lv_bipush (v := 12) hx hb dX9_reckons_124 (by decide) ?_
          refine lv_icmp_ge (tgt := 175) hx hb dX9_reckons_126 (by decide) (fun h => ?_) (fun h => ?_)
          · replace hf := zf_t h hf
            exact hj175 _ _ _ H locs ls w (lv_sub hl [0, 1, 2, 4] rfl) hf
          · replace hf := zf_f h hf
            refine lv_iload_n hx hb dX9_reckons_129 rfl (lv_at hl 3 rfl) ?_
            refine lv_aload_n hx hb dX9_reckons_130 rfl (lv_at hl 0 rfl) ?_
            refine mg_0_37 C w lf_9_82 dX9_reckons_131 ?_
            refine lv_iload hx hb dX9_reckons_134 (lv_at hl 5 rfl) ?_
            obtain ⟨hi, hf⟩ := zf_gd hf
            refine ma_16 C w hi dX9_reckons_136 ?_
            refine lv_imul hx hb dX9_reckons_137 ?_
            refine lv_aload_n hx hb dX9_reckons_138 rfl (lv_at hl 0 rfl) ?_
            refine mg_0_12 C w lf_9_125 dX9_reckons_139 ?_
            obtain ⟨hne, hf⟩ := zf_gd hf
            refine lv_idiv hx hb dX9_reckons_142 hne ?_
            refine lv_istore (lv' := [(6, .int ((v3 * (zs_a u 15 v5.toNatClampNeg)) / (zs_i u 10))), (0, .ref (q 0)), (1, .int v1), (2, .int v2), (3, .int v3), (4, .int v4), (5, .int v5)]) hx hb dX9_reckons_143 hl (by decide) rfl (fun ls hl => ?_)
            refine lv_aload_n hx hb dX9_reckons_145 rfl (lv_at hl 1 rfl) ?_
            refine mg_0_38 C w lf_9_85 dX9_reckons_146 ?_
            refine lv_iload hx hb dX9_reckons_149 (lv_at hl 6 rfl) ?_
            refine lv_aload_n hx hb dX9_reckons_151 rfl (lv_at hl 1 rfl) ?_
            refine mg_0_38 C w lf_9_85 dX9_reckons_152 ?_
            refine lv_iload hx hb dX9_reckons_155 (lv_at hl 6 rfl) ?_
            obtain ⟨hi, hf⟩ := zf_gd hf
            refine ma_17 C w hi dX9_reckons_157 ?_
            refine lv_iload hx hb dX9_reckons_158 (lv_at hl 0 rfl) ?_
            refine lv_iadd hx hb dX9_reckons_160 ?_
            obtain ⟨hi, hf⟩ := zf_gd hf
            refine ms_17 C w hi dX9_reckons_161 (fun H locs w => ?_)
            refine lv_iload hx hb dX9_reckons_162 (lv_at hl 5 rfl) ?_
            refine lv_iload hx hb dX9_reckons_164 (lv_at hl 0 rfl) ?_
            refine lv_isub hx hb dX9_reckons_166 ?_
            refine lv_istore (lv' := [(4, .int (v4 - ((v3 * (zs_a u 15 v5.toNatClampNeg)) / (zs_i u 10)))), (6, .int ((v3 * (zs_a u 15 v5.toNatClampNeg)) / (zs_i u 10))), (0, .ref (q 0)), (1, .int v1), (2, .int v2), (3, .int v3), (5, .int v5)]) hx hb dX9_reckons_167 hl (by decide) rfl (fun ls hl => ?_)
            refine lv_iinc (v := v5 + 1) (lv' := [(5, .int (v5 + 1)), (4, .int (v4 - ((v3 * (zs_a u 15 v5.toNatClampNeg)) / (zs_i u 10)))), (6, .int ((v3 * (zs_a u 15 v5.toNatClampNeg)) / (zs_i u 10))), (0, .ref (q 0)), (1, .int v1), (2, .int v2), (3, .int v3)]) hx hb dX9_reckons_169 hl (k := 6) rfl rfl (by decide) rfl (fun ls hl => ?_)
            refine lv_goto (tgt := 122) hx hb dX9_reckons_172 (by decide) ?_
            exact hag122 (zs_sa u 16 (upd (zs_a u 16) v5.toNatClampNeg ((zs_a u 16 v5.toNatClampNeg) + ((v3 * (zs_a u 15 v5.toNatClampNeg)) / (zs_i u 10)))), v4 - ((v3 * (zs_a u 15 v5.toNatClampNeg)) / (zs_i u 10)), v5 + 1) hf H locs ls w (lv_sub hl [3, 4, 5, 6, 1, 0] rfl)
        exact lp122 _ _ _ _ hf H locs ls w (lv_sub hl [2, 3, 4, 5, 1, 0] rfl)
      have hj69 : ∀ (u : zs_T) (v2 : Int32) (v3 : Int32) (H : Heap) (locs : List Loc) (ls : Array Slot), zg_W D cs A s (wM q cs u) H locs → lv_has ls 7 [(0, .ref (q 0)), (1, .int v1), (2, .int v2), (3, .int v3)] → fM9_reckons_j69 N (fun u v2 => ag23 (u, v2)) u v1 v2 v3 = some z → W p l e (zg_rm 3) s m args below meth c H locs 0 0 Q (F0 m 69 ls []) := by
        intro u v2 v3 H locs ls w hl hf
        unfold fM9_reckons_j69 at hf
        refine lv_iconst (v := 1) hx hb dX9_reckons_69 (by decide) ?_
        refine lv_istore (lv' := [(4, .int 1), (0, .ref (q 0)), (1, .int v1), (2, .int v2), (3, .int v3)]) hx hb dX9_reckons_70 hl (by decide) rfl (fun ls hl => ?_)
        have lp72 : ∀ (v2 : Int32) (v3 : Int32) (n : Nat) (x : zs_T × Int32), zf_loop (fun ag x => fM9_reckons_b72 N (fun u v2 => ag23 (u, v2)) v1 v2 v3 (fun u v4 => ag (u, v4)) x.1 x.2) n x = some z → ∀ (H : Heap) (locs : List Loc) (ls : Array Slot), zg_W D cs A s (wM q cs x.1) H locs → lv_has ls 7 [(0, .ref (q 0)), (1, .int v1), (2, .int v2), (3, .int v3), (4, .int x.2)] → W p l e (zg_rm 3) s m args below meth c H locs 0 0 Q (F0 m 72 ls []) := by
          intro v2 v3
          refine zf_loop_W (fun x : zs_T × Int32 => ∀ (H : Heap) (locs : List Loc) (ls : Array Slot), zg_W D cs A s (wM q cs x.1) H locs → lv_has ls 7 [(0, .ref (q 0)), (1, .int v1), (2, .int v2), (3, .int v3), (4, .int x.2)] → W p l e (zg_rm 3) s m args below meth c H locs 0 0 Q (F0 m 72 ls [])) ?_
          intro ag72 x hag72 hf
          obtain ⟨u, v4⟩ := x
          intro H locs ls w hl
          replace hf : fM9_reckons_b72 N (fun u v2 => ag23 (u, v2)) v1 v2 v3 (fun u v4 => ag72 (u, v4)) u v4 = some z := hf
          replace hl : lv_has ls 7 [(0, .ref (q 0)), (1, .int v1), (2, .int v2), (3, .int v3), (4, .int v4)] := hl
          replace w : zg_W D cs A s (wM q cs u) H locs := w
          unfold fM9_reckons_b72 at hf
          refine lv_iload hx hb dX9_reckons_72 (lv_at hl 4 rfl) ?_
          refine lv_aload_n hx hb dX9_reckons_74 rfl (lv_at hl 0 rfl) ?_
          refine mg_0_12 C w lf_9_125 dX9_reckons_75 ?_
          refine lv_icmp_gt (tgt := 116) hx hb dX9_reckons_78 (by decide) (fun h => ?_) (fun h => ?_)
          · replace hf := zf_t h hf
            exact hj116 _ _ _ H locs ls w (lv_sub hl [0, 1, 2, 3] rfl) hf
          · replace hf := zf_f h hf
            refine lv_aload_n hx hb dX9_reckons_81 rfl (lv_at hl 0 rfl) ?_
            refine lv_iload_n hx hb dX9_reckons_82 rfl (lv_at hl 1 rfl) ?_
            refine lv_iload_n hx hb dX9_reckons_83 rfl (lv_at hl 2 rfl) ?_
            refine lv_iload hx hb dX9_reckons_84 (lv_at hl 4 rfl) ?_
            obtain ⟨r3, u4, hc, hf⟩ := zf_bi_ex hf
            refine zc_ri wM_ad w (zc_V C w (kM9_asks l D q cs N _ _ _ _ _ hc _) cf_9_asks ci_9_asks lm_9_190 rcM_0 ⟨Nat.le_of_ble_eq_true rfl, Nat.le_of_ble_eq_true rfl⟩ hl.1 rfl (Nat.le_of_ble_eq_true rfl) dX9_reckons_86 ⟨Nat.le_refl _, Nat.le_refl _⟩) (fun H locs w => ?_)
            refine lv_pop hx hb dX9_reckons_89 rfl ?_
            refine lv_aload_n hx hb dX9_reckons_90 rfl (lv_at hl 0 rfl) ?_
            refine mg_0_37 C w lf_9_82 dX9_reckons_91 ?_
            refine lv_aload_n hx hb dX9_reckons_94 rfl (lv_at hl 0 rfl) ?_
            refine mg_0_36 C w lf_9_181 dX9_reckons_95 ?_
            refine lv_aload_n hx hb dX9_reckons_98 rfl (lv_at hl 0 rfl) ?_
            refine mg_0_37 C w lf_9_82 dX9_reckons_99 ?_
            refine lv_aload_n hx hb dX9_reckons_102 rfl (lv_at hl 0 rfl) ?_
            refine mg_0_36 C w lf_9_181 dX9_reckons_103 ?_
            obtain ⟨hi, hf⟩ := zf_gd hf
            refine ma_16 C w hi dX9_reckons_106 ?_
            refine lv_iconst (v := 1) hx hb dX9_reckons_107 (by decide) ?_
            refine lv_iadd hx hb dX9_reckons_108 ?_
            obtain ⟨hi, hf⟩ := zf_gd hf
            refine ms_16 C w hi dX9_reckons_109 (fun H locs w => ?_)
            refine lv_iinc (v := v4 + 1) (lv' := [(4, .int (v4 + 1)), (0, .ref (q 0)), (1, .int v1), (2, .int v2), (3, .int v3)]) hx hb dX9_reckons_110 hl (k := 4) rfl rfl (by decide) rfl (fun ls hl => ?_)
            refine lv_goto (tgt := 72) hx hb dX9_reckons_113 (by decide) ?_
            exact hag72 (zs_sa u4 15 (upd (zs_a u4 15) (zs_i u4 20).toNatClampNeg ((zs_a u4 15 (zs_i u4 20).toNatClampNeg) + 1)), v4 + 1) hf H locs ls w (lv_sub hl [1, 2, 3, 4, 0] rfl)
        exact lp72 _ _ _ _ hf H locs ls w (lv_sub hl [1, 2, 3, 4, 0] rfl)
      unfold fM9_reckons_b23 at hf
      refine lv_iload_n hx hb dX9_reckons_23 rfl (lv_at hl 2 rfl) ?_
      refine lv_aload_n hx hb dX9_reckons_24 rfl (lv_at hl 0 rfl) ?_
      refine mg_0_24 C w lf_9_171 dX9_reckons_25 ?_
      refine lv_icmp_ge (tgt := 202) hx hb dX9_reckons_28 (by decide) (fun h => ?_) (fun h => ?_)
      · replace hf := zf_t h hf
        exact hret _ _ _ _ _ hf w dX9_reckons_202
      · replace hf := zf_f h hf
        refine lv_aload_n hx hb dX9_reckons_31 rfl (lv_at hl 0 rfl) ?_
        refine lv_iload_n hx hb dX9_reckons_32 rfl (lv_at hl 1 rfl) ?_
        refine lv_iload_n hx hb dX9_reckons_33 rfl (lv_at hl 2 rfl) ?_
        obtain ⟨r1, u2, hc, hf⟩ := zf_bi_ex hf
        refine zc_ri wM_ad w (zc_V C w (kM9_creditOf l D q cs N _ _ _ _ hc _) cf_9_creditOf ci_9_creditOf lm_9_200 rcM_0 ⟨Nat.le_of_ble_eq_true rfl, Nat.le_of_ble_eq_true rfl⟩ hl.1 rfl (Nat.le_of_ble_eq_true rfl) dX9_reckons_34 ⟨Nat.le_refl _, Nat.le_refl _⟩) (fun H locs w => ?_)
        refine lv_istore_n (lv' := [(3, .int r1), (0, .ref (q 0)), (1, .int v1), (2, .int v2)]) hx hb dX9_reckons_37 rfl hl (by decide) rfl (fun ls hl => ?_)
        refine lv_iload_n hx hb dX9_reckons_38 rfl (lv_at hl 0 rfl) ?_
        refine lv_if_ne (tgt := 45) hx hb dX9_reckons_39 (by decide) (fun h => ?_) (fun h => ?_)
        · replace hf := zf_f h hf
          refine lv_iconst (v := 0) hx hb dX9_reckons_45 (by decide) ?_
          refine lv_istore (lv' := [(4, .int 0), (3, .int r1), (0, .ref (q 0)), (1, .int v1), (2, .int v2)]) hx hb dX9_reckons_46 hl (by decide) rfl (fun ls hl => ?_)
          have lp48 : ∀ (v2 : Int32) (v3 : Int32) (n : Nat) (x : zs_T × Int32), zf_loop (fun ag x => fM9_reckons_b48 N (fun u v2 => ag23 (u, v2)) v1 v2 v3 (fun u v4 => ag (u, v4)) x.1 x.2) n x = some z → ∀ (H : Heap) (locs : List Loc) (ls : Array Slot), zg_W D cs A s (wM q cs x.1) H locs → lv_has ls 7 [(0, .ref (q 0)), (1, .int v1), (2, .int v2), (3, .int v3), (4, .int x.2)] → W p l e (zg_rm 3) s m args below meth c H locs 0 0 Q (F0 m 48 ls []) := by
            intro v2 v3
            refine zf_loop_W (fun x : zs_T × Int32 => ∀ (H : Heap) (locs : List Loc) (ls : Array Slot), zg_W D cs A s (wM q cs x.1) H locs → lv_has ls 7 [(0, .ref (q 0)), (1, .int v1), (2, .int v2), (3, .int v3), (4, .int x.2)] → W p l e (zg_rm 3) s m args below meth c H locs 0 0 Q (F0 m 48 ls [])) ?_
            intro ag48 x hag48 hf
            obtain ⟨u, v4⟩ := x
            intro H locs ls w hl
            replace hf : fM9_reckons_b48 N (fun u v2 => ag23 (u, v2)) v1 v2 v3 (fun u v4 => ag48 (u, v4)) u v4 = some z := hf
            replace hl : lv_has ls 7 [(0, .ref (q 0)), (1, .int v1), (2, .int v2), (3, .int v3), (4, .int v4)] := hl
            replace w : zg_W D cs A s (wM q cs u) H locs := w
            unfold fM9_reckons_b48 at hf
            refine lv_iload hx hb dX9_reckons_48 (lv_at hl 4 rfl) ?_
            refine lv_bipush (v := 12) hx hb dX9_reckons_50 (by decide) ?_
            refine lv_icmp_ge (tgt := 69) hx hb dX9_reckons_52 (by decide) (fun h => ?_) (fun h => ?_)
            · replace hf := zf_t h hf
              exact hj69 _ _ _ H locs ls w (lv_sub hl [0, 1, 2, 3] rfl) hf
            · replace hf := zf_f h hf
              refine lv_aload_n hx hb dX9_reckons_55 rfl (lv_at hl 0 rfl) ?_
              refine mg_0_37 C w lf_9_82 dX9_reckons_56 ?_
              refine lv_iload hx hb dX9_reckons_59 (lv_at hl 4 rfl) ?_
              refine lv_iconst (v := 0) hx hb dX9_reckons_61 (by decide) ?_
              obtain ⟨hi, hf⟩ := zf_gd hf
              refine ms_16 C w hi dX9_reckons_62 (fun H locs w => ?_)
              refine lv_iinc (v := v4 + 1) (lv' := [(4, .int (v4 + 1)), (0, .ref (q 0)), (1, .int v1), (2, .int v2), (3, .int v3)]) hx hb dX9_reckons_63 hl (k := 4) rfl rfl (by decide) rfl (fun ls hl => ?_)
              refine lv_goto (tgt := 48) hx hb dX9_reckons_66 (by decide) ?_
              exact hag48 (zs_sa u 15 (upd (zs_a u 15) v4.toNatClampNeg 0), v4 + 1) hf H locs ls w (lv_sub hl [1, 2, 3, 4, 0] rfl)
          exact lp48 _ _ _ _ hf H locs ls w (lv_sub hl [2, 3, 4, 1, 0] rfl)
        · replace hf := zf_t h hf
          refine lv_goto (tgt := 196) hx hb dX9_reckons_42 (by decide) ?_
          refine lv_iinc (v := v2 + 1) (lv' := [(2, .int (v2 + 1)), (3, .int r1), (0, .ref (q 0)), (1, .int v1)]) hx hb dX9_reckons_196 hl (k := 3) rfl rfl (by decide) rfl (fun ls hl => ?_)
          refine lv_goto (tgt := 23) hx hb dX9_reckons_199 (by decide) ?_
          exact hag23 (u2, v2 + 1) hf H locs ls w (lv_sub hl [2, 3, 0] rfl)
    exact lp23 _ _ _ hf H locs ls w (lv_sub hl [1, 2, 0] rfl)
  unfold fM9_reckons at hf
  refine lv_iconst (v := 0) hx hb dX9_reckons_0 (by decide) ?_
  refine lv_istore_n (lv' := [(2, .int 0), (0, .ref (q 0)), (1, .int v1)]) hx hb dX9_reckons_1 rfl hl (by decide) rfl (fun ls hl => ?_)
  have lp2 : ∀ (v1 : Int32) (n : Nat) (x : zs_T × Int32), zf_loop (fun ag x => fM9_reckons_b2 N v1 (fun u v2 => ag (u, v2)) x.1 x.2) n x = some z → ∀ (H : Heap) (locs : List Loc) (ls : Array Slot), zg_W D cs A s (wM q cs x.1) H locs → lv_has ls 7 [(0, .ref (q 0)), (1, .int v1), (2, .int x.2)] → W p l e (zg_rm 3) s m args below meth c H locs 0 0 Q (F0 m 2 ls []) := by
    intro v1
    refine zf_loop_W (fun x : zs_T × Int32 => ∀ (H : Heap) (locs : List Loc) (ls : Array Slot), zg_W D cs A s (wM q cs x.1) H locs → lv_has ls 7 [(0, .ref (q 0)), (1, .int v1), (2, .int x.2)] → W p l e (zg_rm 3) s m args below meth c H locs 0 0 Q (F0 m 2 ls [])) ?_
    intro ag2 x hag2 hf
    obtain ⟨u, v2⟩ := x
    intro H locs ls w hl
    replace hf : fM9_reckons_b2 N v1 (fun u v2 => ag2 (u, v2)) u v2 = some z := hf
    replace hl : lv_has ls 7 [(0, .ref (q 0)), (1, .int v1), (2, .int v2)] := hl
    replace w : zg_W D cs A s (wM q cs u) H locs := w
    unfold fM9_reckons_b2 at hf
    refine lv_iload_n hx hb dX9_reckons_2 rfl (lv_at hl 2 rfl) ?_
    refine lv_bipush (v := 12) hx hb dX9_reckons_3 (by decide) ?_
    refine lv_icmp_ge (tgt := 21) hx hb dX9_reckons_5 (by decide) (fun h => ?_) (fun h => ?_)
    · replace hf := zf_t h hf
      exact hj21 _ _ H locs ls w (lv_sub hl [0, 1] rfl) hf
    · replace hf := zf_f h hf
      refine lv_aload_n hx hb dX9_reckons_8 rfl (lv_at hl 0 rfl) ?_
      refine mg_0_38 C w lf_9_85 dX9_reckons_9 ?_
      refine lv_iload_n hx hb dX9_reckons_12 rfl (lv_at hl 2 rfl) ?_
      refine lv_iconst (v := 0) hx hb dX9_reckons_13 (by decide) ?_
      obtain ⟨hi, hf⟩ := zf_gd hf
      refine ms_17 C w hi dX9_reckons_14 (fun H locs w => ?_)
      refine lv_iinc (v := v2 + 1) (lv' := [(2, .int (v2 + 1)), (0, .ref (q 0)), (1, .int v1)]) hx hb dX9_reckons_15 hl (k := 2) rfl rfl (by decide) rfl (fun ls hl => ?_)
      refine lv_goto (tgt := 2) hx hb dX9_reckons_18 (by decide) ?_
      exact hag2 (zs_sa u 16 (upd (zs_a u 16) v2.toNatClampNeg 0), v2 + 1) hf H locs ls w (lv_sub hl [1, 2, 0] rfl)
  exact lp2 _ _ _ hf H locs ls w (lv_sub hl [1, 2, 0] rfl)
def fM9_part (N : Nat) (u : zs_T) (v1 : Int32) (v2 : Int32) : Option (Int32 × zs_T) :=
  (zf_bp (fM9_isKnowing u v1) fun r1 => (if r1 = 0 then some ((-1), u) else (if v2 < 0 then some ((-1), u) else (if v2 < 12 then (zf_bv (fM9_reckons N u v1) fun u4 => (if zf_in v2 12 then some (zs_a u4 16 v2.toNatClampNeg, u4) else none)) else some ((-1), u)))))
set_option maxHeartbeats 4000000 in
set_option maxRecDepth 100000 in
theorem kM9_part (l : Launch) (D : va_G) (q : Nat → Nat) (cs : Nat → ClassId) (N : Nat) (u : zs_T) (v1 : Int32) (v2 : Int32) (z : (Int32 × zs_T)) (hf : fM9_part N u v1 v2 = some z) : zg_Ci l yX9_part cX9_part 3 (some .int) 4 D cs (wM q cs) u [.ref (q 0), .int v1, .int v2] z.1 z.2 := by
  refine zg_Ci_of (own := RX9) (by decide) rfl wM_ad (Nat.le_of_ble_eq_true rfl) ?_
  intro p e s m args below meth c A Q C hret w ls hl
  obtain ⟨hx, hb, -⟩ := id C
  have hl : lv_has ls 3 [(0, .ref (q 0)), (1, .int v1), (2, .int v2)] := hl
  generalize hH : s.heap = H at w ⊢
  generalize hLc : ([] : List Loc) = locs at w ⊢
  unfold fM9_part at hf
  refine lv_aload_n hx hb dX9_part_0 rfl (lv_at hl 0 rfl) ?_
  refine lv_iload_n hx hb dX9_part_1 rfl (lv_at hl 1 rfl) ?_
  obtain ⟨r1, hc, hf⟩ := zf_bp_ex hf
  refine zc_ri wM_ad w (zc_V C w (kM9_isKnowing l D q cs _ _ _ hc _) cf_9_isKnowing ci_9_isKnowing lm_9_197 rcM_0 ⟨Nat.le_of_ble_eq_true rfl, Nat.le_of_ble_eq_true rfl⟩ hl.1 rfl (Nat.le_of_ble_eq_true rfl) dX9_part_2 ⟨Nat.le_refl _, Nat.le_refl _⟩) (fun H locs w => ?_)
  refine lv_if_eq (tgt := 18) hx hb dX9_part_5 (by decide) (fun h => ?_) (fun h => ?_)
  · replace hf := zf_t h hf
    refine lv_iconst (v := (-1)) hx hb dX9_part_18 (by decide) ?_
    exact hret _ _ _ _ _ _ hf w dX9_part_19
  · replace hf := zf_f h hf
    refine lv_iload_n hx hb dX9_part_8 rfl (lv_at hl 2 rfl) ?_
    refine lv_if_lt (tgt := 18) hx hb dX9_part_9 (by decide) (fun h => ?_) (fun h => ?_)
    · replace hf := zf_t h hf
      refine lv_iconst (v := (-1)) hx hb dX9_part_18 (by decide) ?_
      exact hret _ _ _ _ _ _ hf w dX9_part_19
    · replace hf := zf_f h hf
      refine lv_iload_n hx hb dX9_part_12 rfl (lv_at hl 2 rfl) ?_
      refine lv_bipush (v := 12) hx hb dX9_part_13 (by decide) ?_
      refine lv_icmp_lt (tgt := 20) hx hb dX9_part_15 (by decide) (fun h => ?_) (fun h => ?_)
      · replace hf := zf_t h hf
        refine lv_aload_n hx hb dX9_part_20 rfl (lv_at hl 0 rfl) ?_
        refine lv_iload_n hx hb dX9_part_21 rfl (lv_at hl 1 rfl) ?_
        obtain ⟨u4, hc, hf⟩ := zf_bv_ex hf
        refine zc_rv wM_ad w (zc_V C w (kM9_reckons l D q cs N _ _ _ hc _) cf_9_reckons ci_9_reckons lm_9_203 rcM_0 ⟨Nat.le_of_ble_eq_true rfl, Nat.le_of_ble_eq_true rfl⟩ hl.1 rfl (Nat.le_of_ble_eq_true rfl) dX9_part_22 ⟨Nat.le_refl _, Nat.le_refl _⟩) (fun H locs w => ?_)
        refine lv_aload_n hx hb dX9_part_25 rfl (lv_at hl 0 rfl) ?_
        refine mg_0_38 C w lf_9_85 dX9_part_26 ?_
        refine lv_iload_n hx hb dX9_part_29 rfl (lv_at hl 2 rfl) ?_
        obtain ⟨hi, hf⟩ := zf_gd hf
        refine ma_17 C w hi dX9_part_30 ?_
        exact hret _ _ _ _ _ _ hf w dX9_part_31
      · replace hf := zf_f h hf
        refine lv_iconst (v := (-1)) hx hb dX9_part_18 (by decide) ?_
        exact hret _ _ _ _ _ _ hf w dX9_part_19
def fM9_all_b4 (N : Nat) (u : zs_T) (ag4 : Int64 → Int32 → Option Int64) (v1 : Int64) (v3 : Int32) : Option Int64 :=
  (if 12 ≤ v3 then some v1 else (if zf_in v3 12 then ag4 (v1 + ((zs_a u 16 v3.toNatClampNeg).toInt64)) (v3 + 1) else none))
def fM9_all (N : Nat) (u : zs_T) : Option Int64 :=
  zf_loop (fun ag x => fM9_all_b4 N u (fun v1 v3 => ag (v1, v3)) x.1 x.2) N (0, 0)
set_option maxHeartbeats 4000000 in
set_option maxRecDepth 100000 in
theorem kM9_all (l : Launch) (D : va_G) (q : Nat → Nat) (cs : Nat → ClassId) (N : Nat) (u : zs_T) (z : Int64) (hf : fM9_all N u = some z) : zg_Cl l yX9_all cX9_all 4 (some .long) 0 D cs (wM q cs) u [.ref (q 0)] z u := by
  refine zg_Cl_of (own := RX9) (by decide) rfl wM_ad (Nat.le_of_ble_eq_true rfl) ?_
  intro p e s m args below meth c A Q C hret w ls hl
  obtain ⟨hx, hb, -⟩ := id C
  have hl : lv_has ls 4 [(0, .ref (q 0))] := hl
  generalize hH : s.heap = H at w ⊢
  generalize hLc : ([] : List Loc) = locs at w ⊢
  unfold fM9_all at hf
  refine lv_lconst (v := 0) hx hb dX9_all_0 (by decide) ?_
  refine lv_lstore_n (lv' := [(1, .long 0), (0, .ref (q 0))]) hx hb dX9_all_1 rfl hl (by decide) rfl (fun ls hl => ?_)
  refine lv_iconst (v := 0) hx hb dX9_all_2 (by decide) ?_
  refine lv_istore_n (lv' := [(3, .int 0), (1, .long 0), (0, .ref (q 0))]) hx hb dX9_all_3 rfl hl (by decide) rfl (fun ls hl => ?_)
  have lp4 : ∀ (n : Nat) (x : Int64 × Int32), zf_loop (fun ag x => fM9_all_b4 N u (fun v1 v3 => ag (v1, v3)) x.1 x.2) n x = some z → ∀ (H : Heap) (locs : List Loc) (ls : Array Slot), zg_W D cs A s (wM q cs u) H locs → lv_has ls 4 [(0, .ref (q 0)), (1, .long x.1), (3, .int x.2)] → W p l e (zg_rm 0) s m args below meth c H locs 0 0 Q (F0 m 4 ls []) := by
    refine zf_loop_W (fun x : Int64 × Int32 => ∀ (H : Heap) (locs : List Loc) (ls : Array Slot), zg_W D cs A s (wM q cs u) H locs → lv_has ls 4 [(0, .ref (q 0)), (1, .long x.1), (3, .int x.2)] → W p l e (zg_rm 0) s m args below meth c H locs 0 0 Q (F0 m 4 ls [])) ?_
    intro ag4 x hag4 hf
    obtain ⟨v1, v3⟩ := x
    intro H locs ls w hl
    replace hf : fM9_all_b4 N u (fun v1 v3 => ag4 (v1, v3)) v1 v3 = some z := hf
    replace hl : lv_has ls 4 [(0, .ref (q 0)), (1, .long v1), (3, .int v3)] := hl
    replace w : zg_W D cs A s (wM q cs u) H locs := w
    unfold fM9_all_b4 at hf
    refine lv_iload_n hx hb dX9_all_4 rfl (lv_at hl 2 rfl) ?_
    refine lv_bipush (v := 12) hx hb dX9_all_5 (by decide) ?_
    refine lv_icmp_ge (tgt := 26) hx hb dX9_all_7 (by decide) (fun h => ?_) (fun h => ?_)
    · replace hf := zf_t h hf
      refine lv_lload_n hx hb dX9_all_26 rfl (lv_at hl 1 rfl) ?_
      exact hret _ _ _ _ _ _ (zf_pr hf) w dX9_all_27
    · replace hf := zf_f h hf
      refine lv_lload_n hx hb dX9_all_10 rfl (lv_at hl 1 rfl) ?_
      refine lv_aload_n hx hb dX9_all_11 rfl (lv_at hl 0 rfl) ?_
      refine mg_0_38 C w lf_9_85 dX9_all_12 ?_
      refine lv_iload_n hx hb dX9_all_15 rfl (lv_at hl 2 rfl) ?_
      obtain ⟨hi, hf⟩ := zf_gd hf
      refine ma_17 C w hi dX9_all_16 ?_
      refine lv_i2l hx hb dX9_all_17 rfl ?_
      refine lv_ladd hx hb dX9_all_18 ?_
      refine lv_lstore_n (lv' := [(1, .long (v1 + ((zs_a u 16 v3.toNatClampNeg).toInt64))), (0, .ref (q 0)), (3, .int v3)]) hx hb dX9_all_19 rfl hl (by decide) rfl (fun ls hl => ?_)
      refine lv_iinc (v := v3 + 1) (lv' := [(3, .int (v3 + 1)), (1, .long (v1 + ((zs_a u 16 v3.toNatClampNeg).toInt64))), (0, .ref (q 0))]) hx hb dX9_all_20 hl (k := 2) rfl rfl (by decide) rfl (fun ls hl => ?_)
      refine lv_goto (tgt := 4) hx hb dX9_all_23 (by decide) ?_
      exact hag4 (v1 + ((zs_a u 16 v3.toNatClampNeg).toInt64), v3 + 1) hf H locs ls w (lv_sub hl [2, 1, 0] rfl)
  exact lp4 _ _ hf H locs ls w (lv_sub hl [2, 1, 0] rfl)
