def fM9_act_j106 (N : Nat) (u : zs_T) (v2 : Int32) (t0 : Int32) (t1 : Int32) : Option (Int32 × zs_T) :=
  (if zf_in t1 100 then (zf_bi (fM9_asks N (zs_sa u 14 (upd (zs_a u 14) t1.toNatClampNeg t0)) ((zs_i (zs_sa u 14 (upd (zs_a u 14) t1.toNatClampNeg t0)) 16) + 1) v2 150) fun r3 u4 => (if r3 = 0 then some ((-1), u4) else some ((zs_i (zs_si u4 16 ((zs_i u4 16) + 1)) 16) - 1, zs_si u4 16 ((zs_i u4 16) + 1)))) else none)
def fM9_act_j46 (N : Nat) (u : zs_T) (v1 : Int32) (v2 : Int32) (v3 : Int32) (v4 : Int32) : Option (Int32 × zs_T) :=
  (if zs_i u 16 = 100 then some ((-1), u) else (if zf_in (zs_i u 16) 100 then (if zf_in (zs_i (zs_sa u 11 (upd (zs_a u 11) (zs_i u 16).toNatClampNeg v1)) 16) 100 then (if zf_in (zs_i (zs_sa (zs_sa u 11 (upd (zs_a u 11) (zs_i u 16).toNatClampNeg v1)) 12 (upd (zs_a (zs_sa u 11 (upd (zs_a u 11) (zs_i u 16).toNatClampNeg v1)) 12) (zs_i (zs_sa u 11 (upd (zs_a u 11) (zs_i u 16).toNatClampNeg v1)) 16).toNatClampNeg v2)) 16) 100 then (if v1 = 3 then fM9_act_j106 N (zs_sa (zs_sa (zs_sa u 11 (upd (zs_a u 11) (zs_i u 16).toNatClampNeg v1)) 12 (upd (zs_a (zs_sa u 11 (upd (zs_a u 11) (zs_i u 16).toNatClampNeg v1)) 12) (zs_i (zs_sa u 11 (upd (zs_a u 11) (zs_i u 16).toNatClampNeg v1)) 16).toNatClampNeg v2)) 13 (upd (zs_a (zs_sa (zs_sa u 11 (upd (zs_a u 11) (zs_i u 16).toNatClampNeg v1)) 12 (upd (zs_a (zs_sa u 11 (upd (zs_a u 11) (zs_i u 16).toNatClampNeg v1)) 12) (zs_i (zs_sa u 11 (upd (zs_a u 11) (zs_i u 16).toNatClampNeg v1)) 16).toNatClampNeg v2)) 13) (zs_i (zs_sa (zs_sa u 11 (upd (zs_a u 11) (zs_i u 16).toNatClampNeg v1)) 12 (upd (zs_a (zs_sa u 11 (upd (zs_a u 11) (zs_i u 16).toNatClampNeg v1)) 12) (zs_i (zs_sa u 11 (upd (zs_a u 11) (zs_i u 16).toNatClampNeg v1)) 16).toNatClampNeg v2)) 16).toNatClampNeg v3)) v2 v4 (zs_i (zs_sa (zs_sa (zs_sa u 11 (upd (zs_a u 11) (zs_i u 16).toNatClampNeg v1)) 12 (upd (zs_a (zs_sa u 11 (upd (zs_a u 11) (zs_i u 16).toNatClampNeg v1)) 12) (zs_i (zs_sa u 11 (upd (zs_a u 11) (zs_i u 16).toNatClampNeg v1)) 16).toNatClampNeg v2)) 13 (upd (zs_a (zs_sa (zs_sa u 11 (upd (zs_a u 11) (zs_i u 16).toNatClampNeg v1)) 12 (upd (zs_a (zs_sa u 11 (upd (zs_a u 11) (zs_i u 16).toNatClampNeg v1)) 12) (zs_i (zs_sa u 11 (upd (zs_a u 11) (zs_i u 16).toNatClampNeg v1)) 16).toNatClampNeg v2)) 13) (zs_i (zs_sa (zs_sa u 11 (upd (zs_a u 11) (zs_i u 16).toNatClampNeg v1)) 12 (upd (zs_a (zs_sa u 11 (upd (zs_a u 11) (zs_i u 16).toNatClampNeg v1)) 12) (zs_i (zs_sa u 11 (upd (zs_a u 11) (zs_i u 16).toNatClampNeg v1)) 16).toNatClampNeg v2)) 16).toNatClampNeg v3)) 16) else fM9_act_j106 N (zs_sa (zs_sa (zs_sa u 11 (upd (zs_a u 11) (zs_i u 16).toNatClampNeg v1)) 12 (upd (zs_a (zs_sa u 11 (upd (zs_a u 11) (zs_i u 16).toNatClampNeg v1)) 12) (zs_i (zs_sa u 11 (upd (zs_a u 11) (zs_i u 16).toNatClampNeg v1)) 16).toNatClampNeg v2)) 13 (upd (zs_a (zs_sa (zs_sa u 11 (upd (zs_a u 11) (zs_i u 16).toNatClampNeg v1)) 12 (upd (zs_a (zs_sa u 11 (upd (zs_a u 11) (zs_i u 16).toNatClampNeg v1)) 12) (zs_i (zs_sa u 11 (upd (zs_a u 11) (zs_i u 16).toNatClampNeg v1)) 16).toNatClampNeg v2)) 13) (zs_i (zs_sa (zs_sa u 11 (upd (zs_a u 11) (zs_i u 16).toNatClampNeg v1)) 12 (upd (zs_a (zs_sa u 11 (upd (zs_a u 11) (zs_i u 16).toNatClampNeg v1)) 12) (zs_i (zs_sa u 11 (upd (zs_a u 11) (zs_i u 16).toNatClampNeg v1)) 16).toNatClampNeg v2)) 16).toNatClampNeg v3)) v2 (-1) (zs_i (zs_sa (zs_sa (zs_sa u 11 (upd (zs_a u 11) (zs_i u 16).toNatClampNeg v1)) 12 (upd (zs_a (zs_sa u 11 (upd (zs_a u 11) (zs_i u 16).toNatClampNeg v1)) 12) (zs_i (zs_sa u 11 (upd (zs_a u 11) (zs_i u 16).toNatClampNeg v1)) 16).toNatClampNeg v2)) 13 (upd (zs_a (zs_sa (zs_sa u 11 (upd (zs_a u 11) (zs_i u 16).toNatClampNeg v1)) 12 (upd (zs_a (zs_sa u 11 (upd (zs_a u 11) (zs_i u 16).toNatClampNeg v1)) 12) (zs_i (zs_sa u 11 (upd (zs_a u 11) (zs_i u 16).toNatClampNeg v1)) 16).toNatClampNeg v2)) 13) (zs_i (zs_sa (zs_sa u 11 (upd (zs_a u 11) (zs_i u 16).toNatClampNeg v1)) 12 (upd (zs_a (zs_sa u 11 (upd (zs_a u 11) (zs_i u 16).toNatClampNeg v1)) 12) (zs_i (zs_sa u 11 (upd (zs_a u 11) (zs_i u 16).toNatClampNeg v1)) 16).toNatClampNeg v2)) 16).toNatClampNeg v3)) 16)) else none) else none) else none))
def fM9_act (N : Nat) (u : zs_T) (v1 : Int32) (v2 : Int32) (v3 : Int32) (v4 : Int32) : Option (Int32 × zs_T) :=
  (if v1 < 0 then some ((-1), u) else (if 3 < v1 then some ((-1), u) else (zf_bp (fM9_isSheep u v2) fun r1 => (if r1 = 0 then some ((-1), u) else (if v3 < 1 then some ((-1), u) else (if 150 < v3 then some ((-1), u) else (if v1 = 3 then (if v4 < 0 then some ((-1), u) else (if 12 ≤ v4 then some ((-1), u) else fM9_act_j46 N u v1 v2 v3 v4)) else fM9_act_j46 N u v1 v2 v3 v4)))))))
set_option maxHeartbeats 4000000 in
set_option maxRecDepth 100000 in
theorem kM9_act (l : Launch) (D : va_G) (q : Nat → Nat) (cs : Nat → ClassId) (N : Nat) (u : zs_T) (v1 : Int32) (v2 : Int32) (v3 : Int32) (v4 : Int32) (z : (Int32 × zs_T)) (hf : fM9_act N u v1 v2 v3 v4 = some z) : zg_Ci l yX9_act cX9_act 5 (some .int) 2 D cs (wM q cs) u [.ref (q 0), .int v1, .int v2, .int v3, .int v4] z.1 z.2 := by
  refine zg_Ci_of (own := RX9) (by decide) rfl wM_ad (Nat.le_of_ble_eq_true rfl) ?_
  intro p e s m args below meth c A Q C hret w ls hl
  obtain ⟨hx, hb, -⟩ := id C
  have hl : lv_has ls 5 [(0, .ref (q 0)), (1, .int v1), (2, .int v2), (3, .int v3), (4, .int v4)] := hl
  generalize hH : s.heap = H at w ⊢
  generalize hLc : ([] : List Loc) = locs at w ⊢
  have hj106 : ∀ (u : zs_T) (v2 : Int32) (t0 : Int32) (t1 : Int32) (H : Heap) (locs : List Loc) (ls : Array Slot), zg_W D cs A s (wM q cs u) H locs → lv_has ls 5 [(0, .ref (q 0)), (2, .int v2)] → fM9_act_j106 N u v2 t0 t1 = some z → W p l e (zg_rm 2) s m args below meth c H locs 0 0 Q (F0 m 106 ls [.int t0, .int t1, .ref (q 15)]) := by
    intro u v2 t0 t1 H locs ls w hl hf
    unfold fM9_act_j106 at hf
    obtain ⟨hi, hf⟩ := zf_gd hf
    refine ms_15 C w hi dX9_act_106 (fun H locs w => ?_)
    refine lv_aload_n hx hb dX9_act_107 rfl (lv_at hl 0 rfl) ?_
    refine lv_aload_n hx hb dX9_act_108 rfl (lv_at hl 0 rfl) ?_
    refine mg_0_25 C w lf_9_128 dX9_act_109 ?_
    refine lv_iconst (v := 1) hx hb dX9_act_112 (by decide) ?_
    refine lv_iadd hx hb dX9_act_113 ?_
    refine lv_iload_n hx hb dX9_act_114 rfl (lv_at hl 1 rfl) ?_
    refine lv_sipush (v := 150) hx hb dX9_act_115 (by decide) ?_
    obtain ⟨r3, u4, hc, hf⟩ := zf_bi_ex hf
    refine zc_ri wM_ad w (zc_V C w (kM9_asks l D q cs N _ _ _ _ _ hc _) cf_9_asks ci_9_asks lm_9_190 rcM_0 ⟨Nat.le_of_ble_eq_true rfl, Nat.le_of_ble_eq_true rfl⟩ hl.1 rfl (Nat.le_of_ble_eq_true rfl) dX9_act_118 ⟨Nat.le_refl _, Nat.le_refl _⟩) (fun H locs w => ?_)
    refine lv_if_ne (tgt := 126) hx hb dX9_act_121 (by decide) (fun h => ?_) (fun h => ?_)
    · replace hf := zf_f h hf
      refine lv_aload_n hx hb dX9_act_126 rfl (lv_at hl 0 rfl) ?_
      refine lv_aload_n hx hb dX9_act_127 rfl (lv_at hl 0 rfl) ?_
      refine mg_0_25 C w lf_9_128 dX9_act_128 ?_
      refine lv_iconst (v := 1) hx hb dX9_act_131 (by decide) ?_
      refine lv_iadd hx hb dX9_act_132 ?_
      refine mp_0_25 C w lf_9_128 dX9_act_133 (fun H locs w => ?_)
      refine lv_aload_n hx hb dX9_act_136 rfl (lv_at hl 0 rfl) ?_
      refine mg_0_25 C w lf_9_128 dX9_act_137 ?_
      refine lv_iconst (v := 1) hx hb dX9_act_140 (by decide) ?_
      refine lv_isub hx hb dX9_act_141 ?_
      exact hret _ _ _ _ _ _ hf w dX9_act_142
    · replace hf := zf_t h hf
      refine lv_iconst (v := (-1)) hx hb dX9_act_124 (by decide) ?_
      exact hret _ _ _ _ _ _ hf w dX9_act_125
  have hj46 : ∀ (u : zs_T) (v1 : Int32) (v2 : Int32) (v3 : Int32) (v4 : Int32) (H : Heap) (locs : List Loc) (ls : Array Slot), zg_W D cs A s (wM q cs u) H locs → lv_has ls 5 [(0, .ref (q 0)), (1, .int v1), (2, .int v2), (3, .int v3), (4, .int v4)] → fM9_act_j46 N u v1 v2 v3 v4 = some z → W p l e (zg_rm 2) s m args below meth c H locs 0 0 Q (F0 m 46 ls []) := by
    intro u v1 v2 v3 v4 H locs ls w hl hf
    unfold fM9_act_j46 at hf
    refine lv_aload_n hx hb dX9_act_46 rfl (lv_at hl 0 rfl) ?_
    refine mg_0_25 C w lf_9_128 dX9_act_47 ?_
    refine lv_bipush (v := 100) hx hb dX9_act_50 (by decide) ?_
    refine lv_icmp_ne (tgt := 57) hx hb dX9_act_52 (by decide) (fun h => ?_) (fun h => ?_)
    · replace hf := zf_f h hf
      refine lv_aload_n hx hb dX9_act_57 rfl (lv_at hl 0 rfl) ?_
      refine mg_0_30 C w lf_9_70 dX9_act_58 ?_
      refine lv_aload_n hx hb dX9_act_61 rfl (lv_at hl 0 rfl) ?_
      refine mg_0_25 C w lf_9_128 dX9_act_62 ?_
      refine lv_iload_n hx hb dX9_act_65 rfl (lv_at hl 1 rfl) ?_
      obtain ⟨hi, hf⟩ := zf_gd hf
      refine ms_12 C w hi dX9_act_66 (fun H locs w => ?_)
      refine lv_aload_n hx hb dX9_act_67 rfl (lv_at hl 0 rfl) ?_
      refine mg_0_31 C w lf_9_73 dX9_act_68 ?_
      refine lv_aload_n hx hb dX9_act_71 rfl (lv_at hl 0 rfl) ?_
      refine mg_0_25 C w lf_9_128 dX9_act_72 ?_
      refine lv_iload_n hx hb dX9_act_75 rfl (lv_at hl 2 rfl) ?_
      obtain ⟨hi, hf⟩ := zf_gd hf
      refine ms_13 C w hi dX9_act_76 (fun H locs w => ?_)
      refine lv_aload_n hx hb dX9_act_77 rfl (lv_at hl 0 rfl) ?_
      refine mg_0_32 C w lf_9_76 dX9_act_78 ?_
      refine lv_aload_n hx hb dX9_act_81 rfl (lv_at hl 0 rfl) ?_
      refine mg_0_25 C w lf_9_128 dX9_act_82 ?_
      refine lv_iload_n hx hb dX9_act_85 rfl (lv_at hl 3 rfl) ?_
      obtain ⟨hi, hf⟩ := zf_gd hf
      refine ms_14 C w hi dX9_act_86 (fun H locs w => ?_)
      refine lv_aload_n hx hb dX9_act_87 rfl (lv_at hl 0 rfl) ?_
      refine mg_0_33 C w lf_9_79 dX9_act_88 ?_
      refine lv_aload_n hx hb dX9_act_91 rfl (lv_at hl 0 rfl) ?_
      refine mg_0_25 C w lf_9_128 dX9_act_92 ?_
      refine lv_iload_n hx hb dX9_act_95 rfl (lv_at hl 1 rfl) ?_
      refine lv_iconst (v := 3) hx hb dX9_act_96 (by decide) ?_
      refine lv_icmp_ne (tgt := 105) hx hb dX9_act_97 (by decide) (fun h => ?_) (fun h => ?_)
      · replace hf := zf_f h hf
        refine lv_iconst (v := (-1)) hx hb dX9_act_105 (by decide) ?_
        exact hj106 _ _ _ _ H locs ls w (lv_sub hl [0, 2] rfl) hf
      · replace hf := zf_t h hf
        refine lv_iload hx hb dX9_act_100 (lv_at hl 4 rfl) ?_
        refine lv_goto (tgt := 106) hx hb dX9_act_102 (by decide) ?_
        exact hj106 _ _ _ _ H locs ls w (lv_sub hl [0, 2] rfl) hf
    · replace hf := zf_t h hf
      refine lv_iconst (v := (-1)) hx hb dX9_act_55 (by decide) ?_
      exact hret _ _ _ _ _ _ hf w dX9_act_56
  unfold fM9_act at hf
  refine lv_iload_n hx hb dX9_act_0 rfl (lv_at hl 1 rfl) ?_
  refine lv_if_lt (tgt := 55) hx hb dX9_act_1 (by decide) (fun h => ?_) (fun h => ?_)
  · replace hf := zf_t h hf
    refine lv_iconst (v := (-1)) hx hb dX9_act_55 (by decide) ?_
    exact hret _ _ _ _ _ _ hf w dX9_act_56
  · replace hf := zf_f h hf
    refine lv_iload_n hx hb dX9_act_4 rfl (lv_at hl 1 rfl) ?_
    refine lv_iconst (v := 3) hx hb dX9_act_5 (by decide) ?_
    refine lv_icmp_gt (tgt := 55) hx hb dX9_act_6 (by decide) (fun h => ?_) (fun h => ?_)
    · replace hf := zf_t h hf
      refine lv_iconst (v := (-1)) hx hb dX9_act_55 (by decide) ?_
      exact hret _ _ _ _ _ _ hf w dX9_act_56
    · replace hf := zf_f h hf
      refine lv_aload_n hx hb dX9_act_9 rfl (lv_at hl 0 rfl) ?_
      refine lv_iload_n hx hb dX9_act_10 rfl (lv_at hl 2 rfl) ?_
      obtain ⟨r1, hc, hf⟩ := zf_bp_ex hf
      refine zc_ri wM_ad w (zc_V C w (kM9_isSheep l D q cs _ _ _ hc _) cf_9_isSheep ci_9_isSheep lm_9_194 rcM_0 ⟨Nat.le_of_ble_eq_true rfl, Nat.le_of_ble_eq_true rfl⟩ hl.1 rfl (Nat.le_of_ble_eq_true rfl) dX9_act_11 ⟨Nat.le_refl _, Nat.le_refl _⟩) (fun H locs w => ?_)
      refine lv_if_eq (tgt := 55) hx hb dX9_act_14 (by decide) (fun h => ?_) (fun h => ?_)
      · replace hf := zf_t h hf
        refine lv_iconst (v := (-1)) hx hb dX9_act_55 (by decide) ?_
        exact hret _ _ _ _ _ _ hf w dX9_act_56
      · replace hf := zf_f h hf
        refine lv_iload_n hx hb dX9_act_17 rfl (lv_at hl 3 rfl) ?_
        refine lv_iconst (v := 1) hx hb dX9_act_18 (by decide) ?_
        refine lv_icmp_lt (tgt := 55) hx hb dX9_act_19 (by decide) (fun h => ?_) (fun h => ?_)
        · replace hf := zf_t h hf
          refine lv_iconst (v := (-1)) hx hb dX9_act_55 (by decide) ?_
          exact hret _ _ _ _ _ _ hf w dX9_act_56
        · replace hf := zf_f h hf
          refine lv_iload_n hx hb dX9_act_22 rfl (lv_at hl 3 rfl) ?_
          refine lv_sipush (v := 150) hx hb dX9_act_23 (by decide) ?_
          refine lv_icmp_gt (tgt := 55) hx hb dX9_act_26 (by decide) (fun h => ?_) (fun h => ?_)
          · replace hf := zf_t h hf
            refine lv_iconst (v := (-1)) hx hb dX9_act_55 (by decide) ?_
            exact hret _ _ _ _ _ _ hf w dX9_act_56
          · replace hf := zf_f h hf
            refine lv_iload_n hx hb dX9_act_29 rfl (lv_at hl 1 rfl) ?_
            refine lv_iconst (v := 3) hx hb dX9_act_30 (by decide) ?_
            refine lv_icmp_ne (tgt := 46) hx hb dX9_act_31 (by decide) (fun h => ?_) (fun h => ?_)
            · replace hf := zf_f h hf
              exact hj46 _ _ _ _ _ H locs ls w (lv_sub hl [0, 1, 2, 3, 4] rfl) hf
            · replace hf := zf_t h hf
              refine lv_iload hx hb dX9_act_34 (lv_at hl 4 rfl) ?_
              refine lv_if_lt (tgt := 55) hx hb dX9_act_36 (by decide) (fun h => ?_) (fun h => ?_)
              · replace hf := zf_t h hf
                refine lv_iconst (v := (-1)) hx hb dX9_act_55 (by decide) ?_
                exact hret _ _ _ _ _ _ hf w dX9_act_56
              · replace hf := zf_f h hf
                refine lv_iload hx hb dX9_act_39 (lv_at hl 4 rfl) ?_
                refine lv_bipush (v := 12) hx hb dX9_act_41 (by decide) ?_
                refine lv_icmp_ge (tgt := 55) hx hb dX9_act_43 (by decide) (fun h => ?_) (fun h => ?_)
                · replace hf := zf_t h hf
                  refine lv_iconst (v := (-1)) hx hb dX9_act_55 (by decide) ?_
                  exact hret _ _ _ _ _ _ hf w dX9_act_56
                · replace hf := zf_f h hf
                  exact hj46 _ _ _ _ _ H locs ls w (lv_sub hl [0, 1, 2, 3, 4] rfl) hf
def fM9_entry (u : zs_T) (v1 : Int32) (v2 : Int32) : Option Int32 :=
  (if v1 < 0 then some (-1) else (if v1 < zs_i u 16 then (if v2 = 0 then (if zf_in v1 100 then some (zs_a u 11 v1.toNatClampNeg) else none) else (if v2 = 1 then (if zf_in v1 100 then some (zs_a u 12 v1.toNatClampNeg) else none) else (if v2 = 2 then (if zf_in v1 100 then some (zs_a u 13 v1.toNatClampNeg) else none) else (if v2 = 3 then (if zf_in v1 100 then some (zs_a u 14 v1.toNatClampNeg) else none) else some (-1))))) else some (-1)))
set_option maxHeartbeats 4000000 in
set_option maxRecDepth 100000 in
theorem kM9_entry (l : Launch) (D : va_G) (q : Nat → Nat) (cs : Nat → ClassId) (u : zs_T) (v1 : Int32) (v2 : Int32) (z : Int32) (hf : fM9_entry u v1 v2 = some z) : zg_Ci l yX9_entry cX9_entry 3 (some .int) 0 D cs (wM q cs) u [.ref (q 0), .int v1, .int v2] z u := by
  refine zg_Ci_of (own := RX9) (by decide) rfl wM_ad (Nat.le_of_ble_eq_true rfl) ?_
  intro p e s m args below meth c A Q C hret w ls hl
  obtain ⟨hx, hb, -⟩ := id C
  have hl : lv_has ls 3 [(0, .ref (q 0)), (1, .int v1), (2, .int v2)] := hl
  generalize hH : s.heap = H at w ⊢
  generalize hLc : ([] : List Loc) = locs at w ⊢
  unfold fM9_entry at hf
  refine lv_iload_n hx hb dX9_entry_0 rfl (lv_at hl 1 rfl) ?_
  refine lv_if_lt (tgt := 12) hx hb dX9_entry_1 (by decide) (fun h => ?_) (fun h => ?_)
  · replace hf := zf_t h hf
    refine lv_iconst (v := (-1)) hx hb dX9_entry_12 (by decide) ?_
    exact hret _ _ _ _ _ _ (zf_pr hf) w dX9_entry_13
  · replace hf := zf_f h hf
    refine lv_iload_n hx hb dX9_entry_4 rfl (lv_at hl 1 rfl) ?_
    refine lv_aload_n hx hb dX9_entry_5 rfl (lv_at hl 0 rfl) ?_
    refine mg_0_25 C w lf_9_128 dX9_entry_6 ?_
    refine lv_icmp_lt (tgt := 14) hx hb dX9_entry_9 (by decide) (fun h => ?_) (fun h => ?_)
    · replace hf := zf_t h hf
      refine lv_iload_n hx hb dX9_entry_14 rfl (lv_at hl 2 rfl) ?_
      by_cases hs1 : v2 = 0
      · replace hf := zf_t hs1 hf
        refine lv_tableIn (off := 29) (tgt := 44) hx hb dX9_entry_15 (by rw [hs1]; decide) (by rw [hs1]; decide) (by rw [hs1]; rfl) (by decide) ?_
        refine lv_aload_n hx hb dX9_entry_44 rfl (lv_at hl 0 rfl) ?_
        refine mg_0_30 C w lf_9_70 dX9_entry_45 ?_
        refine lv_iload_n hx hb dX9_entry_48 rfl (lv_at hl 1 rfl) ?_
        obtain ⟨hi, hf⟩ := zf_gd hf
        refine ma_12 C w hi dX9_entry_49 ?_
        exact hret _ _ _ _ _ _ (zf_pr hf) w dX9_entry_50
      · replace hf := zf_f hs1 hf
        by_cases hs2 : v2 = 1
        · replace hf := zf_t hs2 hf
          refine lv_tableIn (off := 36) (tgt := 51) hx hb dX9_entry_15 (by rw [hs2]; decide) (by rw [hs2]; decide) (by rw [hs2]; rfl) (by decide) ?_
          refine lv_aload_n hx hb dX9_entry_51 rfl (lv_at hl 0 rfl) ?_
          refine mg_0_31 C w lf_9_73 dX9_entry_52 ?_
          refine lv_iload_n hx hb dX9_entry_55 rfl (lv_at hl 1 rfl) ?_
          obtain ⟨hi, hf⟩ := zf_gd hf
          refine ma_13 C w hi dX9_entry_56 ?_
          exact hret _ _ _ _ _ _ (zf_pr hf) w dX9_entry_57
        · replace hf := zf_f hs2 hf
          by_cases hs3 : v2 = 2
          · replace hf := zf_t hs3 hf
            refine lv_tableIn (off := 43) (tgt := 58) hx hb dX9_entry_15 (by rw [hs3]; decide) (by rw [hs3]; decide) (by rw [hs3]; rfl) (by decide) ?_
            refine lv_aload_n hx hb dX9_entry_58 rfl (lv_at hl 0 rfl) ?_
            refine mg_0_32 C w lf_9_76 dX9_entry_59 ?_
            refine lv_iload_n hx hb dX9_entry_62 rfl (lv_at hl 1 rfl) ?_
            obtain ⟨hi, hf⟩ := zf_gd hf
            refine ma_14 C w hi dX9_entry_63 ?_
            exact hret _ _ _ _ _ _ (zf_pr hf) w dX9_entry_64
          · replace hf := zf_f hs3 hf
            by_cases hs4 : v2 = 3
            · replace hf := zf_t hs4 hf
              refine lv_tableIn (off := 50) (tgt := 65) hx hb dX9_entry_15 (by rw [hs4]; decide) (by rw [hs4]; decide) (by rw [hs4]; rfl) (by decide) ?_
              refine lv_aload_n hx hb dX9_entry_65 rfl (lv_at hl 0 rfl) ?_
              refine mg_0_33 C w lf_9_79 dX9_entry_66 ?_
              refine lv_iload_n hx hb dX9_entry_69 rfl (lv_at hl 1 rfl) ?_
              obtain ⟨hi, hf⟩ := zf_gd hf
              refine ma_15 C w hi dX9_entry_70 ?_
              exact hret _ _ _ _ _ _ (zf_pr hf) w dX9_entry_71
            · replace hf := zf_f hs4 hf
              have e_hs1 : v2.toInt ≠ 0 := zf_ne hs1
              have e_hs2 : v2.toInt ≠ 1 := zf_ne hs2
              have e_hs3 : v2.toInt ≠ 2 := zf_ne hs3
              have e_hs4 : v2.toInt ≠ 3 := zf_ne hs4
              refine lv_tableOut (tgt := 72) hx hb dX9_entry_15 (by omega) (by decide) ?_
              refine lv_iconst (v := (-1)) hx hb dX9_entry_72 (by decide) ?_
              exact hret _ _ _ _ _ _ (zf_pr hf) w dX9_entry_73
    · replace hf := zf_f h hf
      refine lv_iconst (v := (-1)) hx hb dX9_entry_12 (by decide) ?_
      exact hret _ _ _ _ _ _ (zf_pr hf) w dX9_entry_13
def fM9_isKnowing (u : zs_T) (v1 : Int32) : Option Int32 :=
  (if v1 < 0 then some 0 else (if zs_i u 16 < v1 then some 0 else some 1))
set_option maxHeartbeats 4000000 in
set_option maxRecDepth 100000 in
theorem kM9_isKnowing (l : Launch) (D : va_G) (q : Nat → Nat) (cs : Nat → ClassId) (u : zs_T) (v1 : Int32) (z : Int32) (hf : fM9_isKnowing u v1 = some z) : zg_Ci l yX9_isKnowing cX9_isKnowing 2 (some .boolean) 0 D cs (wM q cs) u [.ref (q 0), .int v1] z u := by
  refine zg_Cz_of (own := RX9) (by decide) rfl wM_ad (Nat.le_of_ble_eq_true rfl) ?_
  intro p e s m args below meth c A Q C hret w ls hl
  obtain ⟨hx, hb, -⟩ := id C
  have hl : lv_has ls 2 [(0, .ref (q 0)), (1, .int v1)] := hl
  generalize hH : s.heap = H at w ⊢
  generalize hLc : ([] : List Loc) = locs at w ⊢
  unfold fM9_isKnowing at hf
  refine lv_iload_n hx hb dX9_isKnowing_0 rfl (lv_at hl 1 rfl) ?_
  refine lv_if_lt (tgt := 16) hx hb dX9_isKnowing_1 (by decide) (fun h => ?_) (fun h => ?_)
  · replace hf := zf_t h hf
    refine lv_iconst (v := 0) hx hb dX9_isKnowing_16 (by decide) ?_
    exact hret _ _ _ _ _ _ (by rfl) (zf_pr hf) w dX9_isKnowing_17
  · replace hf := zf_f h hf
    refine lv_iload_n hx hb dX9_isKnowing_4 rfl (lv_at hl 1 rfl) ?_
    refine lv_aload_n hx hb dX9_isKnowing_5 rfl (lv_at hl 0 rfl) ?_
    refine mg_0_25 C w lf_9_128 dX9_isKnowing_6 ?_
    refine lv_icmp_gt (tgt := 16) hx hb dX9_isKnowing_9 (by decide) (fun h => ?_) (fun h => ?_)
    · replace hf := zf_t h hf
      refine lv_iconst (v := 0) hx hb dX9_isKnowing_16 (by decide) ?_
      exact hret _ _ _ _ _ _ (by rfl) (zf_pr hf) w dX9_isKnowing_17
    · replace hf := zf_f h hf
      refine lv_iconst (v := 1) hx hb dX9_isKnowing_12 (by decide) ?_
      refine lv_goto (tgt := 17) hx hb dX9_isKnowing_13 (by decide) ?_
      exact hret _ _ _ _ _ _ (by rfl) (zf_pr hf) w dX9_isKnowing_17
def fM9_look (N : Nat) (u : zs_T) (v1 : Int32) (v2 : Int32) (v3 : Int32) (v4 : Int32) : Option (Int32 × zs_T) :=
  (zf_bp (fM9_isKnowing u v1) fun r1 => (if r1 = 0 then some ((-1), u) else (if v2 < 0 then some ((-1), u) else (if 150 < v2 then some ((-1), u) else (zf_bp (fM9_isSheep u v3) fun r3 => (if r3 = 0 then some ((-1), u) else (if v4 < 0 then some ((-1), u) else (if v4 ≤ 1 then (zf_bi (fM9_asks N u v1 v3 v2) fun r5 u6 => (if v4 = 1 then some (zs_i u6 20, u6) else (if zs_i u6 19 = 0 then (if zs_i u6 18 = 0 then some (0, u6) else some (1, u6)) else some (2, u6)))) else some ((-1), u)))))))))
set_option maxHeartbeats 4000000 in
set_option maxRecDepth 100000 in
theorem kM9_look (l : Launch) (D : va_G) (q : Nat → Nat) (cs : Nat → ClassId) (N : Nat) (u : zs_T) (v1 : Int32) (v2 : Int32) (v3 : Int32) (v4 : Int32) (z : (Int32 × zs_T)) (hf : fM9_look N u v1 v2 v3 v4 = some z) : zg_Ci l yX9_look cX9_look 5 (some .int) 2 D cs (wM q cs) u [.ref (q 0), .int v1, .int v2, .int v3, .int v4] z.1 z.2 := by
  refine zg_Ci_of (own := RX9) (by decide) rfl wM_ad (Nat.le_of_ble_eq_true rfl) ?_
  intro p e s m args below meth c A Q C hret w ls hl
  obtain ⟨hx, hb, -⟩ := id C
  have hl : lv_has ls 5 [(0, .ref (q 0)), (1, .int v1), (2, .int v2), (3, .int v3), (4, .int v4)] := hl
  generalize hH : s.heap = H at w ⊢
  generalize hLc : ([] : List Loc) = locs at w ⊢
  unfold fM9_look at hf
  refine lv_aload_n hx hb dX9_look_0 rfl (lv_at hl 0 rfl) ?_
  refine lv_iload_n hx hb dX9_look_1 rfl (lv_at hl 1 rfl) ?_
  obtain ⟨r1, hc, hf⟩ := zf_bp_ex hf
  refine zc_ri wM_ad w (zc_V C w (kM9_isKnowing l D q cs _ _ _ hc _) cf_9_isKnowing ci_9_isKnowing lm_9_197 rcM_0 ⟨Nat.le_of_ble_eq_true rfl, Nat.le_of_ble_eq_true rfl⟩ hl.1 rfl (Nat.le_of_ble_eq_true rfl) dX9_look_2 ⟨Nat.le_refl _, Nat.le_refl _⟩) (fun H locs w => ?_)
  refine lv_if_eq (tgt := 38) hx hb dX9_look_5 (by decide) (fun h => ?_) (fun h => ?_)
  · replace hf := zf_t h hf
    refine lv_iconst (v := (-1)) hx hb dX9_look_38 (by decide) ?_
    exact hret _ _ _ _ _ _ hf w dX9_look_39
  · replace hf := zf_f h hf
    refine lv_iload_n hx hb dX9_look_8 rfl (lv_at hl 2 rfl) ?_
    refine lv_if_lt (tgt := 38) hx hb dX9_look_9 (by decide) (fun h => ?_) (fun h => ?_)
    · replace hf := zf_t h hf
      refine lv_iconst (v := (-1)) hx hb dX9_look_38 (by decide) ?_
      exact hret _ _ _ _ _ _ hf w dX9_look_39
    · replace hf := zf_f h hf
      refine lv_iload_n hx hb dX9_look_12 rfl (lv_at hl 2 rfl) ?_
      refine lv_sipush (v := 150) hx hb dX9_look_13 (by decide) ?_
      refine lv_icmp_gt (tgt := 38) hx hb dX9_look_16 (by decide) (fun h => ?_) (fun h => ?_)
      · replace hf := zf_t h hf
        refine lv_iconst (v := (-1)) hx hb dX9_look_38 (by decide) ?_
        exact hret _ _ _ _ _ _ hf w dX9_look_39
      · replace hf := zf_f h hf
        refine lv_aload_n hx hb dX9_look_19 rfl (lv_at hl 0 rfl) ?_
        refine lv_iload_n hx hb dX9_look_20 rfl (lv_at hl 3 rfl) ?_
        obtain ⟨r3, hc, hf⟩ := zf_bp_ex hf
        refine zc_ri wM_ad w (zc_V C w (kM9_isSheep l D q cs _ _ _ hc _) cf_9_isSheep ci_9_isSheep lm_9_194 rcM_0 ⟨Nat.le_of_ble_eq_true rfl, Nat.le_of_ble_eq_true rfl⟩ hl.1 rfl (Nat.le_of_ble_eq_true rfl) dX9_look_21 ⟨Nat.le_refl _, Nat.le_refl _⟩) (fun H locs w => ?_)
        refine lv_if_eq (tgt := 38) hx hb dX9_look_24 (by decide) (fun h => ?_) (fun h => ?_)
        · replace hf := zf_t h hf
          refine lv_iconst (v := (-1)) hx hb dX9_look_38 (by decide) ?_
          exact hret _ _ _ _ _ _ hf w dX9_look_39
        · replace hf := zf_f h hf
          refine lv_iload hx hb dX9_look_27 (lv_at hl 4 rfl) ?_
          refine lv_if_lt (tgt := 38) hx hb dX9_look_29 (by decide) (fun h => ?_) (fun h => ?_)
          · replace hf := zf_t h hf
            refine lv_iconst (v := (-1)) hx hb dX9_look_38 (by decide) ?_
            exact hret _ _ _ _ _ _ hf w dX9_look_39
          · replace hf := zf_f h hf
            refine lv_iload hx hb dX9_look_32 (lv_at hl 4 rfl) ?_
            refine lv_iconst (v := 1) hx hb dX9_look_34 (by decide) ?_
            refine lv_icmp_le (tgt := 40) hx hb dX9_look_35 (by decide) (fun h => ?_) (fun h => ?_)
            · replace hf := zf_t h hf
              refine lv_aload_n hx hb dX9_look_40 rfl (lv_at hl 0 rfl) ?_
              refine lv_iload_n hx hb dX9_look_41 rfl (lv_at hl 1 rfl) ?_
              refine lv_iload_n hx hb dX9_look_42 rfl (lv_at hl 3 rfl) ?_
              refine lv_iload_n hx hb dX9_look_43 rfl (lv_at hl 2 rfl) ?_
              obtain ⟨r5, u6, hc, hf⟩ := zf_bi_ex hf
              refine zc_ri wM_ad w (zc_V C w (kM9_asks l D q cs N _ _ _ _ _ hc _) cf_9_asks ci_9_asks lm_9_190 rcM_0 ⟨Nat.le_of_ble_eq_true rfl, Nat.le_of_ble_eq_true rfl⟩ hl.1 rfl (Nat.le_of_ble_eq_true rfl) dX9_look_44 ⟨Nat.le_refl _, Nat.le_refl _⟩) (fun H locs w => ?_)
              refine lv_pop hx hb dX9_look_47 rfl ?_
              refine lv_iload hx hb dX9_look_48 (lv_at hl 4 rfl) ?_
              refine lv_iconst (v := 1) hx hb dX9_look_50 (by decide) ?_
              refine lv_icmp_ne (tgt := 59) hx hb dX9_look_51 (by decide) (fun h => ?_) (fun h => ?_)
              · replace hf := zf_f h hf
                refine lv_aload_n hx hb dX9_look_59 rfl (lv_at hl 0 rfl) ?_
                refine mg_0_35 C w lf_9_178 dX9_look_60 ?_
                refine lv_if_eq (tgt := 70) hx hb dX9_look_63 (by decide) (fun h => ?_) (fun h => ?_)
                · replace hf := zf_t h hf
                  refine lv_aload_n hx hb dX9_look_70 rfl (lv_at hl 0 rfl) ?_
                  refine mg_0_34 C w lf_9_174 dX9_look_71 ?_
                  refine lv_if_eq (tgt := 81) hx hb dX9_look_74 (by decide) (fun h => ?_) (fun h => ?_)
                  · replace hf := zf_t h hf
                    refine lv_iconst (v := 0) hx hb dX9_look_81 (by decide) ?_
                    exact hret _ _ _ _ _ _ hf w dX9_look_82
                  · replace hf := zf_f h hf
                    refine lv_iconst (v := 1) hx hb dX9_look_77 (by decide) ?_
                    refine lv_goto (tgt := 82) hx hb dX9_look_78 (by decide) ?_
                    exact hret _ _ _ _ _ _ hf w dX9_look_82
                · replace hf := zf_f h hf
                  refine lv_iconst (v := 2) hx hb dX9_look_66 (by decide) ?_
                  refine lv_goto (tgt := 82) hx hb dX9_look_67 (by decide) ?_
                  exact hret _ _ _ _ _ _ hf w dX9_look_82
              · replace hf := zf_t h hf
                refine lv_aload_n hx hb dX9_look_54 rfl (lv_at hl 0 rfl) ?_
                refine mg_0_36 C w lf_9_181 dX9_look_55 ?_
                exact hret _ _ _ _ _ _ hf w dX9_look_58
            · replace hf := zf_f h hf
              refine lv_iconst (v := (-1)) hx hb dX9_look_38 (by decide) ?_
              exact hret _ _ _ _ _ _ hf w dX9_look_39
def fM9_milking (u : zs_T) (v1 : Int32) : Option (Int32 × zs_T) :=
  (if v1 < 1 then some (0, u) else (if 150 < v1 then some (0, u) else (if zs_i u 17 = (-1) then some (1, zs_si u 17 v1) else some (0, u))))
set_option maxHeartbeats 4000000 in
set_option maxRecDepth 100000 in
theorem kM9_milking (l : Launch) (D : va_G) (q : Nat → Nat) (cs : Nat → ClassId) (u : zs_T) (v1 : Int32) (z : (Int32 × zs_T)) (hf : fM9_milking u v1 = some z) : zg_Ci l yX9_milking cX9_milking 2 (some .boolean) 0 D cs (wM q cs) u [.ref (q 0), .int v1] z.1 z.2 := by
  refine zg_Cz_of (own := RX9) (by decide) rfl wM_ad (Nat.le_of_ble_eq_true rfl) ?_
  intro p e s m args below meth c A Q C hret w ls hl
  obtain ⟨hx, hb, -⟩ := id C
  have hl : lv_has ls 2 [(0, .ref (q 0)), (1, .int v1)] := hl
  generalize hH : s.heap = H at w ⊢
  generalize hLc : ([] : List Loc) = locs at w ⊢
  unfold fM9_milking at hf
  refine lv_iload_n hx hb dX9_milking_0 rfl (lv_at hl 1 rfl) ?_
  refine lv_iconst (v := 1) hx hb dX9_milking_1 (by decide) ?_
  refine lv_icmp_lt (tgt := 20) hx hb dX9_milking_2 (by decide) (fun h => ?_) (fun h => ?_)
  · replace hf := zf_t h hf
    refine lv_iconst (v := 0) hx hb dX9_milking_20 (by decide) ?_
    exact hret _ _ _ _ _ _ (by rfl) hf w dX9_milking_21
  · replace hf := zf_f h hf
    refine lv_iload_n hx hb dX9_milking_5 rfl (lv_at hl 1 rfl) ?_
    refine lv_sipush (v := 150) hx hb dX9_milking_6 (by decide) ?_
    refine lv_icmp_gt (tgt := 20) hx hb dX9_milking_9 (by decide) (fun h => ?_) (fun h => ?_)
    · replace hf := zf_t h hf
      refine lv_iconst (v := 0) hx hb dX9_milking_20 (by decide) ?_
      exact hret _ _ _ _ _ _ (by rfl) hf w dX9_milking_21
    · replace hf := zf_f h hf
      refine lv_aload_n hx hb dX9_milking_12 rfl (lv_at hl 0 rfl) ?_
      refine mg_0_26 C w lf_9_57 dX9_milking_13 ?_
      refine lv_iconst (v := (-1)) hx hb dX9_milking_16 (by decide) ?_
      refine lv_icmp_eq (tgt := 22) hx hb dX9_milking_17 (by decide) (fun h => ?_) (fun h => ?_)
      · replace hf := zf_t h hf
        refine lv_aload_n hx hb dX9_milking_22 rfl (lv_at hl 0 rfl) ?_
        refine lv_iload_n hx hb dX9_milking_23 rfl (lv_at hl 1 rfl) ?_
        refine mp_0_26 C w lf_9_57 dX9_milking_24 (fun H locs w => ?_)
        refine lv_iconst (v := 1) hx hb dX9_milking_27 (by decide) ?_
        exact hret _ _ _ _ _ _ (by rfl) hf w dX9_milking_28
      · replace hf := zf_f h hf
        refine lv_iconst (v := 0) hx hb dX9_milking_20 (by decide) ?_
        exact hret _ _ _ _ _ _ (by rfl) hf w dX9_milking_21
def fM9_milk (u : zs_T) (v1 : Int32) (v2 : Int32) : Option (Int32 × zs_T) :=
  (zf_bp (fM9_isSheep u v1) fun r1 => (if r1 = 0 then some (0, u) else (if v2 < 0 then some (0, u) else (if 5000 < v2 then some (0, u) else (if zs_i u 17 = (-1) then some (0, u) else (if zf_in v1 80 then some (1, zs_sa u 9 (upd (zs_a u 9) v1.toNatClampNeg v2)) else none))))))
set_option maxHeartbeats 4000000 in
set_option maxRecDepth 100000 in
theorem kM9_milk (l : Launch) (D : va_G) (q : Nat → Nat) (cs : Nat → ClassId) (u : zs_T) (v1 : Int32) (v2 : Int32) (z : (Int32 × zs_T)) (hf : fM9_milk u v1 v2 = some z) : zg_Ci l yX9_milk cX9_milk 3 (some .boolean) 1 D cs (wM q cs) u [.ref (q 0), .int v1, .int v2] z.1 z.2 := by
  refine zg_Cz_of (own := RX9) (by decide) rfl wM_ad (Nat.le_of_ble_eq_true rfl) ?_
  intro p e s m args below meth c A Q C hret w ls hl
  obtain ⟨hx, hb, -⟩ := id C
  have hl : lv_has ls 3 [(0, .ref (q 0)), (1, .int v1), (2, .int v2)] := hl
  generalize hH : s.heap = H at w ⊢
  generalize hLc : ([] : List Loc) = locs at w ⊢
  unfold fM9_milk at hf
  refine lv_aload_n hx hb dX9_milk_0 rfl (lv_at hl 0 rfl) ?_
  refine lv_iload_n hx hb dX9_milk_1 rfl (lv_at hl 1 rfl) ?_
  obtain ⟨r1, hc, hf⟩ := zf_bp_ex hf
  refine zc_ri wM_ad w (zc_V C w (kM9_isSheep l D q cs _ _ _ hc _) cf_9_isSheep ci_9_isSheep lm_9_194 rcM_0 ⟨Nat.le_of_ble_eq_true rfl, Nat.le_of_ble_eq_true rfl⟩ hl.1 rfl (Nat.le_of_ble_eq_true rfl) dX9_milk_2 ⟨Nat.le_refl _, Nat.le_refl _⟩) (fun H locs w => ?_)
  refine lv_if_eq (tgt := 27) hx hb dX9_milk_5 (by decide) (fun h => ?_) (fun h => ?_)
  · replace hf := zf_t h hf
    refine lv_iconst (v := 0) hx hb dX9_milk_27 (by decide) ?_
    exact hret _ _ _ _ _ _ (by rfl) hf w dX9_milk_28
  · replace hf := zf_f h hf
    refine lv_iload_n hx hb dX9_milk_8 rfl (lv_at hl 2 rfl) ?_
    refine lv_if_lt (tgt := 27) hx hb dX9_milk_9 (by decide) (fun h => ?_) (fun h => ?_)
    · replace hf := zf_t h hf
      refine lv_iconst (v := 0) hx hb dX9_milk_27 (by decide) ?_
      exact hret _ _ _ _ _ _ (by rfl) hf w dX9_milk_28
    · replace hf := zf_f h hf
      refine lv_iload_n hx hb dX9_milk_12 rfl (lv_at hl 2 rfl) ?_
      refine lv_sipush (v := 5000) hx hb dX9_milk_13 (by decide) ?_
      refine lv_icmp_gt (tgt := 27) hx hb dX9_milk_16 (by decide) (fun h => ?_) (fun h => ?_)
      · replace hf := zf_t h hf
        refine lv_iconst (v := 0) hx hb dX9_milk_27 (by decide) ?_
        exact hret _ _ _ _ _ _ (by rfl) hf w dX9_milk_28
      · replace hf := zf_f h hf
        refine lv_aload_n hx hb dX9_milk_19 rfl (lv_at hl 0 rfl) ?_
        refine mg_0_26 C w lf_9_57 dX9_milk_20 ?_
        refine lv_iconst (v := (-1)) hx hb dX9_milk_23 (by decide) ?_
        refine lv_icmp_ne (tgt := 29) hx hb dX9_milk_24 (by decide) (fun h => ?_) (fun h => ?_)
        · replace hf := zf_f h hf
          refine lv_aload_n hx hb dX9_milk_29 rfl (lv_at hl 0 rfl) ?_
          refine mg_0_28 C w lf_9_63 dX9_milk_30 ?_
          refine lv_iload_n hx hb dX9_milk_33 rfl (lv_at hl 1 rfl) ?_
          refine lv_iload_n hx hb dX9_milk_34 rfl (lv_at hl 2 rfl) ?_
          obtain ⟨hi, hf⟩ := zf_gd hf
          refine ms_10 C w hi dX9_milk_35 (fun H locs w => ?_)
          refine lv_iconst (v := 1) hx hb dX9_milk_36 (by decide) ?_
          exact hret _ _ _ _ _ _ (by rfl) hf w dX9_milk_37
        · replace hf := zf_t h hf
          refine lv_iconst (v := 0) hx hb dX9_milk_27 (by decide) ?_
          exact hret _ _ _ _ _ _ (by rfl) hf w dX9_milk_28
