def fM9_rule (u : zs_T) (v1 : Int32) : Option Int32 :=
  (if v1 = 0 then some (zs_i u 2) else (if v1 = 1 then some (zs_i u 3) else (if v1 = 2 then some (zs_i u 4) else (if v1 = 3 then some (zs_i u 5) else some (-1)))))
set_option maxHeartbeats 4000000 in
set_option maxRecDepth 100000 in
theorem kM9_rule (l : Launch) (D : va_G) (q : Nat → Nat) (cs : Nat → ClassId) (u : zs_T) (v1 : Int32) (z : Int32) (hf : fM9_rule u v1 = some z) : zg_Ci l yX9_rule cX9_rule 2 (some .int) 0 D cs (wM q cs) u [.ref (q 0), .int v1] z u := by
  refine zg_Ci_of (own := RX9) (by decide) rfl wM_ad (Nat.le_of_ble_eq_true rfl) ?_
  intro p e s m args below meth c A Q C hret w ls hl
  obtain ⟨hx, hb, -⟩ := id C
  have hl : lv_has ls 2 [(0, .ref (q 0)), (1, .int v1)] := hl
  generalize hH : s.heap = H at w ⊢
  generalize hLc : ([] : List Loc) = locs at w ⊢
  unfold fM9_rule at hf
  refine lv_iload_n hx hb dX9_rule_0 rfl (lv_at hl 1 rfl) ?_
  by_cases hs1 : v1 = 0
  · replace hf := zf_t hs1 hf
    refine lv_tableIn (off := 31) (tgt := 32) hx hb dX9_rule_1 (by rw [hs1]; decide) (by rw [hs1]; decide) (by rw [hs1]; rfl) (by decide) ?_
    refine lv_aload_n hx hb dX9_rule_32 rfl (lv_at hl 0 rfl) ?_
    refine mg_0_3 C w lf_9_13 dX9_rule_33 ?_
    exact hret _ _ _ _ _ _ (zf_pr hf) w dX9_rule_36
  · replace hf := zf_f hs1 hf
    by_cases hs2 : v1 = 1
    · replace hf := zf_t hs2 hf
      refine lv_tableIn (off := 36) (tgt := 37) hx hb dX9_rule_1 (by rw [hs2]; decide) (by rw [hs2]; decide) (by rw [hs2]; rfl) (by decide) ?_
      refine lv_aload_n hx hb dX9_rule_37 rfl (lv_at hl 0 rfl) ?_
      refine mg_0_4 C w lf_9_17 dX9_rule_38 ?_
      exact hret _ _ _ _ _ _ (zf_pr hf) w dX9_rule_41
    · replace hf := zf_f hs2 hf
      by_cases hs3 : v1 = 2
      · replace hf := zf_t hs3 hf
        refine lv_tableIn (off := 41) (tgt := 42) hx hb dX9_rule_1 (by rw [hs3]; decide) (by rw [hs3]; decide) (by rw [hs3]; rfl) (by decide) ?_
        refine lv_aload_n hx hb dX9_rule_42 rfl (lv_at hl 0 rfl) ?_
        refine mg_0_5 C w lf_9_20 dX9_rule_43 ?_
        exact hret _ _ _ _ _ _ (zf_pr hf) w dX9_rule_46
      · replace hf := zf_f hs3 hf
        by_cases hs4 : v1 = 3
        · replace hf := zf_t hs4 hf
          refine lv_tableIn (off := 46) (tgt := 47) hx hb dX9_rule_1 (by rw [hs4]; decide) (by rw [hs4]; decide) (by rw [hs4]; rfl) (by decide) ?_
          refine lv_aload_n hx hb dX9_rule_47 rfl (lv_at hl 0 rfl) ?_
          refine mg_0_6 C w lf_9_23 dX9_rule_48 ?_
          exact hret _ _ _ _ _ _ (zf_pr hf) w dX9_rule_51
        · replace hf := zf_f hs4 hf
          have e_hs1 : v1.toInt ≠ 0 := zf_ne hs1
          have e_hs2 : v1.toInt ≠ 1 := zf_ne hs2
          have e_hs3 : v1.toInt ≠ 2 := zf_ne hs3
          have e_hs4 : v1.toInt ≠ 3 := zf_ne hs4
          refine lv_tableOut (tgt := 52) hx hb dX9_rule_1 (by omega) (by decide) ?_
          refine lv_iconst (v := (-1)) hx hb dX9_rule_52 (by decide) ?_
          exact hret _ _ _ _ _ _ (zf_pr hf) w dX9_rule_53
def fM9_alp_b50 (N : Nat) (ag50 : zs_T → Int32 → Option (Int32 × zs_T)) (u : zs_T) (v2 : Int32) : Option (Int32 × zs_T) :=
  (if 6 ≤ v2 then some (1, u) else (if zf_in v2 6 then (if zf_in v2 6 then (if zf_in v2 6 then ag50 (zs_sa (zs_sa (zs_sa u 2 (upd (zs_a u 2) v2.toNatClampNeg 0)) 3 (upd (zs_a (zs_sa u 2 (upd (zs_a u 2) v2.toNatClampNeg 0)) 3) v2.toNatClampNeg 1)) 4 (upd (zs_a (zs_sa (zs_sa u 2 (upd (zs_a u 2) v2.toNatClampNeg 0)) 3 (upd (zs_a (zs_sa u 2 (upd (zs_a u 2) v2.toNatClampNeg 0)) 3) v2.toNatClampNeg 1)) 4) v2.toNatClampNeg 0)) (v2 + 1) else none) else none) else none))
def fM9_alp (N : Nat) (u : zs_T) (v1 : Int32) : Option (Int32 × zs_T) :=
  (if v1 < 1 then some (0, u) else (if 6 < v1 then some (0, u) else (if 0 < zs_i u 10 then some (0, u) else (if 1 < zs_i u 9 then some (0, u) else (if zs_i u 7 = (-1) then (if zs_i u 16 ≤ 0 then zf_loop (fun ag x => fM9_alp_b50 N (fun u v2 => ag (u, v2)) x.1 x.2) N (zs_si u 6 v1, 0) else some (0, u)) else some (0, u))))))
set_option maxHeartbeats 4000000 in
set_option maxRecDepth 100000 in
theorem kM9_alp (l : Launch) (D : va_G) (q : Nat → Nat) (cs : Nat → ClassId) (N : Nat) (u : zs_T) (v1 : Int32) (z : (Int32 × zs_T)) (hf : fM9_alp N u v1 = some z) : zg_Ci l yX9_alp cX9_alp 3 (some .boolean) 0 D cs (wM q cs) u [.ref (q 0), .int v1] z.1 z.2 := by
  refine zg_Cz_of (own := RX9) (by decide) rfl wM_ad (Nat.le_of_ble_eq_true rfl) ?_
  intro p e s m args below meth c A Q C hret w ls hl
  obtain ⟨hx, hb, -⟩ := id C
  have hl : lv_has ls 3 [(0, .ref (q 0)), (1, .int v1)] := hl
  generalize hH : s.heap = H at w ⊢
  generalize hLc : ([] : List Loc) = locs at w ⊢
  unfold fM9_alp at hf
  refine lv_iload_n hx hb dX9_alp_0 rfl (lv_at hl 1 rfl) ?_
  refine lv_iconst (v := 1) hx hb dX9_alp_1 (by decide) ?_
  refine lv_icmp_lt (tgt := 41) hx hb dX9_alp_2 (by decide) (fun h => ?_) (fun h => ?_)
  · replace hf := zf_t h hf
    refine lv_iconst (v := 0) hx hb dX9_alp_41 (by decide) ?_
    exact hret _ _ _ _ _ _ (by rfl) hf w dX9_alp_42
  · replace hf := zf_f h hf
    refine lv_iload_n hx hb dX9_alp_5 rfl (lv_at hl 1 rfl) ?_
    refine lv_bipush (v := 6) hx hb dX9_alp_6 (by decide) ?_
    refine lv_icmp_gt (tgt := 41) hx hb dX9_alp_8 (by decide) (fun h => ?_) (fun h => ?_)
    · replace hf := zf_t h hf
      refine lv_iconst (v := 0) hx hb dX9_alp_41 (by decide) ?_
      exact hret _ _ _ _ _ _ (by rfl) hf w dX9_alp_42
    · replace hf := zf_f h hf
      refine lv_aload_n hx hb dX9_alp_11 rfl (lv_at hl 0 rfl) ?_
      refine mg_0_12 C w lf_9_125 dX9_alp_12 ?_
      refine lv_if_gt (tgt := 41) hx hb dX9_alp_15 (by decide) (fun h => ?_) (fun h => ?_)
      · replace hf := zf_t h hf
        refine lv_iconst (v := 0) hx hb dX9_alp_41 (by decide) ?_
        exact hret _ _ _ _ _ _ (by rfl) hf w dX9_alp_42
      · replace hf := zf_f h hf
        refine lv_aload_n hx hb dX9_alp_18 rfl (lv_at hl 0 rfl) ?_
        refine mg_0_11 C w lf_9_36 dX9_alp_19 ?_
        refine lv_iconst (v := 1) hx hb dX9_alp_22 (by decide) ?_
        refine lv_icmp_gt (tgt := 41) hx hb dX9_alp_23 (by decide) (fun h => ?_) (fun h => ?_)
        · replace hf := zf_t h hf
          refine lv_iconst (v := 0) hx hb dX9_alp_41 (by decide) ?_
          exact hret _ _ _ _ _ _ (by rfl) hf w dX9_alp_42
        · replace hf := zf_f h hf
          refine lv_aload_n hx hb dX9_alp_26 rfl (lv_at hl 0 rfl) ?_
          refine mg_0_9 C w lf_9_33 dX9_alp_27 ?_
          refine lv_iconst (v := (-1)) hx hb dX9_alp_30 (by decide) ?_
          refine lv_icmp_ne (tgt := 41) hx hb dX9_alp_31 (by decide) (fun h => ?_) (fun h => ?_)
          · replace hf := zf_f h hf
            refine lv_iconst (v := 0) hx hb dX9_alp_41 (by decide) ?_
            exact hret _ _ _ _ _ _ (by rfl) hf w dX9_alp_42
          · replace hf := zf_t h hf
            refine lv_aload_n hx hb dX9_alp_34 rfl (lv_at hl 0 rfl) ?_
            refine mg_0_25 C w lf_9_128 dX9_alp_35 ?_
            refine lv_if_le (tgt := 43) hx hb dX9_alp_38 (by decide) (fun h => ?_) (fun h => ?_)
            · replace hf := zf_t h hf
              refine lv_aload_n hx hb dX9_alp_43 rfl (lv_at hl 0 rfl) ?_
              refine lv_iload_n hx hb dX9_alp_44 rfl (lv_at hl 1 rfl) ?_
              refine mp_0_8 C w lf_9_30 dX9_alp_45 (fun H locs w => ?_)
              refine lv_iconst (v := 0) hx hb dX9_alp_48 (by decide) ?_
              refine lv_istore_n (lv' := [(2, .int 0), (0, .ref (q 0)), (1, .int v1)]) hx hb dX9_alp_49 rfl hl (by decide) rfl (fun ls hl => ?_)
              have lp50 : ∀ (n : Nat) (x : zs_T × Int32), zf_loop (fun ag x => fM9_alp_b50 N (fun u v2 => ag (u, v2)) x.1 x.2) n x = some z → ∀ (H : Heap) (locs : List Loc) (ls : Array Slot), zg_W D cs A s (wM q cs x.1) H locs → lv_has ls 3 [(0, .ref (q 0)), (2, .int x.2)] → W p l e (zg_rm 0) s m args below meth c H locs 0 0 Q (F0 m 50 ls []) := by
                refine zf_loop_W (fun x : zs_T × Int32 => ∀ (H : Heap) (locs : List Loc) (ls : Array Slot), zg_W D cs A s (wM q cs x.1) H locs → lv_has ls 3 [(0, .ref (q 0)), (2, .int x.2)] → W p l e (zg_rm 0) s m args below meth c H locs 0 0 Q (F0 m 50 ls [])) ?_
                intro ag50 x hag50 hf
                obtain ⟨u, v2⟩ := x
                intro H locs ls w hl
                replace hf : fM9_alp_b50 N (fun u v2 => ag50 (u, v2)) u v2 = some z := hf
                replace hl : lv_has ls 3 [(0, .ref (q 0)), (2, .int v2)] := hl
                replace w : zg_W D cs A s (wM q cs u) H locs := w
                unfold fM9_alp_b50 at hf
                refine lv_iload_n hx hb dX9_alp_50 rfl (lv_at hl 1 rfl) ?_
                refine lv_bipush (v := 6) hx hb dX9_alp_51 (by decide) ?_
                refine lv_icmp_ge (tgt := 83) hx hb dX9_alp_53 (by decide) (fun h => ?_) (fun h => ?_)
                · replace hf := zf_t h hf
                  refine lv_iconst (v := 1) hx hb dX9_alp_83 (by decide) ?_
                  exact hret _ _ _ _ _ _ (by rfl) hf w dX9_alp_84
                · replace hf := zf_f h hf
                  refine lv_aload_n hx hb dX9_alp_56 rfl (lv_at hl 0 rfl) ?_
                  refine mg_0_14 C w lf_9_39 dX9_alp_57 ?_
                  refine lv_iload_n hx hb dX9_alp_60 rfl (lv_at hl 1 rfl) ?_
                  refine lv_iconst (v := 0) hx hb dX9_alp_61 (by decide) ?_
                  obtain ⟨hi, hf⟩ := zf_gd hf
                  refine ms_3 C w hi dX9_alp_62 (fun H locs w => ?_)
                  refine lv_aload_n hx hb dX9_alp_63 rfl (lv_at hl 0 rfl) ?_
                  refine mg_0_15 C w lf_9_42 dX9_alp_64 ?_
                  refine lv_iload_n hx hb dX9_alp_67 rfl (lv_at hl 1 rfl) ?_
                  refine lv_iconst (v := 1) hx hb dX9_alp_68 (by decide) ?_
                  obtain ⟨hi, hf⟩ := zf_gd hf
                  refine ms_4 C w hi dX9_alp_69 (fun H locs w => ?_)
                  refine lv_aload_n hx hb dX9_alp_70 rfl (lv_at hl 0 rfl) ?_
                  refine mg_0_16 C w lf_9_45 dX9_alp_71 ?_
                  refine lv_iload_n hx hb dX9_alp_74 rfl (lv_at hl 1 rfl) ?_
                  refine lv_iconst (v := 0) hx hb dX9_alp_75 (by decide) ?_
                  obtain ⟨hi, hf⟩ := zf_gd hf
                  refine ms_5 C w hi dX9_alp_76 (fun H locs w => ?_)
                  refine lv_iinc (v := v2 + 1) (lv' := [(2, .int (v2 + 1)), (0, .ref (q 0))]) hx hb dX9_alp_77 hl (k := 1) rfl rfl (by decide) rfl (fun ls hl => ?_)
                  refine lv_goto (tgt := 50) hx hb dX9_alp_80 (by decide) ?_
                  exact hag50 (zs_sa (zs_sa (zs_sa u 2 (upd (zs_a u 2) v2.toNatClampNeg 0)) 3 (upd (zs_a (zs_sa u 2 (upd (zs_a u 2) v2.toNatClampNeg 0)) 3) v2.toNatClampNeg 1)) 4 (upd (zs_a (zs_sa (zs_sa u 2 (upd (zs_a u 2) v2.toNatClampNeg 0)) 3 (upd (zs_a (zs_sa u 2 (upd (zs_a u 2) v2.toNatClampNeg 0)) 3) v2.toNatClampNeg 1)) 4) v2.toNatClampNeg 0), v2 + 1) hf H locs ls w (lv_sub hl [1, 0] rfl)
              exact lp50 _ _ hf H locs ls w (lv_sub hl [1, 0] rfl)
            · replace hf := zf_f h hf
              refine lv_iconst (v := 0) hx hb dX9_alp_41 (by decide) ?_
              exact hret _ _ _ _ _ _ (by rfl) hf w dX9_alp_42
def fM9_isHeight (u : zs_T) (v1 : Int32) : Option Int32 :=
  (if v1 < 0 then some 0 else (if zs_i u 6 ≤ v1 then some 0 else some 1))
set_option maxHeartbeats 4000000 in
set_option maxRecDepth 100000 in
theorem kM9_isHeight (l : Launch) (D : va_G) (q : Nat → Nat) (cs : Nat → ClassId) (u : zs_T) (v1 : Int32) (z : Int32) (hf : fM9_isHeight u v1 = some z) : zg_Ci l yX9_isHeight cX9_isHeight 2 (some .boolean) 0 D cs (wM q cs) u [.ref (q 0), .int v1] z u := by
  refine zg_Cz_of (own := RX9) (by decide) rfl wM_ad (Nat.le_of_ble_eq_true rfl) ?_
  intro p e s m args below meth c A Q C hret w ls hl
  obtain ⟨hx, hb, -⟩ := id C
  have hl : lv_has ls 2 [(0, .ref (q 0)), (1, .int v1)] := hl
  generalize hH : s.heap = H at w ⊢
  generalize hLc : ([] : List Loc) = locs at w ⊢
  unfold fM9_isHeight at hf
  refine lv_iload_n hx hb dX9_isHeight_0 rfl (lv_at hl 1 rfl) ?_
  refine lv_if_lt (tgt := 16) hx hb dX9_isHeight_1 (by decide) (fun h => ?_) (fun h => ?_)
  · replace hf := zf_t h hf
    refine lv_iconst (v := 0) hx hb dX9_isHeight_16 (by decide) ?_
    exact hret _ _ _ _ _ _ (by rfl) (zf_pr hf) w dX9_isHeight_17
  · replace hf := zf_f h hf
    refine lv_iload_n hx hb dX9_isHeight_4 rfl (lv_at hl 1 rfl) ?_
    refine lv_aload_n hx hb dX9_isHeight_5 rfl (lv_at hl 0 rfl) ?_
    refine mg_0_8 C w lf_9_30 dX9_isHeight_6 ?_
    refine lv_icmp_ge (tgt := 16) hx hb dX9_isHeight_9 (by decide) (fun h => ?_) (fun h => ?_)
    · replace hf := zf_t h hf
      refine lv_iconst (v := 0) hx hb dX9_isHeight_16 (by decide) ?_
      exact hret _ _ _ _ _ _ (by rfl) (zf_pr hf) w dX9_isHeight_17
    · replace hf := zf_f h hf
      refine lv_iconst (v := 1) hx hb dX9_isHeight_12 (by decide) ?_
      refine lv_goto (tgt := 17) hx hb dX9_isHeight_13 (by decide) ?_
      exact hret _ _ _ _ _ _ (by rfl) (zf_pr hf) w dX9_isHeight_17
def fM9_height (u : zs_T) (v1 : Int32) (v2 : Int32) (v3 : Int32) (v4 : Int32) : Option (Int32 × zs_T) :=
  (zf_bp (fM9_isHeight u v1) fun r1 => (if r1 = 0 then some (0, u) else (if v2 < 0 then some (0, u) else (if 60000 < v2 then some (0, u) else (if v3 < 1 then some (0, u) else (if 60000 < v3 then some (0, u) else (if v4 < 0 then some (0, u) else (if v4 ≤ 100 then (if zf_in v1 6 then (if zf_in v1 6 then (if zf_in v1 6 then some (1, zs_sa (zs_sa (zs_sa u 2 (upd (zs_a u 2) v1.toNatClampNeg v2)) 3 (upd (zs_a (zs_sa u 2 (upd (zs_a u 2) v1.toNatClampNeg v2)) 3) v1.toNatClampNeg v3)) 4 (upd (zs_a (zs_sa (zs_sa u 2 (upd (zs_a u 2) v1.toNatClampNeg v2)) 3 (upd (zs_a (zs_sa u 2 (upd (zs_a u 2) v1.toNatClampNeg v2)) 3) v1.toNatClampNeg v3)) 4) v1.toNatClampNeg v4)) else none) else none) else none) else some (0, u)))))))))
set_option maxHeartbeats 4000000 in
set_option maxRecDepth 100000 in
theorem kM9_height (l : Launch) (D : va_G) (q : Nat → Nat) (cs : Nat → ClassId) (u : zs_T) (v1 : Int32) (v2 : Int32) (v3 : Int32) (v4 : Int32) (z : (Int32 × zs_T)) (hf : fM9_height u v1 v2 v3 v4 = some z) : zg_Ci l yX9_height cX9_height 5 (some .boolean) 1 D cs (wM q cs) u [.ref (q 0), .int v1, .int v2, .int v3, .int v4] z.1 z.2 := by
  refine zg_Cz_of (own := RX9) (by decide) rfl wM_ad (Nat.le_of_ble_eq_true rfl) ?_
  intro p e s m args below meth c A Q C hret w ls hl
  obtain ⟨hx, hb, -⟩ := id C
  have hl : lv_has ls 5 [(0, .ref (q 0)), (1, .int v1), (2, .int v2), (3, .int v3), (4, .int v4)] := hl
  generalize hH : s.heap = H at w ⊢
  generalize hLc : ([] : List Loc) = locs at w ⊢
  unfold fM9_height at hf
  refine lv_aload_n hx hb dX9_height_0 rfl (lv_at hl 0 rfl) ?_
  refine lv_iload_n hx hb dX9_height_1 rfl (lv_at hl 1 rfl) ?_
  obtain ⟨r1, hc, hf⟩ := zf_bp_ex hf
  refine zc_ri wM_ad w (zc_V C w (kM9_isHeight l D q cs _ _ _ hc _) cf_9_isHeight ci_9_isHeight lm_9_131 rcM_0 ⟨Nat.le_of_ble_eq_true rfl, Nat.le_of_ble_eq_true rfl⟩ hl.1 rfl (Nat.le_of_ble_eq_true rfl) dX9_height_2 ⟨Nat.le_refl _, Nat.le_refl _⟩) (fun H locs w => ?_)
  refine lv_if_eq (tgt := 41) hx hb dX9_height_5 (by decide) (fun h => ?_) (fun h => ?_)
  · replace hf := zf_t h hf
    refine lv_iconst (v := 0) hx hb dX9_height_41 (by decide) ?_
    exact hret _ _ _ _ _ _ (by rfl) hf w dX9_height_42
  · replace hf := zf_f h hf
    refine lv_iload_n hx hb dX9_height_8 rfl (lv_at hl 2 rfl) ?_
    refine lv_if_lt (tgt := 41) hx hb dX9_height_9 (by decide) (fun h => ?_) (fun h => ?_)
    · replace hf := zf_t h hf
      refine lv_iconst (v := 0) hx hb dX9_height_41 (by decide) ?_
      exact hret _ _ _ _ _ _ (by rfl) hf w dX9_height_42
    · replace hf := zf_f h hf
      refine lv_iload_n hx hb dX9_height_12 rfl (lv_at hl 2 rfl) ?_
      refine zr_ldc C lc_9_135 dX9_height_13 ?_
      refine lv_icmp_gt (tgt := 41) hx hb dX9_height_15 (by decide) (fun h => ?_) (fun h => ?_)
      · replace hf := zf_t h hf
        refine lv_iconst (v := 0) hx hb dX9_height_41 (by decide) ?_
        exact hret _ _ _ _ _ _ (by rfl) hf w dX9_height_42
      · replace hf := zf_f h hf
        refine lv_iload_n hx hb dX9_height_18 rfl (lv_at hl 3 rfl) ?_
        refine lv_iconst (v := 1) hx hb dX9_height_19 (by decide) ?_
        refine lv_icmp_lt (tgt := 41) hx hb dX9_height_20 (by decide) (fun h => ?_) (fun h => ?_)
        · replace hf := zf_t h hf
          refine lv_iconst (v := 0) hx hb dX9_height_41 (by decide) ?_
          exact hret _ _ _ _ _ _ (by rfl) hf w dX9_height_42
        · replace hf := zf_f h hf
          refine lv_iload_n hx hb dX9_height_23 rfl (lv_at hl 3 rfl) ?_
          refine zr_ldc C lc_9_135 dX9_height_24 ?_
          refine lv_icmp_gt (tgt := 41) hx hb dX9_height_26 (by decide) (fun h => ?_) (fun h => ?_)
          · replace hf := zf_t h hf
            refine lv_iconst (v := 0) hx hb dX9_height_41 (by decide) ?_
            exact hret _ _ _ _ _ _ (by rfl) hf w dX9_height_42
          · replace hf := zf_f h hf
            refine lv_iload hx hb dX9_height_29 (lv_at hl 4 rfl) ?_
            refine lv_if_lt (tgt := 41) hx hb dX9_height_31 (by decide) (fun h => ?_) (fun h => ?_)
            · replace hf := zf_t h hf
              refine lv_iconst (v := 0) hx hb dX9_height_41 (by decide) ?_
              exact hret _ _ _ _ _ _ (by rfl) hf w dX9_height_42
            · replace hf := zf_f h hf
              refine lv_iload hx hb dX9_height_34 (lv_at hl 4 rfl) ?_
              refine lv_bipush (v := 100) hx hb dX9_height_36 (by decide) ?_
              refine lv_icmp_le (tgt := 43) hx hb dX9_height_38 (by decide) (fun h => ?_) (fun h => ?_)
              · replace hf := zf_t h hf
                refine lv_aload_n hx hb dX9_height_43 rfl (lv_at hl 0 rfl) ?_
                refine mg_0_14 C w lf_9_39 dX9_height_44 ?_
                refine lv_iload_n hx hb dX9_height_47 rfl (lv_at hl 1 rfl) ?_
                refine lv_iload_n hx hb dX9_height_48 rfl (lv_at hl 2 rfl) ?_
                obtain ⟨hi, hf⟩ := zf_gd hf
                refine ms_3 C w hi dX9_height_49 (fun H locs w => ?_)
                refine lv_aload_n hx hb dX9_height_50 rfl (lv_at hl 0 rfl) ?_
                refine mg_0_15 C w lf_9_42 dX9_height_51 ?_
                refine lv_iload_n hx hb dX9_height_54 rfl (lv_at hl 1 rfl) ?_
                refine lv_iload_n hx hb dX9_height_55 rfl (lv_at hl 3 rfl) ?_
                obtain ⟨hi, hf⟩ := zf_gd hf
                refine ms_4 C w hi dX9_height_56 (fun H locs w => ?_)
                refine lv_aload_n hx hb dX9_height_57 rfl (lv_at hl 0 rfl) ?_
                refine mg_0_16 C w lf_9_45 dX9_height_58 ?_
                refine lv_iload_n hx hb dX9_height_61 rfl (lv_at hl 1 rfl) ?_
                refine lv_iload hx hb dX9_height_62 (lv_at hl 4 rfl) ?_
                obtain ⟨hi, hf⟩ := zf_gd hf
                refine ms_5 C w hi dX9_height_64 (fun H locs w => ?_)
                refine lv_iconst (v := 1) hx hb dX9_height_65 (by decide) ?_
                exact hret _ _ _ _ _ _ (by rfl) hf w dX9_height_66
              · replace hf := zf_f h hf
                refine lv_iconst (v := 0) hx hb dX9_height_41 (by decide) ?_
                exact hret _ _ _ _ _ _ (by rfl) hf w dX9_height_42
def fM9_grass (u : zs_T) (v1 : Int32) (v2 : Int32) : Option Int32 :=
  (zf_bp (fM9_isHeight u v1) fun r1 => (if r1 = 0 then some (-1) else (if v2 = 0 then (if zf_in v1 6 then some (zs_a u 2 v1.toNatClampNeg) else none) else (if v2 = 1 then (if zf_in v1 6 then some (zs_a u 3 v1.toNatClampNeg) else none) else (if v2 = 2 then (if zf_in v1 6 then some (zs_a u 4 v1.toNatClampNeg) else none) else some (-1))))))
set_option maxHeartbeats 4000000 in
set_option maxRecDepth 100000 in
theorem kM9_grass (l : Launch) (D : va_G) (q : Nat → Nat) (cs : Nat → ClassId) (u : zs_T) (v1 : Int32) (v2 : Int32) (z : Int32) (hf : fM9_grass u v1 v2 = some z) : zg_Ci l yX9_grass cX9_grass 3 (some .int) 1 D cs (wM q cs) u [.ref (q 0), .int v1, .int v2] z u := by
  refine zg_Ci_of (own := RX9) (by decide) rfl wM_ad (Nat.le_of_ble_eq_true rfl) ?_
  intro p e s m args below meth c A Q C hret w ls hl
  obtain ⟨hx, hb, -⟩ := id C
  have hl : lv_has ls 3 [(0, .ref (q 0)), (1, .int v1), (2, .int v2)] := hl
  generalize hH : s.heap = H at w ⊢
  generalize hLc : ([] : List Loc) = locs at w ⊢
  unfold fM9_grass at hf
  refine lv_aload_n hx hb dX9_grass_0 rfl (lv_at hl 0 rfl) ?_
  refine lv_iload_n hx hb dX9_grass_1 rfl (lv_at hl 1 rfl) ?_
  obtain ⟨r1, hc, hf⟩ := zf_bp_ex hf
  refine zc_ri wM_ad w (zc_V C w (kM9_isHeight l D q cs _ _ _ hc _) cf_9_isHeight ci_9_isHeight lm_9_131 rcM_0 ⟨Nat.le_of_ble_eq_true rfl, Nat.le_of_ble_eq_true rfl⟩ hl.1 rfl (Nat.le_of_ble_eq_true rfl) dX9_grass_2 ⟨Nat.le_refl _, Nat.le_refl _⟩) (fun H locs w => ?_)
  refine lv_if_ne (tgt := 10) hx hb dX9_grass_5 (by decide) (fun h => ?_) (fun h => ?_)
  · replace hf := zf_f h hf
    refine lv_iload_n hx hb dX9_grass_10 rfl (lv_at hl 2 rfl) ?_
    refine lv_if_ne (tgt := 23) hx hb dX9_grass_11 (by decide) (fun h => ?_) (fun h => ?_)
    · replace hf := zf_f h hf
      refine lv_iload_n hx hb dX9_grass_23 rfl (lv_at hl 2 rfl) ?_
      refine lv_iconst (v := 1) hx hb dX9_grass_24 (by decide) ?_
      refine lv_icmp_ne (tgt := 37) hx hb dX9_grass_25 (by decide) (fun h => ?_) (fun h => ?_)
      · replace hf := zf_f h hf
        refine lv_iload_n hx hb dX9_grass_37 rfl (lv_at hl 2 rfl) ?_
        refine lv_iconst (v := 2) hx hb dX9_grass_38 (by decide) ?_
        refine lv_icmp_ne (tgt := 51) hx hb dX9_grass_39 (by decide) (fun h => ?_) (fun h => ?_)
        · replace hf := zf_f h hf
          refine lv_iconst (v := (-1)) hx hb dX9_grass_51 (by decide) ?_
          exact hret _ _ _ _ _ _ (zf_pr hf) w dX9_grass_52
        · replace hf := zf_t h hf
          refine lv_aload_n hx hb dX9_grass_42 rfl (lv_at hl 0 rfl) ?_
          refine mg_0_16 C w lf_9_45 dX9_grass_43 ?_
          refine lv_iload_n hx hb dX9_grass_46 rfl (lv_at hl 1 rfl) ?_
          obtain ⟨hi, hf⟩ := zf_gd hf
          refine ma_5 C w hi dX9_grass_47 ?_
          refine lv_goto (tgt := 52) hx hb dX9_grass_48 (by decide) ?_
          exact hret _ _ _ _ _ _ (zf_pr hf) w dX9_grass_52
      · replace hf := zf_t h hf
        refine lv_aload_n hx hb dX9_grass_28 rfl (lv_at hl 0 rfl) ?_
        refine mg_0_15 C w lf_9_42 dX9_grass_29 ?_
        refine lv_iload_n hx hb dX9_grass_32 rfl (lv_at hl 1 rfl) ?_
        obtain ⟨hi, hf⟩ := zf_gd hf
        refine ma_4 C w hi dX9_grass_33 ?_
        refine lv_goto (tgt := 52) hx hb dX9_grass_34 (by decide) ?_
        exact hret _ _ _ _ _ _ (zf_pr hf) w dX9_grass_52
    · replace hf := zf_t h hf
      refine lv_aload_n hx hb dX9_grass_14 rfl (lv_at hl 0 rfl) ?_
      refine mg_0_14 C w lf_9_39 dX9_grass_15 ?_
      refine lv_iload_n hx hb dX9_grass_18 rfl (lv_at hl 1 rfl) ?_
      obtain ⟨hi, hf⟩ := zf_gd hf
      refine ma_3 C w hi dX9_grass_19 ?_
      refine lv_goto (tgt := 52) hx hb dX9_grass_20 (by decide) ?_
      exact hret _ _ _ _ _ _ (zf_pr hf) w dX9_grass_52
  · replace hf := zf_t h hf
    refine lv_iconst (v := (-1)) hx hb dX9_grass_8 (by decide) ?_
    exact hret _ _ _ _ _ _ (zf_pr hf) w dX9_grass_9
def fM9_move_j83 (u : zs_T) (v1 : Int32) (v2 : Int32) (t0 : Int32) : Option (Int32 × zs_T) :=
  (if v2 = 0 then (if t0 = 0 then some (0, u) else some (1, zs_si u 7 v1)) else (if zs_i u 8 ≤ 20 then some (1, zs_si u 7 v1) else (if t0 = 0 then some (0, u) else some (1, zs_si u 7 v1))))
def fM9_move_j82 (u : zs_T) (v1 : Int32) (v2 : Int32) : Option (Int32 × zs_T) :=
  fM9_move_j83 u v1 v2 0
def fM9_move_j78 (u : zs_T) (v1 : Int32) (v2 : Int32) : Option (Int32 × zs_T) :=
  fM9_move_j83 u v1 v2 1
def fM9_move_j44 (u : zs_T) (v1 : Int32) (t0 : Int32) : Option (Int32 × zs_T) :=
  (if zs_i u 7 = (-1) then fM9_move_j82 u v1 t0 else (if v1 = (-1) then fM9_move_j82 u v1 t0 else (if v1 = (zs_i u 7) + 1 then fM9_move_j78 u v1 t0 else (if v1 = (zs_i u 7) - 1 then fM9_move_j78 u v1 t0 else fM9_move_j82 u v1 t0))))
def fM9_move_j43 (u : zs_T) (v1 : Int32) : Option (Int32 × zs_T) :=
  fM9_move_j44 u v1 0
def fM9_move_j39 (u : zs_T) (v1 : Int32) : Option (Int32 × zs_T) :=
  fM9_move_j44 u v1 1
def fM9_move_j27 (u : zs_T) (v1 : Int32) : Option (Int32 × zs_T) :=
  (if zs_i u 7 = 0 then (if v1 = (-1) then fM9_move_j39 u v1 else fM9_move_j43 u v1) else fM9_move_j43 u v1)
def fM9_move_j15 (u : zs_T) (v1 : Int32) : Option (Int32 × zs_T) :=
  (if zs_i u 7 = (-1) then (if v1 = 0 then fM9_move_j39 u v1 else fM9_move_j27 u v1) else fM9_move_j27 u v1)
def fM9_move (u : zs_T) (v1 : Int32) : Option (Int32 × zs_T) :=
  (if v1 = (-1) then fM9_move_j15 u v1 else (zf_bp (fM9_isHeight u v1) fun r1 => (if r1 = 0 then some (0, u) else fM9_move_j15 u v1)))
set_option maxHeartbeats 4000000 in
set_option maxRecDepth 100000 in
theorem kM9_move (l : Launch) (D : va_G) (q : Nat → Nat) (cs : Nat → ClassId) (u : zs_T) (v1 : Int32) (z : (Int32 × zs_T)) (hf : fM9_move u v1 = some z) : zg_Ci l yX9_move cX9_move 4 (some .boolean) 1 D cs (wM q cs) u [.ref (q 0), .int v1] z.1 z.2 := by
  refine zg_Cz_of (own := RX9) (by decide) rfl wM_ad (Nat.le_of_ble_eq_true rfl) ?_
  intro p e s m args below meth c A Q C hret w ls hl
  obtain ⟨hx, hb, -⟩ := id C
  have hl : lv_has ls 4 [(0, .ref (q 0)), (1, .int v1)] := hl
  generalize hH : s.heap = H at w ⊢
  generalize hLc : ([] : List Loc) = locs at w ⊢
  have hj83 : ∀ (u : zs_T) (v1 : Int32) (v2 : Int32) (t0 : Int32) (H : Heap) (locs : List Loc) (ls : Array Slot), zg_W D cs A s (wM q cs u) H locs → lv_has ls 4 [(0, .ref (q 0)), (1, .int v1), (2, .int v2)] → fM9_move_j83 u v1 v2 t0 = some z → W p l e (zg_rm 1) s m args below meth c H locs 0 0 Q (F0 m 83 ls [.int t0]) := by
    intro u v1 v2 t0 H locs ls w hl hf
    unfold fM9_move_j83 at hf
    refine lv_istore_n (lv' := [(3, .int t0), (0, .ref (q 0)), (1, .int v1), (2, .int v2)]) hx hb dX9_move_83 rfl hl (by decide) rfl (fun ls hl => ?_)
    refine lv_iload_n hx hb dX9_move_84 rfl (lv_at hl 3 rfl) ?_
    refine lv_if_eq (tgt := 97) hx hb dX9_move_85 (by decide) (fun h => ?_) (fun h => ?_)
    · replace hf := zf_t h hf
      refine lv_iload_n hx hb dX9_move_97 rfl (lv_at hl 0 rfl) ?_
      refine lv_if_ne (tgt := 103) hx hb dX9_move_98 (by decide) (fun h => ?_) (fun h => ?_)
      · replace hf := zf_f h hf
        refine lv_aload_n hx hb dX9_move_103 rfl (lv_at hl 1 rfl) ?_
        refine lv_iload_n hx hb dX9_move_104 rfl (lv_at hl 2 rfl) ?_
        refine mp_0_9 C w lf_9_33 dX9_move_105 (fun H locs w => ?_)
        refine lv_iconst (v := 1) hx hb dX9_move_108 (by decide) ?_
        exact hret _ _ _ _ _ _ (by rfl) hf w dX9_move_109
      · replace hf := zf_t h hf
        refine lv_iconst (v := 0) hx hb dX9_move_101 (by decide) ?_
        exact hret _ _ _ _ _ _ (by rfl) hf w dX9_move_102
    · replace hf := zf_f h hf
      refine lv_aload_n hx hb dX9_move_88 rfl (lv_at hl 1 rfl) ?_
      refine mg_0_10 C w lf_9_136 dX9_move_89 ?_
      refine lv_bipush (v := 20) hx hb dX9_move_92 (by decide) ?_
      refine lv_icmp_le (tgt := 103) hx hb dX9_move_94 (by decide) (fun h => ?_) (fun h => ?_)
      · replace hf := zf_t h hf
        refine lv_aload_n hx hb dX9_move_103 rfl (lv_at hl 1 rfl) ?_
        refine lv_iload_n hx hb dX9_move_104 rfl (lv_at hl 2 rfl) ?_
        refine mp_0_9 C w lf_9_33 dX9_move_105 (fun H locs w => ?_)
        refine lv_iconst (v := 1) hx hb dX9_move_108 (by decide) ?_
        exact hret _ _ _ _ _ _ (by rfl) hf w dX9_move_109
      · replace hf := zf_f h hf
        refine lv_iload_n hx hb dX9_move_97 rfl (lv_at hl 0 rfl) ?_
        refine lv_if_ne (tgt := 103) hx hb dX9_move_98 (by decide) (fun h => ?_) (fun h => ?_)
        · replace hf := zf_f h hf
          refine lv_aload_n hx hb dX9_move_103 rfl (lv_at hl 1 rfl) ?_
          refine lv_iload_n hx hb dX9_move_104 rfl (lv_at hl 2 rfl) ?_
          refine mp_0_9 C w lf_9_33 dX9_move_105 (fun H locs w => ?_)
          refine lv_iconst (v := 1) hx hb dX9_move_108 (by decide) ?_
          exact hret _ _ _ _ _ _ (by rfl) hf w dX9_move_109
        · replace hf := zf_t h hf
          refine lv_iconst (v := 0) hx hb dX9_move_101 (by decide) ?_
          exact hret _ _ _ _ _ _ (by rfl) hf w dX9_move_102
  have hj82 : ∀ (u : zs_T) (v1 : Int32) (v2 : Int32) (H : Heap) (locs : List Loc) (ls : Array Slot), zg_W D cs A s (wM q cs u) H locs → lv_has ls 4 [(0, .ref (q 0)), (1, .int v1), (2, .int v2)] → fM9_move_j82 u v1 v2 = some z → W p l e (zg_rm 1) s m args below meth c H locs 0 0 Q (F0 m 82 ls []) := by
    intro u v1 v2 H locs ls w hl hf
    unfold fM9_move_j82 at hf
    refine lv_iconst (v := 0) hx hb dX9_move_82 (by decide) ?_
    exact hj83 _ _ _ _ H locs ls w (lv_sub hl [0, 1, 2] rfl) hf
  have hj78 : ∀ (u : zs_T) (v1 : Int32) (v2 : Int32) (H : Heap) (locs : List Loc) (ls : Array Slot), zg_W D cs A s (wM q cs u) H locs → lv_has ls 4 [(0, .ref (q 0)), (1, .int v1), (2, .int v2)] → fM9_move_j78 u v1 v2 = some z → W p l e (zg_rm 1) s m args below meth c H locs 0 0 Q (F0 m 78 ls []) := by
    intro u v1 v2 H locs ls w hl hf
    unfold fM9_move_j78 at hf
    refine lv_iconst (v := 1) hx hb dX9_move_78 (by decide) ?_
    refine lv_goto (tgt := 83) hx hb dX9_move_79 (by decide) ?_
    exact hj83 _ _ _ _ H locs ls w (lv_sub hl [0, 1, 2] rfl) hf
  have hj44 : ∀ (u : zs_T) (v1 : Int32) (t0 : Int32) (H : Heap) (locs : List Loc) (ls : Array Slot), zg_W D cs A s (wM q cs u) H locs → lv_has ls 4 [(0, .ref (q 0)), (1, .int v1)] → fM9_move_j44 u v1 t0 = some z → W p l e (zg_rm 1) s m args below meth c H locs 0 0 Q (F0 m 44 ls [.int t0]) := by
    intro u v1 t0 H locs ls w hl hf
    unfold fM9_move_j44 at hf
    refine lv_istore_n (lv' := [(2, .int t0), (0, .ref (q 0)), (1, .int v1)]) hx hb dX9_move_44 rfl hl (by decide) rfl (fun ls hl => ?_)
    refine lv_aload_n hx hb dX9_move_45 rfl (lv_at hl 1 rfl) ?_
    refine mg_0_9 C w lf_9_33 dX9_move_46 ?_
    refine lv_iconst (v := (-1)) hx hb dX9_move_49 (by decide) ?_
    refine lv_icmp_eq (tgt := 82) hx hb dX9_move_50 (by decide) (fun h => ?_) (fun h => ?_)
    · replace hf := zf_t h hf
      exact hj82 _ _ _ H locs ls w (lv_sub hl [1, 2, 0] rfl) hf
    · replace hf := zf_f h hf
      refine lv_iload_n hx hb dX9_move_53 rfl (lv_at hl 2 rfl) ?_
      refine lv_iconst (v := (-1)) hx hb dX9_move_54 (by decide) ?_
      refine lv_icmp_eq (tgt := 82) hx hb dX9_move_55 (by decide) (fun h => ?_) (fun h => ?_)
      · replace hf := zf_t h hf
        exact hj82 _ _ _ H locs ls w (lv_sub hl [1, 2, 0] rfl) hf
      · replace hf := zf_f h hf
        refine lv_iload_n hx hb dX9_move_58 rfl (lv_at hl 2 rfl) ?_
        refine lv_aload_n hx hb dX9_move_59 rfl (lv_at hl 1 rfl) ?_
        refine mg_0_9 C w lf_9_33 dX9_move_60 ?_
        refine lv_iconst (v := 1) hx hb dX9_move_63 (by decide) ?_
        refine lv_iadd hx hb dX9_move_64 ?_
        refine lv_icmp_eq (tgt := 78) hx hb dX9_move_65 (by decide) (fun h => ?_) (fun h => ?_)
        · replace hf := zf_t h hf
          exact hj78 _ _ _ H locs ls w (lv_sub hl [1, 2, 0] rfl) hf
        · replace hf := zf_f h hf
          refine lv_iload_n hx hb dX9_move_68 rfl (lv_at hl 2 rfl) ?_
          refine lv_aload_n hx hb dX9_move_69 rfl (lv_at hl 1 rfl) ?_
          refine mg_0_9 C w lf_9_33 dX9_move_70 ?_
          refine lv_iconst (v := 1) hx hb dX9_move_73 (by decide) ?_
          refine lv_isub hx hb dX9_move_74 ?_
          refine lv_icmp_ne (tgt := 82) hx hb dX9_move_75 (by decide) (fun h => ?_) (fun h => ?_)
          · replace hf := zf_f h hf
            exact hj82 _ _ _ H locs ls w (lv_sub hl [1, 2, 0] rfl) hf
          · replace hf := zf_t h hf
            exact hj78 _ _ _ H locs ls w (lv_sub hl [1, 2, 0] rfl) hf
  have hj43 : ∀ (u : zs_T) (v1 : Int32) (H : Heap) (locs : List Loc) (ls : Array Slot), zg_W D cs A s (wM q cs u) H locs → lv_has ls 4 [(0, .ref (q 0)), (1, .int v1)] → fM9_move_j43 u v1 = some z → W p l e (zg_rm 1) s m args below meth c H locs 0 0 Q (F0 m 43 ls []) := by
    intro u v1 H locs ls w hl hf
    unfold fM9_move_j43 at hf
    refine lv_iconst (v := 0) hx hb dX9_move_43 (by decide) ?_
    exact hj44 _ _ _ H locs ls w (lv_sub hl [0, 1] rfl) hf
  have hj39 : ∀ (u : zs_T) (v1 : Int32) (H : Heap) (locs : List Loc) (ls : Array Slot), zg_W D cs A s (wM q cs u) H locs → lv_has ls 4 [(0, .ref (q 0)), (1, .int v1)] → fM9_move_j39 u v1 = some z → W p l e (zg_rm 1) s m args below meth c H locs 0 0 Q (F0 m 39 ls []) := by
    intro u v1 H locs ls w hl hf
    unfold fM9_move_j39 at hf
    refine lv_iconst (v := 1) hx hb dX9_move_39 (by decide) ?_
    refine lv_goto (tgt := 44) hx hb dX9_move_40 (by decide) ?_
    exact hj44 _ _ _ H locs ls w (lv_sub hl [0, 1] rfl) hf
  have hj27 : ∀ (u : zs_T) (v1 : Int32) (H : Heap) (locs : List Loc) (ls : Array Slot), zg_W D cs A s (wM q cs u) H locs → lv_has ls 4 [(0, .ref (q 0)), (1, .int v1)] → fM9_move_j27 u v1 = some z → W p l e (zg_rm 1) s m args below meth c H locs 0 0 Q (F0 m 27 ls []) := by
    intro u v1 H locs ls w hl hf
    unfold fM9_move_j27 at hf
    refine lv_aload_n hx hb dX9_move_27 rfl (lv_at hl 0 rfl) ?_
    refine mg_0_9 C w lf_9_33 dX9_move_28 ?_
    refine lv_if_ne (tgt := 43) hx hb dX9_move_31 (by decide) (fun h => ?_) (fun h => ?_)
    · replace hf := zf_f h hf
      exact hj43 _ _ H locs ls w (lv_sub hl [0, 1] rfl) hf
    · replace hf := zf_t h hf
      refine lv_iload_n hx hb dX9_move_34 rfl (lv_at hl 1 rfl) ?_
      refine lv_iconst (v := (-1)) hx hb dX9_move_35 (by decide) ?_
      refine lv_icmp_ne (tgt := 43) hx hb dX9_move_36 (by decide) (fun h => ?_) (fun h => ?_)
      · replace hf := zf_f h hf
        exact hj43 _ _ H locs ls w (lv_sub hl [0, 1] rfl) hf
      · replace hf := zf_t h hf
        exact hj39 _ _ H locs ls w (lv_sub hl [0, 1] rfl) hf
  have hj15 : ∀ (u : zs_T) (v1 : Int32) (H : Heap) (locs : List Loc) (ls : Array Slot), zg_W D cs A s (wM q cs u) H locs → lv_has ls 4 [(0, .ref (q 0)), (1, .int v1)] → fM9_move_j15 u v1 = some z → W p l e (zg_rm 1) s m args below meth c H locs 0 0 Q (F0 m 15 ls []) := by
    intro u v1 H locs ls w hl hf
    unfold fM9_move_j15 at hf
    refine lv_aload_n hx hb dX9_move_15 rfl (lv_at hl 0 rfl) ?_
    refine mg_0_9 C w lf_9_33 dX9_move_16 ?_
    refine lv_iconst (v := (-1)) hx hb dX9_move_19 (by decide) ?_
    refine lv_icmp_ne (tgt := 27) hx hb dX9_move_20 (by decide) (fun h => ?_) (fun h => ?_)
    · replace hf := zf_f h hf
      exact hj27 _ _ H locs ls w (lv_sub hl [0, 1] rfl) hf
    · replace hf := zf_t h hf
      refine lv_iload_n hx hb dX9_move_23 rfl (lv_at hl 1 rfl) ?_
      refine lv_if_eq (tgt := 39) hx hb dX9_move_24 (by decide) (fun h => ?_) (fun h => ?_)
      · replace hf := zf_t h hf
        exact hj39 _ _ H locs ls w (lv_sub hl [0, 1] rfl) hf
      · replace hf := zf_f h hf
        exact hj27 _ _ H locs ls w (lv_sub hl [0, 1] rfl) hf
  unfold fM9_move at hf
  refine lv_iload_n hx hb dX9_move_0 rfl (lv_at hl 1 rfl) ?_
  refine lv_iconst (v := (-1)) hx hb dX9_move_1 (by decide) ?_
  refine lv_icmp_eq (tgt := 15) hx hb dX9_move_2 (by decide) (fun h => ?_) (fun h => ?_)
  · replace hf := zf_t h hf
    exact hj15 _ _ H locs ls w (lv_sub hl [0, 1] rfl) hf
  · replace hf := zf_f h hf
    refine lv_aload_n hx hb dX9_move_5 rfl (lv_at hl 0 rfl) ?_
    refine lv_iload_n hx hb dX9_move_6 rfl (lv_at hl 1 rfl) ?_
    obtain ⟨r1, hc, hf⟩ := zf_bp_ex hf
    refine zc_ri wM_ad w (zc_V C w (kM9_isHeight l D q cs _ _ _ hc _) cf_9_isHeight ci_9_isHeight lm_9_131 rcM_0 ⟨Nat.le_of_ble_eq_true rfl, Nat.le_of_ble_eq_true rfl⟩ hl.1 rfl (Nat.le_of_ble_eq_true rfl) dX9_move_7 ⟨Nat.le_refl _, Nat.le_refl _⟩) (fun H locs w => ?_)
    refine lv_if_ne (tgt := 15) hx hb dX9_move_10 (by decide) (fun h => ?_) (fun h => ?_)
    · replace hf := zf_f h hf
      exact hj15 _ _ H locs ls w (lv_sub hl [0, 1] rfl) hf
    · replace hf := zf_t h hf
      refine lv_iconst (v := 0) hx hb dX9_move_13 (by decide) ?_
      exact hret _ _ _ _ _ _ (by rfl) hf w dX9_move_14
