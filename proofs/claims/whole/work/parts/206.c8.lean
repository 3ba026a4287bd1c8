def fX8_within (v0 : Int32) (v1 : Int32) (v2 : Int32) : Option Int32 :=
  (if v0 < v1 then some 0 else (if v2 < v0 then some 0 else some 1))
set_option maxHeartbeats 4000000 in
set_option maxRecDepth 100000 in
theorem kX8_within (l : Launch) (D : va_G) (q : Nat → Nat) (cs : Nat → ClassId) (u : zs_T) (v0 : Int32) (v1 : Int32) (v2 : Int32) (z : Int32) (hf : fX8_within v0 v1 v2 = some z) : zg_Ci l yX8_within cX8_within 3 (some .boolean) 0 D cs (wX q cs) u [.int v0, .int v1, .int v2] z u := by
  refine zg_Cz_of (own := RX8) (by decide) rfl wX_ad (Nat.le_of_ble_eq_true rfl) ?_
  intro p e s m args below meth c A Q C hret w ls hl
  obtain ⟨hx, hb, -⟩ := id C
  have hl : lv_has ls 3 [(0, .int v0), (1, .int v1), (2, .int v2)] := hl
  generalize hH : s.heap = H at w ⊢
  generalize hLc : ([] : List Loc) = locs at w ⊢
  unfold fX8_within at hf
  refine lv_iload_n hx hb dX8_within_0 rfl (lv_at hl 0 rfl) ?_
  refine lv_iload_n hx hb dX8_within_1 rfl (lv_at hl 1 rfl) ?_
  refine lv_icmp_lt (tgt := 14) hx hb dX8_within_2 (by decide) (fun h => ?_) (fun h => ?_)
  · replace hf := zf_t h hf
    refine lv_iconst (v := 0) hx hb dX8_within_14 (by decide) ?_
    exact hret _ _ _ _ _ _ (by rfl) (zf_pr hf) w dX8_within_15
  · replace hf := zf_f h hf
    refine lv_iload_n hx hb dX8_within_5 rfl (lv_at hl 0 rfl) ?_
    refine lv_iload_n hx hb dX8_within_6 rfl (lv_at hl 2 rfl) ?_
    refine lv_icmp_gt (tgt := 14) hx hb dX8_within_7 (by decide) (fun h => ?_) (fun h => ?_)
    · replace hf := zf_t h hf
      refine lv_iconst (v := 0) hx hb dX8_within_14 (by decide) ?_
      exact hret _ _ _ _ _ _ (by rfl) (zf_pr hf) w dX8_within_15
    · replace hf := zf_f h hf
      refine lv_iconst (v := 1) hx hb dX8_within_10 (by decide) ?_
      refine lv_goto (tgt := 15) hx hb dX8_within_11 (by decide) ?_
      exact hret _ _ _ _ _ _ (by rfl) (zf_pr hf) w dX8_within_15
