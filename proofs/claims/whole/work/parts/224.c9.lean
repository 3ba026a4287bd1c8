def fM9_close_j229 (N : Nat) (u : zs_T) (v2 : Int64) (v4 : Int32) : Option (Int32 × zs_T) :=
  (zf_bv (fM9_pays N u v2) fun u6 => (zf_bv (fM9_begins N u6) fun u8 => some (v4, u8)))
def fM9_close_j202 (N : Nat) (ag164 : zs_T → Int32 → Option (Int32 × zs_T)) (u : zs_T) (v2 : Int64) (v4 : Int32) (v5 : Int32) : Option (Int32 × zs_T) :=
  (if zf_in v5 12 then (zf_bv (fM9_gives u (zs_a u 17 v5.toNatClampNeg) 1) fun u10 => (zf_bv (fM9_endsTurn N u10 v5) fun u12 => ag164 u12 (v4 - 1))) else none)
def fM9_close_b178 (N : Nat) (ag164 : zs_T → Int32 → Option (Int32 × zs_T)) (u : zs_T) (v2 : Int64) (v4 : Int32) (ag178 : Int32 → Option (Int32 × zs_T)) (v5 : Int32) : Option (Int32 × zs_T) :=
  (if zf_in v5 12 then (if zf_in (zs_a u 17 v5.toNatClampNeg) 12 then (if zs_a u 16 (zs_a u 17 v5.toNatClampNeg).toNatClampNeg = 0 then ag178 (v5 + 1) else fM9_close_j202 N ag164 u v2 v4 v5) else none) else none)
def fM9_close_b164 (N : Nat) (v2 : Int64) (ag164 : zs_T → Int32 → Option (Int32 × zs_T)) (u : zs_T) (v4 : Int32) : Option (Int32 × zs_T) :=
  (if v4 ≤ 0 then fM9_close_j229 N u v2 v4 else (if lg_cmp v2 0 ≤ 0 then fM9_close_j229 N u v2 v4 else zf_loop (fun ag x => fM9_close_b178 N ag164 u v2 v4 (fun v5 => ag v5) x) N 0))
def fM9_close_b66 (N : Nat) (v1 : Int32) (v2 : Int64) (ag66 : zs_T → Int32 → Int32 → Option (Int32 × zs_T)) (u : zs_T) (v4 : Int32) (v5 : Int32) : Option (Int32 × zs_T) :=
  (if 12 ≤ v5 then zf_loop (fun ag x => fM9_close_b164 N v2 (fun u v4 => ag (u, v4)) x.1 x.2) N (u, v4) else (if zf_in v5 12 then (if lg_cmp v2 0 = 0 then ag66 (zs_sa u 19 (upd (zs_a u 19) v5.toNatClampNeg 0)) v4 (v5 + 1) else (if zf_in v5 12 then (if ¬ v2 = 0 then (zf_bv (fM9_gives (zs_sa u 19 (upd (zs_a u 19) v5.toNatClampNeg 0)) v5 (((v1.toInt64 * ((zs_a (zs_sa u 19 (upd (zs_a u 19) v5.toNatClampNeg 0)) 16 v5.toNatClampNeg).toInt64)) / v2).toInt32)) fun u14 => (if zf_in v5 12 then (if zf_in v5 12 then (if zf_in v5 12 then ag66 (zs_sb u14 0 (vp_updL (zs_b u14 0) v5.toNatClampNeg ((zs_b u14 0 v5.toNatClampNeg) + (((((zs_i u14 4).toInt64) * ((zs_a u14 16 v5.toNatClampNeg).toInt64)) + 999) / 1000)))) (v4 - (((v1.toInt64 * ((zs_a (zs_sa u 19 (upd (zs_a u 19) v5.toNatClampNeg 0)) 16 v5.toNatClampNeg).toInt64)) / v2).toInt32)) (v5 + 1) else none) else none) else none)) else none) else none)) else none))
def fM9_close (N : Nat) (u : zs_T) (v1 : Int32) : Option (Int32 × zs_T) :=
  (if v1 < 0 then some ((-1), u) else (if 1000 < v1 then some ((-1), u) else (if zs_i u 7 = (-1) then (if zs_i u 17 = (-1) then some ((-1), u) else (if zs_i u 10 < zs_i u 17 then some ((-1), u) else (if zs_i u 10 = 0 then some ((-1), u) else (zf_bv (fM9_reckons N u (zs_i u 16)) fun u2 => (zf_bp (fM9_all N u2) fun r3 => zf_loop (fun ag x => fM9_close_b66 N v1 r3 (fun u v4 v5 => ag (u, v4, v5)) x.1 x.2.1 x.2.2) N (u2, v1, 0)))))) else some ((-1), u))))
set_option maxHeartbeats 4000000 in
set_option maxRecDepth 100000 in
theorem kM9_close (l : Launch) (D : va_G) (q : Nat → Nat) (cs : Nat → ClassId) (N : Nat) (u : zs_T) (v1 : Int32) (z : (Int32 × zs_T)) (hf : fM9_close N u v1 = some z) : zg_Ci l yX9_close cX9_close 7 (some .int) 4 D cs (wM q cs) u [.ref (q 0), .int v1] z.1 z.2 := by
  refine zg_Ci_of (own := RX9) (by decide) rfl wM_ad (Nat.le_of_ble_eq_true rfl) ?_
  intro p e s m args below meth c A Q C hret w ls hl
  obtain ⟨hx, hb, -⟩ := id C
  have hl : lv_has ls 7 [(0, .ref (q 0)), (1, .int v1)] := hl
  generalize hH : s.heap = H at w ⊢
  generalize hLc : ([] : List Loc) = locs at w ⊢
  have hj229 : ∀ (u : zs_T) (v2 : Int64) (v4 : Int32) (H : Heap) (locs : List Loc) (ls : Array Slot), zg_W D cs A s (wM q cs u) H locs → lv_has ls 7 [(0, .ref (q 0)), (2, .long v2), (4, .int v4)] → fM9_close_j229 N u v2 v4 = some z → W p l e (zg_rm 4) s m args below meth c H locs 0 0 Q (F0 m 229 ls []) := by
    intro u v2 v4 H locs ls w hl hf
    unfold fM9_close_j229 at hf
    refine lv_aload_n hx hb dX9_close_229 rfl (lv_at hl 0 rfl) ?_
    refine lv_lload_n hx hb dX9_close_230 rfl (lv_at hl 1 rfl) ?_
    obtain ⟨u6, hc, hf⟩ := zf_bv_ex hf
    refine zc_rv wM_ad w (zc_V C w (kM9_pays l D q cs N _ _ _ hc _) cf_9_pays ci_9_pays lm_9_221 rcM_0 ⟨Nat.le_of_ble_eq_true rfl, Nat.le_of_ble_eq_true rfl⟩ hl.1 rfl (Nat.le_of_ble_eq_true rfl) dX9_close_231 ⟨Nat.le_refl _, Nat.le_refl _⟩) (fun H locs w => ?_)
    refine lv_aload_n hx hb dX9_close_234 rfl (lv_at hl 0 rfl) ?_
    obtain ⟨u8, hc, hf⟩ := zf_bv_ex hf
    refine zc_rv wM_ad w (zc_V C w (kM9_begins l D q cs N _ _ hc _) cf_9_begins ci_9_begins lm_9_225 rcM_0 ⟨Nat.le_of_ble_eq_true rfl, Nat.le_of_ble_eq_true rfl⟩ hl.1 rfl (Nat.le_of_ble_eq_true rfl) dX9_close_235 ⟨Nat.le_refl _, Nat.le_refl _⟩) (fun H locs w => ?_)
    refine lv_iload hx hb dX9_close_238 (lv_at hl 2 rfl) ?_
    exact hret _ _ _ _ _ _ hf w dX9_close_240
  unfold fM9_close at hf
  refine lv_iload_n hx hb dX9_close_0 rfl (lv_at hl 1 rfl) ?_
  refine lv_if_lt (tgt := 45) hx hb dX9_close_1 (by decide) (fun h => ?_) (fun h => ?_)
  · replace hf := zf_t h hf
    refine lv_iconst (v := (-1)) hx hb dX9_close_45 (by decide) ?_
    exact hret _ _ _ _ _ _ hf w dX9_close_46
  · replace hf := zf_f h hf
    refine lv_iload_n hx hb dX9_close_4 rfl (lv_at hl 1 rfl) ?_
    refine lv_sipush (v := 1000) hx hb dX9_close_5 (by decide) ?_
    refine lv_icmp_gt (tgt := 45) hx hb dX9_close_8 (by decide) (fun h => ?_) (fun h => ?_)
    · replace hf := zf_t h hf
      refine lv_iconst (v := (-1)) hx hb dX9_close_45 (by decide) ?_
      exact hret _ _ _ _ _ _ hf w dX9_close_46
    · replace hf := zf_f h hf
      refine lv_aload_n hx hb dX9_close_11 rfl (lv_at hl 0 rfl) ?_
      refine mg_0_9 C w lf_9_33 dX9_close_12 ?_
      refine lv_iconst (v := (-1)) hx hb dX9_close_15 (by decide) ?_
      refine lv_icmp_ne (tgt := 45) hx hb dX9_close_16 (by decide) (fun h => ?_) (fun h => ?_)
      · replace hf := zf_f h hf
        refine lv_iconst (v := (-1)) hx hb dX9_close_45 (by decide) ?_
        exact hret _ _ _ _ _ _ hf w dX9_close_46
      · replace hf := zf_t h hf
        refine lv_aload_n hx hb dX9_close_19 rfl (lv_at hl 0 rfl) ?_
        refine mg_0_26 C w lf_9_57 dX9_close_20 ?_
        refine lv_iconst (v := (-1)) hx hb dX9_close_23 (by decide) ?_
        refine lv_icmp_eq (tgt := 45) hx hb dX9_close_24 (by decide) (fun h => ?_) (fun h => ?_)
        · replace hf := zf_t h hf
          refine lv_iconst (v := (-1)) hx hb dX9_close_45 (by decide) ?_
          exact hret _ _ _ _ _ _ hf w dX9_close_46
        · replace hf := zf_f h hf
          refine lv_aload_n hx hb dX9_close_27 rfl (lv_at hl 0 rfl) ?_
          refine mg_0_26 C w lf_9_57 dX9_close_28 ?_
          refine lv_aload_n hx hb dX9_close_31 rfl (lv_at hl 0 rfl) ?_
          refine mg_0_12 C w lf_9_125 dX9_close_32 ?_
          refine lv_icmp_gt (tgt := 45) hx hb dX9_close_35 (by decide) (fun h => ?_) (fun h => ?_)
          · replace hf := zf_t h hf
            refine lv_iconst (v := (-1)) hx hb dX9_close_45 (by decide) ?_
            exact hret _ _ _ _ _ _ hf w dX9_close_46
          · replace hf := zf_f h hf
            refine lv_aload_n hx hb dX9_close_38 rfl (lv_at hl 0 rfl) ?_
            refine mg_0_12 C w lf_9_125 dX9_close_39 ?_
            refine lv_if_ne (tgt := 47) hx hb dX9_close_42 (by decide) (fun h => ?_) (fun h => ?_)
            · replace hf := zf_f h hf
              refine lv_aload_n hx hb dX9_close_47 rfl (lv_at hl 0 rfl) ?_
              refine lv_aload_n hx hb dX9_close_48 rfl (lv_at hl 0 rfl) ?_
              refine mg_0_25 C w lf_9_128 dX9_close_49 ?_
              obtain ⟨u2, hc, hf⟩ := zf_bv_ex hf
              refine zc_rv wM_ad w (zc_V C w (kM9_reckons l D q cs N _ _ _ hc _) cf_9_reckons ci_9_reckons lm_9_203 rcM_0 ⟨Nat.le_of_ble_eq_true rfl, Nat.le_of_ble_eq_true rfl⟩ hl.1 rfl (Nat.le_of_ble_eq_true rfl) dX9_close_52 ⟨Nat.le_refl _, Nat.le_refl _⟩) (fun H locs w => ?_)
              refine lv_aload_n hx hb dX9_close_55 rfl (lv_at hl 0 rfl) ?_
              obtain ⟨r3, hc, hf⟩ := zf_bp_ex hf
              refine zc_rl wM_ad w (zc_V C w (kM9_all l D q cs N _ _ hc _) cf_9_all ci_9_all lm_9_206 rcM_0 ⟨Nat.le_of_ble_eq_true rfl, Nat.le_of_ble_eq_true rfl⟩ hl.1 rfl (Nat.le_of_ble_eq_true rfl) dX9_close_56 ⟨Nat.le_refl _, Nat.le_refl _⟩) (fun H locs w => ?_)
              refine lv_lstore_n (lv' := [(2, .long r3), (0, .ref (q 0)), (1, .int v1)]) hx hb dX9_close_59 rfl hl (by decide) rfl (fun ls hl => ?_)
              refine lv_iload_n hx hb dX9_close_60 rfl (lv_at hl 2 rfl) ?_
              refine lv_istore (lv' := [(4, .int v1), (2, .long r3), (0, .ref (q 0)), (1, .int v1)]) hx hb dX9_close_61 hl (by decide) rfl (fun ls hl => ?_)
              refine lv_iconst (v := 0) hx hb dX9_close_63 (by decide) ?_
              refine lv_istore (lv' := [(5, .int 0), (4, .int v1), (2, .long r3), (0, .ref (q 0)), (1, .int v1)]) hx hb dX9_close_64 hl (by decide) rfl (fun ls hl => ?_)
              have lp66 : ∀ (v1 : Int32) (v2 : Int64) (n : Nat) (x : zs_T × Int32 × Int32), zf_loop (fun ag x => fM9_close_b66 N v1 v2 (fun u v4 v5 => ag (u, v4, v5)) x.1 x.2.1 x.2.2) n x = some z → ∀ (H : Heap) (locs : List Loc) (ls : Array Slot), zg_W D cs A s (wM q cs x.1) H locs → lv_has ls 7 [(0, .ref (q 0)), (1, .int v1), (2, .long v2), (4, .int x.2.1), (5, .int x.2.2)] → W p l e (zg_rm 4) s m args below meth c H locs 0 0 Q (F0 m 66 ls []) := by
                intro v1 v2
                refine zf_loop_W (fun x : zs_T × Int32 × Int32 => ∀ (H : Heap) (locs : List Loc) (ls : Array Slot), zg_W D cs A s (wM q cs x.1) H locs → lv_has ls 7 [(0, .ref (q 0)), (1, .int v1), (2, .long v2), (4, .int x.2.1), (5, .int x.2.2)] → W p l e (zg_rm 4) s m args below meth c H locs 0 0 Q (F0 m 66 ls [])) ?_
                intro ag66 x hag66 hf
                obtain ⟨u, v4, v5⟩ := x
                intro H locs ls w hl
                replace hf : fM9_close_b66 N v1 v2 (fun u v4 v5 => ag66 (u, v4, v5)) u v4 v5 = some z := hf
                replace hl : lv_has ls 7 [(0, .ref (q 0)), (1, .int v1), (2, .long v2), (4, .int v4), (5, .int v5)] := hl
                replace w : zg_W D cs A s (wM q cs u) H locs := w
                unfold fM9_close_b66 at hf
                refine lv_iload hx hb dX9_close_66 (lv_at hl 4 rfl) ?_
                refine lv_bipush (v := 12) hx hb dX9_close_68 (by decide) ?_
                refine lv_icmp_ge (tgt := 164) hx hb dX9_close_70 (by decide) (fun h => ?_) (fun h => ?_)
                · replace hf := zf_t h hf
                  have lp164 : ∀ (v2 : Int64) (n : Nat) (x : zs_T × Int32), zf_loop (fun ag x => fM9_close_b164 N v2 (fun u v4 => ag (u, v4)) x.1 x.2) n x = some z → ∀ (H : Heap) (locs : List Loc) (ls : Array Slot), zg_W D cs A s (wM q cs x.1) H locs → lv_has ls 7 [(0, .ref (q 0)), (2, .long v2), (4, .int x.2)] → W p l e (zg_rm 4) s m args below meth c H locs 0 0 Q (F0 m 164 ls []) := by
                    intro v2
                    refine zf_loop_W (fun x : zs_T × Int32 => ∀ (H : Heap) (locs : List Loc) (ls : Array Slot), zg_W D cs A s (wM q cs x.1) H locs → lv_has ls 7 [(0, .ref (q 0)), (2, .long v2), (4, .int x.2)] → W p l e (zg_rm 4) s m args below meth c H locs 0 0 Q (F0 m 164 ls [])) ?_
                    intro ag164 x hag164 hf
                    obtain ⟨u, v4⟩ := x
                    intro H locs ls w hl
                    replace hf : fM9_close_b164 N v2 (fun u v4 => ag164 (u, v4)) u v4 = some z := hf
                    replace hl : lv_has ls 7 [(0, .ref (q 0)), (2, .long v2), (4, .int v4)] := hl
                    replace w : zg_W D cs A s (wM q cs u) H locs := w
                    have hj202 : ∀ (u : zs_T) (v4 : Int32) (v5 : Int32) (H : Heap) (locs : List Loc) (ls : Array Slot), zg_W D cs A s (wM q cs u) H locs → lv_has ls 7 [(0, .ref (q 0)), (2, .long v2), (4, .int v4), (5, .int v5)] → fM9_close_j202 N (fun u v4 => ag164 (u, v4)) u v2 v4 v5 = some z → W p l e (zg_rm 4) s m args below meth c H locs 0 0 Q (F0 m 202 ls []) := by
                      intro u v4 v5 H locs ls w hl hf
                      unfold fM9_close_j202 at hf
                      refine lv_aload_n hx hb dX9_close_202 rfl (lv_at hl 0 rfl) ?_
                      refine lv_aload_n hx hb dX9_close_203 rfl (lv_at hl 0 rfl) ?_
                      refine mg_0_39 C w lf_9_88 dX9_close_204 ?_
                      refine lv_iload hx hb dX9_close_207 (lv_at hl 3 rfl) ?_
                      obtain ⟨hi, hf⟩ := zf_gd hf
                      refine ma_18 C w hi dX9_close_209 ?_
                      refine lv_iconst (v := 1) hx hb dX9_close_210 (by decide) ?_
                      obtain ⟨u10, hc, hf⟩ := zf_bv_ex hf
                      refine zc_rv wM_ad w (zc_V C w (kM9_gives l D q cs _ _ _ _ hc _) cf_9_gives ci_9_gives lm_9_210 rcM_0 ⟨Nat.le_of_ble_eq_true rfl, Nat.le_of_ble_eq_true rfl⟩ hl.1 rfl (Nat.le_of_ble_eq_true rfl) dX9_close_211 ⟨Nat.le_refl _, Nat.le_refl _⟩) (fun H locs w => ?_)
                      refine lv_aload_n hx hb dX9_close_214 rfl (lv_at hl 0 rfl) ?_
                      refine lv_iload hx hb dX9_close_215 (lv_at hl 3 rfl) ?_
                      obtain ⟨u12, hc, hf⟩ := zf_bv_ex hf
                      refine zc_rv wM_ad w (zc_V C w (kM9_endsTurn l D q cs N _ _ _ hc _) cf_9_endsTurn ci_9_endsTurn lm_9_218 rcM_0 ⟨Nat.le_of_ble_eq_true rfl, Nat.le_of_ble_eq_true rfl⟩ hl.1 rfl (Nat.le_of_ble_eq_true rfl) dX9_close_217 ⟨Nat.le_refl _, Nat.le_refl _⟩) (fun H locs w => ?_)
                      refine lv_iload hx hb dX9_close_220 (lv_at hl 2 rfl) ?_
                      refine lv_iconst (v := 1) hx hb dX9_close_222 (by decide) ?_
                      refine lv_isub hx hb dX9_close_223 ?_
                      refine lv_istore (lv' := [(4, .int (v4 - 1)), (0, .ref (q 0)), (2, .long v2), (5, .int v5)]) hx hb dX9_close_224 hl (by decide) rfl (fun ls hl => ?_)
                      refine lv_goto (tgt := 164) hx hb dX9_close_226 (by decide) ?_
                      exact hag164 (u12, v4 - 1) hf H locs ls w (lv_sub hl [1, 2, 0] rfl)
                    unfold fM9_close_b164 at hf
                    refine lv_iload hx hb dX9_close_164 (lv_at hl 2 rfl) ?_
                    refine lv_if_le (tgt := 229) hx hb dX9_close_166 (by decide) (fun h => ?_) (fun h => ?_)
                    · replace hf := zf_t h hf
                      exact hj229 _ _ _ H locs ls w (lv_sub hl [0, 1, 2] rfl) hf
                    · replace hf := zf_f h hf
                      refine lv_lload_n hx hb dX9_close_169 rfl (lv_at hl 1 rfl) ?_
                      refine lv_lconst (v := 0) hx hb dX9_close_170 (by decide) ?_
                      refine W.lcmp hx hb dX9_close_171 ?_
                      refine lv_if_le (tgt := 229) hx hb dX9_close_172 (by decide) (fun h => ?_) (fun h => ?_)
                      · replace hf := zf_t h hf
                        exact hj229 _ _ _ H locs ls w (lv_sub hl [0, 1, 2] rfl) hf
                      · replace hf := zf_f h hf
                        refine lv_iconst (v := 0) hx hb dX9_close_175 (by decide) ?_
                        refine lv_istore (lv' := [(5, .int 0), (0, .ref (q 0)), (2, .long v2), (4, .int v4)]) hx hb dX9_close_176 hl (by decide) rfl (fun ls hl => ?_)
                        have lp178 : ∀ (u : zs_T) (v4 : Int32) (n : Nat) (x : Int32), zf_loop (fun ag x => fM9_close_b178 N (fun u v4 => ag164 (u, v4)) u v2 v4 (fun v5 => ag v5) x) n x = some z → ∀ (H : Heap) (locs : List Loc) (ls : Array Slot), zg_W D cs A s (wM q cs u) H locs → lv_has ls 7 [(0, .ref (q 0)), (2, .long v2), (4, .int v4), (5, .int x)] → W p l e (zg_rm 4) s m args below meth c H locs 0 0 Q (F0 m 178 ls []) := by
                          intro u v4
                          refine zf_loop_W (fun x : Int32 => ∀ (H : Heap) (locs : List Loc) (ls : Array Slot), zg_W D cs A s (wM q cs u) H locs → lv_has ls 7 [(0, .ref (q 0)), (2, .long v2), (4, .int v4), (5, .int x)] → W p l e (zg_rm 4) s m args below meth c H locs 0 0 Q (F0 m 178 ls [])) ?_
                          intro ag178 v5 hag178 hf
                          intro H locs ls w hl
                          replace hf : fM9_close_b178 N (fun u v4 => ag164 (u, v4)) u v2 v4 (fun v5 => ag178 v5) v5 = some z := hf
                          replace hl : lv_has ls 7 [(0, .ref (q 0)), (2, .long v2), (4, .int v4), (5, .int v5)] := hl
                          replace w : zg_W D cs A s (wM q cs u) H locs := w
                          unfold fM9_close_b178 at hf
                          refine lv_aload_n hx hb dX9_close_178 rfl (lv_at hl 0 rfl) ?_
                          refine mg_0_38 C w lf_9_85 dX9_close_179 ?_
                          refine lv_aload_n hx hb dX9_close_182 rfl (lv_at hl 0 rfl) ?_
                          refine mg_0_39 C w lf_9_88 dX9_close_183 ?_
                          refine lv_iload hx hb dX9_close_186 (lv_at hl 3 rfl) ?_
                          obtain ⟨hi, hf⟩ := zf_gd hf
                          refine ma_18 C w hi dX9_close_188 ?_
                          obtain ⟨hi, hf⟩ := zf_gd hf
                          refine ma_17 C w hi dX9_close_189 ?_
                          refine lv_if_ne (tgt := 202) hx hb dX9_close_190 (by decide) (fun h => ?_) (fun h => ?_)
                          · replace hf := zf_f h hf
                            exact hj202 _ _ _ H locs ls w (lv_sub hl [0, 1, 2, 3] rfl) hf
                          · replace hf := zf_t h hf
                            refine lv_iload hx hb dX9_close_193 (lv_at hl 3 rfl) ?_
                            refine lv_iconst (v := 1) hx hb dX9_close_195 (by decide) ?_
                            refine lv_iadd hx hb dX9_close_196 ?_
                            refine lv_istore (lv' := [(5, .int (v5 + 1)), (0, .ref (q 0)), (2, .long v2), (4, .int v4)]) hx hb dX9_close_197 hl (by decide) rfl (fun ls hl => ?_)
                            refine lv_goto (tgt := 178) hx hb dX9_close_199 (by decide) ?_
                            exact hag178 (v5 + 1) hf H locs ls w (lv_sub hl [1, 2, 3, 0] rfl)
                        exact lp178 _ _ _ _ hf H locs ls w (lv_sub hl [1, 2, 3, 0] rfl)
                  exact lp164 _ _ _ hf H locs ls w (lv_sub hl [0, 2, 3] rfl)
                · replace hf := zf_f h hf
                  refine lv_aload_n hx hb dX9_close_73 rfl (lv_at hl 0 rfl) ?_
                  refine mg_0_41 C w lf_9_94 dX9_close_74 ?_
                  refine lv_iload hx hb dX9_close_77 (lv_at hl 4 rfl) ?_
                  refine lv_iconst (v := 0) hx hb dX9_close_79 (by decide) ?_
                  obtain ⟨hi, hf⟩ := zf_gd hf
                  refine ms_20 C w hi dX9_close_80 (fun H locs w => ?_)
                  refine lv_lload_n hx hb dX9_close_81 rfl (lv_at hl 2 rfl) ?_
                  refine lv_lconst (v := 0) hx hb dX9_close_82 (by decide) ?_
                  refine W.lcmp hx hb dX9_close_83 ?_
                  refine lv_if_ne (tgt := 90) hx hb dX9_close_84 (by decide) (fun h => ?_) (fun h => ?_)
                  · replace hf := zf_f h hf
                    refine lv_iload_n hx hb dX9_close_90 rfl (lv_at hl 1 rfl) ?_
                    refine lv_i2l hx hb dX9_close_91 rfl ?_
                    refine lv_aload_n hx hb dX9_close_92 rfl (lv_at hl 0 rfl) ?_
                    refine mg_0_38 C w lf_9_85 dX9_close_93 ?_
                    refine lv_iload hx hb dX9_close_96 (lv_at hl 4 rfl) ?_
                    obtain ⟨hi, hf⟩ := zf_gd hf
                    refine ma_17 C w hi dX9_close_98 ?_
                    refine lv_i2l hx hb dX9_close_99 rfl ?_
                    refine lv_lmul hx hb dX9_close_100 ?_
                    refine lv_lload_n hx hb dX9_close_101 rfl (lv_at hl 2 rfl) ?_
                    obtain ⟨hne, hf⟩ := zf_gd hf
                    refine lv_ldiv hx hb dX9_close_102 hne ?_
                    refine lv_l2i hx hb dX9_close_103 rfl ?_
                    refine lv_istore (lv' := [(6, .int (((v1.toInt64 * ((zs_a (zs_sa u 19 (upd (zs_a u 19) v5.toNatClampNeg 0)) 16 v5.toNatClampNeg).toInt64)) / v2).toInt32)), (0, .ref (q 0)), (1, .int v1), (2, .long v2), (4, .int v4), (5, .int v5)]) hx hb dX9_close_104 hl (by decide) rfl (fun ls hl => ?_)
                    refine lv_aload_n hx hb dX9_close_106 rfl (lv_at hl 1 rfl) ?_
                    refine lv_iload hx hb dX9_close_107 (lv_at hl 5 rfl) ?_
                    refine lv_iload hx hb dX9_close_109 (lv_at hl 0 rfl) ?_
                    obtain ⟨u14, hc, hf⟩ := zf_bv_ex hf
                    refine zc_rv wM_ad w (zc_V C w (kM9_gives l D q cs _ _ _ _ hc _) cf_9_gives ci_9_gives lm_9_210 rcM_0 ⟨Nat.le_of_ble_eq_true rfl, Nat.le_of_ble_eq_true rfl⟩ hl.1 rfl (Nat.le_of_ble_eq_true rfl) dX9_close_111 ⟨Nat.le_refl _, Nat.le_refl _⟩) (fun H locs w => ?_)
                    refine lv_iload hx hb dX9_close_114 (lv_at hl 4 rfl) ?_
                    refine lv_iload hx hb dX9_close_116 (lv_at hl 0 rfl) ?_
                    refine lv_isub hx hb dX9_close_118 ?_
                    refine lv_istore (lv' := [(4, .int (v4 - (((v1.toInt64 * ((zs_a (zs_sa u 19 (upd (zs_a u 19) v5.toNatClampNeg 0)) 16 v5.toNatClampNeg).toInt64)) / v2).toInt32))), (6, .int (((v1.toInt64 * ((zs_a (zs_sa u 19 (upd (zs_a u 19) v5.toNatClampNeg 0)) 16 v5.toNatClampNeg).toInt64)) / v2).toInt32)), (0, .ref (q 0)), (1, .int v1), (2, .long v2), (5, .int v5)]) hx hb dX9_close_119 hl (by decide) rfl (fun ls hl => ?_)
                    refine lv_aload_n hx hb dX9_close_121 rfl (lv_at hl 2 rfl) ?_
                    refine mg_0_42 C w lf_9_97 dX9_close_122 ?_
                    refine lv_iload hx hb dX9_close_125 (lv_at hl 5 rfl) ?_
                    refine lv_aload_n hx hb dX9_close_127 rfl (lv_at hl 2 rfl) ?_
                    refine mg_0_42 C w lf_9_97 dX9_close_128 ?_
                    refine lv_iload hx hb dX9_close_131 (lv_at hl 5 rfl) ?_
                    obtain ⟨hi, hf⟩ := zf_gd hf
                    refine ma_21 C w hi dX9_close_133 ?_
                    refine lv_aload_n hx hb dX9_close_134 rfl (lv_at hl 2 rfl) ?_
                    refine mg_0_5 C w lf_9_20 dX9_close_135 ?_
                    refine lv_i2l hx hb dX9_close_138 rfl ?_
                    refine lv_aload_n hx hb dX9_close_139 rfl (lv_at hl 2 rfl) ?_
                    refine mg_0_38 C w lf_9_85 dX9_close_140 ?_
                    refine lv_iload hx hb dX9_close_143 (lv_at hl 5 rfl) ?_
                    obtain ⟨hi, hf⟩ := zf_gd hf
                    refine ma_17 C w hi dX9_close_145 ?_
                    refine lv_i2l hx hb dX9_close_146 rfl ?_
                    refine lv_lmul hx hb dX9_close_147 ?_
                    refine zr_ldc2 C lc_9_214 dX9_close_148 ?_
                    refine lv_ladd hx hb dX9_close_151 ?_
                    refine zr_ldc2 C lc_9_216 dX9_close_152 ?_
                    refine lv_ldiv hx hb dX9_close_155 (by decide) ?_
                    refine lv_ladd hx hb dX9_close_156 ?_
                    obtain ⟨hi, hf⟩ := zf_gd hf
                    refine ms_21 C w hi dX9_close_157 (fun H locs w => ?_)
                    refine lv_iinc (v := v5 + 1) (lv' := [(5, .int (v5 + 1)), (4, .int (v4 - (((v1.toInt64 * ((zs_a (zs_sa u 19 (upd (zs_a u 19) v5.toNatClampNeg 0)) 16 v5.toNatClampNeg).toInt64)) / v2).toInt32))), (6, .int (((v1.toInt64 * ((zs_a (zs_sa u 19 (upd (zs_a u 19) v5.toNatClampNeg 0)) 16 v5.toNatClampNeg).toInt64)) / v2).toInt32)), (0, .ref (q 0)), (1, .int v1), (2, .long v2)]) hx hb dX9_close_158 hl (k := 5) rfl rfl (by decide) rfl (fun ls hl => ?_)
                    refine lv_goto (tgt := 66) hx hb dX9_close_161 (by decide) ?_
                    exact hag66 (zs_sb u14 0 (vp_updL (zs_b u14 0) v5.toNatClampNeg ((zs_b u14 0 v5.toNatClampNeg) + (((((zs_i u14 4).toInt64) * ((zs_a u14 16 v5.toNatClampNeg).toInt64)) + 999) / 1000))), v4 - (((v1.toInt64 * ((zs_a (zs_sa u 19 (upd (zs_a u 19) v5.toNatClampNeg 0)) 16 v5.toNatClampNeg).toInt64)) / v2).toInt32), v5 + 1) hf H locs ls w (lv_sub hl [3, 4, 5, 1, 0] rfl)
                  · replace hf := zf_t h hf
                    refine lv_goto (tgt := 158) hx hb dX9_close_87 (by decide) ?_
                    refine lv_iinc (v := v5 + 1) (lv' := [(5, .int (v5 + 1)), (0, .ref (q 0)), (1, .int v1), (2, .long v2), (4, .int v4)]) hx hb dX9_close_158 hl (k := 4) rfl rfl (by decide) rfl (fun ls hl => ?_)
                    refine lv_goto (tgt := 66) hx hb dX9_close_161 (by decide) ?_
                    exact hag66 (zs_sa u 19 (upd (zs_a u 19) v5.toNatClampNeg 0), v4, v5 + 1) hf H locs ls w (lv_sub hl [1, 2, 3, 4, 0] rfl)
              exact lp66 _ _ _ _ hf H locs ls w (lv_sub hl [3, 4, 2, 1, 0] rfl)
            · replace hf := zf_t h hf
              refine lv_iconst (v := (-1)) hx hb dX9_close_45 (by decide) ?_
              exact hret _ _ _ _ _ _ hf w dX9_close_46
def fM9_work (u : zs_T) (v1 : Int32) (v2 : Int32) : Option (Int32 × zs_T) :=
  (if v1 < 0 then some (0, u) else (if 12 ≤ v1 then some (0, u) else (if v2 < 1 then some (0, u) else (if v2 ≤ 1000 then (if zf_in v1 12 then (if zf_in v1 12 then some (1, zs_sb u 0 (vp_updL (zs_b u 0) v1.toNatClampNeg ((zs_b u 0 v1.toNatClampNeg) - v2.toInt64))) else none) else none) else some (0, u)))))
set_option maxHeartbeats 4000000 in
set_option maxRecDepth 100000 in
theorem kM9_work (l : Launch) (D : va_G) (q : Nat → Nat) (cs : Nat → ClassId) (u : zs_T) (v1 : Int32) (v2 : Int32) (z : (Int32 × zs_T)) (hf : fM9_work u v1 v2 = some z) : zg_Ci l yX9_work cX9_work 3 (some .boolean) 0 D cs (wM q cs) u [.ref (q 0), .int v1, .int v2] z.1 z.2 := by
  refine zg_Cz_of (own := RX9) (by decide) rfl wM_ad (Nat.le_of_ble_eq_true rfl) ?_
  intro p e s m args below meth c A Q C hret w ls hl
  obtain ⟨hx, hb, -⟩ := id C
  have hl : lv_has ls 3 [(0, .ref (q 0)), (1, .int v1), (2, .int v2)] := hl
  generalize hH : s.heap = H at w ⊢
  generalize hLc : ([] : List Loc) = locs at w ⊢
  unfold fM9_work at hf
  refine lv_iload_n hx hb dX9_work_0 rfl (lv_at hl 1 rfl) ?_
  refine lv_if_lt (tgt := 22) hx hb dX9_work_1 (by decide) (fun h => ?_) (fun h => ?_)
  · replace hf := zf_t h hf
    refine lv_iconst (v := 0) hx hb dX9_work_22 (by decide) ?_
    exact hret _ _ _ _ _ _ (by rfl) hf w dX9_work_23
  · replace hf := zf_f h hf
    refine lv_iload_n hx hb dX9_work_4 rfl (lv_at hl 1 rfl) ?_
    refine lv_bipush (v := 12) hx hb dX9_work_5 (by decide) ?_
    refine lv_icmp_ge (tgt := 22) hx hb dX9_work_7 (by decide) (fun h => ?_) (fun h => ?_)
    · replace hf := zf_t h hf
      refine lv_iconst (v := 0) hx hb dX9_work_22 (by decide) ?_
      exact hret _ _ _ _ _ _ (by rfl) hf w dX9_work_23
    · replace hf := zf_f h hf
      refine lv_iload_n hx hb dX9_work_10 rfl (lv_at hl 2 rfl) ?_
      refine lv_iconst (v := 1) hx hb dX9_work_11 (by decide) ?_
      refine lv_icmp_lt (tgt := 22) hx hb dX9_work_12 (by decide) (fun h => ?_) (fun h => ?_)
      · replace hf := zf_t h hf
        refine lv_iconst (v := 0) hx hb dX9_work_22 (by decide) ?_
        exact hret _ _ _ _ _ _ (by rfl) hf w dX9_work_23
      · replace hf := zf_f h hf
        refine lv_iload_n hx hb dX9_work_15 rfl (lv_at hl 2 rfl) ?_
        refine lv_sipush (v := 1000) hx hb dX9_work_16 (by decide) ?_
        refine lv_icmp_le (tgt := 24) hx hb dX9_work_19 (by decide) (fun h => ?_) (fun h => ?_)
        · replace hf := zf_t h hf
          refine lv_aload_n hx hb dX9_work_24 rfl (lv_at hl 0 rfl) ?_
          refine mg_0_42 C w lf_9_97 dX9_work_25 ?_
          refine lv_iload_n hx hb dX9_work_28 rfl (lv_at hl 1 rfl) ?_
          refine lv_aload_n hx hb dX9_work_29 rfl (lv_at hl 0 rfl) ?_
          refine mg_0_42 C w lf_9_97 dX9_work_30 ?_
          refine lv_iload_n hx hb dX9_work_33 rfl (lv_at hl 1 rfl) ?_
          obtain ⟨hi, hf⟩ := zf_gd hf
          refine ma_21 C w hi dX9_work_34 ?_
          refine lv_iload_n hx hb dX9_work_35 rfl (lv_at hl 2 rfl) ?_
          refine lv_i2l hx hb dX9_work_36 rfl ?_
          refine lv_lsub hx hb dX9_work_37 ?_
          obtain ⟨hi, hf⟩ := zf_gd hf
          refine ms_21 C w hi dX9_work_38 (fun H locs w => ?_)
          refine lv_iconst (v := 1) hx hb dX9_work_39 (by decide) ?_
          exact hret _ _ _ _ _ _ (by rfl) hf w dX9_work_40
        · replace hf := zf_f h hf
          refine lv_iconst (v := 0) hx hb dX9_work_22 (by decide) ?_
          exact hret _ _ _ _ _ _ (by rfl) hf w dX9_work_23
def fM9_herd_b4 (N : Nat) (v1 : Int32) (ag4 : zs_T → Int32 → Int32 → Option (Int32 × zs_T)) (u : zs_T) (v2 : Int32) (v3 : Int32) : Option (Int32 × zs_T) :=
  (if zs_i u 15 ≤ v3 then some (v2, u) else (zf_bi (fM9_asks N u (zs_i u 16) v3 (zs_i u 10)) fun r1 u2 => (if zs_i u2 20 = v1 then (if zs_i u2 19 = 0 then ag4 u2 (v2 + 1) (v3 + 1) else ag4 u2 (v2 + 0) (v3 + 1)) else ag4 u2 (v2 + 0) (v3 + 1))))
def fM9_herd (N : Nat) (u : zs_T) (v1 : Int32) : Option (Int32 × zs_T) :=
  zf_loop (fun ag x => fM9_herd_b4 N v1 (fun u v2 v3 => ag (u, v2, v3)) x.1 x.2.1 x.2.2) N (u, 0, 0)
set_option maxHeartbeats 4000000 in
set_option maxRecDepth 100000 in
theorem kM9_herd (l : Launch) (D : va_G) (q : Nat → Nat) (cs : Nat → ClassId) (N : Nat) (u : zs_T) (v1 : Int32) (z : (Int32 × zs_T)) (hf : fM9_herd N u v1 = some z) : zg_Ci l yX9_herd cX9_herd 4 (some .int) 2 D cs (wM q cs) u [.ref (q 0), .int v1] z.1 z.2 := by
  refine zg_Ci_of (own := RX9) (by decide) rfl wM_ad (Nat.le_of_ble_eq_true rfl) ?_
  intro p e s m args below meth c A Q C hret w ls hl
  obtain ⟨hx, hb, -⟩ := id C
  have hl : lv_has ls 4 [(0, .ref (q 0)), (1, .int v1)] := hl
  generalize hH : s.heap = H at w ⊢
  generalize hLc : ([] : List Loc) = locs at w ⊢
  unfold fM9_herd at hf
  refine lv_iconst (v := 0) hx hb dX9_herd_0 (by decide) ?_
  refine lv_istore_n (lv' := [(2, .int 0), (0, .ref (q 0)), (1, .int v1)]) hx hb dX9_herd_1 rfl hl (by decide) rfl (fun ls hl => ?_)
  refine lv_iconst (v := 0) hx hb dX9_herd_2 (by decide) ?_
  refine lv_istore_n (lv' := [(3, .int 0), (2, .int 0), (0, .ref (q 0)), (1, .int v1)]) hx hb dX9_herd_3 rfl hl (by decide) rfl (fun ls hl => ?_)
  have lp4 : ∀ (v1 : Int32) (n : Nat) (x : zs_T × Int32 × Int32), zf_loop (fun ag x => fM9_herd_b4 N v1 (fun u v2 v3 => ag (u, v2, v3)) x.1 x.2.1 x.2.2) n x = some z → ∀ (H : Heap) (locs : List Loc) (ls : Array Slot), zg_W D cs A s (wM q cs x.1) H locs → lv_has ls 4 [(0, .ref (q 0)), (1, .int v1), (2, .int x.2.1), (3, .int x.2.2)] → W p l e (zg_rm 2) s m args below meth c H locs 0 0 Q (F0 m 4 ls []) := by
    intro v1
    refine zf_loop_W (fun x : zs_T × Int32 × Int32 => ∀ (H : Heap) (locs : List Loc) (ls : Array Slot), zg_W D cs A s (wM q cs x.1) H locs → lv_has ls 4 [(0, .ref (q 0)), (1, .int v1), (2, .int x.2.1), (3, .int x.2.2)] → W p l e (zg_rm 2) s m args below meth c H locs 0 0 Q (F0 m 4 ls [])) ?_
    intro ag4 x hag4 hf
    obtain ⟨u, v2, v3⟩ := x
    intro H locs ls w hl
    replace hf : fM9_herd_b4 N v1 (fun u v2 v3 => ag4 (u, v2, v3)) u v2 v3 = some z := hf
    replace hl : lv_has ls 4 [(0, .ref (q 0)), (1, .int v1), (2, .int v2), (3, .int v3)] := hl
    replace w : zg_W D cs A s (wM q cs u) H locs := w
    unfold fM9_herd_b4 at hf
    refine lv_iload_n hx hb dX9_herd_4 rfl (lv_at hl 3 rfl) ?_
    refine lv_aload_n hx hb dX9_herd_5 rfl (lv_at hl 0 rfl) ?_
    refine mg_0_24 C w lf_9_171 dX9_herd_6 ?_
    refine lv_icmp_ge (tgt := 55) hx hb dX9_herd_9 (by decide) (fun h => ?_) (fun h => ?_)
    · replace hf := zf_t h hf
      refine lv_iload_n hx hb dX9_herd_55 rfl (lv_at hl 2 rfl) ?_
      exact hret _ _ _ _ _ _ hf w dX9_herd_56
    · replace hf := zf_f h hf
      refine lv_aload_n hx hb dX9_herd_12 rfl (lv_at hl 0 rfl) ?_
      refine lv_aload_n hx hb dX9_herd_13 rfl (lv_at hl 0 rfl) ?_
      refine mg_0_25 C w lf_9_128 dX9_herd_14 ?_
      refine lv_iload_n hx hb dX9_herd_17 rfl (lv_at hl 3 rfl) ?_
      refine lv_aload_n hx hb dX9_herd_18 rfl (lv_at hl 0 rfl) ?_
      refine mg_0_12 C w lf_9_125 dX9_herd_19 ?_
      obtain ⟨r1, u2, hc, hf⟩ := zf_bi_ex hf
      refine zc_ri wM_ad w (zc_V C w (kM9_asks l D q cs N _ _ _ _ _ hc _) cf_9_asks ci_9_asks lm_9_190 rcM_0 ⟨Nat.le_of_ble_eq_true rfl, Nat.le_of_ble_eq_true rfl⟩ hl.1 rfl (Nat.le_of_ble_eq_true rfl) dX9_herd_22 ⟨Nat.le_refl _, Nat.le_refl _⟩) (fun H locs w => ?_)
      refine lv_pop hx hb dX9_herd_25 rfl ?_
      refine lv_iload_n hx hb dX9_herd_26 rfl (lv_at hl 2 rfl) ?_
      refine lv_aload_n hx hb dX9_herd_27 rfl (lv_at hl 0 rfl) ?_
      refine mg_0_36 C w lf_9_181 dX9_herd_28 ?_
      refine lv_iload_n hx hb dX9_herd_31 rfl (lv_at hl 1 rfl) ?_
      refine lv_icmp_ne (tgt := 46) hx hb dX9_herd_32 (by decide) (fun h => ?_) (fun h => ?_)
      · replace hf := zf_f h hf
        refine lv_iconst (v := 0) hx hb dX9_herd_46 (by decide) ?_
        refine lv_iadd hx hb dX9_herd_47 ?_
        refine lv_istore_n (lv' := [(2, .int (v2 + 0)), (0, .ref (q 0)), (1, .int v1), (3, .int v3)]) hx hb dX9_herd_48 rfl hl (by decide) rfl (fun ls hl => ?_)
        refine lv_iinc (v := v3 + 1) (lv' := [(3, .int (v3 + 1)), (2, .int (v2 + 0)), (0, .ref (q 0)), (1, .int v1)]) hx hb dX9_herd_49 hl (k := 3) rfl rfl (by decide) rfl (fun ls hl => ?_)
        refine lv_goto (tgt := 4) hx hb dX9_herd_52 (by decide) ?_
        exact hag4 (u2, v2 + 0, v3 + 1) hf H locs ls w (lv_sub hl [2, 3, 1, 0] rfl)
      · replace hf := zf_t h hf
        refine lv_aload_n hx hb dX9_herd_35 rfl (lv_at hl 0 rfl) ?_
        refine mg_0_35 C w lf_9_178 dX9_herd_36 ?_
        refine lv_if_ne (tgt := 46) hx hb dX9_herd_39 (by decide) (fun h => ?_) (fun h => ?_)
        · replace hf := zf_f h hf
          refine lv_iconst (v := 0) hx hb dX9_herd_46 (by decide) ?_
          refine lv_iadd hx hb dX9_herd_47 ?_
          refine lv_istore_n (lv' := [(2, .int (v2 + 0)), (0, .ref (q 0)), (1, .int v1), (3, .int v3)]) hx hb dX9_herd_48 rfl hl (by decide) rfl (fun ls hl => ?_)
          refine lv_iinc (v := v3 + 1) (lv' := [(3, .int (v3 + 1)), (2, .int (v2 + 0)), (0, .ref (q 0)), (1, .int v1)]) hx hb dX9_herd_49 hl (k := 3) rfl rfl (by decide) rfl (fun ls hl => ?_)
          refine lv_goto (tgt := 4) hx hb dX9_herd_52 (by decide) ?_
          exact hag4 (u2, v2 + 0, v3 + 1) hf H locs ls w (lv_sub hl [2, 3, 1, 0] rfl)
        · replace hf := zf_t h hf
          refine lv_iconst (v := 1) hx hb dX9_herd_42 (by decide) ?_
          refine lv_goto (tgt := 47) hx hb dX9_herd_43 (by decide) ?_
          refine lv_iadd hx hb dX9_herd_47 ?_
          refine lv_istore_n (lv' := [(2, .int (v2 + 1)), (0, .ref (q 0)), (1, .int v1), (3, .int v3)]) hx hb dX9_herd_48 rfl hl (by decide) rfl (fun ls hl => ?_)
          refine lv_iinc (v := v3 + 1) (lv' := [(3, .int (v3 + 1)), (2, .int (v2 + 1)), (0, .ref (q 0)), (1, .int v1)]) hx hb dX9_herd_49 hl (k := 3) rfl rfl (by decide) rfl (fun ls hl => ?_)
          refine lv_goto (tgt := 4) hx hb dX9_herd_52 (by decide) ?_
          exact hag4 (u2, v2 + 1, v3 + 1) hf H locs ls w (lv_sub hl [2, 3, 1, 0] rfl)
  exact lp4 _ _ _ hf H locs ls w (lv_sub hl [2, 3, 1, 0] rfl)
def fM9_told_b91 (N : Nat) (u : zs_T) (v1 : Int32) (ag91 : Int32 → Option (Int64 × zs_T)) (v3 : Int32) : Option (Int64 × zs_T) :=
  (if zf_in v3 12 then (if zs_a u 17 v3.toNatClampNeg = v1 then some (v3.toInt64, u) else ag91 (v3 + 1)) else none)
def fM9_told (N : Nat) (u : zs_T) (v1 : Int32) (v2 : Int32) : Option (Int64 × zs_T) :=
  (if v1 < 0 then some ((-1), u) else (if v1 < 12 then (if v2 = 0 then (zf_bi (fM9_herd N u v1) fun r2 u3 => some (r2.toInt64, u3)) else (if v2 = 1 then (if zf_in v1 12 then some ((zs_a u 18 v1.toNatClampNeg).toInt64, u) else none) else (if v2 = 2 then (if zf_in v1 12 then some ((zs_a u 19 v1.toNatClampNeg).toInt64, u) else none) else (if v2 = 3 then (if zf_in v1 12 then some (zs_b u 0 v1.toNatClampNeg, u) else none) else (if v2 = 4 then (if zf_in v1 12 then some (zs_b u 1 v1.toNatClampNeg, u) else none) else (if v2 = 5 then zf_loop (fun ag x => fM9_told_b91 N u v1 (fun v3 => ag v3) x) N 0 else some ((-1), u))))))) else some ((-1), u)))
set_option maxHeartbeats 4000000 in
set_option maxRecDepth 100000 in
theorem kM9_told (l : Launch) (D : va_G) (q : Nat → Nat) (cs : Nat → ClassId) (N : Nat) (u : zs_T) (v1 : Int32) (v2 : Int32) (z : (Int64 × zs_T)) (hf : fM9_told N u v1 v2 = some z) : zg_Cl l yX9_told cX9_told 4 (some .long) 3 D cs (wM q cs) u [.ref (q 0), .int v1, .int v2] z.1 z.2 := by
  refine zg_Cl_of (own := RX9) (by decide) rfl wM_ad (Nat.le_of_ble_eq_true rfl) ?_
  intro p e s m args below meth c A Q C hret w ls hl
  obtain ⟨hx, hb, -⟩ := id C
  have hl : lv_has ls 4 [(0, .ref (q 0)), (1, .int v1), (2, .int v2)] := hl
  generalize hH : s.heap = H at w ⊢
  generalize hLc : ([] : List Loc) = locs at w ⊢
  unfold fM9_told at hf
  refine lv_iload_n hx hb dX9_told_0 rfl (lv_at hl 1 rfl) ?_
  refine lv_if_lt (tgt := 10) hx hb dX9_told_1 (by decide) (fun h => ?_) (fun h => ?_)
  · replace hf := zf_t h hf
    refine zr_ldc2 C lc_9_234 dX9_told_10 ?_
    exact hret _ _ _ _ _ _ hf w dX9_told_13
  · replace hf := zf_f h hf
    refine lv_iload_n hx hb dX9_told_4 rfl (lv_at hl 1 rfl) ?_
    refine lv_bipush (v := 12) hx hb dX9_told_5 (by decide) ?_
    refine lv_icmp_lt (tgt := 14) hx hb dX9_told_7 (by decide) (fun h => ?_) (fun h => ?_)
    · replace hf := zf_t h hf
      refine lv_iload_n hx hb dX9_told_14 rfl (lv_at hl 2 rfl) ?_
      by_cases hs1 : v2 = 0
      · replace hf := zf_t hs1 hf
        refine lv_tableIn (off := 37) (tgt := 52) hx hb dX9_told_15 (by rw [hs1]; decide) (by rw [hs1]; decide) (by rw [hs1]; rfl) (by decide) ?_
        refine lv_aload_n hx hb dX9_told_52 rfl (lv_at hl 0 rfl) ?_
        refine lv_iload_n hx hb dX9_told_53 rfl (lv_at hl 1 rfl) ?_
        obtain ⟨r2, u3, hc, hf⟩ := zf_bi_ex hf
        refine zc_ri wM_ad w (zc_V C w (kM9_herd l D q cs N _ _ _ hc _) cf_9_herd ci_9_herd lm_9_236 rcM_0 ⟨Nat.le_of_ble_eq_true rfl, Nat.le_of_ble_eq_true rfl⟩ hl.1 rfl (Nat.le_of_ble_eq_true rfl) dX9_told_54 ⟨Nat.le_refl _, Nat.le_refl _⟩) (fun H locs w => ?_)
        refine lv_i2l hx hb dX9_told_57 rfl ?_
        exact hret _ _ _ _ _ _ hf w dX9_told_58
      · replace hf := zf_f hs1 hf
        by_cases hs4 : v2 = 1
        · replace hf := zf_t hs4 hf
          refine lv_tableIn (off := 44) (tgt := 59) hx hb dX9_told_15 (by rw [hs4]; decide) (by rw [hs4]; decide) (by rw [hs4]; rfl) (by decide) ?_
          refine lv_aload_n hx hb dX9_told_59 rfl (lv_at hl 0 rfl) ?_
          refine mg_0_40 C w lf_9_91 dX9_told_60 ?_
          refine lv_iload_n hx hb dX9_told_63 rfl (lv_at hl 1 rfl) ?_
          obtain ⟨hi, hf⟩ := zf_gd hf
          refine ma_19 C w hi dX9_told_64 ?_
          refine lv_i2l hx hb dX9_told_65 rfl ?_
          exact hret _ _ _ _ _ _ hf w dX9_told_66
        · replace hf := zf_f hs4 hf
          by_cases hs5 : v2 = 2
          · replace hf := zf_t hs5 hf
            refine lv_tableIn (off := 52) (tgt := 67) hx hb dX9_told_15 (by rw [hs5]; decide) (by rw [hs5]; decide) (by rw [hs5]; rfl) (by decide) ?_
            refine lv_aload_n hx hb dX9_told_67 rfl (lv_at hl 0 rfl) ?_
            refine mg_0_41 C w lf_9_94 dX9_told_68 ?_
            refine lv_iload_n hx hb dX9_told_71 rfl (lv_at hl 1 rfl) ?_
            obtain ⟨hi, hf⟩ := zf_gd hf
            refine ma_20 C w hi dX9_told_72 ?_
            refine lv_i2l hx hb dX9_told_73 rfl ?_
            exact hret _ _ _ _ _ _ hf w dX9_told_74
          · replace hf := zf_f hs5 hf
            by_cases hs6 : v2 = 3
            · replace hf := zf_t hs6 hf
              refine lv_tableIn (off := 60) (tgt := 75) hx hb dX9_told_15 (by rw [hs6]; decide) (by rw [hs6]; decide) (by rw [hs6]; rfl) (by decide) ?_
              refine lv_aload_n hx hb dX9_told_75 rfl (lv_at hl 0 rfl) ?_
              refine mg_0_42 C w lf_9_97 dX9_told_76 ?_
              refine lv_iload_n hx hb dX9_told_79 rfl (lv_at hl 1 rfl) ?_
              obtain ⟨hi, hf⟩ := zf_gd hf
              refine ma_21 C w hi dX9_told_80 ?_
              exact hret _ _ _ _ _ _ hf w dX9_told_81
            · replace hf := zf_f hs6 hf
              by_cases hs7 : v2 = 4
              · replace hf := zf_t hs7 hf
                refine lv_tableIn (off := 67) (tgt := 82) hx hb dX9_told_15 (by rw [hs7]; decide) (by rw [hs7]; decide) (by rw [hs7]; rfl) (by decide) ?_
                refine lv_aload_n hx hb dX9_told_82 rfl (lv_at hl 0 rfl) ?_
                refine mg_0_43 C w lf_9_101 dX9_told_83 ?_
                refine lv_iload_n hx hb dX9_told_86 rfl (lv_at hl 1 rfl) ?_
                obtain ⟨hi, hf⟩ := zf_gd hf
                refine ma_22 C w hi dX9_told_87 ?_
                exact hret _ _ _ _ _ _ hf w dX9_told_88
              · replace hf := zf_f hs7 hf
                by_cases hs8 : v2 = 5
                · replace hf := zf_t hs8 hf
                  refine lv_tableIn (off := 74) (tgt := 89) hx hb dX9_told_15 (by rw [hs8]; decide) (by rw [hs8]; decide) (by rw [hs8]; rfl) (by decide) ?_
                  refine lv_iconst (v := 0) hx hb dX9_told_89 (by decide) ?_
                  refine lv_istore_n (lv' := [(3, .int 0), (0, .ref (q 0)), (1, .int v1), (2, .int v2)]) hx hb dX9_told_90 rfl hl (by decide) rfl (fun ls hl => ?_)
                  have lp91 : ∀ (u : zs_T) (v1 : Int32) (n : Nat) (x : Int32), zf_loop (fun ag x => fM9_told_b91 N u v1 (fun v3 => ag v3) x) n x = some z → ∀ (H : Heap) (locs : List Loc) (ls : Array Slot), zg_W D cs A s (wM q cs u) H locs → lv_has ls 4 [(0, .ref (q 0)), (1, .int v1), (3, .int x)] → W p l e (zg_rm 3) s m args below meth c H locs 0 0 Q (F0 m 91 ls []) := by
                    intro u v1
                    refine zf_loop_W (fun x : Int32 => ∀ (H : Heap) (locs : List Loc) (ls : Array Slot), zg_W D cs A s (wM q cs u) H locs → lv_has ls 4 [(0, .ref (q 0)), (1, .int v1), (3, .int x)] → W p l e (zg_rm 3) s m args below meth c H locs 0 0 Q (F0 m 91 ls [])) ?_
                    intro ag91 v3 hag91 hf
                    intro H locs ls w hl
                    replace hf : fM9_told_b91 N u v1 (fun v3 => ag91 v3) v3 = some z := hf
                    replace hl : lv_has ls 4 [(0, .ref (q 0)), (1, .int v1), (3, .int v3)] := hl
                    replace w : zg_W D cs A s (wM q cs u) H locs := w
                    unfold fM9_told_b91 at hf
                    refine lv_aload_n hx hb dX9_told_91 rfl (lv_at hl 0 rfl) ?_
                    refine mg_0_39 C w lf_9_88 dX9_told_92 ?_
                    refine lv_iload_n hx hb dX9_told_95 rfl (lv_at hl 2 rfl) ?_
                    obtain ⟨hi, hf⟩ := zf_gd hf
                    refine ma_18 C w hi dX9_told_96 ?_
                    refine lv_iload_n hx hb dX9_told_97 rfl (lv_at hl 1 rfl) ?_
                    refine lv_icmp_eq (tgt := 108) hx hb dX9_told_98 (by decide) (fun h => ?_) (fun h => ?_)
                    · replace hf := zf_t h hf
                      refine lv_iload_n hx hb dX9_told_108 rfl (lv_at hl 2 rfl) ?_
                      refine lv_i2l hx hb dX9_told_109 rfl ?_
                      exact hret _ _ _ _ _ _ hf w dX9_told_110
                    · replace hf := zf_f h hf
                      refine lv_iload_n hx hb dX9_told_101 rfl (lv_at hl 2 rfl) ?_
                      refine lv_iconst (v := 1) hx hb dX9_told_102 (by decide) ?_
                      refine lv_iadd hx hb dX9_told_103 ?_
                      refine lv_istore_n (lv' := [(3, .int (v3 + 1)), (0, .ref (q 0)), (1, .int v1)]) hx hb dX9_told_104 rfl hl (by decide) rfl (fun ls hl => ?_)
                      refine lv_goto (tgt := 91) hx hb dX9_told_105 (by decide) ?_
                      exact hag91 (v3 + 1) hf H locs ls w (lv_sub hl [1, 2, 0] rfl)
                  exact lp91 _ _ _ _ hf H locs ls w (lv_sub hl [1, 2, 0] rfl)
                · replace hf := zf_f hs8 hf
                  have e_hs1 : v2.toInt ≠ 0 := zf_ne hs1
                  have e_hs4 : v2.toInt ≠ 1 := zf_ne hs4
                  have e_hs5 : v2.toInt ≠ 2 := zf_ne hs5
                  have e_hs6 : v2.toInt ≠ 3 := zf_ne hs6
                  have e_hs7 : v2.toInt ≠ 4 := zf_ne hs7
                  have e_hs8 : v2.toInt ≠ 5 := zf_ne hs8
                  refine lv_tableOut (tgt := 111) hx hb dX9_told_15 (by omega) (by decide) ?_
                  refine zr_ldc2 C lc_9_234 dX9_told_111 ?_
                  exact hret _ _ _ _ _ _ hf w dX9_told_114
    · replace hf := zf_f h hf
      refine zr_ldc2 C lc_9_234 dX9_told_10 ?_
      exact hret _ _ _ _ _ _ hf w dX9_told_13
