def fM9_way_j317 (N : Nat) (u : zs_T) (v1 : Int32) : Option (Int32 × zs_T) :=
  some (zs_i (zs_si u 12 v1) 13, zs_si u 12 v1)
def fM9_way_b285 (N : Nat) (ag96 : zs_T → Int32 → Option (Int32 × zs_T)) (v1 : Int32) (v2 : Int32) (v3 : Int32) (v4 : Int32) (v5 : Int32) (ag285 : zs_T → Int32 → Option (Int32 × zs_T)) (u : zs_T) (v9 : Int32) : Option (Int32 × zs_T) :=
  (if v1 ≤ v9 then ag96 u (v5 + 1) else (if zf_in v9 8 then (if zf_in v9 8 then ag285 (zs_sa u 7 (upd (zs_a u 7) v9.toNatClampNeg (zs_a u 6 v9.toNatClampNeg))) (v9 + 1) else none) else none))
def fM9_way_j260 (N : Nat) (ag96 : zs_T → Int32 → Option (Int32 × zs_T)) (u : zs_T) (v1 : Int32) (v2 : Int32) (v3 : Int32) (v4 : Int32) (v5 : Int32) (v6 : Int32) (v7 : Int32) (t0 : Int32) : Option (Int32 × zs_T) :=
  (if t0 = 0 then ag96 u (v5 + 1) else zf_loop (fun ag x => fM9_way_b285 N ag96 v1 v2 v3 v4 v5 (fun u v9 => ag (u, v9)) x.1 x.2) N (zs_si (zs_si u 13 v6) 14 v7, 0))
def fM9_way_j255 (N : Nat) (ag96 : zs_T → Int32 → Option (Int32 × zs_T)) (u : zs_T) (v1 : Int32) (v2 : Int32) (v3 : Int32) (v4 : Int32) (v5 : Int32) (v6 : Int32) (v7 : Int32) : Option (Int32 × zs_T) :=
  fM9_way_j260 N ag96 u v1 v2 v3 v4 v5 v6 v7 1
def fM9_way_j259 (N : Nat) (ag96 : zs_T → Int32 → Option (Int32 × zs_T)) (u : zs_T) (v1 : Int32) (v2 : Int32) (v3 : Int32) (v4 : Int32) (v5 : Int32) (v6 : Int32) (v7 : Int32) : Option (Int32 × zs_T) :=
  fM9_way_j260 N ag96 u v1 v2 v3 v4 v5 v6 v7 0
def fM9_way_j203 (N : Nat) (ag96 : zs_T → Int32 → Option (Int32 × zs_T)) (u : zs_T) (v1 : Int32) (v2 : Int32) (v3 : Int32) (v4 : Int32) (v5 : Int32) (v6 : Int32) (v7 : Int32) : Option (Int32 × zs_T) :=
  (if zs_i u 13 = (-1) then fM9_way_j255 N ag96 u v1 v2 v3 v4 v5 v6 v7 else (if v6 < zs_i u 13 then fM9_way_j255 N ag96 u v1 v2 v3 v4 v5 v6 v7 else (if v6 = zs_i u 13 then (if zs_i u 14 < v7 then fM9_way_j255 N ag96 u v1 v2 v3 v4 v5 v6 v7 else (if v7 = zs_i u 14 then (zf_bp (fM9_isLess N u v1) fun r5 => (if r5 = 0 then fM9_way_j259 N ag96 u v1 v2 v3 v4 v5 v6 v7 else fM9_way_j255 N ag96 u v1 v2 v3 v4 v5 v6 v7)) else fM9_way_j259 N ag96 u v1 v2 v3 v4 v5 v6 v7)) else fM9_way_j259 N ag96 u v1 v2 v3 v4 v5 v6 v7)))
def fM9_way_b162 (N : Nat) (ag96 : zs_T → Int32 → Option (Int32 × zs_T)) (v1 : Int32) (v2 : Int32) (v3 : Int32) (v4 : Int32) (v5 : Int32) (v6 : Int32) (ag162 : zs_T → Int32 → Int32 → Option (Int32 × zs_T)) (u : zs_T) (v7 : Int32) (v8 : Int32) : Option (Int32 × zs_T) :=
  (if zs_i u 6 ≤ v8 then fM9_way_j203 N ag96 u v1 v2 v3 v4 v5 v6 v7 else (if zf_in v8 6 then (if zf_in v8 6 then (if zf_in v8 6 then ag162 (zs_sa u 2 (upd (zs_a u 2) v8.toNatClampNeg (zs_a u 5 v8.toNatClampNeg))) (v7 + (zs_a u 2 v8.toNatClampNeg)) (v8 + 1) else none) else none) else none))
def fM9_way_j156 (N : Nat) (ag96 : zs_T → Int32 → Option (Int32 × zs_T)) (u : zs_T) (v1 : Int32) (v2 : Int32) (v3 : Int32) (v4 : Int32) (v5 : Int32) (v6 : Int32) : Option (Int32 × zs_T) :=
  zf_loop (fun ag x => fM9_way_b162 N ag96 v1 v2 v3 v4 v5 v6 (fun u v7 v8 => ag (u, v7, v8)) x.1 x.2.1 x.2.2) N (u, 0, 0)
def fM9_way_b122 (N : Nat) (ag96 : zs_T → Int32 → Option (Int32 × zs_T)) (v1 : Int32) (v2 : Int32) (v3 : Int32) (v4 : Int32) (v5 : Int32) (ag122 : zs_T → Int32 → Int32 → Option (Int32 × zs_T)) (u : zs_T) (v6 : Int32) (v7 : Int32) : Option (Int32 × zs_T) :=
  (if v1 ≤ v7 then fM9_way_j156 N ag96 u v1 v2 v3 v4 v5 v6 else (zf_bv (fM9_grows N u v2) fun u8 => (if zf_in v7 8 then (zf_bi (fM9_eats u8 (zs_a u8 6 v7.toNatClampNeg) v3) fun r9 u10 => ag122 u10 (v6 + r9) (v7 + 1)) else none)))
def fM9_way_b96 (N : Nat) (v1 : Int32) (v2 : Int32) (v3 : Int32) (v4 : Int32) (ag96 : zs_T → Int32 → Option (Int32 × zs_T)) (u : zs_T) (v5 : Int32) : Option (Int32 × zs_T) :=
  (if v4 ≤ v5 then fM9_way_j317 N u v1 else (zf_bi (fM9_lays N u v5 v1) fun r3 u4 => (if r3 = 0 then ag96 u4 (v5 + 1) else zf_loop (fun ag x => fM9_way_b122 N ag96 v1 v2 v3 v4 v5 (fun u v6 v7 => ag (u, v6, v7)) x.1 x.2.1 x.2.2) N (u4, 0, 0))))
def fM9_way_j88 (N : Nat) (u : zs_T) (v1 : Int32) (v2 : Int32) (v3 : Int32) (v4 : Int32) : Option (Int32 × zs_T) :=
  zf_loop (fun ag x => fM9_way_b96 N v1 v2 v3 v4 (fun u v5 => ag (u, v5)) x.1 x.2) N (zs_si u 13 (-1), 0)
def fM9_way_b70 (N : Nat) (u : zs_T) (v1 : Int32) (v2 : Int32) (v3 : Int32) (ag70 : Int32 → Int32 → Option (Int32 × zs_T)) (v4 : Int32) (v5 : Int32) : Option (Int32 × zs_T) :=
  (if v1 ≤ v5 then fM9_way_j88 N u v1 v2 v3 v4 else ag70 (3 * v4) (v5 + 1))
def fM9_way_j64 (N : Nat) (u : zs_T) (v1 : Int32) (v2 : Int32) (v3 : Int32) : Option (Int32 × zs_T) :=
  zf_loop (fun ag x => fM9_way_b70 N u v1 v2 v3 (fun v4 v5 => ag (v4, v5)) x.1 x.2) N (1, 0)
def fM9_way_b37 (N : Nat) (v1 : Int32) (v2 : Int32) (v3 : Int32) (ag37 : zs_T → Int32 → Option (Int32 × zs_T)) (u : zs_T) (v4 : Int32) : Option (Int32 × zs_T) :=
  (if 6 ≤ v4 then fM9_way_j64 N u v1 v2 v3 else (if zf_in v4 6 then (if zf_in v4 6 then ag37 (zs_sa u 5 (upd (zs_a u 5) v4.toNatClampNeg (zs_a u 2 v4.toNatClampNeg))) (v4 + 1) else none) else none))
def fM9_way (N : Nat) (u : zs_T) (v1 : Int32) (v2 : Int32) : Option (Int32 × zs_T) :=
  (if v1 < 1 then some ((-1), u) else (if 8 < v1 then some ((-1), u) else (if v2 < (-30) then some ((-1), u) else (if v2 ≤ 40 then (zf_bi (fM9_ups N u (zs_i u 10)) fun r1 u2 => zf_loop (fun ag x => fM9_way_b37 N v1 v2 r1 (fun u v4 => ag (u, v4)) x.1 x.2) N (u2, 0)) else some ((-1), u)))))
set_option maxHeartbeats 4000000 in
set_option maxRecDepth 100000 in
theorem kM9_way (l : Launch) (D : va_G) (q : Nat → Nat) (cs : Nat → ClassId) (N : Nat) (u : zs_T) (v1 : Int32) (v2 : Int32) (z : (Int32 × zs_T)) (hf : fM9_way N u v1 v2 = some z) : zg_Ci l yX9_way cX9_way 10 (some .int) 3 D cs (wM q cs) u [.ref (q 0), .int v1, .int v2] z.1 z.2 := by
  refine zg_Ci_of (own := RX9) (by decide) rfl wM_ad (Nat.le_of_ble_eq_true rfl) ?_
  intro p e s m args below meth c A Q C hret w ls hl
  obtain ⟨hx, hb, -⟩ := id C
  have hl : lv_has ls 10 [(0, .ref (q 0)), (1, .int v1), (2, .int v2)] := hl
  generalize hH : s.heap = H at w ⊢
  generalize hLc : ([] : List Loc) = locs at w ⊢
  have hj317 : ∀ (u : zs_T) (v1 : Int32) (H : Heap) (locs : List Loc) (ls : Array Slot), zg_W D cs A s (wM q cs u) H locs → lv_has ls 10 [(0, .ref (q 0)), (1, .int v1)] → fM9_way_j317 N u v1 = some z → W p l e (zg_rm 3) s m args below meth c H locs 0 0 Q (F0 m 317 ls []) := by
    intro u v1 H locs ls w hl hf
    unfold fM9_way_j317 at hf
    refine lv_aload_n hx hb dX9_way_317 rfl (lv_at hl 0 rfl) ?_
    refine lv_iload_n hx hb dX9_way_318 rfl (lv_at hl 1 rfl) ?_
    refine mp_0_21 C w lf_9_168 dX9_way_319 (fun H locs w => ?_)
    refine lv_aload_n hx hb dX9_way_322 rfl (lv_at hl 0 rfl) ?_
    refine mg_0_22 C w lf_9_156 dX9_way_323 ?_
    exact hret _ _ _ _ _ _ hf w dX9_way_326
  have hj88 : ∀ (u : zs_T) (v1 : Int32) (v2 : Int32) (v3 : Int32) (v4 : Int32) (H : Heap) (locs : List Loc) (ls : Array Slot), zg_W D cs A s (wM q cs u) H locs → lv_has ls 10 [(0, .ref (q 0)), (1, .int v1), (2, .int v2), (3, .int v3), (4, .int v4)] → fM9_way_j88 N u v1 v2 v3 v4 = some z → W p l e (zg_rm 3) s m args below meth c H locs 0 0 Q (F0 m 88 ls []) := by
    intro u v1 v2 v3 v4 H locs ls w hl hf
    unfold fM9_way_j88 at hf
    refine lv_aload_n hx hb dX9_way_88 rfl (lv_at hl 0 rfl) ?_
    refine lv_iconst (v := (-1)) hx hb dX9_way_89 (by decide) ?_
    refine mp_0_22 C w lf_9_156 dX9_way_90 (fun H locs w => ?_)
    refine lv_iconst (v := 0) hx hb dX9_way_93 (by decide) ?_
    refine lv_istore (lv' := [(5, .int 0), (0, .ref (q 0)), (1, .int v1), (2, .int v2), (3, .int v3), (4, .int v4)]) hx hb dX9_way_94 hl (by decide) rfl (fun ls hl => ?_)
    have lp96 : ∀ (v1 : Int32) (v2 : Int32) (v3 : Int32) (v4 : Int32) (n : Nat) (x : zs_T × Int32), zf_loop (fun ag x => fM9_way_b96 N v1 v2 v3 v4 (fun u v5 => ag (u, v5)) x.1 x.2) n x = some z → ∀ (H : Heap) (locs : List Loc) (ls : Array Slot), zg_W D cs A s (wM q cs x.1) H locs → lv_has ls 10 [(0, .ref (q 0)), (1, .int v1), (2, .int v2), (3, .int v3), (4, .int v4), (5, .int x.2)] → W p l e (zg_rm 3) s m args below meth c H locs 0 0 Q (F0 m 96 ls []) := by
      intro v1 v2 v3 v4
      refine zf_loop_W (fun x : zs_T × Int32 => ∀ (H : Heap) (locs : List Loc) (ls : Array Slot), zg_W D cs A s (wM q cs x.1) H locs → lv_has ls 10 [(0, .ref (q 0)), (1, .int v1), (2, .int v2), (3, .int v3), (4, .int v4), (5, .int x.2)] → W p l e (zg_rm 3) s m args below meth c H locs 0 0 Q (F0 m 96 ls [])) ?_
      intro ag96 x hag96 hf
      obtain ⟨u, v5⟩ := x
      intro H locs ls w hl
      replace hf : fM9_way_b96 N v1 v2 v3 v4 (fun u v5 => ag96 (u, v5)) u v5 = some z := hf
      replace hl : lv_has ls 10 [(0, .ref (q 0)), (1, .int v1), (2, .int v2), (3, .int v3), (4, .int v4), (5, .int v5)] := hl
      replace w : zg_W D cs A s (wM q cs u) H locs := w
      have hj260 : ∀ (u : zs_T) (v5 : Int32) (v6 : Int32) (v7 : Int32) (t0 : Int32) (H : Heap) (locs : List Loc) (ls : Array Slot), zg_W D cs A s (wM q cs u) H locs → lv_has ls 10 [(0, .ref (q 0)), (1, .int v1), (2, .int v2), (3, .int v3), (4, .int v4), (5, .int v5), (6, .int v6), (7, .int v7)] → fM9_way_j260 N (fun u v5 => ag96 (u, v5)) u v1 v2 v3 v4 v5 v6 v7 t0 = some z → W p l e (zg_rm 3) s m args below meth c H locs 0 0 Q (F0 m 260 ls [.int t0]) := by
        intro u v5 v6 v7 t0 H locs ls w hl hf
        unfold fM9_way_j260 at hf
        refine lv_istore (lv' := [(8, .int t0), (0, .ref (q 0)), (1, .int v1), (2, .int v2), (3, .int v3), (4, .int v4), (5, .int v5), (6, .int v6), (7, .int v7)]) hx hb dX9_way_260 hl (by decide) rfl (fun ls hl => ?_)
        refine lv_iload hx hb dX9_way_262 (lv_at hl 0 rfl) ?_
        refine lv_if_ne (tgt := 270) hx hb dX9_way_264 (by decide) (fun h => ?_) (fun h => ?_)
        · replace hf := zf_f h hf
          refine lv_aload_n hx hb dX9_way_270 rfl (lv_at hl 1 rfl) ?_
          refine lv_iload hx hb dX9_way_271 (lv_at hl 7 rfl) ?_
          refine mp_0_22 C w lf_9_156 dX9_way_273 (fun H locs w => ?_)
          refine lv_aload_n hx hb dX9_way_276 rfl (lv_at hl 1 rfl) ?_
          refine lv_iload hx hb dX9_way_277 (lv_at hl 8 rfl) ?_
          refine mp_0_23 C w lf_9_162 dX9_way_279 (fun H locs w => ?_)
          refine lv_iconst (v := 0) hx hb dX9_way_282 (by decide) ?_
          refine lv_istore (lv' := [(9, .int 0), (8, .int t0), (0, .ref (q 0)), (1, .int v1), (2, .int v2), (3, .int v3), (4, .int v4), (5, .int v5), (6, .int v6), (7, .int v7)]) hx hb dX9_way_283 hl (by decide) rfl (fun ls hl => ?_)
          have lp285 : ∀ (v5 : Int32) (n : Nat) (x : zs_T × Int32), zf_loop (fun ag x => fM9_way_b285 N (fun u v5 => ag96 (u, v5)) v1 v2 v3 v4 v5 (fun u v9 => ag (u, v9)) x.1 x.2) n x = some z → ∀ (H : Heap) (locs : List Loc) (ls : Array Slot), zg_W D cs A s (wM q cs x.1) H locs → lv_has ls 10 [(0, .ref (q 0)), (1, .int v1), (2, .int v2), (3, .int v3), (4, .int v4), (5, .int v5), (9, .int x.2)] → W p l e (zg_rm 3) s m args below meth c H locs 0 0 Q (F0 m 285 ls []) := by
            intro v5
            refine zf_loop_W (fun x : zs_T × Int32 => ∀ (H : Heap) (locs : List Loc) (ls : Array Slot), zg_W D cs A s (wM q cs x.1) H locs → lv_has ls 10 [(0, .ref (q 0)), (1, .int v1), (2, .int v2), (3, .int v3), (4, .int v4), (5, .int v5), (9, .int x.2)] → W p l e (zg_rm 3) s m args below meth c H locs 0 0 Q (F0 m 285 ls [])) ?_
            intro ag285 x hag285 hf
            obtain ⟨u, v9⟩ := x
            intro H locs ls w hl
            replace hf : fM9_way_b285 N (fun u v5 => ag96 (u, v5)) v1 v2 v3 v4 v5 (fun u v9 => ag285 (u, v9)) u v9 = some z := hf
            replace hl : lv_has ls 10 [(0, .ref (q 0)), (1, .int v1), (2, .int v2), (3, .int v3), (4, .int v4), (5, .int v5), (9, .int v9)] := hl
            replace w : zg_W D cs A s (wM q cs u) H locs := w
            unfold fM9_way_b285 at hf
            refine lv_iload hx hb dX9_way_285 (lv_at hl 6 rfl) ?_
            refine lv_iload_n hx hb dX9_way_287 rfl (lv_at hl 1 rfl) ?_
            refine lv_icmp_ge (tgt := 311) hx hb dX9_way_288 (by decide) (fun h => ?_) (fun h => ?_)
            · replace hf := zf_t h hf
              refine lv_iinc (v := v5 + 1) (lv' := [(5, .int (v5 + 1)), (0, .ref (q 0)), (1, .int v1), (2, .int v2), (3, .int v3), (4, .int v4), (9, .int v9)]) hx hb dX9_way_311 hl (k := 5) rfl rfl (by decide) rfl (fun ls hl => ?_)
              refine lv_goto (tgt := 96) hx hb dX9_way_314 (by decide) ?_
              exact hag96 (u, v5 + 1) hf H locs ls w (lv_sub hl [1, 2, 3, 4, 5, 0] rfl)
            · replace hf := zf_f h hf
              refine lv_aload_n hx hb dX9_way_291 rfl (lv_at hl 0 rfl) ?_
              refine mg_0_20 C w lf_9_54 dX9_way_292 ?_
              refine lv_iload hx hb dX9_way_295 (lv_at hl 6 rfl) ?_
              refine lv_aload_n hx hb dX9_way_297 rfl (lv_at hl 0 rfl) ?_
              refine mg_0_19 C w lf_9_51 dX9_way_298 ?_
              refine lv_iload hx hb dX9_way_301 (lv_at hl 6 rfl) ?_
              obtain ⟨hi, hf⟩ := zf_gd hf
              refine ma_7 C w hi dX9_way_303 ?_
              obtain ⟨hi, hf⟩ := zf_gd hf
              refine ms_8 C w hi dX9_way_304 (fun H locs w => ?_)
              refine lv_iinc (v := v9 + 1) (lv' := [(9, .int (v9 + 1)), (0, .ref (q 0)), (1, .int v1), (2, .int v2), (3, .int v3), (4, .int v4), (5, .int v5)]) hx hb dX9_way_305 hl (k := 6) rfl rfl (by decide) rfl (fun ls hl => ?_)
              refine lv_goto (tgt := 285) hx hb dX9_way_308 (by decide) ?_
              exact hag285 (zs_sa u 7 (upd (zs_a u 7) v9.toNatClampNeg (zs_a u 6 v9.toNatClampNeg)), v9 + 1) hf H locs ls w (lv_sub hl [1, 2, 3, 4, 5, 6, 0] rfl)
          exact lp285 _ _ _ hf H locs ls w (lv_sub hl [2, 3, 4, 5, 6, 7, 0] rfl)
        · replace hf := zf_t h hf
          refine lv_goto (tgt := 311) hx hb dX9_way_267 (by decide) ?_
          refine lv_iinc (v := v5 + 1) (lv' := [(5, .int (v5 + 1)), (8, .int t0), (0, .ref (q 0)), (1, .int v1), (2, .int v2), (3, .int v3), (4, .int v4), (6, .int v6), (7, .int v7)]) hx hb dX9_way_311 hl (k := 6) rfl rfl (by decide) rfl (fun ls hl => ?_)
          refine lv_goto (tgt := 96) hx hb dX9_way_314 (by decide) ?_
          exact hag96 (u, v5 + 1) hf H locs ls w (lv_sub hl [2, 3, 4, 5, 6, 0] rfl)
      have hj259 : ∀ (u : zs_T) (v5 : Int32) (v6 : Int32) (v7 : Int32) (H : Heap) (locs : List Loc) (ls : Array Slot), zg_W D cs A s (wM q cs u) H locs → lv_has ls 10 [(0, .ref (q 0)), (1, .int v1), (2, .int v2), (3, .int v3), (4, .int v4), (5, .int v5), (6, .int v6), (7, .int v7)] → fM9_way_j259 N (fun u v5 => ag96 (u, v5)) u v1 v2 v3 v4 v5 v6 v7 = some z → W p l e (zg_rm 3) s m args below meth c H locs 0 0 Q (F0 m 259 ls []) := by
        intro u v5 v6 v7 H locs ls w hl hf
        unfold fM9_way_j259 at hf
        refine lv_iconst (v := 0) hx hb dX9_way_259 (by decide) ?_
        exact hj260 _ _ _ _ _ H locs ls w (lv_sub hl [0, 1, 2, 3, 4, 5, 6, 7] rfl) hf
      have hj255 : ∀ (u : zs_T) (v5 : Int32) (v6 : Int32) (v7 : Int32) (H : Heap) (locs : List Loc) (ls : Array Slot), zg_W D cs A s (wM q cs u) H locs → lv_has ls 10 [(0, .ref (q 0)), (1, .int v1), (2, .int v2), (3, .int v3), (4, .int v4), (5, .int v5), (6, .int v6), (7, .int v7)] → fM9_way_j255 N (fun u v5 => ag96 (u, v5)) u v1 v2 v3 v4 v5 v6 v7 = some z → W p l e (zg_rm 3) s m args below meth c H locs 0 0 Q (F0 m 255 ls []) := by
        intro u v5 v6 v7 H locs ls w hl hf
        unfold fM9_way_j255 at hf
        refine lv_iconst (v := 1) hx hb dX9_way_255 (by decide) ?_
        refine lv_goto (tgt := 260) hx hb dX9_way_256 (by decide) ?_
        exact hj260 _ _ _ _ _ H locs ls w (lv_sub hl [0, 1, 2, 3, 4, 5, 6, 7] rfl) hf
      have hj203 : ∀ (u : zs_T) (v5 : Int32) (v6 : Int32) (v7 : Int32) (H : Heap) (locs : List Loc) (ls : Array Slot), zg_W D cs A s (wM q cs u) H locs → lv_has ls 10 [(0, .ref (q 0)), (1, .int v1), (2, .int v2), (3, .int v3), (4, .int v4), (5, .int v5), (6, .int v6), (7, .int v7)] → fM9_way_j203 N (fun u v5 => ag96 (u, v5)) u v1 v2 v3 v4 v5 v6 v7 = some z → W p l e (zg_rm 3) s m args below meth c H locs 0 0 Q (F0 m 203 ls []) := by
        intro u v5 v6 v7 H locs ls w hl hf
        unfold fM9_way_j203 at hf
        refine lv_aload_n hx hb dX9_way_203 rfl (lv_at hl 0 rfl) ?_
        refine mg_0_22 C w lf_9_156 dX9_way_204 ?_
        refine lv_iconst (v := (-1)) hx hb dX9_way_207 (by decide) ?_
        refine lv_icmp_eq (tgt := 255) hx hb dX9_way_208 (by decide) (fun h => ?_) (fun h => ?_)
        · replace hf := zf_t h hf
          exact hj255 _ _ _ _ H locs ls w (lv_sub hl [0, 1, 2, 3, 4, 5, 6, 7] rfl) hf
        · replace hf := zf_f h hf
          refine lv_iload hx hb dX9_way_211 (lv_at hl 6 rfl) ?_
          refine lv_aload_n hx hb dX9_way_213 rfl (lv_at hl 0 rfl) ?_
          refine mg_0_22 C w lf_9_156 dX9_way_214 ?_
          refine lv_icmp_lt (tgt := 255) hx hb dX9_way_217 (by decide) (fun h => ?_) (fun h => ?_)
          · replace hf := zf_t h hf
            exact hj255 _ _ _ _ H locs ls w (lv_sub hl [0, 1, 2, 3, 4, 5, 6, 7] rfl) hf
          · replace hf := zf_f h hf
            refine lv_iload hx hb dX9_way_220 (lv_at hl 6 rfl) ?_
            refine lv_aload_n hx hb dX9_way_222 rfl (lv_at hl 0 rfl) ?_
            refine mg_0_22 C w lf_9_156 dX9_way_223 ?_
            refine lv_icmp_ne (tgt := 259) hx hb dX9_way_226 (by decide) (fun h => ?_) (fun h => ?_)
            · replace hf := zf_f h hf
              exact hj259 _ _ _ _ H locs ls w (lv_sub hl [0, 1, 2, 3, 4, 5, 6, 7] rfl) hf
            · replace hf := zf_t h hf
              refine lv_iload hx hb dX9_way_229 (lv_at hl 7 rfl) ?_
              refine lv_aload_n hx hb dX9_way_231 rfl (lv_at hl 0 rfl) ?_
              refine mg_0_23 C w lf_9_162 dX9_way_232 ?_
              refine lv_icmp_gt (tgt := 255) hx hb dX9_way_235 (by decide) (fun h => ?_) (fun h => ?_)
              · replace hf := zf_t h hf
                exact hj255 _ _ _ _ H locs ls w (lv_sub hl [0, 1, 2, 3, 4, 5, 6, 7] rfl) hf
              · replace hf := zf_f h hf
                refine lv_iload hx hb dX9_way_238 (lv_at hl 7 rfl) ?_
                refine lv_aload_n hx hb dX9_way_240 rfl (lv_at hl 0 rfl) ?_
                refine mg_0_23 C w lf_9_162 dX9_way_241 ?_
                refine lv_icmp_ne (tgt := 259) hx hb dX9_way_244 (by decide) (fun h => ?_) (fun h => ?_)
                · replace hf := zf_f h hf
                  exact hj259 _ _ _ _ H locs ls w (lv_sub hl [0, 1, 2, 3, 4, 5, 6, 7] rfl) hf
                · replace hf := zf_t h hf
                  refine lv_aload_n hx hb dX9_way_247 rfl (lv_at hl 0 rfl) ?_
                  refine lv_iload_n hx hb dX9_way_248 rfl (lv_at hl 1 rfl) ?_
                  obtain ⟨r5, hc, hf⟩ := zf_bp_ex hf
                  refine zc_ri wM_ad w (zc_V C w (kM9_isLess l D q cs N _ _ _ hc _) cf_9_isLess ci_9_isLess lm_9_165 rcM_0 ⟨Nat.le_of_ble_eq_true rfl, Nat.le_of_ble_eq_true rfl⟩ hl.1 rfl (Nat.le_of_ble_eq_true rfl) dX9_way_249 ⟨Nat.le_refl _, Nat.le_refl _⟩) (fun H locs w => ?_)
                  refine lv_if_eq (tgt := 259) hx hb dX9_way_252 (by decide) (fun h => ?_) (fun h => ?_)
                  · replace hf := zf_t h hf
                    exact hj259 _ _ _ _ H locs ls w (lv_sub hl [0, 1, 2, 3, 4, 5, 6, 7] rfl) hf
                  · replace hf := zf_f h hf
                    exact hj255 _ _ _ _ H locs ls w (lv_sub hl [0, 1, 2, 3, 4, 5, 6, 7] rfl) hf
      have hj156 : ∀ (u : zs_T) (v5 : Int32) (v6 : Int32) (H : Heap) (locs : List Loc) (ls : Array Slot), zg_W D cs A s (wM q cs u) H locs → lv_has ls 10 [(0, .ref (q 0)), (1, .int v1), (2, .int v2), (3, .int v3), (4, .int v4), (5, .int v5), (6, .int v6)] → fM9_way_j156 N (fun u v5 => ag96 (u, v5)) u v1 v2 v3 v4 v5 v6 = some z → W p l e (zg_rm 3) s m args below meth c H locs 0 0 Q (F0 m 156 ls []) := by
        intro u v5 v6 H locs ls w hl hf
        unfold fM9_way_j156 at hf
        refine lv_iconst (v := 0) hx hb dX9_way_156 (by decide) ?_
        refine lv_istore (lv' := [(7, .int 0), (0, .ref (q 0)), (1, .int v1), (2, .int v2), (3, .int v3), (4, .int v4), (5, .int v5), (6, .int v6)]) hx hb dX9_way_157 hl (by decide) rfl (fun ls hl => ?_)
        refine lv_iconst (v := 0) hx hb dX9_way_159 (by decide) ?_
        refine lv_istore (lv' := [(8, .int 0), (7, .int 0), (0, .ref (q 0)), (1, .int v1), (2, .int v2), (3, .int v3), (4, .int v4), (5, .int v5), (6, .int v6)]) hx hb dX9_way_160 hl (by decide) rfl (fun ls hl => ?_)
        have lp162 : ∀ (v5 : Int32) (v6 : Int32) (n : Nat) (x : zs_T × Int32 × Int32), zf_loop (fun ag x => fM9_way_b162 N (fun u v5 => ag96 (u, v5)) v1 v2 v3 v4 v5 v6 (fun u v7 v8 => ag (u, v7, v8)) x.1 x.2.1 x.2.2) n x = some z → ∀ (H : Heap) (locs : List Loc) (ls : Array Slot), zg_W D cs A s (wM q cs x.1) H locs → lv_has ls 10 [(0, .ref (q 0)), (1, .int v1), (2, .int v2), (3, .int v3), (4, .int v4), (5, .int v5), (6, .int v6), (7, .int x.2.1), (8, .int x.2.2)] → W p l e (zg_rm 3) s m args below meth c H locs 0 0 Q (F0 m 162 ls []) := by
          intro v5 v6
          refine zf_loop_W (fun x : zs_T × Int32 × Int32 => ∀ (H : Heap) (locs : List Loc) (ls : Array Slot), zg_W D cs A s (wM q cs x.1) H locs → lv_has ls 10 [(0, .ref (q 0)), (1, .int v1), (2, .int v2), (3, .int v3), (4, .int v4), (5, .int v5), (6, .int v6), (7, .int x.2.1), (8, .int x.2.2)] → W p l e (zg_rm 3) s m args below meth c H locs 0 0 Q (F0 m 162 ls [])) ?_
          intro ag162 x hag162 hf
          obtain ⟨u, v7, v8⟩ := x
          intro H locs ls w hl
          replace hf : fM9_way_b162 N (fun u v5 => ag96 (u, v5)) v1 v2 v3 v4 v5 v6 (fun u v7 v8 => ag162 (u, v7, v8)) u v7 v8 = some z := hf
          replace hl : lv_has ls 10 [(0, .ref (q 0)), (1, .int v1), (2, .int v2), (3, .int v3), (4, .int v4), (5, .int v5), (6, .int v6), (7, .int v7), (8, .int v8)] := hl
          replace w : zg_W D cs A s (wM q cs u) H locs := w
          unfold fM9_way_b162 at hf
          refine lv_iload hx hb dX9_way_162 (lv_at hl 8 rfl) ?_
          refine lv_aload_n hx hb dX9_way_164 rfl (lv_at hl 0 rfl) ?_
          refine mg_0_8 C w lf_9_30 dX9_way_165 ?_
          refine lv_icmp_ge (tgt := 203) hx hb dX9_way_168 (by decide) (fun h => ?_) (fun h => ?_)
          · replace hf := zf_t h hf
            exact hj203 _ _ _ _ H locs ls w (lv_sub hl [0, 1, 2, 3, 4, 5, 6, 7] rfl) hf
          · replace hf := zf_f h hf
            refine lv_iload hx hb dX9_way_171 (lv_at hl 7 rfl) ?_
            refine lv_aload_n hx hb dX9_way_173 rfl (lv_at hl 0 rfl) ?_
            refine mg_0_14 C w lf_9_39 dX9_way_174 ?_
            refine lv_iload hx hb dX9_way_177 (lv_at hl 8 rfl) ?_
            obtain ⟨hi, hf⟩ := zf_gd hf
            refine ma_3 C w hi dX9_way_179 ?_
            refine lv_iadd hx hb dX9_way_180 ?_
            refine lv_istore (lv' := [(7, .int (v7 + (zs_a u 2 v8.toNatClampNeg))), (0, .ref (q 0)), (1, .int v1), (2, .int v2), (3, .int v3), (4, .int v4), (5, .int v5), (6, .int v6), (8, .int v8)]) hx hb dX9_way_181 hl (by decide) rfl (fun ls hl => ?_)
            refine lv_aload_n hx hb dX9_way_183 rfl (lv_at hl 1 rfl) ?_
            refine mg_0_14 C w lf_9_39 dX9_way_184 ?_
            refine lv_iload hx hb dX9_way_187 (lv_at hl 8 rfl) ?_
            refine lv_aload_n hx hb dX9_way_189 rfl (lv_at hl 1 rfl) ?_
            refine mg_0_18 C w lf_9_48 dX9_way_190 ?_
            refine lv_iload hx hb dX9_way_193 (lv_at hl 8 rfl) ?_
            obtain ⟨hi, hf⟩ := zf_gd hf
            refine ma_6 C w hi dX9_way_195 ?_
            obtain ⟨hi, hf⟩ := zf_gd hf
            refine ms_3 C w hi dX9_way_196 (fun H locs w => ?_)
            refine lv_iinc (v := v8 + 1) (lv' := [(8, .int (v8 + 1)), (7, .int (v7 + (zs_a u 2 v8.toNatClampNeg))), (0, .ref (q 0)), (1, .int v1), (2, .int v2), (3, .int v3), (4, .int v4), (5, .int v5), (6, .int v6)]) hx hb dX9_way_197 hl (k := 8) rfl rfl (by decide) rfl (fun ls hl => ?_)
            refine lv_goto (tgt := 162) hx hb dX9_way_200 (by decide) ?_
            exact hag162 (zs_sa u 2 (upd (zs_a u 2) v8.toNatClampNeg (zs_a u 5 v8.toNatClampNeg)), v7 + (zs_a u 2 v8.toNatClampNeg), v8 + 1) hf H locs ls w (lv_sub hl [2, 3, 4, 5, 6, 7, 8, 1, 0] rfl)
        exact lp162 _ _ _ _ hf H locs ls w (lv_sub hl [2, 3, 4, 5, 6, 7, 8, 1, 0] rfl)
      unfold fM9_way_b96 at hf
      refine lv_iload hx hb dX9_way_96 (lv_at hl 5 rfl) ?_
      refine lv_iload hx hb dX9_way_98 (lv_at hl 4 rfl) ?_
      refine lv_icmp_ge (tgt := 317) hx hb dX9_way_100 (by decide) (fun h => ?_) (fun h => ?_)
      · replace hf := zf_t h hf
        exact hj317 _ _ H locs ls w (lv_sub hl [0, 1] rfl) hf
      · replace hf := zf_f h hf
        refine lv_aload_n hx hb dX9_way_103 rfl (lv_at hl 0 rfl) ?_
        refine lv_iload hx hb dX9_way_104 (lv_at hl 5 rfl) ?_
        refine lv_iload_n hx hb dX9_way_106 rfl (lv_at hl 1 rfl) ?_
        obtain ⟨r3, u4, hc, hf⟩ := zf_bi_ex hf
        refine zc_ri wM_ad w (zc_V C w (kM9_lays l D q cs N _ _ _ _ hc _) cf_9_lays ci_9_lays lm_9_159 rcM_0 ⟨Nat.le_of_ble_eq_true rfl, Nat.le_of_ble_eq_true rfl⟩ hl.1 rfl (Nat.le_of_ble_eq_true rfl) dX9_way_107 ⟨Nat.le_refl _, Nat.le_refl _⟩) (fun H locs w => ?_)
        refine lv_if_ne (tgt := 116) hx hb dX9_way_110 (by decide) (fun h => ?_) (fun h => ?_)
        · replace hf := zf_f h hf
          refine lv_iconst (v := 0) hx hb dX9_way_116 (by decide) ?_
          refine lv_istore (lv' := [(6, .int 0), (0, .ref (q 0)), (1, .int v1), (2, .int v2), (3, .int v3), (4, .int v4), (5, .int v5)]) hx hb dX9_way_117 hl (by decide) rfl (fun ls hl => ?_)
          refine lv_iconst (v := 0) hx hb dX9_way_119 (by decide) ?_
          refine lv_istore (lv' := [(7, .int 0), (6, .int 0), (0, .ref (q 0)), (1, .int v1), (2, .int v2), (3, .int v3), (4, .int v4), (5, .int v5)]) hx hb dX9_way_120 hl (by decide) rfl (fun ls hl => ?_)
          have lp122 : ∀ (v5 : Int32) (n : Nat) (x : zs_T × Int32 × Int32), zf_loop (fun ag x => fM9_way_b122 N (fun u v5 => ag96 (u, v5)) v1 v2 v3 v4 v5 (fun u v6 v7 => ag (u, v6, v7)) x.1 x.2.1 x.2.2) n x = some z → ∀ (H : Heap) (locs : List Loc) (ls : Array Slot), zg_W D cs A s (wM q cs x.1) H locs → lv_has ls 10 [(0, .ref (q 0)), (1, .int v1), (2, .int v2), (3, .int v3), (4, .int v4), (5, .int v5), (6, .int x.2.1), (7, .int x.2.2)] → W p l e (zg_rm 3) s m args below meth c H locs 0 0 Q (F0 m 122 ls []) := by
            intro v5
            refine zf_loop_W (fun x : zs_T × Int32 × Int32 => ∀ (H : Heap) (locs : List Loc) (ls : Array Slot), zg_W D cs A s (wM q cs x.1) H locs → lv_has ls 10 [(0, .ref (q 0)), (1, .int v1), (2, .int v2), (3, .int v3), (4, .int v4), (5, .int v5), (6, .int x.2.1), (7, .int x.2.2)] → W p l e (zg_rm 3) s m args below meth c H locs 0 0 Q (F0 m 122 ls [])) ?_
            intro ag122 x hag122 hf
            obtain ⟨u, v6, v7⟩ := x
            intro H locs ls w hl
            replace hf : fM9_way_b122 N (fun u v5 => ag96 (u, v5)) v1 v2 v3 v4 v5 (fun u v6 v7 => ag122 (u, v6, v7)) u v6 v7 = some z := hf
            replace hl : lv_has ls 10 [(0, .ref (q 0)), (1, .int v1), (2, .int v2), (3, .int v3), (4, .int v4), (5, .int v5), (6, .int v6), (7, .int v7)] := hl
            replace w : zg_W D cs A s (wM q cs u) H locs := w
            unfold fM9_way_b122 at hf
            refine lv_iload hx hb dX9_way_122 (lv_at hl 7 rfl) ?_
            refine lv_iload_n hx hb dX9_way_124 rfl (lv_at hl 1 rfl) ?_
            refine lv_icmp_ge (tgt := 156) hx hb dX9_way_125 (by decide) (fun h => ?_) (fun h => ?_)
            · replace hf := zf_t h hf
              exact hj156 _ _ _ H locs ls w (lv_sub hl [0, 1, 2, 3, 4, 5, 6] rfl) hf
            · replace hf := zf_f h hf
              refine lv_aload_n hx hb dX9_way_128 rfl (lv_at hl 0 rfl) ?_
              refine lv_iload_n hx hb dX9_way_129 rfl (lv_at hl 2 rfl) ?_
              obtain ⟨u8, hc, hf⟩ := zf_bv_ex hf
              refine zc_rv wM_ad w (zc_V C w (kM9_grows l D q cs N _ _ _ hc _) cf_9_grows ci_9_grows lm_9_139 rcM_0 ⟨Nat.le_of_ble_eq_true rfl, Nat.le_of_ble_eq_true rfl⟩ hl.1 rfl (Nat.le_of_ble_eq_true rfl) dX9_way_130 ⟨Nat.le_refl _, Nat.le_refl _⟩) (fun H locs w => ?_)
              refine lv_iload hx hb dX9_way_133 (lv_at hl 6 rfl) ?_
              refine lv_aload_n hx hb dX9_way_135 rfl (lv_at hl 0 rfl) ?_
              refine lv_aload_n hx hb dX9_way_136 rfl (lv_at hl 0 rfl) ?_
              refine mg_0_19 C w lf_9_51 dX9_way_137 ?_
              refine lv_iload hx hb dX9_way_140 (lv_at hl 7 rfl) ?_
              obtain ⟨hi, hf⟩ := zf_gd hf
              refine ma_7 C w hi dX9_way_142 ?_
              refine lv_iload_n hx hb dX9_way_143 rfl (lv_at hl 3 rfl) ?_
              obtain ⟨r9, u10, hc, hf⟩ := zf_bi_ex hf
              refine zc_ri wM_ad w (zc_V C w (kM9_eats l D q cs _ _ _ _ hc _) cf_9_eats ci_9_eats lm_9_145 rcM_0 ⟨Nat.le_of_ble_eq_true rfl, Nat.le_of_ble_eq_true rfl⟩ hl.1 rfl (Nat.le_of_ble_eq_true rfl) dX9_way_144 ⟨Nat.le_refl _, Nat.le_refl _⟩) (fun H locs w => ?_)
              refine lv_iadd hx hb dX9_way_147 ?_
              refine lv_istore (lv' := [(6, .int (v6 + r9)), (0, .ref (q 0)), (1, .int v1), (2, .int v2), (3, .int v3), (4, .int v4), (5, .int v5), (7, .int v7)]) hx hb dX9_way_148 hl (by decide) rfl (fun ls hl => ?_)
              refine lv_iinc (v := v7 + 1) (lv' := [(7, .int (v7 + 1)), (6, .int (v6 + r9)), (0, .ref (q 0)), (1, .int v1), (2, .int v2), (3, .int v3), (4, .int v4), (5, .int v5)]) hx hb dX9_way_150 hl (k := 7) rfl rfl (by decide) rfl (fun ls hl => ?_)
              refine lv_goto (tgt := 122) hx hb dX9_way_153 (by decide) ?_
              exact hag122 (u10, v6 + r9, v7 + 1) hf H locs ls w (lv_sub hl [2, 3, 4, 5, 6, 7, 1, 0] rfl)
          exact lp122 _ _ _ hf H locs ls w (lv_sub hl [2, 3, 4, 5, 6, 7, 1, 0] rfl)
        · replace hf := zf_t h hf
          refine lv_goto (tgt := 311) hx hb dX9_way_113 (by decide) ?_
          refine lv_iinc (v := v5 + 1) (lv' := [(5, .int (v5 + 1)), (0, .ref (q 0)), (1, .int v1), (2, .int v2), (3, .int v3), (4, .int v4)]) hx hb dX9_way_311 hl (k := 5) rfl rfl (by decide) rfl (fun ls hl => ?_)
          refine lv_goto (tgt := 96) hx hb dX9_way_314 (by decide) ?_
          exact hag96 (u4, v5 + 1) hf H locs ls w (lv_sub hl [1, 2, 3, 4, 5, 0] rfl)
    exact lp96 _ _ _ _ _ _ hf H locs ls w (lv_sub hl [1, 2, 3, 4, 5, 0] rfl)
  have hj64 : ∀ (u : zs_T) (v1 : Int32) (v2 : Int32) (v3 : Int32) (H : Heap) (locs : List Loc) (ls : Array Slot), zg_W D cs A s (wM q cs u) H locs → lv_has ls 10 [(0, .ref (q 0)), (1, .int v1), (2, .int v2), (3, .int v3)] → fM9_way_j64 N u v1 v2 v3 = some z → W p l e (zg_rm 3) s m args below meth c H locs 0 0 Q (F0 m 64 ls []) := by
    intro u v1 v2 v3 H locs ls w hl hf
    unfold fM9_way_j64 at hf
    refine lv_iconst (v := 1) hx hb dX9_way_64 (by decide) ?_
    refine lv_istore (lv' := [(4, .int 1), (0, .ref (q 0)), (1, .int v1), (2, .int v2), (3, .int v3)]) hx hb dX9_way_65 hl (by decide) rfl (fun ls hl => ?_)
    refine lv_iconst (v := 0) hx hb dX9_way_67 (by decide) ?_
    refine lv_istore (lv' := [(5, .int 0), (4, .int 1), (0, .ref (q 0)), (1, .int v1), (2, .int v2), (3, .int v3)]) hx hb dX9_way_68 hl (by decide) rfl (fun ls hl => ?_)
    have lp70 : ∀ (u : zs_T) (v1 : Int32) (v2 : Int32) (v3 : Int32) (n : Nat) (x : Int32 × Int32), zf_loop (fun ag x => fM9_way_b70 N u v1 v2 v3 (fun v4 v5 => ag (v4, v5)) x.1 x.2) n x = some z → ∀ (H : Heap) (locs : List Loc) (ls : Array Slot), zg_W D cs A s (wM q cs u) H locs → lv_has ls 10 [(0, .ref (q 0)), (1, .int v1), (2, .int v2), (3, .int v3), (4, .int x.1), (5, .int x.2)] → W p l e (zg_rm 3) s m args below meth c H locs 0 0 Q (F0 m 70 ls []) := by
      intro u v1 v2 v3
      refine zf_loop_W (fun x : Int32 × Int32 => ∀ (H : Heap) (locs : List Loc) (ls : Array Slot), zg_W D cs A s (wM q cs u) H locs → lv_has ls 10 [(0, .ref (q 0)), (1, .int v1), (2, .int v2), (3, .int v3), (4, .int x.1), (5, .int x.2)] → W p l e (zg_rm 3) s m args below meth c H locs 0 0 Q (F0 m 70 ls [])) ?_
      intro ag70 x hag70 hf
      obtain ⟨v4, v5⟩ := x
      intro H locs ls w hl
      replace hf : fM9_way_b70 N u v1 v2 v3 (fun v4 v5 => ag70 (v4, v5)) v4 v5 = some z := hf
      replace hl : lv_has ls 10 [(0, .ref (q 0)), (1, .int v1), (2, .int v2), (3, .int v3), (4, .int v4), (5, .int v5)] := hl
      replace w : zg_W D cs A s (wM q cs u) H locs := w
      unfold fM9_way_b70 at hf
      refine lv_iload hx hb dX9_way_70 (lv_at hl 5 rfl) ?_
      refine lv_iload_n hx hb dX9_way_72 rfl (lv_at hl 1 rfl) ?_
      refine lv_icmp_ge (tgt := 88) hx hb dX9_way_73 (by decide) (fun h => ?_) (fun h => ?_)
      · replace hf := zf_t h hf
        exact hj88 _ _ _ _ _ H locs ls w (lv_sub hl [0, 1, 2, 3, 4] rfl) hf
      · replace hf := zf_f h hf
        refine lv_iconst (v := 3) hx hb dX9_way_76 (by decide) ?_
        refine lv_iload hx hb dX9_way_77 (lv_at hl 4 rfl) ?_
        refine lv_imul hx hb dX9_way_79 ?_
        refine lv_istore (lv' := [(4, .int (3 * v4)), (0, .ref (q 0)), (1, .int v1), (2, .int v2), (3, .int v3), (5, .int v5)]) hx hb dX9_way_80 hl (by decide) rfl (fun ls hl => ?_)
        refine lv_iinc (v := v5 + 1) (lv' := [(5, .int (v5 + 1)), (4, .int (3 * v4)), (0, .ref (q 0)), (1, .int v1), (2, .int v2), (3, .int v3)]) hx hb dX9_way_82 hl (k := 5) rfl rfl (by decide) rfl (fun ls hl => ?_)
        refine lv_goto (tgt := 70) hx hb dX9_way_85 (by decide) ?_
        exact hag70 (3 * v4, v5 + 1) hf H locs ls w (lv_sub hl [2, 3, 4, 5, 1, 0] rfl)
    exact lp70 _ _ _ _ _ _ hf H locs ls w (lv_sub hl [2, 3, 4, 5, 1, 0] rfl)
  unfold fM9_way at hf
  refine lv_iload_n hx hb dX9_way_0 rfl (lv_at hl 1 rfl) ?_
  refine lv_iconst (v := 1) hx hb dX9_way_1 (by decide) ?_
  refine lv_icmp_lt (tgt := 23) hx hb dX9_way_2 (by decide) (fun h => ?_) (fun h => ?_)
  · replace hf := zf_t h hf
    refine lv_iconst (v := (-1)) hx hb dX9_way_23 (by decide) ?_
    exact hret _ _ _ _ _ _ hf w dX9_way_24
  · replace hf := zf_f h hf
    refine lv_iload_n hx hb dX9_way_5 rfl (lv_at hl 1 rfl) ?_
    refine lv_bipush (v := 8) hx hb dX9_way_6 (by decide) ?_
    refine lv_icmp_gt (tgt := 23) hx hb dX9_way_8 (by decide) (fun h => ?_) (fun h => ?_)
    · replace hf := zf_t h hf
      refine lv_iconst (v := (-1)) hx hb dX9_way_23 (by decide) ?_
      exact hret _ _ _ _ _ _ hf w dX9_way_24
    · replace hf := zf_f h hf
      refine lv_iload_n hx hb dX9_way_11 rfl (lv_at hl 2 rfl) ?_
      refine lv_bipush (v := (-30)) hx hb dX9_way_12 (by decide) ?_
      refine lv_icmp_lt (tgt := 23) hx hb dX9_way_14 (by decide) (fun h => ?_) (fun h => ?_)
      · replace hf := zf_t h hf
        refine lv_iconst (v := (-1)) hx hb dX9_way_23 (by decide) ?_
        exact hret _ _ _ _ _ _ hf w dX9_way_24
      · replace hf := zf_f h hf
        refine lv_iload_n hx hb dX9_way_17 rfl (lv_at hl 2 rfl) ?_
        refine lv_bipush (v := 40) hx hb dX9_way_18 (by decide) ?_
        refine lv_icmp_le (tgt := 25) hx hb dX9_way_20 (by decide) (fun h => ?_) (fun h => ?_)
        · replace hf := zf_t h hf
          refine lv_aload_n hx hb dX9_way_25 rfl (lv_at hl 0 rfl) ?_
          refine lv_aload_n hx hb dX9_way_26 rfl (lv_at hl 0 rfl) ?_
          refine mg_0_12 C w lf_9_125 dX9_way_27 ?_
          obtain ⟨r1, u2, hc, hf⟩ := zf_bi_ex hf
          refine zc_ri wM_ad w (zc_V C w (kM9_ups l D q cs N _ _ _ hc _) cf_9_ups ci_9_ups lm_9_142 rcM_0 ⟨Nat.le_of_ble_eq_true rfl, Nat.le_of_ble_eq_true rfl⟩ hl.1 rfl (Nat.le_of_ble_eq_true rfl) dX9_way_30 ⟨Nat.le_refl _, Nat.le_refl _⟩) (fun H locs w => ?_)
          refine lv_istore_n (lv' := [(3, .int r1), (0, .ref (q 0)), (1, .int v1), (2, .int v2)]) hx hb dX9_way_33 rfl hl (by decide) rfl (fun ls hl => ?_)
          refine lv_iconst (v := 0) hx hb dX9_way_34 (by decide) ?_
          refine lv_istore (lv' := [(4, .int 0), (3, .int r1), (0, .ref (q 0)), (1, .int v1), (2, .int v2)]) hx hb dX9_way_35 hl (by decide) rfl (fun ls hl => ?_)
          have lp37 : ∀ (v1 : Int32) (v2 : Int32) (v3 : Int32) (n : Nat) (x : zs_T × Int32), zf_loop (fun ag x => fM9_way_b37 N v1 v2 v3 (fun u v4 => ag (u, v4)) x.1 x.2) n x = some z → ∀ (H : Heap) (locs : List Loc) (ls : Array Slot), zg_W D cs A s (wM q cs x.1) H locs → lv_has ls 10 [(0, .ref (q 0)), (1, .int v1), (2, .int v2), (3, .int v3), (4, .int x.2)] → W p l e (zg_rm 3) s m args below meth c H locs 0 0 Q (F0 m 37 ls []) := by
            intro v1 v2 v3
            refine zf_loop_W (fun x : zs_T × Int32 => ∀ (H : Heap) (locs : List Loc) (ls : Array Slot), zg_W D cs A s (wM q cs x.1) H locs → lv_has ls 10 [(0, .ref (q 0)), (1, .int v1), (2, .int v2), (3, .int v3), (4, .int x.2)] → W p l e (zg_rm 3) s m args below meth c H locs 0 0 Q (F0 m 37 ls [])) ?_
            intro ag37 x hag37 hf
            obtain ⟨u, v4⟩ := x
            intro H locs ls w hl
            replace hf : fM9_way_b37 N v1 v2 v3 (fun u v4 => ag37 (u, v4)) u v4 = some z := hf
            replace hl : lv_has ls 10 [(0, .ref (q 0)), (1, .int v1), (2, .int v2), (3, .int v3), (4, .int v4)] := hl
            replace w : zg_W D cs A s (wM q cs u) H locs := w
            unfold fM9_way_b37 at hf
            refine lv_iload hx hb dX9_way_37 (lv_at hl 4 rfl) ?_
            refine lv_bipush (v := 6) hx hb dX9_way_39 (by decide) ?_
            refine lv_icmp_ge (tgt := 64) hx hb dX9_way_41 (by decide) (fun h => ?_) (fun h => ?_)
            · replace hf := zf_t h hf
              exact hj64 _ _ _ _ H locs ls w (lv_sub hl [0, 1, 2, 3] rfl) hf
            · replace hf := zf_f h hf
              refine lv_aload_n hx hb dX9_way_44 rfl (lv_at hl 0 rfl) ?_
              refine mg_0_18 C w lf_9_48 dX9_way_45 ?_
              refine lv_iload hx hb dX9_way_48 (lv_at hl 4 rfl) ?_
              refine lv_aload_n hx hb dX9_way_50 rfl (lv_at hl 0 rfl) ?_
              refine mg_0_14 C w lf_9_39 dX9_way_51 ?_
              refine lv_iload hx hb dX9_way_54 (lv_at hl 4 rfl) ?_
              obtain ⟨hi, hf⟩ := zf_gd hf
              refine ma_3 C w hi dX9_way_56 ?_
              obtain ⟨hi, hf⟩ := zf_gd hf
              refine ms_6 C w hi dX9_way_57 (fun H locs w => ?_)
              refine lv_iinc (v := v4 + 1) (lv' := [(4, .int (v4 + 1)), (0, .ref (q 0)), (1, .int v1), (2, .int v2), (3, .int v3)]) hx hb dX9_way_58 hl (k := 4) rfl rfl (by decide) rfl (fun ls hl => ?_)
              refine lv_goto (tgt := 37) hx hb dX9_way_61 (by decide) ?_
              exact hag37 (zs_sa u 5 (upd (zs_a u 5) v4.toNatClampNeg (zs_a u 2 v4.toNatClampNeg)), v4 + 1) hf H locs ls w (lv_sub hl [1, 2, 3, 4, 0] rfl)
          exact lp37 _ _ _ _ _ hf H locs ls w (lv_sub hl [2, 3, 4, 1, 0] rfl)
        · replace hf := zf_f h hf
          refine lv_iconst (v := (-1)) hx hb dX9_way_23 (by decide) ?_
          exact hret _ _ _ _ _ _ hf w dX9_way_24
def fM9_step (u : zs_T) (v1 : Int32) : Option Int32 :=
  (if v1 < 0 then some (-1) else (if zs_i u 12 ≤ v1 then some (-1) else (if zf_in v1 8 then some (zs_a u 7 v1.toNatClampNeg) else none)))
set_option maxHeartbeats 4000000 in
set_option maxRecDepth 100000 in
theorem kM9_step (l : Launch) (D : va_G) (q : Nat → Nat) (cs : Nat → ClassId) (u : zs_T) (v1 : Int32) (z : Int32) (hf : fM9_step u v1 = some z) : zg_Ci l yX9_step cX9_step 2 (some .int) 0 D cs (wM q cs) u [.ref (q 0), .int v1] z u := by
  refine zg_Ci_of (own := RX9) (by decide) rfl wM_ad (Nat.le_of_ble_eq_true rfl) ?_
  intro p e s m args below meth c A Q C hret w ls hl
  obtain ⟨hx, hb, -⟩ := id C
  have hl : lv_has ls 2 [(0, .ref (q 0)), (1, .int v1)] := hl
  generalize hH : s.heap = H at w ⊢
  generalize hLc : ([] : List Loc) = locs at w ⊢
  unfold fM9_step at hf
  refine lv_iload_n hx hb dX9_step_0 rfl (lv_at hl 1 rfl) ?_
  refine lv_if_lt (tgt := 21) hx hb dX9_step_1 (by decide) (fun h => ?_) (fun h => ?_)
  · replace hf := zf_t h hf
    refine lv_iconst (v := (-1)) hx hb dX9_step_21 (by decide) ?_
    exact hret _ _ _ _ _ _ (zf_pr hf) w dX9_step_22
  · replace hf := zf_f h hf
    refine lv_iload_n hx hb dX9_step_4 rfl (lv_at hl 1 rfl) ?_
    refine lv_aload_n hx hb dX9_step_5 rfl (lv_at hl 0 rfl) ?_
    refine mg_0_21 C w lf_9_168 dX9_step_6 ?_
    refine lv_icmp_ge (tgt := 21) hx hb dX9_step_9 (by decide) (fun h => ?_) (fun h => ?_)
    · replace hf := zf_t h hf
      refine lv_iconst (v := (-1)) hx hb dX9_step_21 (by decide) ?_
      exact hret _ _ _ _ _ _ (zf_pr hf) w dX9_step_22
    · replace hf := zf_f h hf
      refine lv_aload_n hx hb dX9_step_12 rfl (lv_at hl 0 rfl) ?_
      refine mg_0_20 C w lf_9_54 dX9_step_13 ?_
      refine lv_iload_n hx hb dX9_step_16 rfl (lv_at hl 1 rfl) ?_
      obtain ⟨hi, hf⟩ := zf_gd hf
      refine ma_8 C w hi dX9_step_17 ?_
      refine lv_goto (tgt := 22) hx hb dX9_step_18 (by decide) ?_
      exact hret _ _ _ _ _ _ (zf_pr hf) w dX9_step_22
def fM9_sheep (u : zs_T) (v1 : Int32) : Option (Int32 × zs_T) :=
  (if v1 < 0 then some ((-1), u) else (if 12 ≤ v1 then some ((-1), u) else (if zs_i u 15 = 80 then some ((-1), u) else (if zs_i u 16 ≤ 0 then (if zf_in (zs_i u 15) 80 then (if zf_in (zs_i (zs_sa u 8 (upd (zs_a u 8) (zs_i u 15).toNatClampNeg v1)) 15) 80 then (if zf_in (zs_i (zs_sa (zs_sa u 8 (upd (zs_a u 8) (zs_i u 15).toNatClampNeg v1)) 9 (upd (zs_a (zs_sa u 8 (upd (zs_a u 8) (zs_i u 15).toNatClampNeg v1)) 9) (zs_i (zs_sa u 8 (upd (zs_a u 8) (zs_i u 15).toNatClampNeg v1)) 15).toNatClampNeg 0)) 15) 80 then some ((zs_i (zs_si (zs_sa (zs_sa (zs_sa u 8 (upd (zs_a u 8) (zs_i u 15).toNatClampNeg v1)) 9 (upd (zs_a (zs_sa u 8 (upd (zs_a u 8) (zs_i u 15).toNatClampNeg v1)) 9) (zs_i (zs_sa u 8 (upd (zs_a u 8) (zs_i u 15).toNatClampNeg v1)) 15).toNatClampNeg 0)) 10 (upd (zs_a (zs_sa (zs_sa u 8 (upd (zs_a u 8) (zs_i u 15).toNatClampNeg v1)) 9 (upd (zs_a (zs_sa u 8 (upd (zs_a u 8) (zs_i u 15).toNatClampNeg v1)) 9) (zs_i (zs_sa u 8 (upd (zs_a u 8) (zs_i u 15).toNatClampNeg v1)) 15).toNatClampNeg 0)) 10) (zs_i (zs_sa (zs_sa u 8 (upd (zs_a u 8) (zs_i u 15).toNatClampNeg v1)) 9 (upd (zs_a (zs_sa u 8 (upd (zs_a u 8) (zs_i u 15).toNatClampNeg v1)) 9) (zs_i (zs_sa u 8 (upd (zs_a u 8) (zs_i u 15).toNatClampNeg v1)) 15).toNatClampNeg 0)) 15).toNatClampNeg 0)) 15 ((zs_i (zs_sa (zs_sa (zs_sa u 8 (upd (zs_a u 8) (zs_i u 15).toNatClampNeg v1)) 9 (upd (zs_a (zs_sa u 8 (upd (zs_a u 8) (zs_i u 15).toNatClampNeg v1)) 9) (zs_i (zs_sa u 8 (upd (zs_a u 8) (zs_i u 15).toNatClampNeg v1)) 15).toNatClampNeg 0)) 10 (upd (zs_a (zs_sa (zs_sa u 8 (upd (zs_a u 8) (zs_i u 15).toNatClampNeg v1)) 9 (upd (zs_a (zs_sa u 8 (upd (zs_a u 8) (zs_i u 15).toNatClampNeg v1)) 9) (zs_i (zs_sa u 8 (upd (zs_a u 8) (zs_i u 15).toNatClampNeg v1)) 15).toNatClampNeg 0)) 10) (zs_i (zs_sa (zs_sa u 8 (upd (zs_a u 8) (zs_i u 15).toNatClampNeg v1)) 9 (upd (zs_a (zs_sa u 8 (upd (zs_a u 8) (zs_i u 15).toNatClampNeg v1)) 9) (zs_i (zs_sa u 8 (upd (zs_a u 8) (zs_i u 15).toNatClampNeg v1)) 15).toNatClampNeg 0)) 15).toNatClampNeg 0)) 15) + 1)) 15) - 1, zs_si (zs_sa (zs_sa (zs_sa u 8 (upd (zs_a u 8) (zs_i u 15).toNatClampNeg v1)) 9 (upd (zs_a (zs_sa u 8 (upd (zs_a u 8) (zs_i u 15).toNatClampNeg v1)) 9) (zs_i (zs_sa u 8 (upd (zs_a u 8) (zs_i u 15).toNatClampNeg v1)) 15).toNatClampNeg 0)) 10 (upd (zs_a (zs_sa (zs_sa u 8 (upd (zs_a u 8) (zs_i u 15).toNatClampNeg v1)) 9 (upd (zs_a (zs_sa u 8 (upd (zs_a u 8) (zs_i u 15).toNatClampNeg v1)) 9) (zs_i (zs_sa u 8 (upd (zs_a u 8) (zs_i u 15).toNatClampNeg v1)) 15).toNatClampNeg 0)) 10) (zs_i (zs_sa (zs_sa u 8 (upd (zs_a u 8) (zs_i u 15).toNatClampNeg v1)) 9 (upd (zs_a (zs_sa u 8 (upd (zs_a u 8) (zs_i u 15).toNatClampNeg v1)) 9) (zs_i (zs_sa u 8 (upd (zs_a u 8) (zs_i u 15).toNatClampNeg v1)) 15).toNatClampNeg 0)) 15).toNatClampNeg 0)) 15 ((zs_i (zs_sa (zs_sa (zs_sa u 8 (upd (zs_a u 8) (zs_i u 15).toNatClampNeg v1)) 9 (upd (zs_a (zs_sa u 8 (upd (zs_a u 8) (zs_i u 15).toNatClampNeg v1)) 9) (zs_i (zs_sa u 8 (upd (zs_a u 8) (zs_i u 15).toNatClampNeg v1)) 15).toNatClampNeg 0)) 10 (upd (zs_a (zs_sa (zs_sa u 8 (upd (zs_a u 8) (zs_i u 15).toNatClampNeg v1)) 9 (upd (zs_a (zs_sa u 8 (upd (zs_a u 8) (zs_i u 15).toNatClampNeg v1)) 9) (zs_i (zs_sa u 8 (upd (zs_a u 8) (zs_i u 15).toNatClampNeg v1)) 15).toNatClampNeg 0)) 10) (zs_i (zs_sa (zs_sa u 8 (upd (zs_a u 8) (zs_i u 15).toNatClampNeg v1)) 9 (upd (zs_a (zs_sa u 8 (upd (zs_a u 8) (zs_i u 15).toNatClampNeg v1)) 9) (zs_i (zs_sa u 8 (upd (zs_a u 8) (zs_i u 15).toNatClampNeg v1)) 15).toNatClampNeg 0)) 15).toNatClampNeg 0)) 15) + 1)) else none) else none) else none) else some ((-1), u)))))
set_option maxHeartbeats 4000000 in
set_option maxRecDepth 100000 in
theorem kM9_sheep (l : Launch) (D : va_G) (q : Nat → Nat) (cs : Nat → ClassId) (u : zs_T) (v1 : Int32) (z : (Int32 × zs_T)) (hf : fM9_sheep u v1 = some z) : zg_Ci l yX9_sheep cX9_sheep 2 (some .int) 0 D cs (wM q cs) u [.ref (q 0), .int v1] z.1 z.2 := by
  refine zg_Ci_of (own := RX9) (by decide) rfl wM_ad (Nat.le_of_ble_eq_true rfl) ?_
  intro p e s m args below meth c A Q C hret w ls hl
  obtain ⟨hx, hb, -⟩ := id C
  have hl : lv_has ls 2 [(0, .ref (q 0)), (1, .int v1)] := hl
  generalize hH : s.heap = H at w ⊢
  generalize hLc : ([] : List Loc) = locs at w ⊢
  unfold fM9_sheep at hf
  refine lv_iload_n hx hb dX9_sheep_0 rfl (lv_at hl 1 rfl) ?_
  refine lv_if_lt (tgt := 26) hx hb dX9_sheep_1 (by decide) (fun h => ?_) (fun h => ?_)
  · replace hf := zf_t h hf
    refine lv_iconst (v := (-1)) hx hb dX9_sheep_26 (by decide) ?_
    exact hret _ _ _ _ _ _ hf w dX9_sheep_27
  · replace hf := zf_f h hf
    refine lv_iload_n hx hb dX9_sheep_4 rfl (lv_at hl 1 rfl) ?_
    refine lv_bipush (v := 12) hx hb dX9_sheep_5 (by decide) ?_
    refine lv_icmp_ge (tgt := 26) hx hb dX9_sheep_7 (by decide) (fun h => ?_) (fun h => ?_)
    · replace hf := zf_t h hf
      refine lv_iconst (v := (-1)) hx hb dX9_sheep_26 (by decide) ?_
      exact hret _ _ _ _ _ _ hf w dX9_sheep_27
    · replace hf := zf_f h hf
      refine lv_aload_n hx hb dX9_sheep_10 rfl (lv_at hl 0 rfl) ?_
      refine mg_0_24 C w lf_9_171 dX9_sheep_11 ?_
      refine lv_bipush (v := 80) hx hb dX9_sheep_14 (by decide) ?_
      refine lv_icmp_eq (tgt := 26) hx hb dX9_sheep_16 (by decide) (fun h => ?_) (fun h => ?_)
      · replace hf := zf_t h hf
        refine lv_iconst (v := (-1)) hx hb dX9_sheep_26 (by decide) ?_
        exact hret _ _ _ _ _ _ hf w dX9_sheep_27
      · replace hf := zf_f h hf
        refine lv_aload_n hx hb dX9_sheep_19 rfl (lv_at hl 0 rfl) ?_
        refine mg_0_25 C w lf_9_128 dX9_sheep_20 ?_
        refine lv_if_le (tgt := 28) hx hb dX9_sheep_23 (by decide) (fun h => ?_) (fun h => ?_)
        · replace hf := zf_t h hf
          refine lv_aload_n hx hb dX9_sheep_28 rfl (lv_at hl 0 rfl) ?_
          refine mg_0_27 C w lf_9_60 dX9_sheep_29 ?_
          refine lv_aload_n hx hb dX9_sheep_32 rfl (lv_at hl 0 rfl) ?_
          refine mg_0_24 C w lf_9_171 dX9_sheep_33 ?_
          refine lv_iload_n hx hb dX9_sheep_36 rfl (lv_at hl 1 rfl) ?_
          obtain ⟨hi, hf⟩ := zf_gd hf
          refine ms_9 C w hi dX9_sheep_37 (fun H locs w => ?_)
          refine lv_aload_n hx hb dX9_sheep_38 rfl (lv_at hl 0 rfl) ?_
          refine mg_0_28 C w lf_9_63 dX9_sheep_39 ?_
          refine lv_aload_n hx hb dX9_sheep_42 rfl (lv_at hl 0 rfl) ?_
          refine mg_0_24 C w lf_9_171 dX9_sheep_43 ?_
          refine lv_iconst (v := 0) hx hb dX9_sheep_46 (by decide) ?_
          obtain ⟨hi, hf⟩ := zf_gd hf
          refine ms_10 C w hi dX9_sheep_47 (fun H locs w => ?_)
          refine lv_aload_n hx hb dX9_sheep_48 rfl (lv_at hl 0 rfl) ?_
          refine mg_0_29 C w lf_9_66 dX9_sheep_49 ?_
          refine lv_aload_n hx hb dX9_sheep_52 rfl (lv_at hl 0 rfl) ?_
          refine mg_0_24 C w lf_9_171 dX9_sheep_53 ?_
          refine lv_iconst (v := 0) hx hb dX9_sheep_56 (by decide) ?_
          obtain ⟨hi, hf⟩ := zf_gd hf
          refine ms_11 C w hi (by rfl) dX9_sheep_57 (fun H locs w => ?_)
          refine lv_aload_n hx hb dX9_sheep_58 rfl (lv_at hl 0 rfl) ?_
          refine lv_aload_n hx hb dX9_sheep_59 rfl (lv_at hl 0 rfl) ?_
          refine mg_0_24 C w lf_9_171 dX9_sheep_60 ?_
          refine lv_iconst (v := 1) hx hb dX9_sheep_63 (by decide) ?_
          refine lv_iadd hx hb dX9_sheep_64 ?_
          refine mp_0_24 C w lf_9_171 dX9_sheep_65 (fun H locs w => ?_)
          refine lv_aload_n hx hb dX9_sheep_68 rfl (lv_at hl 0 rfl) ?_
          refine mg_0_24 C w lf_9_171 dX9_sheep_69 ?_
          refine lv_iconst (v := 1) hx hb dX9_sheep_72 (by decide) ?_
          refine lv_isub hx hb dX9_sheep_73 ?_
          exact hret _ _ _ _ _ _ hf w dX9_sheep_74
        · replace hf := zf_f h hf
          refine lv_iconst (v := (-1)) hx hb dX9_sheep_26 (by decide) ?_
          exact hret _ _ _ _ _ _ hf w dX9_sheep_27
def fM9_isSheep (u : zs_T) (v1 : Int32) : Option Int32 :=
  (if v1 < 0 then some 0 else (if zs_i u 15 ≤ v1 then some 0 else some 1))
set_option maxHeartbeats 4000000 in
set_option maxRecDepth 100000 in
theorem kM9_isSheep (l : Launch) (D : va_G) (q : Nat → Nat) (cs : Nat → ClassId) (u : zs_T) (v1 : Int32) (z : Int32) (hf : fM9_isSheep u v1 = some z) : zg_Ci l yX9_isSheep cX9_isSheep 2 (some .boolean) 0 D cs (wM q cs) u [.ref (q 0), .int v1] z u := by
  refine zg_Cz_of (own := RX9) (by decide) rfl wM_ad (Nat.le_of_ble_eq_true rfl) ?_
  intro p e s m args below meth c A Q C hret w ls hl
  obtain ⟨hx, hb, -⟩ := id C
  have hl : lv_has ls 2 [(0, .ref (q 0)), (1, .int v1)] := hl
  generalize hH : s.heap = H at w ⊢
  generalize hLc : ([] : List Loc) = locs at w ⊢
  unfold fM9_isSheep at hf
  refine lv_iload_n hx hb dX9_isSheep_0 rfl (lv_at hl 1 rfl) ?_
  refine lv_if_lt (tgt := 16) hx hb dX9_isSheep_1 (by decide) (fun h => ?_) (fun h => ?_)
  · replace hf := zf_t h hf
    refine lv_iconst (v := 0) hx hb dX9_isSheep_16 (by decide) ?_
    exact hret _ _ _ _ _ _ (by rfl) (zf_pr hf) w dX9_isSheep_17
  · replace hf := zf_f h hf
    refine lv_iload_n hx hb dX9_isSheep_4 rfl (lv_at hl 1 rfl) ?_
    refine lv_aload_n hx hb dX9_isSheep_5 rfl (lv_at hl 0 rfl) ?_
    refine mg_0_24 C w lf_9_171 dX9_isSheep_6 ?_
    refine lv_icmp_ge (tgt := 16) hx hb dX9_isSheep_9 (by decide) (fun h => ?_) (fun h => ?_)
    · replace hf := zf_t h hf
      refine lv_iconst (v := 0) hx hb dX9_isSheep_16 (by decide) ?_
      exact hret _ _ _ _ _ _ (by rfl) (zf_pr hf) w dX9_isSheep_17
    · replace hf := zf_f h hf
      refine lv_iconst (v := 1) hx hb dX9_isSheep_12 (by decide) ?_
      refine lv_goto (tgt := 17) hx hb dX9_isSheep_13 (by decide) ?_
      exact hret _ _ _ _ _ _ (by rfl) (zf_pr hf) w dX9_isSheep_17
