set_option maxHeartbeats 8000000 in
set_option maxRecDepth 100000 in
theorem law_start {p : Program} {e : Env} {s : State} {m : MethodId} {below : List Frame} {meth : Method} {c : Code} (l : Launch) {b L : Nat} {xs : Nat → Int32} (hL : L ≤ 3072) (C0 : lw_At p s m meth c b L xs) {N : Nat} {I : Nat → zs_T → zs_T → Prop} (hall : zl_all N I) (hmono : ∀ k x m, I k x m → I (k + 1) x m) (zb : zs_T) (hzb : fXb5_init (zs_0) = some zb) (zp : zs_T) (hzp : fXp2_init (ku_2) = some zp) (zg : zs_T) (hzg : fXg1_init N (zs_0) = some zg) (z9 : zs_T) (hz9 : fM9_init N (ku_9) = some z9) (hI0 : I 0 (xs_0 zb zp zg) z9) : W p l e room_1 s m #[Value.ref b] below meth c s.heap [] 0 0 (lw_Z below #[Value.ref b] s) (entryFrame m ([Value.ref b] : List Value).toArray 4) := by
  obtain ⟨hx, hb, hr, hml, hown, hts, hX, hbl, hlocks, hgv⟩ := id C0
  have C : CallFix p m c cL_law 4 s #[Value.ref b] (Cond.initialized "FlockPass" :: zw_all) RL := ⟨hx, hb, hml, hown, fun w hw => by
    rcases List.mem_cons.mp hw with h | h
    · rw [h]; exact hts _ (List.mem_of_getElem? (i := 36) (by decide +kernel))
    · exact hts w (zw_tbl w h)⟩
  have hA : ∀ q : Nat, s.heap.size ≤ q → (fun q : Nat => s.heap.size ≤ q) q := fun _ h => h
  have hbA : ¬ (fun q : Nat => s.heap.size ≤ q) b := Nat.not_le.mpr hbl
  obtain ⟨c0, iS0, hKn0⟩ := u_known (C := RX0) (T := TX0) (N := 3) (n := 3) hts (fun w h => zw_tbl w (inz0 w h)) (hts (.instantiable RX0 3) (List.mem_of_getElem? (i := 272) (by decide +kernel)))
  obtain ⟨c1, iS1, hKn1⟩ := u_known (C := RX1) (T := TX1) (N := 7) (n := 7) hts (fun w h => zw_tbl w (inz1 w h)) (hts (.instantiable RX1 7) (List.mem_of_getElem? (i := 291) (by decide +kernel)))
  obtain ⟨c2, iS2, hKn2⟩ := u_known (C := RX2) (T := TX2) (N := 8) (n := 8) hts (fun w h => zw_tbl w (inz2 w h)) (hts (.instantiable RX2 8) (List.mem_of_getElem? (i := 92) (by decide +kernel)))
  obtain ⟨c3, iS3, hKn3⟩ := u_known (C := RX3) (T := TX3) (N := 10) (n := 10) hts (fun w h => zw_tbl w (inz3 w h)) (hts (.instantiable RX3 10) (List.mem_of_getElem? (i := 142) (by decide +kernel)))
  obtain ⟨c4, iS4, hKn4⟩ := u_known (C := RX4) (T := TX4) (N := 9) (n := 9) hts (fun w h => zw_tbl w (inz4 w h)) (hts (.instantiable RX4 9) (List.mem_of_getElem? (i := 181) (by decide +kernel)))
  obtain ⟨c5, iS5, hKn5⟩ := u_known (C := RX5) (T := TX5) (N := 2) (n := 2) hts (fun w h => zw_tbl w (inz5 w h)) (hts (.instantiable RX5 2) (List.mem_of_getElem? (i := 74) (by decide +kernel)))
  obtain ⟨c6, iS6, hKn6⟩ := u_known (C := RX6) (T := TX6) (N := 2) (n := 2) hts (fun w h => zw_tbl w (inz6 w h)) (hts (.instantiable RX6 2) (List.mem_of_getElem? (i := 58) (by decide +kernel)))
  obtain ⟨c7, iS7, hKn7⟩ := u_known (C := RX7) (T := TX7) (N := 6) (n := 6) hts (fun w h => zw_tbl w (inz7 w h)) (hts (.instantiable RX7 6) (List.mem_of_getElem? (i := 234) (by decide +kernel)))
  obtain ⟨c8, iS8, hKn8⟩ := u_known (C := RX8) (T := TX8) (N := 10) (n := 10) hts (fun w h => zw_tbl w (inz8 w h)) (hts (.instantiable RX8 10) (List.mem_of_getElem? (i := 50) (by decide +kernel)))
  obtain ⟨c9, iS9, hKn9⟩ := u_known (C := RX9) (T := TX9) (N := 45) (n := 45) hts (fun w h => zw_tbl w (inz9 w h)) (hts (.instantiable RX9 45) (List.mem_of_getElem? (i := 658) (by decide +kernel)))
  obtain ⟨dC, dI, hKc⟩ : ∃ (dC : Nat → ClassId) (dI : Nat → Nat → Nat), ∀ (k : Nat) (q : vw_C), vwCl[k]? = some q → u_Kn s q.1 q.2.1 q.2.2 (dC k) (dI k) := by
    refine ⟨fun k => if k = 0 then c0 else if k = 1 then c1 else if k = 2 then c2 else if k = 3 then c3 else if k = 4 then c4 else if k = 5 then c5 else if k = 6 then c6 else if k = 7 then c7 else if k = 8 then c8 else c9, fun k => if k = 0 then iS0 else if k = 1 then iS1 else if k = 2 then iS2 else if k = 3 then iS3 else if k = 4 then iS4 else if k = 5 then iS5 else if k = 6 then iS6 else if k = 7 then iS7 else if k = 8 then iS8 else iS9, ?_⟩
    intro k q hq
    match k, hq with
    | 0, hq => cases hq; exact hKn0
    | 1, hq => cases hq; exact hKn1
    | 2, hq => cases hq; exact hKn2
    | 3, hq => cases hq; exact hKn3
    | 4, hq => cases hq; exact hKn4
    | 5, hq => cases hq; exact hKn5
    | 6, hq => cases hq; exact hKn6
    | 7, hq => cases hq; exact hKn7
    | 8, hq => cases hq; exact hKn8
    | 9, hq => cases hq; exact hKn9
    | k + 10, hq => simp [vwCl] at hq
  obtain ⟨g0, gk0, gc0, gf0, gl0, gd0⟩ := Cond.arrayClass_spec (hts (.arrayClass .int) (List.mem_of_getElem? (i := 72) (by decide +kernel)))
  obtain ⟨g1, gk1, gc1, gf1, gl1, gd1⟩ := Cond.arrayClass_spec (hts (.arrayClass .long) (List.mem_of_getElem? (i := 323) (by decide +kernel)))
  obtain ⟨g2, gk2, gc2, gf2, gl2, gd2⟩ := Cond.arrayClass_spec (hts (.arrayClass .boolean) (List.mem_of_getElem? (i := 232) (by decide +kernel)))
  obtain ⟨g3, gk3, gc3, gf3, gl3, gd3⟩ := Cond.arrayClass_spec (hts (.arrayClass .byte) (List.mem_of_getElem? (i := 799) (by decide +kernel)))
  obtain ⟨cs, hK⟩ : ∃ cs : Nat → ClassId, va_K (dC, dI) vwCl (zg_ty cs) s := by
    refine ⟨fun k => if k = 0 then g0 else if k = 1 then g1 else if k = 2 then g2 else g3, hKc, ?_⟩
    intro k q hq
    match k, hq with
    | 0, hq => cases hq; exact ⟨fun n z => ⟨fun k h => (by cases h), gk0, gl0, gc0, gd0⟩, gf0⟩
    | 1, hq => cases hq; exact ⟨fun n z => ⟨fun k h => (by cases h), gk1, gl1, gc1, gd1⟩, gf1⟩
    | 2, hq => cases hq; exact ⟨fun n z => ⟨fun k h => (by cases h), gk2, gl2, gc2, gd2⟩, gf2⟩
    | 3, hq => cases hq; exact ⟨fun n z => ⟨fun k h => (by cases h), gk3, gl3, gc3, gd3⟩, gf3⟩
    | k + 4, hq => simp [zg_ty] at hq
  have hN : zg_N s := by
    intro q hq
    have hm : Cond.methodLinkNest q.1 q.2.1 q.2.2.1 q.2.2.2 ∈ lw_tbl := by
      have key : ∀ q ∈ zn_all, Cond.methodLinkNest q.1 q.2.1 q.2.2.1 q.2.2.2 ∈ lw_tbl := by decide +kernel
      exact key q hq
    exact va_Nw.of rfl (hts _ hm)
  have w : zg_W (dC, dI) cs (fun q : Nat => s.heap.size ≤ q) s [] s.heap [] := ⟨fun k q h => by simp at h, ⟨fun i j p q h => by simp at h, fun k q h => by simp at h⟩, va_S.rf, hK, hN, hA⟩
  have hl := lv_entry ([.ref b]) (n := 4) (Nat.le_of_ble_eq_true rfl)
  rw [lg_entry_eq]
  generalize (lg_sl ([.ref b]) ++ List.replicate (4 - (lg_sl ([.ref b])).length) Slot.unset).toArray = ls at hl ⊢
  replace hl : lv_has ls 4 [(0, .ref b)] := hl
  refine zk_new (ci := 8) (fs := [.null, .null, .null, .null, .null, .null, .null, .null, .int 0, .int 0]) C w rfl inz8 tyX8 tyX8_ok ln_L_8.1 ln_L_8.2.1 ln_L_8.2.2 lb_8 ⟨Nat.le_of_ble_eq_true rfl, Nat.le_of_ble_eq_true rfl⟩ dL_law_0 (fun b1 H w => ?_)
  refine lv_dup hx hb dL_law_3 rfl ?_
  refine zk_I (ws := []) C w (kc8 l (dC, dI) cs b1 N zb hzb zp hzp zg hzg) cf_8_init ci_8_init ll_i8 rfl ⟨Nat.le_of_ble_eq_true rfl, Nat.le_of_ble_eq_true rfl⟩ hl.1 (Nat.le_of_ble_eq_true rfl) dL_law_4 ⟨Nat.le_of_ble_eq_true rfl, Nat.le_of_ble_eq_true rfl⟩ (fun qx H locs hq w => ?_)
  rw [← hq]
  replace w : zg_W (dC, dI) cs (fun q : Nat => s.heap.size ≤ q) s (wX qx cs (xs_0 zb zp zg)) H locs := w
  refine lv_astore_n (lv' := [(1, .ref (qx 0)), (0, .ref b)]) hx hb dL_law_7 rfl hl (by decide) rfl (fun ls hl => ?_)
  refine zk_new (ci := 9) (fs := [.null, .int 0, .int 0, .int 0, .int 0, .int 0, .int 0, .null, .int 0, .int 0, .int 0, .int 0, .int 0, .int 0, .null, .null, .null, .long 0, .null, .null, .null, .int 0, .int 0, .int 0, .int 0, .int 0, .int 0, .null, .null, .null, .null, .null, .null, .null, .int 0, .int 0, .int 0, .null, .null, .null, .null, .null, .null, .null, .long 0]) C w rfl inz9 tyX9 tyX9_ok ln_L_9.1 ln_L_9.2.1 ln_L_9.2.2 lb_9 ⟨Nat.le_of_ble_eq_true rfl, Nat.le_of_ble_eq_true rfl⟩ dL_law_8 (fun b2 H w => ?_)
  refine lv_dup hx hb dL_law_11 rfl ?_
  refine zk_I C w (kc9 l (dC, dI) cs b2 N z9 hz9) cf_9_init ci_9_init ll_i9 rfl ⟨Nat.le_of_ble_eq_true rfl, Nat.le_of_ble_eq_true rfl⟩ hl.1 (Nat.le_of_ble_eq_true rfl) dL_law_12 ⟨Nat.le_of_ble_eq_true rfl, Nat.le_of_ble_eq_true rfl⟩ (fun qm H locs hq2 w => ?_)
  rw [← hq2]
  refine lv_astore_n (lv' := [(2, .ref (qm 0)), (1, .ref (qx 0)), (0, .ref b)]) hx hb dL_law_15 rfl hl (by decide) rfl (fun ls hl => ?_)
  refine lv_iconst (v := 0) hx hb dL_law_16 (by decide) ?_
  refine lv_istore_n (lv' := [(3, .int 0), (2, .ref (qm 0)), (1, .ref (qx 0)), (0, .ref b)]) hx hb dL_law_17 rfl hl (by decide) rfl (fun ls hl => ?_)
  exact law_loop l hL C0 C hall hmono hbA (fun _ h => h) 513 0 (by omega) (by omega) _ _ hI0 H locs ls w (lv_sub hl [3, 2, 1, 0] rfl)
