/-! the class's search -/
def wP (n H W : Nat) (Mo : Nat → Nat) (C : Nat → Int32) (w : Int32) (u : zs_T) : Prop := zs_i u 7 = nI n ∧ zs_i u 8 = nI H ∧ zs_i u 9 = nI W ∧ (∀ j, j < H → zs_a u 9 j = nI (Mo j)) ∧ ∀ j, j < H → zs_a u 10 j = gv (C j) w j
theorem wP.ag {n H W : Nat} {Mo : Nat → Nat} {C : Nat → Int32} {w : Int32} {u v : zs_T} (h : wP n H W Mo C w u) (ha : zg_ag [10, 11] [] [6, 7, 8] [] u v) : wP n H W Mo C w v := by
  unfold wP
  rw [ha.1 7 (by decide), ha.1 8 (by decide), ha.1 9 (by decide), ha.2.2.1 9 (by decide), ha.2.2.1 10 (by decide)]
  exact h
theorem w_pdl {N n H W d h : Nat} {R Mo : Nat → Nat} {C : Nat → Int32} {w : Int32} (hs : gs H R Mo C) (hw : -30 ≤ w.toInt ∧ w.toInt ≤ 40) (hd : d ≤ 7) : ∀ (r i f : Nat) (u : zs_T), i + r = H → r < f → wP n H W Mo C w u → (∀ j, j < H → zs_a u 8 (d * 6 + j) = nI (R j)) → (∀ j, j < i → zs_a u 8 (d * 6 + 6 + j) = nI (gR R Mo C w j)) → ∃ u', zf_loop (fun ag x => fX3_passDay_b14 N (nI h) (nI (d * 6)) (nI (d * 6 + 6)) (fun u v5 => ag (u, v5)) x.1 x.2) f (u, nI i) = fX3_passDay_j65 N u' (nI h) (nI (d * 6 + 6)) ∧ zg_ag [] [] [8] [] u u' ∧ (∀ i, i < d * 6 + 6 → zs_a u' 8 i = zs_a u 8 i) ∧ ∀ j, j < H → zs_a u' 8 (d * 6 + 6 + j) = nI (gR R Mo C w j) := by
  have hH := hs.1
  intro r
  induction r with
  | zero =>
    intro i f u hi hf hP hR hG
    obtain ⟨f, rfl⟩ : ∃ f', f = f' + 1 := ⟨f - 1, by omega⟩
    obtain rfl : i = H := by omega
    rw [zf_loop_s]
    refine ⟨u, ?_, zg_ag.rf, fun _ _ => rfl, hG⟩
    show fX3_passDay_b14 N (nI h) (nI (d * 6)) (nI (d * 6 + 6)) _ u (nI i) = _
    unfold fX3_passDay_b14
    rw [hP.2.1, if_pos (nI_le (by omega) (by omega))]
  | succ r ih =>
    intro i f u hi hf hP hR hG
    obtain ⟨f, rfl⟩ : ∃ f', f = f' + 1 := ⟨f - 1, by omega⟩
    rw [zf_loop_s]
    obtain ⟨AG, hAG⟩ : ∃ A : zs_T → Int32 → Option (Int32 × zs_T), A = fun u v5 => zf_loop (fun ag x => fX3_passDay_b14 N (nI h) (nI (d * 6)) (nI (d * 6 + 6)) (fun u v5 => ag (u, v5)) x.1 x.2) f (u, v5) := ⟨_, rfl⟩
    show ∃ u', fX3_passDay_b14 N (nI h) (nI (d * 6)) (nI (d * 6 + 6)) (fun u v5 => zf_loop (fun ag x => fX3_passDay_b14 N (nI h) (nI (d * 6)) (nI (d * 6 + 6)) (fun u v5 => ag (u, v5)) x.1 x.2) f (u, v5)) u (nI i) = _ ∧ _
    rw [← hAG]
    have hz : zf_in (nI i) 6 = true := pz_in (by omega) (by decide)
    have hz1 : zf_in (nI (d * 6 + i)) 54 = true := pz_in (by omega) (by decide)
    have hz2 : zf_in (nI (d * 6 + 6 + i)) 54 = true := pz_in (by omega) (by decide)
    unfold fX3_passDay_b14
    rw [hP.2.1, if_neg (nI_ge (by omega) (by omega)), nI_add, nI_add, if_pos hz1, if_pos hz, if_pos hz, pz_cl (show d * 6 + i < 2 ^ 31 by omega), pz_cl (show d * 6 + 6 + i < 2 ^ 31 by omega), pz_cl (show i < 2 ^ 31 by omega), hR i (by omega), hP.2.2.2.1 i (by omega), hP.2.2.2.2 i (by omega), gr_X (hs.2.1 i (by omega)) (hs.2.2.1 i (by omega)) (gv_le (hs.2.2.2 i (by omega)) hw (by omega)), zf_bp_s, if_pos hz2, pz_succ]
    obtain ⟨u', b1, b2, b3, b4⟩ := ih (i + 1) f (zs_sa u 8 (upd (zs_a u 8) (d * 6 + 6 + i) (nI (gr (R i) (Mo i) (qm (gv (C i) w i)))))) (by omega) (by omega) (hP.ag (zg_ag.rf.sa (by decide))) (fun j hj => by
      show upd (zs_a u 8) _ _ (d * 6 + j) = _
      rw [pz_upd, if_neg (by omega)]; exact hR j hj) (fun j hj => by
      show upd (zs_a u 8) _ _ (d * 6 + 6 + j) = _
      rw [pz_upd]
      by_cases q : j = i
      · rw [if_pos (by omega), q]; rfl
      · rw [if_neg (by omega)]; exact hG j (by omega))
    refine ⟨u', by rw [hAG]; exact b1, (zg_ag.rf.sa (by decide)).tr b2, fun j hj => ?_, b4⟩
    rw [b3 j hj]
    show upd (zs_a u 8) _ _ j = _
    rw [pz_upd, if_neg (by omega)]
theorem w_min {a b : Nat} (ha : a < 2 ^ 31) (hb : b < 2 ^ 31) : zr_imin (nI a) (nI b) = nI (min a b) := by
  unfold zr_imin
  by_cases p : b < a
  · rw [if_pos (nI_lt p ha), Nat.min_eq_right (by omega)]
  · rw [if_neg (nI_nlt (by omega) (by omega)), Nat.min_eq_left (by omega)]
theorem w_pd {N n H W d h : Nat} {R Mo : Nat → Nat} {C : Nat → Int32} {w : Int32} {u : zs_T} (hN : 200 ≤ N) (hs : gs H R Mo C) (hw : -30 ≤ w.toInt ∧ w.toInt ≤ 40) (hd : d ≤ 7) (hh : h < H) (hW : W ≤ 800) (hP : wP n H W Mo C w u) (hR : ∀ j, j < H → zs_a u 8 (d * 6 + j) = nI (R j)) : ∃ u', fX3_passDay N u (nI d) (nI h) = some (nI (wL Mo C w W R h), u') ∧ zg_ag [] [] [8] [] u u' ∧ (∀ i, i < d * 6 + 6 → zs_a u' 8 i = zs_a u 8 i) ∧ ∀ j, j < H → zs_a u' 8 (d * 6 + 6 + j) = nI (wR Mo C w W R h j) := by
  have hH := hs.1
  obtain ⟨u1, b1, b2, b3, b4⟩ := w_pdl (N := N) (h := h) hs hw hd H 0 N u (by omega) (by omega) hP hR (fun j hj => by omega)
  have e0 : nI d * 6 = nI (d * 6) := pk_mul d 6
  have b1' : fX3_passDay N u (nI d) (nI h) = fX3_passDay_j65 N u1 (nI h) (nI (d * 6 + 6)) := by
    unfold fX3_passDay
    rw [e0, show nI (d * 6) + 6 = nI (d * 6 + 6) from nI_add _ 6]
    exact b1
  have hg := (gs_R hs w).2.1 h hh
  have hz : zf_in (nI (d * 6 + 6 + h)) 54 = true := pz_in (by omega) (by decide)
  have i9 : zs_i u1 9 = nI W := (b2.1 9 (by decide)).trans hP.2.2.1
  refine ⟨zs_sa u1 8 (upd (zs_a u1 8) (d * 6 + 6 + h) (nI (gR R Mo C w h - min W (gR R Mo C w h)))), ?_, b2.sa (by decide), fun i hi => ?_, fun j hj => ?_⟩
  · rw [b1']
    unfold fX3_passDay_j65
    rw [nI_add, if_pos hz, if_pos hz, if_pos hz, pz_cl (show d * 6 + 6 + h < 2 ^ 31 by omega), b4 h hh, i9, w_min (by omega) (by omega), pk_sub (Nat.min_le_right _ _), show ∀ f, zs_i (zs_sa u1 8 f) 9 = nI W from fun _ => i9, pk_sub (Nat.min_le_left _ _)]
    rfl
  · show upd (zs_a u1 8) _ _ i = _
    rw [pz_upd, if_neg (by omega)]
    exact b3 i hi
  · show upd (zs_a u1 8) _ _ (d * 6 + 6 + j) = _
    rw [pz_upd]
    unfold wR
    by_cases q : j = h
    · rw [if_pos (by omega), if_pos q, q]
    · rw [if_neg (by omega), if_neg q]; exact b4 j hj
/-- the best that is kept -/
def wB (hu g : List Nat → Nat) (n : Nat) (u : zs_T) (b : Option (List Nat)) : Prop := (b = none ∧ zs_i u 10 = 2147483647) ∨ ∃ p, b = some p ∧ p.length = n ∧ zs_i u 10 = nI (hu p) ∧ zs_i u 11 = nI (g p) ∧ tA (zs_a u 6) p
theorem wB.ag {hu g : List Nat → Nat} {n : Nat} {u v : zs_T} {b : Option (List Nat)} (h : wB hu g n u b) (ha : zg_ag [] [] [7, 8] [] u v) : wB hu g n v b := by
  unfold wB
  rw [ha.1 10 (by decide), ha.1 11 (by decide), ha.2.2.1 6 (by decide)]
  exact h
theorem w_jl {N n H : Nat} {R : Nat → Nat} {u : zs_T} {v1 : Int32} (hH : H ≤ 6) (hn : n ≤ 8) (h8 : zs_i u 8 = nI H) (hR : ∀ j, j < H → zs_a u 8 (n * 6 + j) = nI (R j)) : ∀ (r i f : Nat), i + r = H → r < f → zf_loop (fun ag x => fX3_judge_b13 N u v1 (nI (n * 6)) (fun v3 v4 => ag (v3, v4)) x.1 x.2) f (nI (qh R i), nI i) = fX3_judge_j40 N u v1 (nI (qh R H)) := by
  intro r
  induction r with
  | zero =>
    intro i f hi hf
    obtain ⟨f, rfl⟩ : ∃ f', f = f' + 1 := ⟨f - 1, by omega⟩
    obtain rfl : i = H := by omega
    rw [zf_loop_s]
    show fX3_judge_b13 N u v1 (nI (n * 6)) _ (nI (qh R i)) (nI i) = _
    unfold fX3_judge_b13
    rw [h8, if_pos (nI_le (by omega) (by omega))]
  | succ r ih =>
    intro i f hi hf
    obtain ⟨f, rfl⟩ : ∃ f', f = f' + 1 := ⟨f - 1, by omega⟩
    rw [zf_loop_s]
    obtain ⟨AG, hAG⟩ : ∃ A : Int32 → Int32 → Option zs_T, A = fun v3 v4 => zf_loop (fun ag x => fX3_judge_b13 N u v1 (nI (n * 6)) (fun v3 v4 => ag (v3, v4)) x.1 x.2) f (v3, v4) := ⟨_, rfl⟩
    show fX3_judge_b13 N u v1 (nI (n * 6)) (fun v3 v4 => zf_loop (fun ag x => fX3_judge_b13 N u v1 (nI (n * 6)) (fun v3 v4 => ag (v3, v4)) x.1 x.2) f (v3, v4)) (nI (qh R i)) (nI i) = _
    rw [← hAG]
    have hz1 : zf_in (nI (n * 6 + i)) 54 = true := pz_in (by omega) (by decide)
    unfold fX3_judge_b13
    rw [h8, if_neg (nI_ge (by omega) (by omega)), nI_add, if_pos hz1, pz_cl (show n * 6 + i < 2 ^ 31 by omega), hR i (by omega), nI_add, pz_succ, hAG]
    exact ih (i + 1) f (by omega) (by omega)
theorem w_j64 {N n hu g : Nat} {u : zs_T} {p : List Nat} (hn : n ≤ 8) (h7 : zs_i u 7 = nI n) (hp : p.length = n) (hA : tA (zs_a u 7) p) : ∃ u', fX3_judge_j64 N u (nI hu) (nI g) = some u' ∧ zg_ag [10, 11] [] [6] [] u u' ∧ zs_i u' 10 = nI hu ∧ zs_i u' 11 = nI g ∧ tA (zs_a u' 6) p := by
  have hc : zf_cp 0 0 (nI n) 8 8 = true := by
    simp only [zf_cp, decide_eq_true_eq]
    rw [pz_nI (by omega)]
    show (0 : Int) ≤ 0 ∧ (0 : Int) ≤ 0 ∧ _ ∧ (0 : Int) + _ ≤ (8 : Nat) ∧ (0 : Int) + _ ≤ (8 : Nat)
    omega
  refine ⟨zs_sa (zs_si (zs_si u 10 (nI hu)) 11 (nI g)) 6 (va_cpy (zs_a u 7) (zs_a u 6) 0 0 n), ?_, ((zg_ag.rf.si (by decide)).si (by decide)).sa (by decide), rfl, rfl, fun i o h => ?_⟩
  · unfold fX3_judge_j64
    rw [show zs_i (zs_si (zs_si u 10 (nI hu)) 11 (nI g)) 7 = nI n from h7, if_pos hc, pz_cl (show n < 2 ^ 31 by omega)]
    rfl
  · have hi : i < n := by have := (List.getElem?_eq_some_iff.mp h).1; omega
    show va_cpy (zs_a u 7) (zs_a u 6) 0 0 n i = _
    rw [pk_cpy_in (by omega) (by omega)]
    rw [show 0 + (i - 0) = i by omega]
    exact hA i o h
theorem w_judge {N n H W : Nat} {R0 Mo : Nat → Nat} {C : Nat → Int32} {w : Int32} {u : zs_T} {p : List Nat} {b : Option (List Nat)} (hN : 200 ≤ N) (hn : n ≤ 8) (hs : gs H R0 Mo C) (hW : W ≤ 800) (hP : wP n H W Mo C w u) (hp : p.length = n) (hA : tA (zs_a u 7) p) (hR : ∀ j, j < H → zs_a u 8 (n * 6 + j) = nI (wF Mo C w W R0 p j)) (hB : wB (wE Mo C w W R0) (wG Mo C w W H R0) n u b) (hx : ∀ q, b = some q → wx q p = true) : ∃ u' b', fX3_judge N u (nI (wE Mo C w W R0 p)) = some u' ∧ zg_ag [10, 11] [] [6] [] u u' ∧ wB (wE Mo C w W R0) (wG Mo C w W H R0) n u' b' ∧ (b' = b ∨ b' = some p) ∧ wn (wE Mo C w W R0) (wG Mo C w W H R0) p b' ∧ ∀ q0, wn (wE Mo C w W R0) (wG Mo C w W H R0) q0 b → wn (wE Mo C w W R0) (wG Mo C w W H R0) q0 b' := by
  have hH := hs.1
  have bE : ∀ q : List Nat, q.length = n → wE Mo C w W R0 q ≤ 6400 := by
    intro q hq
    have h1 := wE_le Mo C w W q R0
    have h2 : W * q.length ≤ 800 * 8 := Nat.mul_le_mul hW (by omega)
    omega
  have bG : ∀ q : List Nat, wG Mo C w W H R0 q ≤ 360000 := by
    intro q
    have h1 := qh_b (n := H) (gs_F w W q hs).2.1
    have h2 : 60000 * H ≤ 60000 * 6 := Nat.mul_le_mul_left _ hH
    unfold wG
    omega
  have e1 : fX3_judge N u (nI (wE Mo C w W R0 p)) = fX3_judge_j40 N u (nI (wE Mo C w W R0 p)) (nI (wG Mo C w W H R0 p)) := by
    unfold fX3_judge
    rw [hP.1, show nI n * 6 = nI (n * 6) from pk_mul n 6]
    exact w_jl hH hn hP.2.1 hR H 0 N (by omega) (by omega)
  obtain ⟨u1, c1, c2, c3, c4, c5⟩ := w_j64 (N := N) (hu := wE Mo C w W R0 p) (g := wG Mo C w W H R0 p) hn hP.1 hp hA
  have bp := bE p hp
  have gp := bG p
  rw [e1]
  unfold fX3_judge_j40
  rw [c1]
  rcases hB with ⟨z1, z2⟩ | ⟨q, z1, z2, z3, z4, z5⟩
  · rw [z2, if_pos (show nI (wE Mo C w W R0 p) < 2147483647 by rw [pz_lt, pz_nI (by omega)]; show (_ : Int) < 2147483647; omega)]
    refine ⟨u1, some p, rfl, c2, Or.inr ⟨p, rfl, hp, c3, c4, c5⟩, Or.inr rfl, ⟨p, rfl, fun h => wb_ir h⟩, fun q0 h => ?_⟩
    obtain ⟨y, y1, -⟩ := h
    rw [z1] at y1
    cases y1
  · have bq := bE q z2
    have gq' := bG q
    have upd' : wb (wE Mo C w W R0) (wG Mo C w W H R0) p q → ∃ u' b', some u1 = some u' ∧ zg_ag [10, 11] [] [6] [] u u' ∧ wB (wE Mo C w W R0) (wG Mo C w W H R0) n u' b' ∧ (b' = b ∨ b' = some p) ∧ wn (wE Mo C w W R0) (wG Mo C w W H R0) p b' ∧ ∀ q0, wn (wE Mo C w W R0) (wG Mo C w W H R0) q0 b → wn (wE Mo C w W R0) (wG Mo C w W H R0) q0 b' := by
      intro hb
      refine ⟨u1, some p, rfl, c2, Or.inr ⟨p, rfl, hp, c3, c4, c5⟩, Or.inr rfl, ⟨p, rfl, fun h => wb_ir h⟩, fun q0 h => ?_⟩
      obtain ⟨y, y1, y2⟩ := h
      rw [z1] at y1
      have : y = q := (Option.some.inj y1).symm
      subst this
      exact ⟨p, rfl, fun h3 => y2 (wb_tr h3 hb)⟩
    have keep : ¬ wb (wE Mo C w W R0) (wG Mo C w W H R0) p q → ∃ u' b', some u = some u' ∧ zg_ag [10, 11] [] [6] [] u u' ∧ wB (wE Mo C w W R0) (wG Mo C w W H R0) n u' b' ∧ (b' = b ∨ b' = some p) ∧ wn (wE Mo C w W R0) (wG Mo C w W H R0) p b' ∧ ∀ q0, wn (wE Mo C w W R0) (wG Mo C w W H R0) q0 b → wn (wE Mo C w W R0) (wG Mo C w W H R0) q0 b' := fun hb => ⟨u, b, rfl, zg_ag.rf, Or.inr ⟨q, z1, z2, z3, z4, z5⟩, Or.inl rfl, ⟨q, z1, hb⟩, fun _ h => h⟩
    rw [z3, z4]
    by_cases p1 : wE Mo C w W R0 p < wE Mo C w W R0 q
    · rw [if_pos (nI_lt p1 (by omega))]
      exact upd' (Or.inl p1)
    · rw [if_neg (nI_nlt (by omega) (by omega))]
      by_cases p2 : wE Mo C w W R0 p = wE Mo C w W R0 q
      · rw [if_pos (by rw [p2])]
        by_cases p3 : wG Mo C w W H R0 p ≤ wG Mo C w W H R0 q
        · rw [if_pos (nI_le p3 (by omega))]
          refine keep (fun h => ?_)
          rcases h with h | ⟨-, h | ⟨-, h⟩⟩
          · omega
          · omega
          · exact wx_ir p (wx_tr p q p h (hx q z1))
        · rw [if_neg (nI_ge (by omega) (by omega))]
          exact upd' (Or.inr ⟨p2, Or.inl (by omega)⟩)
      · rw [if_neg (fun h => p2 ((nI_eq (by omega) (by omega)).mp h))]
        refine keep (fun h => ?_)
        rcases h with h | ⟨h, -⟩
        · omega
        · omega
