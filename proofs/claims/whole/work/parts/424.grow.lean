/-! grass that grows and is eaten -/
def gr (G M g : Nat) : Nat := max G (min (G + g) M)
theorem gr_le {G M g : Nat} (h1 : G ≤ 60000) (h2 : M ≤ 60000) : gr G M g ≤ 60000 := by unfold gr; omega
def gv (c w : Int32) (h : Nat) : Int32 := c * (w - (3 * nI h))
theorem gv_le {c w : Int32} {h : Nat} (hc : 0 ≤ c.toInt ∧ c.toInt ≤ 100) (hw : -30 ≤ w.toInt ∧ w.toInt ≤ 40) (hh : h < 6) : (gv c w h).toInt ≤ 4000 := by
  have e3 : (3 : Int32) * nI h = nI (3 * h) := pk_mul 3 h
  have e1 : (w - nI (3 * h)).toInt = w.toInt - (3 * h : Nat) := by
    rw [pz_sub]
    · rw [pz_nI (by omega)]
    · rw [pz_nI (by omega)]; omega
    · rw [pz_nI (by omega)]; omega
  have hb : -4500 ≤ c.toInt * (w.toInt - (3 * h : Nat)) ∧ c.toInt * (w.toInt - (3 * h : Nat)) ≤ 4000 := by
    rcases Int.lt_or_le (w.toInt - (3 * h : Nat)) 0 with z | z
    · have h1 : 0 ≤ c.toInt * (-(w.toInt - (3 * h : Nat))) := Int.mul_nonneg hc.1 (by omega)
      have h2 : c.toInt * (-(w.toInt - (3 * h : Nat))) ≤ 100 * 45 := Int.mul_le_mul hc.2 (by omega) (by omega) (by omega)
      rw [Int.mul_neg] at h1 h2
      omega
    · have h1 : 0 ≤ c.toInt * (w.toInt - (3 * h : Nat)) := Int.mul_nonneg hc.1 z
      have h2 : c.toInt * (w.toInt - (3 * h : Nat)) ≤ 100 * 40 := Int.mul_le_mul hc.2 (by omega) z (by omega)
      omega
  unfold gv
  rw [e3, pz_mul]
  · rw [e1]; exact hb.2
  · rw [e1]; omega
  · rw [e1]; omega
theorem gr_X {G M : Nat} {v : Int32} (hG : G ≤ 60000) (hM : M ≤ 60000) (hv : v.toInt ≤ 4000) : fX2_grown (nI G) (nI M) v = some (nI (gr G M (qm v))) := by
  unfold fX2_grown
  by_cases p : v ≤ 0
  · rw [if_pos p]
    have p2 : v.toInt ≤ 0 := by rw [pz_le] at p; exact p
    have : qm v = 0 := by unfold qm; omega
    rw [this]
    congr 2
    unfold gr; omega
  · have p2 : 0 < v.toInt := by
      rw [pz_le] at p
      have : ¬ v.toInt ≤ 0 := p
      omega
    rw [if_neg p]
    have hq := qm_nI (x := v) (by omega)
    have hql : qm v ≤ 4000 := qm_le hv
    by_cases p1 : G < M
    · rw [if_pos (nI_lt p1 (by omega)), hq, nI_add]
      unfold zr_imin
      have e : qm (nI (qm v)) = qm v := by rw [← hq]
      rw [e]
      by_cases p3 : M < G + qm v
      · rw [if_pos (nI_lt p3 (by omega))]
        congr 2
        unfold gr; omega
      · rw [if_neg (nI_nlt (by omega) (by omega))]
        congr 2
        unfold gr; omega
    · rw [if_neg (nI_nlt (by omega) (by omega))]
      congr 2
      unfold gr; omega
theorem gr_M {N j G M : Nat} {u : zs_T} {w c : Int32} {ag : zs_T → Int32 → Option zs_T} (hj : j < 6) (h6 : ¬ zs_i u 6 ≤ nI j) (h2 : zs_a u 2 j = nI G) (h3 : zs_a u 3 j = nI M) (h4 : zs_a u 4 j = c) (hG : G ≤ 60000) (hM : M ≤ 60000) (hv : (gv c w j).toInt ≤ 4000) : ∃ u1, fM9_grows_b2 N w ag u (nI j) = ag u1 (nI (j + 1)) ∧ zg_ag [] [] [2] [] u u1 ∧ ∀ i, zs_a u1 2 i = if i = j then nI (gr G M (qm (gv c w j))) else zs_a u 2 i := by
  have hz : zf_in (nI j) 6 = true := pz_in hj (by decide)
  have up : ∀ (t : Nat), t = gr G M (qm (gv c w j)) → zg_ag [] [] [2] [] u (zs_sa u 2 (upd (zs_a u 2) j (nI t))) ∧ ∀ i, zs_a (zs_sa u 2 (upd (zs_a u 2) j (nI t))) 2 i = if i = j then nI (gr G M (qm (gv c w j))) else zs_a u 2 i := by
    intro t ht
    refine ⟨zg_ag.rf.sa (by decide), fun i => ?_⟩
    show upd (zs_a u 2) j (nI t) i = _
    rw [pz_upd, ht]
  unfold fM9_grows_b2 fM9_grows_j60
  rw [if_neg h6, if_pos hz, if_pos hz, if_pos hz, if_pos hz, if_pos hz, if_pos hz, if_pos hz, if_pos hz, pz_cl (show j < 2 ^ 31 by omega), h2, h3, h4, pz_succ, show c * (w - 3 * nI j) = gv c w j from rfl]
  by_cases p : 0 < gv c w j
  · have p2 : 0 < (gv c w j).toInt := by rw [pz_lt] at p; exact p
    have hq := qm_nI (x := gv c w j) (by omega)
    have hql : qm (gv c w j) ≤ 4000 := qm_le hv
    have hqp : 0 < qm (gv c w j) := by unfold qm; omega
    rw [if_pos p, hq, nI_add]
    have e : qm (nI (qm (gv c w j))) = qm (gv c w j) := by rw [← hq]
    rw [e]
    rw [hq, e] at up
    by_cases p1 : G ≤ M
    · rw [if_pos (nI_le p1 (by omega))]
      by_cases p3 : G + qm (gv c w j) ≤ M
      · rw [if_pos (nI_le p3 (by omega))]
        exact ⟨_, rfl, up (G + qm (gv c w j)) (by unfold gr; omega)⟩
      · rw [if_neg (nI_ge (by omega) (by omega))]
        exact ⟨_, rfl, up M (by unfold gr; omega)⟩
    · rw [if_neg (nI_ge (by omega) (by omega)), if_neg (nI_ge (by omega) (by omega))]
      (repeat rw [if_pos hz])
      exact ⟨_, rfl, up G (by unfold gr; omega)⟩
  · rw [if_neg p]
    refine ⟨u, rfl, zg_ag.rf, fun i => ?_⟩
    have p2 : ¬ 0 < (gv c w j).toInt := by rw [pz_lt] at p; exact p
    have : qm (gv c w j) = 0 := by unfold qm; omega
    rw [this]
    by_cases q : i = j
    · rw [if_pos q, q, h2]
      congr 1
      unfold gr; omega
    · rw [if_neg q]
/-- the heights' rows: R grass, Mo most, C growth -/
def gs (H : Nat) (R Mo : Nat → Nat) (C : Nat → Int32) : Prop := H ≤ 6 ∧ (∀ j, j < H → R j ≤ 60000) ∧ (∀ j, j < H → Mo j ≤ 60000) ∧ ∀ j, j < H → 0 ≤ (C j).toInt ∧ (C j).toInt ≤ 100
def gR (R Mo : Nat → Nat) (C : Nat → Int32) (w : Int32) (j : Nat) : Nat := gr (R j) (Mo j) (qm (gv (C j) w j))
theorem gs_R {H : Nat} {R Mo : Nat → Nat} {C : Nat → Int32} (h : gs H R Mo C) (w : Int32) : gs H (gR R Mo C w) Mo C := ⟨h.1, fun j hj => gr_le (h.2.1 j hj) (h.2.2.1 j hj), h.2.2⟩
theorem g_Ml {N H : Nat} {R Mo : Nat → Nat} {C : Nat → Int32} {w : Int32} (hs : gs H R Mo C) (hw : -30 ≤ w.toInt ∧ w.toInt ≤ 40) : ∀ (r i f : Nat) (u : zs_T), i + r = H → r < f → zs_i u 6 = nI H → (∀ j, j < H → zs_a u 3 j = nI (Mo j) ∧ zs_a u 4 j = C j) → (∀ j, j < H → zs_a u 2 j = nI (if j < i then gR R Mo C w j else R j)) → ∃ u', zf_loop (fun ag x => fM9_grows_b2 N w (fun u v2 => ag (u, v2)) x.1 x.2) f (u, nI i) = some u' ∧ zg_ag [] [] [2] [] u u' ∧ (∀ j, j < H → zs_a u' 2 j = nI (gR R Mo C w j)) ∧ ∀ j, H ≤ j → zs_a u' 2 j = zs_a u 2 j := by
  have hH := hs.1
  intro r
  induction r with
  | zero =>
    intro i f u hi hf h6 h34 h2
    obtain ⟨f, rfl⟩ : ∃ f', f = f' + 1 := ⟨f - 1, by omega⟩
    rw [zf_loop_s]
    refine ⟨u, ?_, zg_ag.rf, fun j hj => by rw [h2 j hj, if_pos (by omega)], fun _ _ => rfl⟩
    show fM9_grows_b2 N w _ u (nI i) = _
    unfold fM9_grows_b2
    rw [h6, if_pos (nI_le (by omega) (by omega))]
  | succ r ih =>
    intro i f u hi hf h6 h34 h2
    obtain ⟨f, rfl⟩ : ∃ f', f = f' + 1 := ⟨f - 1, by omega⟩
    rw [zf_loop_s]
    have hr := h2 i (by omega)
    rw [if_neg (Nat.lt_irrefl i)] at hr
    obtain ⟨u1, a1, a2, a3⟩ := gr_M (N := N) (w := w) (ag := fun u v2 => zf_loop (fun ag x => fM9_grows_b2 N w (fun u v2 => ag (u, v2)) x.1 x.2) f (u, v2)) (show i < 6 by omega) (by rw [h6]; exact nI_ge (by omega) (by omega)) hr (h34 i (by omega)).1 (h34 i (by omega)).2 (hs.2.1 i (by omega)) (hs.2.2.1 i (by omega)) (gv_le (hs.2.2.2 i (by omega)) hw (by omega))
    obtain ⟨u', b1, b2, b3, b4⟩ := ih (i + 1) f u1 (by omega) (by omega) (by rw [a2.1 6 (by decide)]; exact h6) (fun j hj => by rw [a2.2.2.1 3 (by decide), a2.2.2.1 4 (by decide)]; exact h34 j hj) (fun j hj => by
      rw [a3 j]
      by_cases q : j = i
      · rw [if_pos q, if_pos (by omega), q]; rfl
      · rw [if_neg q, h2 j hj]
        by_cases q2 : j < i
        · rw [if_pos q2, if_pos (by omega)]
        · rw [if_neg q2, if_neg (by omega)])
    refine ⟨u', a1.trans b1, a2.tr b2, b3, fun j hj => ?_⟩
    rw [b4 j hj, a3 j, if_neg (by omega)]
theorem g_M {N H : Nat} {R Mo : Nat → Nat} {C : Nat → Int32} {w : Int32} {u : zs_T} (hN : 10 ≤ N) (hs : gs H R Mo C) (hw : -30 ≤ w.toInt ∧ w.toInt ≤ 40) (h6 : zs_i u 6 = nI H) (h34 : ∀ j, j < H → zs_a u 3 j = nI (Mo j) ∧ zs_a u 4 j = C j) (h2 : ∀ j, j < H → zs_a u 2 j = nI (R j)) : ∃ u', fM9_grows N u w = some u' ∧ zg_ag [] [] [2] [] u u' ∧ (∀ j, j < H → zs_a u' 2 j = nI (gR R Mo C w j)) ∧ ∀ j, H ≤ j → zs_a u' 2 j = zs_a u 2 j := by
  have hH := hs.1
  exact g_Ml hs hw H 0 N u (by omega) (by omega) h6 h34 (fun j hj => by rw [h2 j hj]; rfl)
theorem g_Xl {N H : Nat} {R Mo : Nat → Nat} {C : Nat → Int32} {w v3 : Int32} (hs : gs H R Mo C) (hw : -30 ≤ w.toInt ∧ w.toInt ≤ 40) : ∀ (r i f : Nat) (u : zs_T), i + r = H → r < f → zs_i u 3 = nI H → (∀ j, j < H → zs_a u 4 j = nI (Mo j) ∧ zs_a u 5 j = C j) → (∀ j, j < H → zs_a u 3 j = nI (if j < i then gR R Mo C w j else R j)) → ∃ u', zf_loop (fun ag x => fX2_passDay_b33 N w v3 (fun u v4 => ag (u, v4)) x.1 x.2) f (u, nI i) = fX2_passDay_j79 N u' v3 ∧ zg_ag [] [] [3] [] u u' ∧ (∀ j, j < H → zs_a u' 3 j = nI (gR R Mo C w j)) ∧ ∀ j, H ≤ j → zs_a u' 3 j = zs_a u 3 j := by
  have hH := hs.1
  intro r
  induction r with
  | zero =>
    intro i f u hi hf h6 h34 h2
    obtain ⟨f, rfl⟩ : ∃ f', f = f' + 1 := ⟨f - 1, by omega⟩
    rw [zf_loop_s]
    refine ⟨u, ?_, zg_ag.rf, fun j hj => by rw [h2 j hj, if_pos (by omega)], fun _ _ => rfl⟩
    show fX2_passDay_b33 N w v3 _ u (nI i) = _
    unfold fX2_passDay_b33
    rw [h6, if_pos (nI_le (by omega) (by omega))]
  | succ r ih =>
    intro i f u hi hf h6 h34 h2
    obtain ⟨f, rfl⟩ : ∃ f', f = f' + 1 := ⟨f - 1, by omega⟩
    rw [zf_loop_s]
    obtain ⟨AG, hAG⟩ : ∃ A : zs_T → Int32 → Option zs_T, A = fun u v4 => zf_loop (fun ag x => fX2_passDay_b33 N w v3 (fun u v4 => ag (u, v4)) x.1 x.2) f (u, v4) := ⟨_, rfl⟩
    show ∃ u', fX2_passDay_b33 N w v3 (fun u v4 => zf_loop (fun ag x => fX2_passDay_b33 N w v3 (fun u v4 => ag (u, v4)) x.1 x.2) f (u, v4)) u (nI i) = _ ∧ _
    rw [← hAG]
    have hr := h2 i (by omega)
    rw [if_neg (Nat.lt_irrefl i)] at hr
    have hz : zf_in (nI i) 6 = true := pz_in (by omega) (by decide)
    unfold fX2_passDay_b33 fX2_gainOn
    rw [h6, if_neg (nI_ge (by omega) (by omega)), if_pos hz, if_pos hz, if_pos hz, zf_bp_s, pz_cl (show i < 2 ^ 31 by omega), hr, (h34 i (by omega)).1, (h34 i (by omega)).2, show C i * (w - 3 * nI i) = gv (C i) w i from rfl, gr_X (hs.2.1 i (by omega)) (hs.2.2.1 i (by omega)) (gv_le (hs.2.2.2 i (by omega)) hw (by omega)), zf_bp_s, if_pos hz, pz_succ]
    obtain ⟨u', b1, b2, b3, b4⟩ := ih (i + 1) f (zs_sa u 3 (upd (zs_a u 3) i (nI (gr (R i) (Mo i) (qm (gv (C i) w i)))))) (by omega) (by omega) h6 h34 (fun j hj => by
      show upd (zs_a u 3) i _ j = _
      rw [pz_upd]
      by_cases q : j = i
      · rw [if_pos q, if_pos (by omega), q]; rfl
      · rw [if_neg q, h2 j hj]
        by_cases q2 : j < i
        · rw [if_pos q2, if_pos (by omega)]
        · rw [if_neg q2, if_neg (by omega)])
    refine ⟨u', by rw [hAG]; exact b1, (zg_ag.rf.sa (by decide)).tr b2, b3, fun j hj => ?_⟩
    rw [b4 j hj]
    show upd (zs_a u 3) i _ j = _
    rw [pz_upd, if_neg (by omega)]
theorem g_eat {u : zs_T} {h U G : Nat} (hh : h < 6) (hU : U ≤ 80) (hG : G ≤ 60000) (h2 : zs_a u 2 h = nI G) : fM9_eats u (nI h) (nI U) = some (nI (10 * U - min (10 * U) G), zs_sa u 2 (upd (zs_a u 2) h (nI (G - min (10 * U) G)))) := by
  have hz : zf_in (nI h) 6 = true := pz_in hh (by decide)
  have e10 : (10 : Int32) * nI U = nI (10 * U) := pk_mul 10 U
  unfold fM9_eats fM9_eats_j25
  rw [if_pos hz, if_pos hz, if_pos hz, if_pos hz, if_pos hz, if_pos hz, pz_cl (show h < 2 ^ 31 by omega), h2, e10]
  by_cases p : G ≤ 10 * U
  · rw [if_pos (nI_le p (by omega)), Nat.min_eq_right p, pk_sub p, pk_sub (Nat.le_refl G)]
  · rw [if_neg (nI_ge (by omega) (by omega)), Nat.min_eq_left (by omega), pk_sub (Nat.le_refl _), pk_sub (show 10 * U ≤ G by omega)]
theorem g_graze {u : zs_T} {h U G : Nat} (hh : h < 6) (hU : U ≤ 80) (hG : G ≤ 60000) (h5 : zs_i u 5 = nI h) (h2 : zs_a u 3 h = nI G) : fX2_graze u (10 * nI U) = some (zs_si (zs_sl (zs_sa u 3 (upd (zs_a u 3) h (nI (G - min (10 * U) G)))) 0 (zs_l u 0 + lN (min (10 * U) G))) 6 (zs_i u 6 + nI (10 * U - min (10 * U) G))) := by
  have hz : zf_in (nI h) 6 = true := pz_in hh (by decide)
  have e10 : (10 : Int32) * nI U = nI (10 * U) := pk_mul 10 U
  have em : zr_imin (nI (10 * U)) (nI G) = nI (min (10 * U) G) := by
    unfold zr_imin
    by_cases p : G < 10 * U
    · rw [if_pos (nI_lt p (by omega)), Nat.min_eq_right (by omega)]
    · rw [if_neg (nI_nlt (by omega) (by omega)), Nat.min_eq_left (by omega)]
  unfold fX2_graze
  rw [h5, if_pos hz, if_pos hz, if_pos hz, pz_cl (show h < 2 ^ 31 by omega), h2, e10, em, pk_sub (Nat.min_le_right _ _), pk_sub (Nat.min_le_left _ _), nI_l (show min (10 * U) G < 2 ^ 31 by omega)]
  rfl
