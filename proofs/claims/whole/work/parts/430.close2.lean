theorem z_close0 {N : Nat} {x : zs_T} {a1 : Int32} (h : ¬ ((0 ≤ a1.toInt ∧ a1.toInt ≤ 1000) ∧ zs_i x 5 = -1 ∧ ¬ zs_i x 19 = -1 ∧ ¬ zs_i x 1 < zs_i x 19)) : fX8_close N x a1 = some (-1, x) := by
  have j : ∀ t0 : Int32, ((0 ≤ a1.toInt ∧ a1.toInt ≤ 1000) → zs_i x 5 = -1 → t0 = 0) → fX8_close_j30 N x a1 t0 = some (-1, x) := by
    intro t0 ht
    unfold fX8_close_j30
    rw [pf_within, pf_b01]
    by_cases p : 0 ≤ a1 ∧ a1 ≤ 1000
    · rw [if_pos p]
      by_cases p2 : zs_i x 5 = -1
      · rw [if_pos p2, if_pos (ht (by rw [pz_le, pz_le] at p; exact p) p2)]
      · rw [if_neg p2]
    · rw [if_neg p]
  unfold fX8_close fX8_close_j29
  by_cases p1 : zs_i x 19 = -1
  · rw [if_pos p1]; exact j 0 (fun _ _ => rfl)
  · rw [if_neg p1]
    by_cases p2 : zs_i x 1 < zs_i x 19
    · rw [if_pos p2]; exact j 0 (fun _ _ => rfl)
    · rw [if_neg p2]
      exact j 1 (fun h1 h2 => absurd ⟨h1, h2, p1, p2⟩ h)
theorem z_close1 {N : Nat} {x : zs_T} {a1 : Int32} (h1 : 0 ≤ a1.toInt ∧ a1.toInt ≤ 1000) (h2 : zs_i x 5 = -1) (h3 : ¬ zs_i x 19 = -1) (h4 : ¬ zs_i x 1 < zs_i x 19) : fX8_close N x a1 = (zf_bv (fX0_shareOut N x (zs_i x 13) (zs_i x 1)) fun u4 => (zf_bi (fX1_partCheeses N u4 a1) fun r5 u6 => (zf_bv (fX1_oweWork N u6 (zs_a u6 1 (2 : Int32).toNatClampNeg)) fun u8 => (zf_bv (fX1_payLosses N u8 (zs_i u8 1) (zs_a u8 1 (3 : Int32).toNatClampNeg)) fun u10 => (zf_bv (fX1_payIn N u10) fun u12 => (zf_bv (fX8_beginNextYear N u12) fun u14 => some (r5, u14))))))) := by
  unfold fX8_close fX8_close_j30
  rw [if_neg h3, if_neg h4, pf_within, pf_b01, if_pos (show 0 ≤ a1 ∧ a1 ≤ 1000 by rw [pz_le, pz_le]; exact h1), if_pos h2, if_neg (by decide)]
theorem z_sum {S n d : Nat} {x m : zs_T} (hE : rb_E S n x m) (hd : d ≤ 150) : qh (qp m n d S) 12 ≤ 400000 := by
  have h1 := qp_bound hE (Nat.le_refl n) hd S (Nat.le_refl _)
  have hS := hE.1.2.2
  omega
set_option maxHeartbeats 1000000 in
theorem sb_close {N k : Nat} {x m : zs_T} (hN : 200 ≤ N) (hk : k < 512) (hI : rb_I k x m) (a1 : Int32) : zl_close N x m (rb_I (k + 1)) a1 := by
  have hM := rb_mono k x m hI
  obtain ⟨c0, hh, d, w, S, n, hT, hR, hA, hP, hE, hL⟩ := id hI
  obtain ⟨A1, A2, A3, A4, A5, A6, A7, A8, A9, A10⟩ := id hA
  obtain ⟨q1, q2, q3, q4, q5, q6, q7, q8⟩ := id hE
  obtain ⟨l1, ⟨t, l2, l3⟩, l4, l5, l6⟩ := hL
  have hS := q1.2.2
  unfold zl_close
  have hdi : (nI d).toInt = d := pz_nI (by have := A5.2.2; omega)
  by_cases p : (0 ≤ a1.toInt ∧ a1.toInt ≤ 1000) ∧ zs_i m 7 = -1 ∧ ¬ zs_i m 17 = -1 ∧ ¬ nI d < zs_i m 17
  · obtain ⟨p1, p2, p3, p4⟩ := p
    have hmd := q3.2.resolve_left p3
    have hd1 : 1 ≤ d := by
      rw [pz_lt, hdi] at p4
      omega
    obtain ⟨c, hcn, rfl⟩ := pz_of p1.1
    have hc : c ≤ 1000 := by have := p1.2; rw [pz_nI hcn] at this; omega
    rw [z_close1 p1 (by rw [A2.1]; exact p2) (by rw [q3.1]; exact p3) (by rw [A5.1, q3.1]; exact p4), q2.1, A5.1]
    have eM : fM9_close N m (nI c) = (zf_bv (fM9_reckons N m (nI n)) fun u2 => (zf_bp (fM9_all N u2) fun r3 => zf_loop (fun ag x => fM9_close_b66 N (nI c) r3 (fun u v4 v5 => ag (u, v4, v5)) x.1 x.2.1 x.2.2) N (u2, nI c, 0))) := by
      unfold fM9_close
      rw [if_neg (show ¬ nI c < 0 from nI_pos hcn), if_neg (show ¬ (1000 : Int32) < nI c from nI_nlt (a := 1000) hc (by decide)), if_pos p2, if_neg p3, A5.2.1, if_neg p4, if_neg (nI_ne0 (by omega) (by have := A5.2.2; omega)), q2.2.1]
    rw [eM]
    obtain ⟨x1, a1, a2, a3⟩ := q_partX hN hE hR (k := n) (d := d) (Nat.le_refl _) A5.2.2
    obtain ⟨m1, b1, b2, b3⟩ := q_partM hN hE hR (k := n) (d := d) (Nat.le_refl _) A5.2.2 A5.2.1
    have hb := z_sum hE A5.2.2
    obtain ⟨P, hPe⟩ : ∃ P, P = qp m n d S := ⟨_, rfl⟩
    rw [← hPe] at a3 b3 hb
    have hlen : t.length = 12 := by rw [l2.length_eq, List.length_range]
    have tAm : tA (zs_a m1 17) t := fun i o h => by rw [b2.2.2.1 17 (by decide)]; exact l3 i o h
    have tAx : tA (zs_a x1 22) t := fun i o h => by
      have hi : i < 12 := by have := (List.getElem?_eq_some_iff.mp h).1; omega
      rw [a2.2.2.1 22 (by decide), l1 i hi]; exact l3 i o h
    obtain ⟨L, x2, m2, t', c1, c2, c3, c4, c5, c6, c7, c8⟩ := c_cheese (N := N) (c := c) (k := k) hN hk hc hb a3 b3 tAx tAm l2 (fun o ho => by
      rw [a2.2.2.2 0 (by decide), b2.2.2.1 18 (by decide)]; exact l4 o ho)
    have hP2 : cP x2 20 P := fun o ho => by rw [c3.2.2.1 20 (by decide)]; exact a3 o ho
    have hP2m : cP m2 16 P := fun o ho => by rw [c4.2.2.1 16 (by decide)]; exact b3 o ho
    have hW : zs_a x2 1 2 = zs_i m 4 := by rw [c3.2.2.1 1 (by decide), a2.2.2.1 1 (by decide)]; exact hR.1.2.2.1
    obtain ⟨x3, d1, d2, d3⟩ := c_owel (N := N) (B := zs_b x2 1) (W := zs_i m 4) hb 12 0 N x2 (by omega) (by omega) hP2 (fun o ho => by rw [if_neg (by omega)])
    have d1' : fX1_oweWork N x2 (zs_i m 4) = some x3 := d1
    have hV : zs_a x3 1 3 = zs_i m 5 := by rw [d2.2.2.1 1 (by decide), c3.2.2.1 1 (by decide), a2.2.2.1 1 (by decide)]; exact hR.1.2.2.2
    have x31 : zs_i x3 1 = nI d := by rw [d2.1 1 (by decide), c3.1 1 (by decide), a2.1 1 (by decide)]; exact A5.1
    have agx3 : cX x x3 := ((a2.mono (by decide) (by decide) (by decide) (by decide)).tr (c3.mono (by decide) (by decide) (by decide) (by decide))).tr (d2.mono (by decide) (by decide) (by decide) (by decide))
    have agm2 : cM m m2 := (b2.mono (by decide) (by decide) (by decide) (by decide)).tr (c4.mono (by decide) (by decide) (by decide) (by decide))
    obtain ⟨x4, m3, e1, e2, e3, e4, e5⟩ := l_pay (N := N) (al := lN (qh P 12)) hN hE A5.2.2 A5.2.1 rfl S 0 N N (zs_sl x3 2 0) m2 (by omega) (by omega) (by omega) (agx3.sl (by decide)) agm2 (fun o ho => by
      show zs_b x3 2 o = _
      rw [d2.2.2.2 2 (by decide), c3.2.2.2 2 (by decide), a2.2.2.2 2 (by decide), c4.2.2.2 1 (by decide), b2.2.2.2 1 (by decide)]
      exact (l5 o ho).2.2)
    have e1' : fX1_payLosses N x3 (nI d) (zs_i m 5) = some x4 := e1
    have e2' : fM9_pays N m2 (lN (qh P 12)) = fM9_pays_j110 N m3 (lN (qh P 12)) (zs_l x4 2) := e2
    have hP4 : cP x4 20 P := fun o ho => by
      rw [e3.2.2.1 20 (by decide)]
      show zs_a x3 20 o = _
      rw [d2.2.2.1 20 (by decide)]; exact hP2 o ho
    have hP3 : cP m3 16 P := fun o ho => by rw [e4.2.2.1 16 (by decide)]; exact hP2m o ho
    have l41 : zs_l x4 1 = zs_l m3 1 := by
      rw [e3.2.1 1 (by decide), e4.2.1 1 (by decide)]
      show zs_l x3 1 = _
      rw [d2.2.1 1 (by decide), c3.2.1 1 (by decide), a2.2.1 1 (by decide), c4.2.1 1 (by decide), b2.2.1 1 (by decide)]
      exact l6
    obtain ⟨x5, m4, f1, f2, f3, f4, f5, f6⟩ := y_in hN hb hP4 hP3 l41 e5
    have agx4 : cX x x4 := (agx3.sl (by decide)).tr (e3.mono (by decide) (by decide) (by decide) (by decide))
    have agx5 : cX x x5 := agx4.tr (f3.mono (by decide) (by decide) (by decide) (by decide))
    have agm3 : cM m m3 := agm2.tr (e4.mono (by decide) (by decide) (by decide) (by decide))
    have agm4 : cM m m4 := agm3.tr (f4.mono (by decide) (by decide) (by decide) (by decide))
    have hE5 := rb_E_c hE agx5 agm4
    obtain ⟨u', v', g1, g2, g3, g4, g5, g6⟩ := y_year (N := N) hN hE5 A5.2.2 ((agm4.1 10 (by decide)).trans A5.2.1) S 0 N N x5 m4 (by omega) (by omega) (by omega) zg_ag.rf zg_ag.rf (fun s hs => by omega) (fun s _ => ⟨rfl, rfl, rfl, rfl⟩)
    have x51 : zs_i x5 1 = nI d := (agx5.1 1 (by decide)).trans A5.1
    have g1' : fX4_beginYear N x5 (nI d) = some (zs_si u' 13 0) := g1
    have g2' : fM9_begins N m4 = fM9_begins_j57 N v' := g2
    have hXb : fX8_beginNextYear N x5 = some (zs_si (zs_si (zs_si (zs_si (zs_sa (zs_si u' 13 0) 19 (zf_fill 80 0 (zs_a u' 19))) 19 (-1)) 6 0) 1 0) 0 (zs_i u' 0 + 1)) := by
      unfold fX8_beginNextYear
      rw [x51, g1', zf_bv_s]
      rfl
    rw [a1, zf_bv_s, c1, zf_bi_s, show (2 : Int32).toNatClampNeg = 2 from rfl, show (3 : Int32).toNatClampNeg = 3 from rfl, hW, d1', zf_bv_s, hV, x31, e1', zf_bv_s, f1, zf_bv_s, hXb, zf_bv_s, b1, zf_bv_s, c_all hN b3 hb, zf_bp_s, c2]
    unfold fM9_close_j229
    rw [e2', f2, zf_bv_s, g2']
    unfold fM9_begins_j57
    rw [zf_bv_s]
    refine ⟨nI L, _, _, rfl, rfl, ?_⟩
    have ui : ∀ j, j ∉ [8, 9, 10, 11, 14, 15, 16, 17, 18] → zs_i u' j = zs_i x j := fun j hj => (g3.1 j (by simp at hj ⊢; omega)).trans (agx5.1 j hj)
    have ua : ∀ j, j ∉ [2, 7, 8, 9, 10, 11, 12, 18, 20, 21, 22] → zs_a u' j = zs_a x j := fun j hj => (g3.2.2.1 j (by simp at hj ⊢; omega)).trans (agx5.2.2.1 j (by simp at hj ⊢; omega))
    have vi : ∀ j, j ∉ [1, 13, 14, 18, 19, 20] → zs_i v' j = zs_i m j := fun j hj => (g4.1 j (by simp at hj ⊢; omega)).trans (agm4.1 j hj)
    have va : ∀ j, j ∉ [1, 5, 6, 8, 9, 10, 15, 16, 17, 18, 19] → zs_a v' j = zs_a m j := fun j hj => (g4.2.2.1 j (by simp at hj ⊢; omega)).trans (agm4.2.2.1 j (by simp at hj ⊢; omega))
    have ul : zs_l u' 0 = zs_l x 0 := (g3.2.1 0 (by decide)).trans (agx5.2.1 0 (by decide))
    have vl : zs_l v' 0 = zs_l m 0 := (g4.2.1 0 (by decide)).trans (agm4.2.1 0 (by decide))
    refine ⟨c0, hh, 0, w, S, 0, ?_, ?_, ?_, ?_, ?_, ?_⟩
    · exact rb_T_of hT (ui 2 (by decide)) (ua 0 (by decide)) (vi 0 (by decide)) (va 0 (by decide))
    · refine rb_R_of hR (ua 1 (by decide)) (fun j h1 h2 => ?_)
      have : zs_i v' j = zs_i m j := vi j (by simp; omega)
      rw [← this]
      show (if j = 11 then _ else if j = 17 then _ else if j = 16 then _ else if j = 10 then _ else if j = 9 then _ else zs_i v' j) = _
      rw [if_neg (by omega), if_neg (by omega), if_neg (by omega), if_neg (by omega), if_neg (by omega)]
    · refine ⟨⟨(ui 3 (by decide)).trans A1.1, (vi 6 (by decide)).trans A1.2.1, A1.2.2⟩, ?_, ?_, ?_, ⟨rfl, rfl, by omega⟩, rfl, ?_, ?_, ?_, ?_⟩
      · show zs_i u' 5 = zs_i v' 7 ∧ -1 ≤ (zs_i v' 7).toInt ∧ (zs_i v' 7).toInt < hh
        rw [ui 5 (by decide), vi 7 (by decide)]; exact A2
      · show zs_i u' 4 = zs_i v' 8 ∧ 0 ≤ (zs_i v' 8).toInt ∧ (zs_i v' 8).toInt ≤ 300 * (k + 1 : Nat)
        rw [ui 4 (by decide), vi 8 (by decide)]; exact ⟨A3.1, A3.2.1, by have := A3.2.2; omega⟩
      · show zs_i u' 0 + 1 = zs_i v' 9 + 1 ∧ 1 ≤ (zs_i v' 9 + 1).toInt ∧ (zs_i v' 9 + 1).toInt ≤ 1 + (k + 1 : Nat)
        rw [ui 0 (by decide), vi 9 (by decide), A4.1]
        have h1 := A4.2.1
        have h2 := A4.2.2
        have e : (zs_i m 9 + 1).toInt = (zs_i m 9).toInt + 1 := pz_add (by show _ ≤ (zs_i m 9).toInt + 1; omega) (by show (zs_i m 9).toInt + 1 < _; omega)
        rw [e]
        exact ⟨rfl, by omega, by omega⟩
      · show zs_l u' 0 = zs_l v' 0
        rw [ul, vl]; exact A7
      · show ∀ j, j < 6 → zs_a u' 3 j = zs_a v' 2 j ∧ 0 ≤ (zs_a v' 2 j).toInt ∧ (zs_a v' 2 j).toInt ≤ 60000
        rw [ua 3 (by decide), va 2 (by decide)]; exact A8
      · show ∀ j, j < hh → zs_a u' 4 j = zs_a v' 3 j ∧ 1 ≤ (zs_a v' 3 j).toInt ∧ (zs_a v' 3 j).toInt ≤ 60000
        rw [ua 4 (by decide), va 3 (by decide)]; exact A9
      · show ∀ j, j < 6 → zs_a u' 5 j = zs_a v' 4 j ∧ 0 ≤ (zs_a v' 4 j).toInt ∧ (zs_a v' 4 j).toInt ≤ 100
        rw [ua 5 (by decide), va 4 (by decide)]; exact A10
    · exact rb_P_of hP (ui 7 (by decide)) (ua 6 (by decide)) (vi 12 (by decide)) (va 7 (by decide))
    · refine ⟨⟨(ui 12 (by decide)).trans q1.1, (vi 15 (by decide)).trans q1.2.1, hS⟩, ⟨rfl, rfl, by omega⟩, ⟨rfl, Or.inl rfl⟩, fun s hs => ?_, fun s h1 h2 => ?_, fun e he => by omega, fun i e he => ?_, fun k' hk' s hs => ?_⟩
      · obtain ⟨r1, r2, r3⟩ := g5 s hs
        have hf : zf_fill 80 0 (zs_a u' 19) s = 0 := by simp only [zf_fill, if_pos (show s < 80 by omega)]
        refine ⟨r1, r2, ?_⟩
        show zf_fill 80 0 (zs_a u' 19) s = zs_a v' 9 s ∧ 0 ≤ (zs_a v' 9 s).toInt ∧ (zs_a v' 9 s).toInt ≤ 5000
        rw [hf, r3]
        exact ⟨rfl, by decide, by decide⟩
      · show zs_a u' 12 s = 0 ∧ zf_fill 80 0 (zs_a u' 19) s = 0
        rw [g6 s h1, agx5.2.2.1 12 (by decide)]
        exact ⟨(q5 s h1 h2).1, by simp only [zf_fill, if_pos h2]⟩
      · rw [pz_can0] at he
        cases he
      · obtain rfl : k' = 0 := by omega
        rw [pz_evs0]
        rfl
    · have u22 : ∀ j, j ∉ [8, 9, 11, 12, 18] → zs_a u' j = zs_a x5 j := fun j hj => g3.2.2.1 j (by simp at hj ⊢; omega)
      have v17 : ∀ j, j ∉ [8, 9, 10] → zs_a v' j = zs_a m4 j := fun j hj => g4.2.2.1 j (by simp at hj ⊢; omega)
      have u522 : zs_a u' 22 = zs_a x2 22 := by
        rw [u22 22 (by decide), f3.2.2.1 22 (by decide), e3.2.2.1 22 (by decide)]
        show zs_a x3 22 = _
        rw [d2.2.2.1 22 (by decide)]
      have u521 : zs_a u' 21 = zs_a x2 21 := by
        rw [u22 21 (by decide), f3.2.2.1 21 (by decide), e3.2.2.1 21 (by decide)]
        show zs_a x3 21 = _
        rw [d2.2.2.1 21 (by decide)]
      have w17 : zs_a v' 17 = zs_a m2 17 := by rw [v17 17 (by decide), f4.2.2.1 17 (by decide), e4.2.2.1 17 (by decide)]
      have w18 : zs_a v' 18 = zs_a m2 18 := by rw [v17 18 (by decide), f4.2.2.1 18 (by decide), e4.2.2.1 18 (by decide)]
      have w19 : zs_a v' 19 = zs_a m2 19 := by rw [v17 19 (by decide), f4.2.2.1 19 (by decide), e4.2.2.1 19 (by decide)]
      have ub0 : zs_b u' 0 = zs_b x2 0 := by
        rw [g3.2.2.2 0 (by decide), f3.2.2.2 0 (by decide), e3.2.2.2 0 (by decide)]
        show zs_b x3 0 = _
        rw [d2.2.2.2 0 (by decide)]
      have ub1 : zs_b u' 1 = zs_b x3 1 := by
        rw [g3.2.2.2 1 (by decide), f3.2.2.2 1 (by decide), e3.2.2.2 1 (by decide)]
        rfl
      have ub2 : zs_b u' 2 = zs_b x5 2 := g3.2.2.2 2 (by decide)
      have vb0 : zs_b v' 0 = zs_b m2 0 := by rw [g4.2.2.2 0 (by decide), f4.2.2.2 0 (by decide), e4.2.2.2 0 (by decide)]
      have vb1 : zs_b v' 1 = zs_b m4 1 := g4.2.2.2 1 (by decide)
      have hlen' : t'.length = 12 := by rw [c7.length_eq, List.length_range]
      refine ⟨fun o ho => ?_, ⟨t', c7, fun i o h => ?_⟩, fun o ho => ?_, fun o ho => ?_, ?_⟩
      · show zs_a u' 22 o = zs_a v' 17 o
        rw [u522, w17]
        have ho2 : o < t'.length := by omega
        rw [c5 o t'[o] (List.getElem?_eq_getElem ho2), c6 o t'[o] (List.getElem?_eq_getElem ho2)]
      · show zs_a v' 17 i = _
        rw [w17]; exact c6 i o h
      · show zs_b u' 0 o = (zs_a v' 18 o).toInt64 ∧ 0 ≤ (zs_a v' 18 o).toInt ∧ (zs_a v' 18 o).toInt ≤ 1000 * (k + 1 : Nat)
        rw [ub0, w18]
        obtain ⟨-, r2, r3, r4, -⟩ := c8 o ho
        exact ⟨r2, r3, r4⟩
      · show zs_a u' 21 o = zs_a v' 19 o ∧ zs_b u' 1 o = zs_b v' 0 o ∧ zs_b u' 2 o = zs_b v' 1 o
        obtain ⟨r1, -, -, -, r5⟩ := c8 o ho
        rw [u521, w19, ub1, vb0, ub2, vb1, d3 o ho, r5, c3.2.2.2 1 (by decide), a2.2.2.2 1 (by decide), b2.2.2.2 0 (by decide), b2.1 4 (by decide)]
        exact ⟨r1, by rw [(l5 o ho).2.1], f6 o ho⟩
      · show zs_l u' 1 = zs_l v' 1
        rw [g3.2.1 1 (by decide), g4.2.1 1 (by decide)]
        exact f5
  · refine ⟨-1, x, m, ?_, ?_, hM⟩
    · refine z_close0 (fun h => p ?_)
      rw [A2.1, q3.1, A5.1] at h
      exact h
    · have p4 : (nI d < zs_i m 17) ∨ ¬ (nI d < zs_i m 17) := Classical.em _
      unfold fM9_close
      rw [A5.2.1]
      simp only [pz_lt, Int32.reduceToInt] at p ⊢
      by_cases z1 : a1.toInt < 0
      · rw [if_pos z1]
      · rw [if_neg z1]
        by_cases z2 : 1000 < a1.toInt
        · rw [if_pos z2]
        · rw [if_neg z2]
          by_cases z3 : zs_i m 7 = -1
          · rw [if_pos z3]
            by_cases z4 : zs_i m 17 = -1
            · rw [if_pos z4]
            · rw [if_neg z4]
              by_cases z5 : (nI d).toInt < (zs_i m 17).toInt
              · rw [if_pos z5]
              · exact absurd ⟨⟨by omega, by omega⟩, z3, z4, z5⟩ p
          · rw [if_neg z3]
