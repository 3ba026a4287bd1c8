/-- the heights of a related pair -/
def gq (m : zs_T) (a : Nat) (j : Nat) : Nat := qm (zs_a m a j)
theorem g_A {k h d : Nat} {x m : zs_T} (hA : rb_A k h d x m) : gs h (gq m 2) (gq m 3) (zs_a m 4) ∧ (∀ j, j < 6 → zs_a x 3 j = nI (gq m 2 j) ∧ zs_a m 2 j = nI (gq m 2 j)) ∧ (∀ j, j < h → zs_a x 4 j = nI (gq m 3 j) ∧ zs_a m 3 j = nI (gq m 3 j)) ∧ ∀ j, j < h → zs_a x 5 j = zs_a m 4 j := by
  obtain ⟨A1, A2, A3, A4, A5, A6, A7, A8, A9, A10⟩ := hA
  refine ⟨⟨A1.2.2.2, fun j hj => qm_le (A8 j (by omega)).2.2, fun j hj => qm_le (A9 j hj).2.2, fun j hj => (A10 j (by omega)).2⟩, fun j hj => ?_, fun j hj => ?_, fun j hj => (A10 j (by omega)).1⟩
  · have := qm_nI (A8 j hj).2.1
    exact ⟨(A8 j hj).1.trans this, this⟩
  · have := qm_nI (x := zs_a m 3 j) (by have := (A9 j hj).2.1; omega)
    exact ⟨(A9 j hj).1.trans this, this⟩
theorem g_l64 (E : Int64) {w t : Nat} (ht : t ≤ w) : E + lN w - lN (w - t) = E + lN t := by
  have h1 : lN w = lN t + lN (w - t) := by rw [lN_add]; congr 1; omega
  rw [h1, Int64.sub_eq_add_neg, ← Int64.add_assoc, Int64.add_assoc, ← Int64.sub_eq_add_neg, Int64.sub_self, Int64.add_zero]
theorem rb_E_day {S n : Nat} {x m x' m' : zs_T} (h : rb_E S n x m) (hx : zg_ag [1, 4, 6] [0] [3] [] x x') (hm : zg_ag [8, 10, 11, 18, 19, 20] [0] [2] [] m m') : rb_E S n x' m' := by
  obtain ⟨xi, xl, xa, xb⟩ := hx
  obtain ⟨mi, ml, ma, mb⟩ := hm
  refine rb_E_of h ?_ ?_
  · exact ⟨xi _ (by decide), xi _ (by decide), xi _ (by decide), xa _ (by decide), xa _ (by decide), xa _ (by decide), xa _ (by decide), xa _ (by decide), xa _ (by decide), xa _ (by decide), xa _ (by decide)⟩
  · exact ⟨mi _ (by decide), mi _ (by decide), mi _ (by decide), ma _ (by decide), ma _ (by decide), ma _ (by decide), ma _ (by decide), ma _ (by decide), ma _ (by decide), ma _ (by decide)⟩
theorem rb_I_day {k k' h d : Nat} {x m x' m' : zs_T} (hI : rb_I k x m) (hk : k ≤ k') (hx : zg_ag [1, 4, 6] [0] [3] [] x x') (hm : zg_ag [8, 10, 11, 18, 19, 20] [0] [2] [] m m') (hA : rb_A k' h d x' m') : rb_I k' x' m' := by
  obtain ⟨c, hh, d', w, S, n, hT, hR, -, hP, hE, hL⟩ := hI
  have hE' := rb_E_day hE hx hm
  obtain ⟨xi, xl, xa, xb⟩ := hx
  obtain ⟨mi, ml, ma, mb⟩ := hm
  have hL' : rb_L k x' m' := rb_L_of hL ⟨xa _ (by decide), xb _ (by decide), xa _ (by decide), xb _ (by decide), xb _ (by decide), xl _ (by decide)⟩ ⟨ma _ (by decide), ma _ (by decide), ma _ (by decide), mb _ (by decide), mb _ (by decide), ml _ (by decide)⟩
  refine ⟨c, h, d, w, S, n, rb_T_of hT (xi _ (by decide)) (xa _ (by decide)) (mi _ (by decide)) (ma _ (by decide)), rb_R_of hR (xa _ (by decide)) (fun j h1 h2 => mi j (by simp; omega)), hA, rb_P_of hP (xi _ (by decide)) (xa _ (by decide)) (mi _ (by decide)) (ma _ (by decide)), hE', ?_⟩
  obtain ⟨b1, b2, b3, b4⟩ := hL'
  refine ⟨b1, b2, fun o ho => ⟨(b3 o ho).1, (b3 o ho).2.1, ?_⟩, b4⟩
  have := (b3 o ho).2.2
  omega
theorem d_snow {k : Nat} {s w f : Int32} (hk : k < 512) (hs : 0 ≤ s.toInt ∧ s.toInt ≤ 300 * k) (hw : -30 ≤ w.toInt ∧ w.toInt ≤ 40) (hf : 0 ≤ f.toInt ∧ f.toInt ≤ 300) : ∃ t : Int32, (if w ≤ 0 then s + f else zr_imax 0 (s + f - 4 * w)) = t ∧ (if 0 ≤ s + f - (if w ≤ 0 then 0 else 4 * w) then s + f - (if w ≤ 0 then 0 else 4 * w) else 0) = t ∧ 0 ≤ t.toInt ∧ t.toInt ≤ 300 * (k + 1 : Nat) := by
  have e1 : (s + f).toInt = s.toInt + f.toInt := pz_add (by omega) (by omega)
  by_cases p : w ≤ 0
  · rw [if_pos p, if_pos p, Int32.sub_zero]
    refine ⟨s + f, rfl, ?_, ?_, ?_⟩
    · rw [if_pos (by rw [pz_le, e1]; show 0 ≤ s.toInt + f.toInt; omega)]
    · rw [e1]; omega
    · rw [e1]; omega
  · have p2 : 0 < w.toInt := by
      rw [pz_le] at p
      have : ¬ w.toInt ≤ 0 := p
      omega
    have e2 : (4 * w).toInt = 4 * w.toInt := by
      rw [pz_mul]
      · rfl
      · show _ ≤ 4 * w.toInt; omega
      · show 4 * w.toInt < _; omega
    have e3 : (s + f - 4 * w).toInt = s.toInt + f.toInt - 4 * w.toInt := by
      rw [pz_sub]
      · rw [e1, e2]
      · rw [e1, e2]; omega
      · rw [e1, e2]; omega
    rw [if_neg p, if_neg p]
    unfold zr_imax
    by_cases q : 0 < s.toInt + f.toInt - 4 * w.toInt
    · rw [if_pos (by rw [pz_lt, e3]; exact q), if_pos (by rw [pz_le, e3]; show 0 ≤ s.toInt + f.toInt - 4 * w.toInt; omega)]
      exact ⟨_, rfl, rfl, by rw [e3]; omega, by rw [e3]; omega⟩
    · rw [if_neg (by rw [pz_lt, e3]; exact q)]
      refine ⟨0, rfl, ?_, by decide, by show (0 : Int) ≤ _; omega⟩
      by_cases q2 : 0 ≤ s.toInt + f.toInt - 4 * w.toInt
      · rw [if_pos (by rw [pz_le, e3]; exact q2)]
        refine pz_eq.mpr ?_
        rw [e3]
        show _ = (0 : Int)
        omega
      · rw [if_neg (by rw [pz_le, e3]; exact q2)]
theorem zs_si_si (u : zs_T) (k : Nat) (a b : Int32) : zs_si (zs_si u k a) k b = zs_si u k b := by
  unfold zs_si
  congr 1
  funext j
  show upd (upd u.1 k a) k b j = upd u.1 k b j
  simp only [pz_upd]
  split <;> rfl
theorem d_X {N : Nat} (u : zs_T) (w f v3 : Int32) : fX2_passDay N u w f v3 = fX2_passDay_j30 N (zs_si u 4 (if w ≤ 0 then zs_i u 4 + f else zr_imax 0 (zs_i u 4 + f - 4 * w))) w v3 := by
  have e : ∀ a b : Int32, zs_si (zs_si u 4 a) 4 b = zs_si u 4 b := zs_si_si u 4
  unfold fX2_passDay
  rw [e, show zs_i (zs_si u 4 (zs_i u 4 + f)) 4 = zs_i u 4 + f from rfl]
  by_cases p : w ≤ 0
  · rw [if_pos p, if_pos p]
  · rw [if_neg p, if_neg p]
theorem d_M {N : Nat} (u : zs_T) (w t0 t1 : Int32) : fM9_day_j63 N u w t0 t1 = fM9_day_j79 N (zs_si u 8 (if 0 ≤ t1 - t0 then t1 - t0 else 0)) w := by
  have e : ∀ a b : Int32, zs_si (zs_si u 8 a) 8 b = zs_si u 8 b := zs_si_si u 8
  unfold fM9_day_j63
  rw [e, show zs_i (zs_si u 8 (t1 - t0)) 8 = t1 - t0 from rfl]
  by_cases p : 0 ≤ t1 - t0
  · rw [if_pos p, if_pos p]
  · rw [if_neg p, if_neg p]
theorem sb_day {N k : Nat} {x m : zs_T} (hN : 200 ≤ N) (hk : k < 512) (hI : rb_I k x m) (a1 a2 : Int32) : zl_day N x m (rb_I (k + 1)) a1 a2 := by
  have hM := rb_mono k x m hI
  obtain ⟨c, hh, d, w, S, n, hT, hR, hA, hP, hE, hL⟩ := id hI
  obtain ⟨g1, g2, g3, g4⟩ := g_A hA
  obtain ⟨A1, A2, A3, A4, A5, A6, A7, A8, A9, A10⟩ := id hA
  have hS := hE.1.2.2
  unfold zl_day fX8_day fM9_day
  rw [pf_isWarmth, pf_within, pf_b01, pf_b01, A5.1, A5.2.1]
  simp only [pz_le, pz_lt, Int32.reduceToInt]
  by_cases p : (-30 ≤ a1.toInt ∧ a1.toInt ≤ 40) ∧ (0 ≤ a2.toInt ∧ a2.toInt ≤ 300) ∧ d < 150
  · obtain ⟨p1, p2, p3⟩ := p
    have hd : (nI d).toInt = d := pz_nI (by omega)
    obtain ⟨t, t1, t2, t3, t4⟩ := d_snow hk A3.2 p1 p2
    -- the class
    have hE1 : rb_E S n (zs_si x 1 (nI (d + 1))) m := rb_E_day hE (zg_ag.rf.si (by decide)) zg_ag.rf
    rw [if_pos p1, if_pos p2, if_pos (show (nI d).toInt < 150 by omega), pz_succ, show zs_i (zs_si x 1 (nI (d + 1))) 1 = nI (d + 1) from rfl]
    have eM : (if a1.toInt < -30 then some ((-1 : Int32), m) else if 40 < a1.toInt then some (-1, m) else if a2.toInt < 0 then some (-1, m) else if 300 < a2.toInt then some (-1, m) else if nI d = 150 then some (-1, m) else if a1.toInt ≤ 0 then fM9_day_j63 N (zs_si m 10 (nI (d + 1))) a1 0 (zs_i (zs_si m 10 (nI (d + 1))) 8 + a2) else fM9_day_j63 N (zs_si m 10 (nI (d + 1))) a1 (4 * a1) (zs_i (zs_si m 10 (nI (d + 1))) 8 + a2)) = fM9_day_j79 N (zs_si (zs_si m 10 (nI (d + 1))) 8 t) a1 := by
      rw [if_neg (by omega), if_neg (by omega), if_neg (by omega), if_neg (by omega), if_neg (show ¬ nI d = 150 from fun z => by have := (nI_eq (a := d) (b := 150) (by omega) (by decide)).mp z; omega), d_M, d_M, show zs_i (zs_si m 10 (nI (d + 1))) 8 = zs_i m 8 from rfl, ← t2]
      by_cases q : a1 ≤ 0
      · have q2 : a1.toInt ≤ 0 := by rw [pz_le] at q; exact q
        rw [if_pos q2, if_pos q]
      · have q2 : ¬ a1.toInt ≤ 0 := by rw [pz_le] at q; exact q
        rw [if_neg q2, if_neg q]
    rw [eM]
    -- the reference: it grows
    obtain ⟨m1, b1, b2, b3, b4⟩ := g_M (N := N) (u := zs_si (zs_si m 10 (nI (d + 1))) 8 t) (by omega) g1 p1 A1.2.1 (fun j hj => ⟨(g3 j hj).2, rfl⟩) (fun j hj => (g2 j (by omega)).2)
    have agm1 : zg_ag [8, 10, 11, 18, 19, 20] [0] [2] [] m m1 := ((zg_ag.rf.si (by decide)).si (by decide)).tr (b2.mono (by decide) (by decide) (by decide) (by decide))
    have hE2 : rb_E S n (zs_si x 1 (nI (d + 1))) m1 := rb_E_day hE (zg_ag.rf.si (by decide)) agm1
    have m17 : zs_i m1 7 = zs_i m 7 := agm1.1 7 (by decide)
    have m110 : zs_i m1 10 = nI (d + 1) := b2.1 10 (by decide)
    have m18 : zs_i m1 8 = t := b2.1 8 (by decide)
    have hup := pu_upOn (N := N) (d := d + 1) hN hE2 (by omega)
    obtain ⟨m2, c1, c2⟩ := pu_ups (N := N) (d := d + 1) hN hE2 (by omega)
    have hU : pn_up m1 n (d + 1) S ≤ 80 := Nat.le_trans (pn_up_le m1 n (d + 1) S) hS
    obtain ⟨U, hUe⟩ : ∃ U, U = pn_up m1 n (d + 1) S := ⟨_, rfl⟩
    rw [← hUe] at hup c1 hU
    have tx : (if a1 ≤ 0 then zs_i (zs_si x 1 (nI (d + 1))) 4 + a2 else zr_imax 0 (zs_i (zs_si x 1 (nI (d + 1))) 4 + a2 - 4 * a1)) = t := by
      rw [show zs_i (zs_si x 1 (nI (d + 1))) 4 = zs_i m 8 from A3.1]
      exact t1
    obtain ⟨x1, e1, e2, e3, e4⟩ := g_Xl (N := N) (v3 := nI U) g1 p1 hh 0 N (zs_si (zs_si x 1 (nI (d + 1))) 4 t) (by omega) (by omega) A1.1 (fun j hj => ⟨(g3 j hj).1, g4 j hj⟩) (fun j hj => by rw [show zs_a (zs_si (zs_si x 1 (nI (d + 1))) 4 t) 3 j = nI (gq m 2 j) from (g2 j (by omega)).1]; rfl)
    have e1' : fX2_passDay_j30 N (zs_si (zs_si x 1 (nI (d + 1))) 4 t) a1 (nI U) = fX2_passDay_j79 N x1 (nI U) := e1
    have agx1 : zg_ag [1, 4, 6] [0] [3] [] x x1 := ((zg_ag.rf.si (by decide)).si (by decide)).tr (e2.mono (by decide) (by decide) (by decide) (by decide))
    have x15 : zs_i x1 5 = zs_i m 7 := (agx1.1 5 (by decide)).trans A2.1
    have x11 : zs_i x1 1 = nI (d + 1) := e2.1 1 (by decide)
    have x14 : zs_i x1 4 = t := e2.1 4 (by decide)
    have row : ∀ j, j < 6 → zs_a x1 3 j = zs_a m1 2 j ∧ 0 ≤ (zs_a m1 2 j).toInt ∧ (zs_a m1 2 j).toInt ≤ 60000 := by
      intro j hj
      rcases Nat.lt_or_ge j hh with z | z
      · rw [e3 j z, b3 j z]
        have := gr_le (g := qm (gv (zs_a m 4 j) a1 j)) (g1.2.1 j z) (g1.2.2.1 j z)
        refine ⟨rfl, ?_, ?_⟩
        · show 0 ≤ (nI (gr _ _ _)).toInt; rw [pz_nI (by omega)]; omega
        · show (nI (gr _ _ _)).toInt ≤ _; rw [pz_nI (by omega)]; omega
      · rw [e4 j z, b4 j z]
        exact A8 j hj
    rw [hup, zf_bp_s, d_X, tx, e1']
    unfold fM9_day_j79 fX2_passDay_j79
    rw [b1, zf_bv_s, m17, x15, m110, c1, zf_bi_s]
    by_cases q : zs_i m 7 = -1
    · rw [if_pos q, if_pos q, zf_bv_s, x11]
      refine ⟨nI (d + 1), x1, m1, rfl, rfl, ?_⟩
      refine rb_I_day (h := hh) (d := d + 1) hM (Nat.le_refl _) agx1 agm1 ⟨⟨(agx1.1 3 (by decide)).trans A1.1, (agm1.1 6 (by decide)).trans A1.2.1, A1.2.2⟩, ?_, ?_, ?_, ⟨x11, m110, by omega⟩, ?_, ?_, row, ?_, ?_⟩
      · rw [x15, m17]; exact ⟨rfl, A2.2⟩
      · rw [x14, m18]; exact ⟨rfl, t3, t4⟩
      · rw [agx1.1 0 (by decide), agm1.1 9 (by decide)]; exact ⟨A4.1, A4.2.1, by have := A4.2.2; omega⟩
      · rw [e2.1 6 (by decide), b2.1 11 (by decide)]; exact A6
      · rw [e2.2.1 0 (by decide), b2.2.1 0 (by decide)]; exact A7
      · intro j hj
        rw [agx1.2.2.1 4 (by decide), agm1.2.2.1 3 (by decide)]; exact A9 j hj
      · intro j hj
        rw [agx1.2.2.1 5 (by decide), agm1.2.2.1 4 (by decide)]; exact A10 j hj
    · have hf0 : 0 ≤ (zs_i m 7).toInt := by
        have := zf_ne q
        have h2 : (zs_i m 7).toInt ≠ -1 := this
        have := A2.2.1
        omega
      obtain ⟨fl, hfl, hfe⟩ := pz_of hf0
      have hfl2 : fl < hh := by
        have := A2.2.2
        rw [hfe, pz_nI hfl] at this
        omega
      have hh6 := A1.2.2.2
      obtain ⟨G, hG, hGe⟩ : ∃ G : Nat, G ≤ 60000 ∧ zs_a m1 2 fl = nI G := by
        have := row fl (by omega)
        exact ⟨qm (zs_a m1 2 fl), qm_le this.2.2, qm_nI this.2.1⟩
      have m2a : zs_a m2 2 = zs_a m1 2 := c2.2.2.1 2 (by decide)
      have hx3 : zs_a x1 3 fl = nI G := (row fl (by omega)).1.trans hGe
      rw [if_neg q, if_neg q, g_graze (show fl < 6 by omega) hU hG (by rw [x15, hfe]) hx3, zf_bv_s, zf_bv_s, show zs_i m2 7 = nI fl from ((c2.1 7 (by decide)).trans m17).trans hfe, g_eat (show fl < 6 by omega) hU hG (by rw [m2a]; exact hGe), zf_bi_s]
      have hmin : min (10 * U) G ≤ 10 * U := Nat.min_le_left _ _
      refine ⟨nI (d + 1), zs_si (zs_sl (zs_sa x1 3 (upd (zs_a x1 3) fl (nI (G - min (10 * U) G)))) 0 (zs_l x1 0 + lN (min (10 * U) G))) 6 (zs_i x1 6 + nI (10 * U - min (10 * U) G)), zs_sl (zs_si (zs_sa m2 2 (upd (zs_a m2 2) fl (nI (G - min (10 * U) G)))) 11 (zs_i m2 11 + nI (10 * U - min (10 * U) G))) 0 (zs_l m2 0 + (10 * nI U).toInt64 - (nI (10 * U - min (10 * U) G)).toInt64), ?_, ?_, ?_⟩
      · rw [show zs_i (zs_si (zs_sl (zs_sa x1 3 (upd (zs_a x1 3) fl (nI (G - min (10 * U) G)))) 0 (zs_l x1 0 + lN (min (10 * U) G))) 6 (zs_i x1 6 + nI (10 * U - min (10 * U) G))) 1 = nI (d + 1) from x11]
      · have m210 : zs_i m2 10 = nI (d + 1) := (c2.1 10 (by decide)).trans m110
        show some (zs_i m2 10, _) = some (nI (d + 1), _)
        rw [m210]
        rfl
      · have agx2 : zg_ag [1, 4, 6] [0] [3] [] x (zs_si (zs_sl (zs_sa x1 3 (upd (zs_a x1 3) fl (nI (G - min (10 * U) G)))) 0 (zs_l x1 0 + lN (min (10 * U) G))) 6 (zs_i x1 6 + nI (10 * U - min (10 * U) G))) := ((agx1.sa (by decide)).sl (by decide)).si (by decide)
        have agm2 : zg_ag [8, 10, 11, 18, 19, 20] [0] [2] [] m m2 := agm1.tr (c2.mono (by decide) (by decide) (by decide) (by decide))
        have agm3 : zg_ag [8, 10, 11, 18, 19, 20] [0] [2] [] m (zs_sl (zs_si (zs_sa m2 2 (upd (zs_a m2 2) fl (nI (G - min (10 * U) G)))) 11 (zs_i m2 11 + nI (10 * U - min (10 * U) G))) 0 (zs_l m2 0 + (10 * nI U).toInt64 - (nI (10 * U - min (10 * U) G)).toInt64)) := ((agm2.sa (by decide)).si (by decide)).sl (by decide)
        refine rb_I_day (h := hh) (d := d + 1) hM (Nat.le_refl _) agx2 agm3 ⟨⟨(agx1.1 3 (by decide)).trans A1.1, (agm2.1 6 (by decide)).trans A1.2.1, A1.2.2⟩, ?_, ?_, ?_, ⟨x11, (c2.1 10 (by decide)).trans m110, by omega⟩, ?_, ?_, ?_, ?_, ?_⟩
        · rw [show zs_i (zs_sl (zs_si (zs_sa m2 2 (upd (zs_a m2 2) fl (nI (G - min (10 * U) G)))) 11 (zs_i m2 11 + nI (10 * U - min (10 * U) G))) 0 (zs_l m2 0 + (10 * nI U).toInt64 - (nI (10 * U - min (10 * U) G)).toInt64)) 7 = zs_i m 7 from agm2.1 7 (by decide)]
          exact ⟨x15, A2.2⟩
        · rw [show zs_i (zs_sl (zs_si (zs_sa m2 2 (upd (zs_a m2 2) fl (nI (G - min (10 * U) G)))) 11 (zs_i m2 11 + nI (10 * U - min (10 * U) G))) 0 (zs_l m2 0 + (10 * nI U).toInt64 - (nI (10 * U - min (10 * U) G)).toInt64)) 8 = t from (c2.1 8 (by decide)).trans m18]
          exact ⟨x14, t3, t4⟩
        · rw [show zs_i (zs_sl (zs_si (zs_sa m2 2 (upd (zs_a m2 2) fl (nI (G - min (10 * U) G)))) 11 (zs_i m2 11 + nI (10 * U - min (10 * U) G))) 0 (zs_l m2 0 + (10 * nI U).toInt64 - (nI (10 * U - min (10 * U) G)).toInt64)) 9 = zs_i m 9 from agm2.1 9 (by decide)]
          exact ⟨(agx1.1 0 (by decide)).trans A4.1, A4.2.1, by have := A4.2.2; omega⟩
        · show zs_i x1 6 + nI (10 * U - min (10 * U) G) = zs_i m2 11 + nI (10 * U - min (10 * U) G)
          rw [e2.1 6 (by decide), c2.1 11 (by decide), b2.1 11 (by decide)]
          show zs_i x 6 + _ = zs_i m 11 + _
          rw [A6]
        · show zs_l x1 0 + lN (min (10 * U) G) = zs_l m2 0 + (10 * nI U).toInt64 - (nI (10 * U - min (10 * U) G)).toInt64
          rw [show (10 : Int32) * nI U = nI (10 * U) from pk_mul 10 U, nI_l (show 10 * U < 2 ^ 31 by omega), nI_l (show 10 * U - min (10 * U) G < 2 ^ 31 by omega), g_l64 _ hmin, e2.2.1 0 (by decide), c2.2.1 0 (by decide), b2.2.1 0 (by decide)]
          show zs_l x 0 + _ = zs_l m 0 + _
          rw [A7]
        · intro j hj
          show upd (zs_a x1 3) fl (nI (G - min (10 * U) G)) j = upd (zs_a m2 2) fl (nI (G - min (10 * U) G)) j ∧ 0 ≤ (upd (zs_a m2 2) fl (nI (G - min (10 * U) G)) j).toInt ∧ (upd (zs_a m2 2) fl (nI (G - min (10 * U) G)) j).toInt ≤ 60000
          rw [pz_upd, pz_upd, m2a]
          by_cases z : j = fl
          · simp only [if_pos z]
            rw [pz_nI (by omega)]
            exact ⟨trivial, by omega, by omega⟩
          · simp only [if_neg z]
            exact row j hj
        · intro j hj
          show zs_a x1 4 j = zs_a m2 3 j ∧ 1 ≤ (zs_a m2 3 j).toInt ∧ (zs_a m2 3 j).toInt ≤ 60000
          rw [agx1.2.2.1 4 (by decide), agm2.2.2.1 3 (by decide)]; exact A9 j hj
        · intro j hj
          show zs_a x1 5 j = zs_a m2 4 j ∧ 0 ≤ (zs_a m2 4 j).toInt ∧ (zs_a m2 4 j).toInt ≤ 100
          rw [agx1.2.2.1 5 (by decide), agm2.2.2.1 4 (by decide)]; exact A10 j hj
  · refine ⟨-1, x, m, ?_, ?_, hM⟩
    · have hd : (nI d).toInt = d := pz_nI (by have := A5.2.2; omega)
      rw [hd]
      repeat' split
      all_goals first | rfl | (exfalso; omega)
    · have hd : d = 150 → nI d = 150 := fun z => by rw [z]; rfl
      have hd2 := A5.2.2
      repeat' split
      all_goals first | rfl | (exfalso; rename_i z; exact z (hd (by omega))) | (exfalso; omega) | (exfalso; rename_i z _; exact z (hd (by omega)))
