theorem sb_milking {N k : Nat} {x m : zs_T} (hI : rb_I k x m) (a1 : Int32) : zl_milking N x m (rb_I (k + 1)) a1 := by
  have hM := rb_mono k x m hI
  obtain ⟨c, hh, d, w, S, n, hT, hR, hA, hP, hE, hL⟩ := id hM
  unfold zl_milking fX8_milking fM9_milking
  rw [pf_within, pf_b01]
  have e19 := hE.2.2.1.1
  simp only [pz_le, pz_lt, Int32.reduceToInt, e19]
  by_cases p1 : a1.toInt < 1
  · rw [if_neg (by omega), if_pos p1]
    exact ⟨0, x, m, rfl, rfl, hM⟩
  · by_cases p2 : 150 < a1.toInt
    · rw [if_neg (by omega), if_neg p1, if_pos p2]
      exact ⟨0, x, m, rfl, rfl, hM⟩
    · rw [if_pos (by omega), if_neg p1, if_neg p2]
      by_cases p3 : zs_i m 17 = -1
      · rw [if_pos p3, if_pos p3]
        refine ⟨1, _, _, rfl, rfl, c, hh, d, w, S, n, hT, rb_R_of hR rfl (fun j h1 h2 => by rw [zs_i_si, if_neg (by omega)]), hA, hP, ?_, hL⟩
        obtain ⟨q1, q2, q3, q4⟩ := hE
        exact ⟨q1, q2, ⟨rfl, Or.inr (show 1 ≤ a1.toInt ∧ a1.toInt ≤ 150 from by omega)⟩, q4⟩
      · rw [if_neg p3, if_neg p3]
        exact ⟨0, x, m, rfl, rfl, hM⟩
theorem sb_milk {N k : Nat} {x m : zs_T} (hI : rb_I k x m) (a1 a2 : Int32) : zl_milk N x m (rb_I (k + 1)) a1 a2 := by
  have hM := rb_mono k x m hI
  obtain ⟨c, hh, d, w, S, n, hT, hR, hA, hP, hE, hL⟩ := id hM
  obtain ⟨q1, q2, q3, q4, q5, q6⟩ := id hE
  unfold zl_milk fX8_milk fM9_milk
  rw [pf_has4 q1.1 q1.2.2, pf_ms q1.2.1 q1.2.2, pf_within, pf_b01, pf_b01, pf_b01]
  simp only [pz_le, pz_lt, Int32.reduceToInt, q3.1]
  by_cases p0 : 0 ≤ a1.toInt ∧ a1.toInt < S
  · rw [if_pos p0, if_pos p0]
    by_cases p1 : a2.toInt < 0
    · rw [if_neg (by omega), if_pos p1]
      exact ⟨0, x, m, rfl, rfl, hM⟩
    · by_cases p2 : 5000 < a2.toInt
      · rw [if_neg (by omega), if_neg p1, if_pos p2]
        exact ⟨0, x, m, rfl, rfl, hM⟩
      · rw [if_pos (by omega), if_neg p1, if_neg p2]
        by_cases p3 : zs_i m 17 = -1
        · rw [if_pos p3, if_pos p3]
          exact ⟨0, x, m, rfl, rfl, hM⟩
        · rw [if_neg p3, if_neg p3]
          obtain ⟨j, hj, rfl⟩ := pz_of p0.1
          rw [pz_nI hj] at p0
          have hS := q1.2.2
          rw [if_pos (pz_in (by omega) (by decide)), pz_cl hj]
          rw [if_pos (pz_in (by omega) (by decide))]
          refine ⟨1, _, _, rfl, rfl, c, hh, d, w, S, n, hT, hR, hA, hP, ?_, hL⟩
          refine ⟨q1, q2, q3, fun s hs => ?_, fun s h1 h2 => ?_, q6⟩
          · obtain ⟨b1, b2, b3⟩ := q4 s hs
            refine ⟨b1, b2, ?_⟩
            show upd (zs_a x 19) j a2 s = upd (zs_a m 9) j a2 s ∧ 0 ≤ (upd (zs_a m 9) j a2 s).toInt ∧ (upd (zs_a m 9) j a2 s).toInt ≤ 5000
            simp only [pz_upd]
            by_cases e : s = j
            · rw [if_pos e, if_pos e]; exact ⟨rfl, by omega, by omega⟩
            · rw [if_neg e, if_neg e]; exact b3
          · obtain ⟨b1, b2⟩ := q5 s h1 h2
            refine ⟨b1, ?_⟩
            show upd (zs_a x 19) j a2 s = 0
            rw [pz_upd, if_neg (by omega)]; exact b2
  · rw [if_neg p0, if_neg p0]
    exact ⟨0, x, m, rfl, rfl, hM⟩
theorem sb_work {N k : Nat} {x m : zs_T} (hI : rb_I k x m) (a1 a2 : Int32) : zl_work N x m (rb_I (k + 1)) a1 a2 := by
  have hM := rb_mono k x m hI
  obtain ⟨c, hh, d, w, S, n, hT, hR, hA, hP, hE, hL⟩ := id hM
  unfold zl_work fX8_work fM9_work
  rw [pf_isOwner, pf_within, pf_b01, pf_b01]
  simp only [pz_le, pz_lt, Int32.reduceToInt]
  by_cases p0 : 0 ≤ a1.toInt ∧ a1.toInt ≤ 11
  · by_cases p1 : 1 ≤ a2.toInt ∧ a2.toInt ≤ 1000
    · obtain ⟨j, hj, rfl⟩ := pz_of p0.1
      rw [pz_nI hj] at p0
      have hz : zf_in (nI j) 12 = true := pz_in (by omega) (by decide)
      refine ⟨1, zs_sb x 1 (vp_updL (zs_b x 1) j (zs_b x 1 j - a2.toInt64)), zs_sb m 0 (vp_updL (zs_b m 0) j (zs_b m 0 j - a2.toInt64)), ?_, ?_, c, hh, d, w, S, n, hT, hR, hA, hP, hE, ?_⟩
      · rw [pz_nI hj, if_pos p0, if_pos p1, if_pos hz, if_pos hz, pz_cl hj]
      · rw [pz_nI hj, if_neg (by omega), if_neg (by omega), if_neg (by omega), if_pos p1.2, if_pos hz, if_pos hz, pz_cl hj]
      obtain ⟨b1, b2, b3, b4, b5⟩ := hL
      refine ⟨b1, b2, b3, fun o ho => ?_, b5⟩
      obtain ⟨c1, c2, c3⟩ := b4 o ho
      refine ⟨c1, ?_, c3⟩
      show vp_updL (zs_b x 1) j _ o = vp_updL (zs_b m 0) j _ o
      simp only [pz_updL]
      by_cases e : o = j
      · rw [if_pos e, if_pos e, ← e, c2]
      · rw [if_neg e, if_neg e]; exact c2
    · refine ⟨0, x, m, ?_, ?_, hM⟩
      · rw [if_pos p0, if_neg p1]
      · rw [if_neg (by omega), if_neg (by omega)]
        by_cases p2 : a2.toInt < 1
        · rw [if_pos p2]
        · rw [if_neg p2, if_neg (by omega)]
  · refine ⟨0, x, m, ?_, ?_, hM⟩
    · rw [if_neg p0]
    · by_cases p2 : a1.toInt < 0
      · rw [if_pos p2]
      · rw [if_neg p2, if_pos (by omega)]
theorem sb_step {N k : Nat} {x m : zs_T} (hI : rb_I k x m) (a1 : Int32) : zl_step N x m (rb_I (k + 1)) a1 := by
  have hM := rb_mono k x m hI
  obtain ⟨c, hh, d, w, S, n, hT, hR, hA, hP, hE, hL⟩ := id hM
  obtain ⟨q1, q2, q3, q4⟩ := hP
  unfold zl_step fX8_step fM9_step
  rw [pf_within, pf_b01, q1, q2]
  simp only [pf_pred (show w ≤ 1000 by omega)]
  simp only [pz_le, pz_lt, Int32.reduceToInt, pz_nI (show w < 2 ^ 31 by omega)]
  by_cases p0 : 0 ≤ a1.toInt ∧ a1.toInt < w
  · obtain ⟨j, hj, rfl⟩ := pz_of p0.1
    rw [pz_nI hj] at p0
    have hz : zf_in (nI j) 8 = true := pz_in (by omega) (by decide)
    refine ⟨zs_a m 7 j, ?_, ?_, hM⟩
    · rw [pz_nI hj, if_pos p0, if_pos hz, pz_cl hj, q4 j (by omega)]
    · rw [pz_nI hj, if_neg (by omega), if_neg (by omega), if_pos hz, pz_cl hj]
  · refine ⟨-1, ?_, ?_, hM⟩
    · rw [if_neg p0]
    · by_cases p2 : a1.toInt < 0
      · rw [if_pos p2]
      · rw [if_neg p2, if_pos (by omega)]
theorem sb_grass {N k : Nat} {x m : zs_T} (hI : rb_I k x m) (a1 a2 : Int32) : zl_grass N x m (rb_I (k + 1)) a1 a2 := by
  have hM := rb_mono k x m hI
  obtain ⟨c, hh, d, w, S, n, hT, hR, hA, hP, hE, hL⟩ := id hM
  obtain ⟨q1, -, -, -, -, -, -, q2, q3, q4⟩ := hA
  unfold zl_grass fX8_grass fM9_grass
  rw [pf_has2 q1.1 q1.2.2.2, pf_mh q1.2.1 q1.2.2.2, pf_b01, pf_b01]
  by_cases p0 : 0 ≤ a1.toInt ∧ a1.toInt < hh
  · rw [if_pos p0, if_pos p0]
    obtain ⟨j, hj, rfl⟩ := pz_of p0.1
    rw [pz_nI hj] at p0
    have hh6 := q1.2.2.2
    simp only [pz_cl hj, if_pos (pz_in (show j < 6 by omega) (show (6 : Nat) < 2 ^ 31 by decide))]
    rw [(q2 j (by omega)).1, (q3 j (by omega)).1, (q4 j (by omega)).1]
    by_cases p1 : a2 = 0
    · simp only [if_pos p1]; exact ⟨_, rfl, rfl, hM⟩
    · by_cases p2 : a2 = 1
      · simp only [if_neg p1, if_pos p2]; exact ⟨_, rfl, rfl, hM⟩
      · by_cases p3 : a2 = 2
        · simp only [if_neg p1, if_neg p2, if_pos p3]; exact ⟨_, rfl, rfl, hM⟩
        · simp only [if_neg p1, if_neg p2, if_neg p3]; exact ⟨_, rfl, rfl, hM⟩
  · rw [if_neg p0, if_neg p0]
    exact ⟨_, rfl, rfl, hM⟩
theorem sb_entry {N k : Nat} {x m : zs_T} (hI : rb_I k x m) (a1 a2 : Int32) : zl_entry N x m (rb_I (k + 1)) a1 a2 := by
  have hM := rb_mono k x m hI
  obtain ⟨c, hh, d, w, S, n, hT, hR, hA, hP, hE, hL⟩ := id hM
  obtain ⟨q1, q2, q3, q4, q5, q6, q7⟩ := hE
  unfold zl_entry fX8_entry fM9_entry
  have hn := q2.2.2
  rw [pf_within, pf_b01, q2.1, q2.2.1]
  simp only [pf_pred (show n ≤ 1000 by omega)]
  simp only [pz_le, pz_lt, Int32.reduceToInt, pz_nI (show n < 2 ^ 31 by omega)]
  by_cases p0 : 0 ≤ a1.toInt ∧ a1.toInt < n
  · obtain ⟨j, hj, rfl⟩ := pz_of p0.1
    rw [pz_nI hj] at p0
    have hz : zf_in (nI j) 100 = true := pz_in (by omega) (by decide)
    obtain ⟨b1, b2, b3, b4⟩ := q6 j (by omega)
    simp only [pz_nI hj, pz_cl hj, if_pos hz, if_pos p0, if_pos p0.2, if_neg (show ¬ (j : Int) < 0 by omega), b1.1, b2.1, b3.1, b4.1]
    by_cases p1 : a2 = 0
    · simp only [if_pos p1]; exact ⟨_, rfl, rfl, hM⟩
    · by_cases p2 : a2 = 1
      · simp only [if_neg p1, if_pos p2]; exact ⟨_, rfl, rfl, hM⟩
      · by_cases p3 : a2 = 2
        · simp only [if_neg p1, if_neg p2, if_pos p3]; exact ⟨_, rfl, rfl, hM⟩
        · by_cases p4 : a2 = 3
          · simp only [if_neg p1, if_neg p2, if_neg p3, if_pos p4]; exact ⟨_, rfl, rfl, hM⟩
          · simp only [if_neg p1, if_neg p2, if_neg p3, if_neg p4]; exact ⟨_, rfl, rfl, hM⟩
  · refine ⟨-1, ?_, ?_, hM⟩
    · rw [if_neg p0]
    · by_cases p2 : a1.toInt < 0
      · rw [if_pos p2]
      · rw [if_neg p2, if_neg (by omega)]
theorem sb_rule {N k : Nat} {x m : zs_T} (hI : rb_I k x m) (a1 : Int32) : zl_rule N x m (rb_I (k + 1)) a1 := by
  have hM := rb_mono k x m hI
  obtain ⟨c, hh, d, w, S, n, hT, hR, hA, hP, hE, hL⟩ := id hM
  obtain ⟨⟨b0, b1, b2, b3⟩, -⟩ := hR
  unfold zl_rule fX8_rule fM9_rule
  rw [pf_within, pf_b01]
  by_cases p0 : a1 = 0
  · subst p0; exact ⟨_, rfl, by rw [if_pos rfl]; exact congrArg some b0.symm, hM⟩
  · by_cases p1 : a1 = 1
    · subst p1; exact ⟨_, rfl, by rw [if_neg p0, if_pos rfl]; exact congrArg some b1.symm, hM⟩
    · by_cases p2 : a1 = 2
      · subst p2; exact ⟨_, rfl, by rw [if_neg p0, if_neg p1, if_pos rfl]; exact congrArg some b2.symm, hM⟩
      · by_cases p3 : a1 = 3
        · subst p3; exact ⟨_, rfl, by rw [if_neg p0, if_neg p1, if_neg p2, if_pos rfl]; exact congrArg some b3.symm, hM⟩
        · rw [if_neg p0, if_neg p1, if_neg p2, if_neg p3]
          refine ⟨-1, ?_, rfl, hM⟩
          rw [if_neg]
          simp only [pz_le, Int32.reduceToInt]
          have e0 : a1.toInt ≠ 0 := zf_ne p0
          have e1 : a1.toInt ≠ 1 := zf_ne p1
          have e2 : a1.toInt ≠ 2 := zf_ne p2
          have e3 : a1.toInt ≠ 3 := zf_ne p3
          omega
