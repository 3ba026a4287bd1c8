theorem pb_alp {N : Nat} (hN : 10 ≤ N) (m0 : zs_T) : ∃ z, zf_loop (fun ag x => fM9_alp_b50 N (fun u v2 => ag (u, v2)) x.1 x.2) N (m0, 0) = some z ∧ (z.1 = 1 ∧ zg_ag [] [] [2, 3, 4] [] m0 z.2 ∧ ∀ j, j < 6 → zs_a z.2 2 j = 0 ∧ zs_a z.2 3 j = 1 ∧ zs_a z.2 4 j = 0) := by
  refine pl_lp _ (fun s : zs_T × Int32 => ∃ i, i ≤ 6 ∧ s.2 = nI i ∧ zg_ag [] [] [2, 3, 4] [] m0 s.1 ∧ ∀ j, j < i → zs_a s.1 2 j = 0 ∧ zs_a s.1 3 j = 1 ∧ zs_a s.1 4 j = 0) (fun s => 6 - s.2.toNatClampNeg) _ ?_ N (m0, 0) ⟨0, by omega, rfl, zg_ag.rf, fun j h => absurd h (Nat.not_lt_zero _)⟩ (by show 6 - 0 < N; omega)
  rintro ag ⟨u, v⟩ ⟨i, hi, hv, hag, hj⟩ ih
  dsimp only at hv hag hj
  subst hv
  show ∃ z, fM9_alp_b50 N (fun u v2 => ag (u, v2)) u (nI i) = some z ∧ _
  unfold fM9_alp_b50
  by_cases p : i = 6
  · subst p
    rw [if_pos (by decide)]
    exact ⟨_, rfl, rfl, hag, hj⟩
  · have hz : zf_in (nI i) 6 = true := pz_in (by omega) (by decide)
    rw [if_neg (by rw [pz_le, pz_nI (by omega)]; show ¬ (6 : Int) ≤ i; omega), if_pos hz, if_pos hz, if_pos hz, pz_succ, pz_cl (show i < 2 ^ 31 by omega)]
    refine ih _ ⟨i + 1, by omega, rfl, ((hag.sa (by decide)).sa (by decide)).sa (by decide), fun j h => ?_⟩ (by show 6 - (nI (i + 1)).toNatClampNeg < 6 - (nI i).toNatClampNeg; rw [pz_cl (by omega), pz_cl (by omega)]; omega)
    show upd (zs_a u 2) i 0 j = 0 ∧ upd (zs_a u 3) i 1 j = 1 ∧ upd (zs_a u 4) i 0 j = 0
    simp only [pz_upd]
    by_cases e : j = i
    · simp [e]
    · simp only [if_neg e]; exact hj j (by omega)
theorem sb_alp {N k : Nat} {x m : zs_T} (hN : 10 ≤ N) (hI : rb_I k x m) (a1 : Int32) : zl_alp N x m (rb_I (k + 1)) a1 := by
  have hM := rb_mono k x m hI
  obtain ⟨c, hh, d, w, S, n, hT, hR, hA, hP, hE, hL⟩ := id hM
  obtain ⟨q1, q2, q3, q4, q5, q6, q7, q8, q9, q10⟩ := id hA
  obtain ⟨e1, e2, e3, e4⟩ := id hE
  have hn := e2.2.2
  have hd := q5.2.2
  have hx : fX8_alp x a1 = if (zs_i m 9 = 1 ∧ d = 0 ∧ zs_i m 7 = -1 ∧ n = 0) ∧ 1 ≤ a1 ∧ a1 ≤ 6 then (zf_bv (fX2_makeHeights x a1) fun u4 => some (1, u4)) else some (0, x) := by
    unfold fX8_alp fX8_alp_j40 fX8_alp_j41
    rw [pf_within, pf_b01, q4.1, q5.1, q2.1, e2.1]
    have z1 : nI d = 0 ↔ d = 0 := nI_eq (a := d) (b := 0) (by omega) (by decide)
    have z2 : nI n = 0 ↔ n = 0 := nI_eq (a := n) (b := 0) (by omega) (by decide)
    simp only [z1, z2]
    by_cases s1 : zs_i m 9 = 1
    · by_cases s2 : d = 0
      · by_cases s3 : zs_i m 7 = -1
        · by_cases s4 : n = 0
          · simp [s1, s2, s3, s4]
          · simp [s1, s2, s3, s4]
        · simp [s1, s2, s3]
      · simp [s1, s2]
    · simp [s1]
  unfold zl_alp
  rw [hx]
  by_cases p : (zs_i m 9 = 1 ∧ d = 0 ∧ zs_i m 7 = -1 ∧ n = 0) ∧ 1 ≤ a1 ∧ a1 ≤ 6
  · rw [if_pos p]
    obtain ⟨⟨p1, p2, p3, p4⟩, p5, p6⟩ := p
    have g5 : 1 ≤ a1.toInt := pz_le.mp p5
    have g6 : a1.toInt ≤ 6 := pz_le.mp p6
    obtain ⟨z, hz, hz1, hz2, hz3⟩ := pb_alp hN (zs_si m 6 a1)
    have hm : fM9_alp N m a1 = some z := by
      unfold fM9_alp
      rw [if_neg (by rw [pz_lt]; show ¬ a1.toInt < 1; omega), if_neg (by rw [pz_lt]; show ¬ 6 < a1.toInt; omega), if_neg (by rw [q5.2.1, p2]; decide), if_neg (by rw [p1]; decide), if_pos p3, if_pos (by rw [e2.2.1, p4]; decide)]
      exact hz
    obtain ⟨z1, z2⟩ := z
    dsimp only at hz1 hz2 hz3
    subst hz1
    obtain ⟨h, hlt, rfl⟩ := pz_of (x := a1) (by omega)
    rw [pz_nI hlt] at g5 g6
    refine ⟨1, _, z2, rfl, hm, c, h, d, w, S, n, ?_, ?_, ?_, ?_, ?_, ?_⟩
    · exact rb_T_of hT rfl rfl (hz2.1 0 (by decide)) (hz2.2.2.1 0 (by decide))
    · exact rb_R_of hR rfl (fun j h1 h2 => by rw [hz2.1 j (by simp), zs_i_si, if_neg (by omega)])
    · refine ⟨⟨rfl, hz2.1 6 (by decide), by omega, by omega⟩, ⟨?_, ?_, ?_⟩, ?_, ?_, ?_, ?_, ?_, fun j hj => ?_, fun j hj => ?_, fun j hj => ?_⟩
      · rw [hz2.1 7 (by decide)]; exact q2.1
      · rw [hz2.1 7 (by decide)]; exact q2.2.1
      · rw [hz2.1 7 (by decide)]; show (zs_i m 7).toInt < h; rw [p3]; show (-1 : Int) < h; omega
      · rw [hz2.1 8 (by decide)]; exact q3
      · rw [hz2.1 9 (by decide)]; exact q4
      · rw [hz2.1 10 (by decide)]; exact q5
      · rw [hz2.1 11 (by decide)]; exact q6
      · rw [hz2.2.1 0 (by decide)]; exact q7
      · rw [(hz3 j hj).1]
        refine ⟨?_, by decide, by decide⟩
        show zf_fill 6 0 _ j = 0
        simp [zf_fill, hj]
      · rw [(hz3 j (by omega)).2.1]
        refine ⟨?_, by decide, by decide⟩
        show zf_fill 6 1 _ j = 1
        simp [zf_fill, show j < 6 by omega]
      · rw [(hz3 j hj).2.2]
        refine ⟨?_, by decide, by decide⟩
        show zf_fill 6 0 _ j = 0
        simp [zf_fill, hj]
    · exact rb_P_of hP rfl rfl (hz2.1 _ (by decide)) (hz2.2.2.1 _ (by decide))
    · exact rb_E_of hE ⟨rfl, rfl, rfl, rfl, rfl, rfl, rfl, rfl, rfl, rfl, rfl⟩ ⟨hz2.1 _ (by decide), hz2.1 _ (by decide), hz2.1 _ (by decide), hz2.2.2.1 _ (by decide), hz2.2.2.1 _ (by decide), hz2.2.2.1 _ (by decide), hz2.2.2.1 _ (by decide), hz2.2.2.1 _ (by decide), hz2.2.2.1 _ (by decide), hz2.2.2.1 _ (by decide)⟩
    · exact rb_L_of hL ⟨rfl, rfl, rfl, rfl, rfl, rfl⟩ ⟨hz2.2.2.1 _ (by decide), hz2.2.2.1 _ (by decide), hz2.2.2.1 _ (by decide), hz2.2.2.2 _ (by decide), hz2.2.2.2 _ (by decide), hz2.2.1 _ (by decide)⟩
  · rw [if_neg p]
    refine ⟨0, x, m, rfl, ?_, hM⟩
    unfold fM9_alp
    rw [q5.2.1, e2.2.1]
    by_cases s1 : a1 < 1
    · rw [if_pos s1]
    · by_cases s2 : 6 < a1
      · rw [if_neg s1, if_pos s2]
      · by_cases s3 : 0 < nI d
        · rw [if_neg s1, if_neg s2, if_pos s3]
        · by_cases s4 : 1 < zs_i m 9
          · rw [if_neg s1, if_neg s2, if_neg s3, if_pos s4]
          · by_cases s5 : zs_i m 7 = -1
            · by_cases s6 : nI n ≤ 0
              · exfalso
                apply p
                rw [pz_lt] at s1 s2 s3 s4
                rw [pz_le] at s6
                rw [pz_nI (by omega)] at s3 s6
                have t1 : ¬ a1.toInt < 1 := s1
                have t2 : ¬ 6 < a1.toInt := s2
                have t3 : ¬ (0 : Int) < d := s3
                have t4 : ¬ 1 < (zs_i m 9).toInt := s4
                have t6 : (n : Int) ≤ 0 := s6
                refine ⟨⟨pz_eq.mpr ?_, by omega, s5, by omega⟩, pz_le.mpr ?_, pz_le.mpr ?_⟩
                · show (zs_i m 9).toInt = 1; omega
                · show 1 ≤ a1.toInt; omega
                · show a1.toInt ≤ 6; omega
              · rw [if_neg s1, if_neg s2, if_neg s3, if_neg s4, if_pos s5, if_neg s6]
            · rw [if_neg s1, if_neg s2, if_neg s3, if_neg s4, if_neg s5]
