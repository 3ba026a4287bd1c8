theorem px_xs {u v : zs_T} (h : px_ag u v) : rb_xs u v := h.mono (by decide) (by decide) (by decide) (by decide)
theorem pa_ms {u v : zs_T} (h : pa_ag u v) : rb_ms u v := h.mono (by decide) (by decide) (by decide) (by decide)
theorem px_same {x' m' : zs_T} {t : px_S} {s : pz_S} (h1 : px_R x' t) (h2 : pa_st m' = s) (h3 : t.1 = s) : zs_i x' 15 = zs_i m' 18 ∧ zs_i x' 16 = zs_i m' 19 ∧ zs_i x' 14 = zs_i m' 20 := by
  have e : px_st x' = pa_st m' := by rw [h1.1, h2, h3]
  exact ⟨congrArg Prod.fst e, congrArg (fun z => z.2.1) e, congrArg (fun z => z.2.2) e⟩
theorem sb_look {N k : Nat} {x m : zs_T} (hN : 200 ≤ N) (hI : rb_I k x m) (a1 a2 a3 a4 : Int32) : zl_look N x m (rb_I (k + 1)) a1 a2 a3 a4 := by
  have hM := rb_mono k x m hI
  obtain ⟨c, hh, d, w, S, n, hT, hR, hA, hP, hE, hL⟩ := id hM
  obtain ⟨q1, q2, q3, q4⟩ := id hE
  unfold zl_look fX8_look fM9_look
  rw [pf_know q2.1 q2.2.2, pf_mk q2.2.1 q2.2.2, pf_within, pf_has4 q1.1 q1.2.2, pf_ms q1.2.1 q1.2.2, pf_b01, pf_b01, pf_b01, pf_b01, pf_b01]
  simp only [pz_le, pz_lt, Int32.reduceToInt]
  by_cases p : (0 ≤ a1.toInt ∧ a1.toInt ≤ n) ∧ (0 ≤ a2.toInt ∧ a2.toInt ≤ 150) ∧ (0 ≤ a3.toInt ∧ a3.toInt < S)
  · obtain ⟨p1, p2, p3⟩ := p
    obtain ⟨i, hi, rfl⟩ := pz_of p1.1
    obtain ⟨j, hj, rfl⟩ := pz_of p2.1
    obtain ⟨s, hs, rfl⟩ := pz_of p3.1
    rw [pz_nI hi] at p1
    rw [pz_nI hj] at p2
    rw [pz_nI hs] at p3
    simp only [pz_nI hi, pz_nI hj, pz_nI hs, if_pos p1, if_pos p2, if_pos p3, if_neg (show ¬ (j : Int) < 0 by omega), if_neg (show ¬ 150 < (j : Int) by omega)]
    obtain ⟨x', b1, b2, b3⟩ := px_replay hN hE (k := i) (s := s) (last := j) (by omega) (by omega) (by omega)
    obtain ⟨m', c1, c2, c3⟩ := pa_asks2 hN hE (k := i) (s := s) (d := j) (by omega) (by omega) (by omega)
    obtain ⟨e1, e2, e3⟩ := px_same b3 c3 rfl
    rw [b1, c1, zf_bi_s, zf_bi_s, e1, e2, e3]
    have hJ : rb_I (k + 1) x' m' := rb_I_ag hM (px_xs b2) (pa_ms c2)
    have hJ2 : rb_I (k + 1) x' m := rb_I_ag hM (px_xs b2) zg_ag.rf
    by_cases s0 : a4 = 0
    · subst s0
      rw [if_pos rfl, if_neg (show ¬ (0 : Int32).toInt < 0 by decide), if_pos (show (0 : Int32).toInt ≤ 1 by decide), if_neg (show ¬ (0 : Int32) = 1 by decide)]
      by_cases u1 : zs_i m' 19 = 0
      · rw [if_pos u1, if_pos u1]
        by_cases u2 : zs_i m' 18 = 0
        · rw [if_pos u2, if_pos u2]; exact ⟨0, x', m', rfl, rfl, hJ⟩
        · rw [if_neg u2, if_neg u2]; exact ⟨1, x', m', rfl, rfl, hJ⟩
      · rw [if_neg u1, if_neg u1]; exact ⟨2, x', m', rfl, rfl, hJ⟩
    · by_cases s1 : a4 = 1
      · subst s1
        rw [if_neg s0, if_pos rfl, if_neg (show ¬ (1 : Int32).toInt < 0 by decide), if_pos (show (1 : Int32).toInt ≤ 1 by decide), if_pos rfl]
        exact ⟨_, x', m', rfl, rfl, hJ⟩
      · rw [if_neg s0, if_neg s1]
        refine ⟨-1, x', m, rfl, ?_, hJ2⟩
        have n0 : a4.toInt ≠ 0 := zf_ne s0
        have n1 : a4.toInt ≠ 1 := zf_ne s1
        by_cases u1 : a4.toInt < 0
        · rw [if_pos u1]
        · rw [if_neg u1, if_neg (by omega)]
  · refine ⟨-1, x, m, ?_, ?_, hM⟩
    · repeat' split
      all_goals first | rfl | (exfalso; omega)
    · repeat' split
      all_goals first | rfl | (exfalso; omega)
