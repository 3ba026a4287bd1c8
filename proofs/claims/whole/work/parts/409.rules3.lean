theorem sb_rules {N k : Nat} {x m : zs_T} (hN : 50 ≤ N) (hI : rb_I k x m) (a1 : Int32) : zl_rules N x m (rb_I (k + 1)) a1 := by
  have hM := rb_mono k x m hI
  obtain ⟨c, hh, d, w, S, n, hT, hR, hA, hP, hE, hL⟩ := id hM
  obtain ⟨q1, q2, q3, q4⟩ := id hT
  obtain ⟨x0, hx0, ax0, vx0⟩ : ∃ x0, fX5_setFirst_d x = some x0 ∧ zg_ag [] [] [2] [] x x0 ∧ (zs_a x0 2 0 = 5 ∧ zs_a x0 2 1 = 500 ∧ zs_a x0 2 2 = 40 ∧ zs_a x0 2 3 = 90) := ⟨_, rfl, (((zg_ag.rf.sa (by decide)).sa (by decide)).sa (by decide)).sa (by decide), rfl, rfl, rfl, rfl⟩
  unfold zl_rules fX8_rules fM9_rules fX5_read fM9_parse
  rw [pf_within, pf_b01, q1, q2, hx0, zf_bv_s]
  by_cases p : 0 ≤ a1 ∧ a1 ≤ nI c
  · rw [if_pos p]
    have p1 : 0 ≤ a1.toInt := pz_le.mp p.1
    have p2 := pz_le.mp p.2
    obtain ⟨t, ht, rfl⟩ := pz_of p1
    rw [pz_nI ht, pz_nI (by omega)] at p2
    rw [if_neg (nI_pos ht), if_pos p.2]
    generalize hm0 : (zs_sa (zs_sa (zs_sa (zs_sa m 1 _) 1 _) 1 _) 1 _ : zs_T) = m0
    have am0 : zg_ag [] [] [1] [] m m0 := by rw [← hm0]; exact (((zg_ag.rf.sa (by decide)).sa (by decide)).sa (by decide)).sa (by decide)
    have vm0 : zs_a m0 1 0 = 5 ∧ zs_a m0 1 1 = 500 ∧ zs_a m0 1 2 = 40 ∧ zs_a m0 1 3 = 90 := by rw [← hm0]; exact ⟨rfl, rfl, rfl, rfl⟩
    have hT0 : pr_T x0 m0 := by
      unfold pr_T
      rw [ax0.2.2.1 0 (by decide), am0.2.2.1 0 (by decide)]
      exact q4
    obtain ⟨r, x', m', g1, g2, g3, g4, g5⟩ := pr_join hN (n := t) (by omega) 41 0 (by omega) (by omega) N N x0 m0 (by omega) (by omega) hT0 (fun i hi => by
      obtain ⟨u0, u1, u2, u3⟩ := vx0
      obtain ⟨v0, v1, v2, v3⟩ := vm0
      rcases (show i = 0 ∨ i = 1 ∨ i = 2 ∨ i = 3 by omega) with rfl | rfl | rfl | rfl
      · rw [u0, v0]; exact ⟨rfl, by decide, by decide⟩
      · rw [u1, v1]; exact ⟨rfl, by decide, by decide⟩
      · rw [u2, v2]; exact ⟨rfl, by decide, by decide⟩
      · rw [u3, v3]; exact ⟨rfl, by decide, by decide⟩)
    have ax : zg_ag [] [] [1, 2] [] x x' := (ax0.mono (by simp) (by simp) (by simp) (by simp)).tr g3
    have am : zg_ag [] [] [1] [] m m' := am0.tr g4
    rw [show zf_loop (fun ag x => fX5_read_b9 N (nI t) (fun u v3 => ag (u, v3)) x.1 x.2) N (x0, 0) = some (r, x') from g1, show zf_loop (fun ag x => fM9_parse_b2 N (nI t) (fun u v2 => ag (u, v2)) x.1 x.2) N (m0, 0) = some (r, m') from g2, zf_bi_s, zf_bi_s]
    have keep : ∀ (x9 m9 : zs_T), zg_ag [2] [] [1, 2] [] x x9 → zg_ag [0, 1, 2, 3, 4, 5] [] [1] [] m m9 → zs_i x9 2 = nI 0 → zs_i m9 0 = nI 0 → rb_R x9 m9 → rb_I (k + 1) x9 m9 := by
      intro x9 m9 ⟨xi, xl, xa, xb⟩ ⟨mi, ml, ma, mb⟩ e1 e2 hR9
      refine ⟨0, hh, d, w, S, n, ⟨e1, e2, by omega, ?_⟩, hR9, rb_A_of hA ?_ ?_, rb_P_of hP (xi _ (by decide)) (xa _ (by decide)) (mi _ (by decide)) (ma _ (by decide)), rb_E_of hE ?_ ?_, rb_L_of hL ?_ ?_⟩
      · rw [xa 0 (by decide), ma 0 (by decide)]; exact q4
      · exact ⟨xi _ (by decide), xi _ (by decide), xi _ (by decide), xi _ (by decide), xi _ (by decide), xi _ (by decide), xl _ (by decide), xa _ (by decide), xa _ (by decide), xa _ (by decide)⟩
      · exact ⟨mi _ (by decide), mi _ (by decide), mi _ (by decide), mi _ (by decide), mi _ (by decide), mi _ (by decide), ml _ (by decide), ma _ (by decide), ma _ (by decide), ma _ (by decide)⟩
      · exact ⟨xi _ (by decide), xi _ (by decide), xi _ (by decide), xa _ (by decide), xa _ (by decide), xa _ (by decide), xa _ (by decide), xa _ (by decide), xa _ (by decide), xa _ (by decide), xa _ (by decide)⟩
      · exact ⟨mi _ (by decide), mi _ (by decide), mi _ (by decide), ma _ (by decide), ma _ (by decide), ma _ (by decide), ma _ (by decide), ma _ (by decide), ma _ (by decide), ma _ (by decide)⟩
      · exact ⟨xa _ (by decide), xb _ (by decide), xa _ (by decide), xb _ (by decide), xb _ (by decide), xl _ (by decide)⟩
      · exact ⟨ma _ (by decide), ma _ (by decide), ma _ (by decide), mb _ (by decide), mb _ (by decide), ml _ (by decide)⟩
    have ax2 : zg_ag [2] [] [1, 2] [] x (zs_si x' 2 0) := (ax.mono (by simp) (by simp) (by simp) (by simp)).si (by decide)
    have am2 : zg_ag [0, 1, 2, 3, 4, 5] [] [1] [] m (zs_si (zs_si m' 1 r) 0 0) := ((am.mono (by simp) (by simp) (by simp) (by simp)).si (by decide)).si (by decide)
    rw [show zs_i (zs_si (zs_si m' 1 r) 0 0) 1 = r from rfl]
    rcases g5 with ⟨rfl, g6⟩ | ⟨g6, g7⟩
    · rw [if_pos rfl]
      refine ⟨0, _, _, rfl, rfl, keep _ _ ax2 ((((am2.si (by decide)).si (by decide)).si (by decide)).si (by decide)) rfl rfl ?_⟩
      refine ⟨⟨(g6 0 (by decide)).1, (g6 1 (by decide)).1, (g6 2 (by decide)).1, (g6 3 (by decide)).1⟩, fun j h1 h2 => ?_⟩
      rcases (show j = 2 ∨ j = 3 ∨ j = 4 ∨ j = 5 by omega) with rfl | rfl | rfl | rfl
      · exact (g6 0 (by decide)).2
      · exact (g6 1 (by decide)).2
      · exact (g6 2 (by decide)).2
      · exact (g6 3 (by decide)).2
    · rw [if_neg g6]
      refine ⟨r, _, _, rfl, rfl, keep _ _ ax2 am2 rfl rfl ?_⟩
      refine rb_R_of hR ?_ (fun j h1 h2 => ?_)
      · exact g7.trans (ax0.2.2.1 1 (by decide))
      · simp only [zs_i_si]
        rw [if_neg (by omega), if_neg (by omega)]
        exact am.1 j (by simp)
  · rw [if_neg p]
    refine ⟨-1, x, m, rfl, ?_, hM⟩
    by_cases s1 : a1 < 0
    · rw [if_pos s1]
    · rw [if_neg s1, if_neg]
      intro h
      rw [pz_lt] at s1
      have s2 : ¬ a1.toInt < 0 := s1
      exact p ⟨pz_le.mpr (show 0 ≤ a1.toInt by omega), h⟩
