theorem pt_place {N : Nat} {x m : zs_T} {o : Int32} (hx : ∀ j, j < 12 → zs_a x 22 j = zs_a m 17 j) : ∀ (r i f : Nat), i + r = 12 → (∃ j, i ≤ j ∧ j < 12 ∧ zs_a m 17 j = o) → r < f → ∃ p : Nat, zf_loop (fun ag y => fX1_placeOf_b2 N x o (fun v2 => ag v2) y) f (nI i) = some (nI p) ∧ zf_loop (fun ag y => fM9_told_b91 N m o (fun v3 => ag v3) y) f (nI i) = some ((nI p).toInt64, m) := by
  intro r
  induction r with
  | zero =>
    intro i f hi hj hf
    obtain ⟨j, h1, h2, -⟩ := hj
    omega
  | succ r ih =>
    intro i f hi hj hf
    obtain ⟨f, rfl⟩ : ∃ f', f = f' + 1 := ⟨f - 1, by omega⟩
    rw [zf_loop_s, zf_loop_s]
    have hz : zf_in (nI i) 12 = true := pz_in (by omega) (by decide)
    show ∃ p : Nat, fX1_placeOf_b2 N x o (fun v2 => zf_loop (fun ag y => fX1_placeOf_b2 N x o (fun v2 => ag v2) y) f v2) (nI i) = some (nI p) ∧ fM9_told_b91 N m o (fun v3 => zf_loop (fun ag y => fM9_told_b91 N m o (fun v3 => ag v3) y) f v3) (nI i) = _
    obtain ⟨A1, hA1⟩ : ∃ A : Int32 → Option Int32, A = fun v2 => zf_loop (fun ag y => fX1_placeOf_b2 N x o (fun v2 => ag v2) y) f v2 := ⟨_, rfl⟩
    obtain ⟨A2, hA2⟩ : ∃ A : Int32 → Option (Int64 × zs_T), A = fun v3 => zf_loop (fun ag y => fM9_told_b91 N m o (fun v3 => ag v3) y) f v3 := ⟨_, rfl⟩
    rw [← hA1, ← hA2]
    unfold fX1_placeOf_b2 fM9_told_b91
    rw [if_neg (show ¬ (12 : Int32) ≤ nI i by rw [pz_le, pz_nI (by omega)]; show ¬ (12 : Int) ≤ i; omega), if_pos hz, if_pos hz, pz_cl (show i < 2 ^ 31 by omega), hx i (by omega), pz_succ]
    by_cases p : zs_a m 17 i = o
    · rw [if_pos p, if_pos p]
      exact ⟨i, rfl, rfl⟩
    · rw [if_neg p, if_neg p, hA1, hA2]
      obtain ⟨j, h1, h2, h3⟩ := hj
      refine ih (i + 1) f (by omega) ⟨j, ?_, h2, h3⟩ (by omega)
      rcases Nat.lt_or_ge i j with q | q
      · exact q
      · exact absurd (by rw [show i = j by omega]; exact h3) p
theorem sb_told {N k : Nat} {x m : zs_T} (hN : 200 ≤ N) (hI : rb_I k x m) (a1 a2 : Int32) : zl_told N x m (rb_I (k + 1)) a1 a2 := by
  have hM := rb_mono k x m hI
  obtain ⟨c, hh, d, w, S, n, hT, hR, hA, hP, hE, hL⟩ := id hM
  have hS := hE.1.2.2
  obtain ⟨d1, d2, d3⟩ := hA.2.2.2.2.1
  obtain ⟨l1, ⟨t, l2, l3⟩, l4, l5, l6⟩ := hL
  unfold zl_told fX8_told fM9_told
  rw [pf_isOwner, pf_b01]
  simp only [pz_le, pz_lt, Int32.reduceToInt]
  by_cases p : 0 ≤ a1.toInt ∧ a1.toInt ≤ 11
  · obtain ⟨o, ho, rfl⟩ := pz_of p.1
    rw [pz_nI ho] at p
    have hz : zf_in (nI o) 12 = true := pz_in (by omega) (by decide)
    simp only [pz_nI ho]
    rw [if_pos p, if_neg (show ¬ (o : Int) < 0 by omega), if_pos (show (o : Int) < 12 by omega), pz_cl ho, d1]
    simp only [if_pos hz]
    by_cases s0 : a2 = 0
    · rw [if_pos s0, if_pos s0]
      obtain ⟨x', b1, b2⟩ := pt_liv (o := nI o) hN hE d3 S 0 N x (by omega) (by omega) zg_ag.rf
      obtain ⟨m', c1, c2⟩ := pt_herd (o := nI o) hN hE d3 d2 S 0 N m (by omega) (by omega) zg_ag.rf
      have b3 : fX4_livingOf N x (nI o) (nI d) = some (nI (pn_liv m n d (nI o) S), x') := b1
      have c3 : fM9_herd N m (nI o) = some (nI (pn_liv m n d (nI o) S), m') := c1
      rw [b3, c3, zf_bi_s, zf_bi_s]
      exact ⟨_, x', m', rfl, rfl, rb_I_ag hM (px_xs b2) (pa_ms c2)⟩
    · rw [if_neg s0, if_neg s0]
      by_cases s1 : a2 = 1
      · rw [if_pos s1, if_pos s1, (l4 o (by omega)).1]
        exact ⟨_, x, m, rfl, rfl, hM⟩
      · rw [if_neg s1, if_neg s1]
        by_cases s2 : a2 = 2
        · rw [if_pos s2, if_pos s2, (l5 o (by omega)).1]
          exact ⟨_, x, m, rfl, rfl, hM⟩
        · rw [if_neg s2, if_neg s2]
          by_cases s3 : a2 = 3
          · rw [if_pos s3, if_pos s3, (l5 o (by omega)).2.1]
            exact ⟨_, x, m, rfl, rfl, hM⟩
          · rw [if_neg s3, if_neg s3]
            by_cases s4 : a2 = 4
            · rw [if_pos s4, if_pos s4, (l5 o (by omega)).2.2]
              exact ⟨_, x, m, rfl, rfl, hM⟩
            · rw [if_neg s4, if_neg s4]
              by_cases s5 : a2 = 5
              · rw [if_pos s5, if_pos s5]
                have hmem : o ∈ t := l2.mem_iff.mpr (List.mem_range.mpr (by omega))
                obtain ⟨j, hj⟩ := List.mem_iff_getElem?.mp hmem
                have hlen : t.length = 12 := by rw [l2.length_eq, List.length_range]
                have hj2 : j < 12 := by
                  have := (List.getElem?_eq_some_iff.mp hj).1
                  omega
                obtain ⟨q, e1, e2⟩ := pt_place (N := N) (o := nI o) l1 12 0 N (by omega) ⟨j, by omega, hj2, l3 j o hj⟩ (by omega)
                have e3 : fX1_placeOf N x (nI o) = some (nI q) := e1
                rw [e3, zf_bp_s]
                exact ⟨_, x, m, rfl, e2, hM⟩
              · rw [if_neg s5, if_neg s5]
                exact ⟨-1, x, m, rfl, rfl, hM⟩
  · refine ⟨-1, x, m, ?_, ?_, hM⟩
    · rw [if_neg p]
    · by_cases q : a1.toInt < 0
      · rw [if_pos q]
      · rw [if_neg q, if_neg (by omega)]
