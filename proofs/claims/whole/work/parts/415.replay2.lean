/-- the entries of a related pair -/
theorem pe_E {S n : Nat} {x m : zs_T} (h : rb_E S n x m) : px_E n S (zs_a m 11) (zs_a m 12) (zs_a m 13) (zs_a m 14) x := by
  obtain ⟨q1, q2, q3, q4, q5, q6, q7, q8⟩ := h
  refine ⟨q2.1, q2.2.2, fun e he => ?_⟩
  obtain ⟨b1, b2, b3, b4⟩ := q6 e he
  exact ⟨⟨b1.1, b2.1, b3.1, b4.1⟩, b1.2, b3.2, b4.2⟩
theorem pz_evs_le (O D : Nat → Int32) (k s : Nat) {d : Nat} (hd : d ≤ 150) : pz_evs O D k s 150 = pz_evs O D k s d ++ (List.range' (d + 1) (150 - d)).flatMap (pz_day O D k s) := by
  unfold pz_evs
  rw [← List.flatMap_append]
  congr 1
  rw [show d + 1 = 1 + 1 * d by omega, List.range'_append]
  congr 1
  omega
theorem pe_ok {S n : Nat} {x m : zs_T} (h : rb_E S n x m) {k s d : Nat} (hk : k ≤ n) (hs : s < S) (hd : d ≤ 150) : pz_ok (zs_a m 11) (zs_a m 14) (rb_st m s) (pz_evs (zs_a m 12) (zs_a m 13) k s d) = true := by
  have h1 := h.2.2.2.2.2.2.2 k hk s hs
  rw [pz_evs_le _ _ _ _ hd, pz_ok_app, Bool.and_eq_true] at h1
  exact h1.1
theorem px_begin {u : zs_T} {ow de : Int32} (h1 : 0 ≤ ow.toInt ∧ ow.toInt < 12) (h2 : zf_z de = true) : ∃ u', fX7_begin u ow de = some u' ∧ px_ag u u' ∧ px_R u' ((0, de, ow), 0, 1, fun _ => 0) := by
  unfold fX7_begin
  rw [if_pos h2]
  refine ⟨_, rfl, (((((zg_ag.rf.si (by decide)).si (by decide)).si (by decide)).si (by decide)).sa (by decide)).si (by decide), ?_⟩
  refine ⟨rfl, rfl, rfl, fun o ho => ?_, ⟨show 1 ≤ 1 by decide, show 1 ≤ 151 by decide, show 0 < 1 by decide, fun _ _ => show 0 < 1 by decide⟩, h1, rfl, h2, Or.inl rfl⟩
  show zf_fill 12 0 _ o = nI 0
  simp [zf_fill, ho]
  rfl
/-- replay on a register with canonical order, whatever is asked -/
theorem px_replay0 {N n S k s last : Nat} {W O D T : Nat → Int32} {u : zs_T} (hN : 200 ≤ N) (hE : px_E n S W O D T u) (hO : ∀ i e, (pz_can D n 150)[i]? = some e → zs_a u 17 i = nI e) (hk : k ≤ n) (hs : s < 80) (hl : last ≤ 150) (h1 : 0 ≤ (zs_a u 11 s).toInt ∧ (zs_a u 11 s).toInt < 12) (h2 : zf_z (zs_a u 12 s) = true) : ∃ r u', fX7_replay N u (nI s) (nI k) (nI last) = some (r, u') ∧ px_ag u u' ∧ (pz_ok W T (0, zs_a u 12 s, zs_a u 11 s) (pz_evs O D k s last) = true → r = 1 ∧ px_R u' (pn_S W O D T k s (0, zs_a u 12 s, zs_a u 11 s) last, pn_U W O D T k s (0, zs_a u 12 s, zs_a u 11 s) last, last + 1, fun o => pn_H W O D T k s (0, zs_a u 12 s, zs_a u 11 s) o last)) ∧ (pz_ok W T (0, zs_a u 12 s, zs_a u 11 s) (pz_evs O D k s last) = false → r = 0) := by
  have hz : zf_in (nI s) 80 = true := pz_in hs (by decide)
  have hn := hE.2.1
  obtain ⟨u1, a1, a2, a3⟩ := px_begin (u := u) h1 h2
  unfold fX7_replay
  rw [pz_cl (show s < 2 ^ 31 by omega), if_pos hz, if_pos hz, a1, zf_bv_s]
  have hlen := pc_len (D := D) (n := n) (fun e he => (hE.2.2 e he).2.2.1)
  obtain ⟨r, u', b1, b2, b3, b4⟩ := px_loop (N := N) (S := S) (k := k) (s := s) (last := last) (W := W) (O := O) (D := D) (T := T) hk hl hs (pz_can D n 150) 0 N u1 _ (fun j e h => by
    rw [Nat.zero_add, a2.2.2.1 17 (by decide)]
    exact ⟨hO j e h, pc_lt (List.mem_of_getElem? h)⟩) (by omega) (by omega) a3 (by rw [pc_can_eq]; exact pc_sorted D n 1 150 (by decide)) (fun e he => by
      have := (px_dnI (hE.2.2 e (pc_lt he)).2.2.1).2.1
      exact this) (by show 1 ≤ last + 1; omega) (hE.ag a2)
  rw [pc_rl hk hl] at b3 b4
  refine ⟨r, u', b1, a2.tr b2, fun h => ?_, b4⟩
  obtain ⟨c1, c2⟩ := b3 h
  rw [pn_tally W O D T k s _ last hl] at c2
  exact ⟨c1, c2⟩
/-- replay on a related pair -/
theorem px_replay {N n S k s last : Nat} {x m : zs_T} (hN : 200 ≤ N) (hE : rb_E S n x m) (hk : k ≤ n) (hs : s < S) (hl : last ≤ 150) : ∃ x', fX7_replay N x (nI s) (nI k) (nI last) = some (1, x') ∧ px_ag x x' ∧ px_R x' (pn_S (zs_a m 11) (zs_a m 12) (zs_a m 13) (zs_a m 14) k s (rb_st m s) last, pn_U (zs_a m 11) (zs_a m 12) (zs_a m 13) (zs_a m 14) k s (rb_st m s) last, last + 1, fun o => pn_H (zs_a m 11) (zs_a m 12) (zs_a m 13) (zs_a m 14) k s (rb_st m s) o last) := by
  obtain ⟨q1, q2, q3, q4, q5, q6, q7, q8⟩ := id hE
  obtain ⟨b1, b2, b3⟩ := q4 s hs
  have hS := q1.2.2
  obtain ⟨r, x', c1, c2, c3, -⟩ := px_replay0 hN (pe_E hE) q7 hk (show s < 80 by omega) hl (by rw [b1.1]; exact b1.2) (by rw [b2.1]; exact b2.2)
  have e : ((0 : Int32), zs_a x 12 s, zs_a x 11 s) = rb_st m s := by rw [b2.1, b1.1]; rfl
  rw [e] at c3
  obtain ⟨d1, d2⟩ := c3 (pe_ok hE hk hs hl)
  subst d1
  exact ⟨x', c1, c2, d2⟩
/-- asks on a related pair -/
theorem pa_asks2 {N n S k s d : Nat} {x m : zs_T} (hN : 200 ≤ N) (hE : rb_E S n x m) (hk : k ≤ n) (hs : s < S) (hd : d ≤ 150) : ∃ m', fM9_asks N m (nI k) (nI s) (nI d) = some (1, m') ∧ pa_ag m m' ∧ pa_st m' = pn_S (zs_a m 11) (zs_a m 12) (zs_a m 13) (zs_a m 14) k s (rb_st m s) d := by
  obtain ⟨q1, q2, q3, q4, q5, q6, q7, q8⟩ := id hE
  have hS := q1.2.2
  have hn := q2.2.2
  obtain ⟨m', a1, a2, a3⟩ := pa_asks (N := N) (u := m) hN (show k ≤ 100 by omega) (show s < 80 by omega) hd (q4 s hs).2.1.2
  rw [if_pos (pe_ok hE hk hs hd)] at a1
  exact ⟨m', a1, a2, a3⟩
