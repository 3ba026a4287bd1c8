/-! the reference's asks, as a run over the entries of a sheep by days -/
def pa_st (u : zs_T) : pz_S := (zs_i u 18, zs_i u 19, zs_i u 20)
abbrev pa_ag (u v : zs_T) : Prop := zg_ag [18, 19, 20] [] [] [] u v
theorem pz_run_app (W T : Nat → Int32) (s : pz_S) (l1 l2 : List Nat) : pz_run W T s (l1 ++ l2) = pz_run W T (pz_run W T s l1) l2 := by
  simp [pz_run, List.foldl_append]
theorem pz_ok_app (W T : Nat → Int32) : ∀ (s : pz_S) (l1 l2 : List Nat), pz_ok W T s (l1 ++ l2) = (pz_ok W T s l1 && pz_ok W T (pz_run W T s l1) l2)
  | s, [], l2 => by simp [pz_ok, pz_run]
  | s, e :: l1, l2 => by
    rw [List.cons_append, pz_ok, pz_ok_app W T _ l1 l2, pz_ok]
    simp [pz_run, Bool.and_assoc]
theorem pa_fit {u : zs_T} {e : Nat} (he : e < 100) (hz : zf_z (zs_i u 18) = true) : fM9_fitsAct u (nI e) = some (if pz_fit (zs_a u 11) (zs_a u 14) (pa_st u) e = true then 1 else 0) := by
  have hi : zf_in (nI e) 100 = true := pz_in he (by decide)
  unfold fM9_fitsAct pz_fit pa_st
  rw [if_pos hi, pz_cl (by omega)]
  simp only [if_pos hi, if_pos hz]
  simp only [zf_z, Bool.or_eq_true, beq_iff_eq] at hz
  by_cases s0 : zs_a u 11 e = 0
  · simp only [if_pos s0]
    by_cases s1 : zs_i u 18 = 0 <;> by_cases s2 : zs_i u 19 = 0 <;> simp [s1, s2]
  · by_cases s1 : zs_a u 11 e = 1
    · simp only [if_neg s0, if_pos s1, if_pos (Or.inl s1 : zs_a u 11 e = 1 ∨ zs_a u 11 e = 2)]
      rcases hz with h | h <;> simp [h]
    · by_cases s2 : zs_a u 11 e = 2
      · simp only [if_neg s0, if_neg s1, if_pos s2, if_pos (Or.inr s2 : zs_a u 11 e = 1 ∨ zs_a u 11 e = 2)]
        rcases hz with h | h <;> simp [h]
      · simp only [if_neg s0, if_neg s1, if_neg s2, if_neg (fun h : zs_a u 11 e = 1 ∨ zs_a u 11 e = 2 => h.elim s1 s2)]
        by_cases s3 : zs_i u 19 = 0 <;> by_cases s4 : zs_a u 14 e = zs_i u 20 <;> simp [s3, s4]
theorem pa_do {u : zs_T} {e : Nat} (he : e < 100) : ∃ u', fM9_does u (nI e) = some u' ∧ pa_ag u u' ∧ pa_st u' = pz_do (zs_a u 11) (zs_a u 14) (pa_st u) e := by
  have hi : zf_in (nI e) 100 = true := pz_in he (by decide)
  unfold fM9_does fM9_does_j38 pz_do pa_st
  rw [if_pos hi, pz_cl (by omega)]
  by_cases s3 : zs_a u 11 e = 3
  · refine ⟨zs_si u 20 (zs_a u 14 e), ?_, zg_ag.rf.si (by decide), ?_⟩
    · rw [if_pos s3, if_pos hi, if_pos hi, if_neg (show ¬ zs_a (zs_si u 20 (zs_a u 14 e)) 11 e = 2 from by show ¬ zs_a u 11 e = 2; rw [s3]; decide)]
    · rw [if_pos s3]; rfl
  · by_cases s0 : zs_a u 11 e = 0
    · refine ⟨zs_si u 18 1, ?_, zg_ag.rf.si (by decide), ?_⟩
      · rw [if_neg s3, if_pos hi, if_pos s0, if_pos (show zf_z 1 = true from rfl), if_pos hi, if_neg (show ¬ zs_a (zs_si u 18 1) 11 e = 2 from by show ¬ zs_a u 11 e = 2; rw [s0]; decide)]
      · rw [if_neg s3, if_pos s0, if_neg (by rw [s0]; decide)]; rfl
    · by_cases s2 : zs_a u 11 e = 2
      · refine ⟨zs_si (zs_si u 18 0) 19 1, ?_, (zg_ag.rf.si (by decide)).si (by decide), ?_⟩
        · rw [if_neg s3, if_pos hi, if_neg s0, if_pos (show zf_z 0 = true from rfl), if_pos hi, if_pos (show zs_a (zs_si u 18 0) 11 e = 2 from s2)]
        · rw [if_neg s3, if_neg s0, if_pos s2]; rfl
      · refine ⟨zs_si u 18 0, ?_, zg_ag.rf.si (by decide), ?_⟩
        · rw [if_neg s3, if_pos hi, if_neg s0, if_pos (show zf_z 0 = true from rfl), if_pos hi, if_neg (show ¬ zs_a (zs_si u 18 0) 11 e = 2 from s2)]
        · rw [if_neg s3, if_neg s0, if_neg s2]; rfl
theorem pz_do_z {W T : Nat → Int32} {s : pz_S} {e : Nat} (h1 : zf_z s.1 = true) (h2 : zf_z s.2.1 = true) : zf_z (pz_do W T s e).1 = true ∧ zf_z (pz_do W T s e).2.1 = true := by
  unfold pz_do
  split
  · exact ⟨h1, h2⟩
  · refine ⟨?_, ?_⟩
    · show zf_z (if W e = 0 then 1 else 0) = true; exact pf_z01 _
    · show zf_z (if W e = 2 then 1 else s.2.1) = true
      split
      · rfl
      · exact h2
theorem pz_run_z {W T : Nat → Int32} : ∀ (l : List Nat) {s : pz_S}, zf_z s.1 = true → zf_z s.2.1 = true → zf_z (pz_run W T s l).1 = true ∧ zf_z (pz_run W T s l).2.1 = true
  | [], _, h1, h2 => ⟨h1, h2⟩
  | e :: l, s, h1, h2 => by
    have h := pz_do_z (W := W) (T := T) (e := e) h1 h2
    exact pz_run_z l h.1 h.2
/-- a flag behind a run -/
def pa_g (g : Int32) (b : Bool) : Int32 := if b = true then g else 0
theorem pa_g_g (g : Int32) (b c : Bool) : pa_g (pa_g g b) c = pa_g g (b && c) := by cases b <;> cases c <;> simp [pa_g]
theorem pa_in {N k s d dl : Nat} (hk : k ≤ 100) (hs : s < 80) (hd : d ≤ 150) (ag31 : zs_T → Int32 → Int32 → Option (Int32 × zs_T)) : ∀ (r e f : Nat) (u : zs_T) (g : Int32), e + r = k → r < f → zf_z (zs_i u 18) = true → zf_z (zs_i u 19) = true → zf_z g = true → ∃ u', zf_loop (fun ag x => fM9_asks_b40 N ag31 (nI k) (nI s) (nI dl) (nI d) (fun u v4 v6 => ag (u, v4, v6)) x.1 x.2.1 x.2.2) f (u, g, nI e) = ag31 u' (pa_g g (pz_ok (zs_a u 11) (zs_a u 14) (pa_st u) ((List.range' e r).filter (fun e => zs_a u 12 e == nI s && zs_a u 13 e == nI d)))) (nI (d + 1)) ∧ pa_ag u u' ∧ pa_st u' = pz_run (zs_a u 11) (zs_a u 14) (pa_st u) ((List.range' e r).filter (fun e => zs_a u 12 e == nI s && zs_a u 13 e == nI d)) := by
  intro r
  induction r with
  | zero =>
    intro e f u g he hf h1 h2 h3
    obtain ⟨f, rfl⟩ : ∃ f', f = f' + 1 := ⟨f - 1, by omega⟩
    rw [zf_loop_s]
    refine ⟨u, ?_, zg_ag.rf, rfl⟩
    show fM9_asks_b40 N ag31 (nI k) (nI s) (nI dl) (nI d) _ u g (nI e) = _
    unfold fM9_asks_b40
    rw [if_pos (nI_le (by omega) (by omega)), pz_succ]
    rfl
  | succ r ih =>
    intro e f u g he hf h1 h2 h3
    obtain ⟨f, rfl⟩ : ∃ f', f = f' + 1 := ⟨f - 1, by omega⟩
    rw [zf_loop_s]
    obtain ⟨AG, hAG⟩ : ∃ A : zs_T → Int32 → Int32 → Option (Int32 × zs_T), A = fun u v4 v6 => zf_loop (fun ag x => fM9_asks_b40 N ag31 (nI k) (nI s) (nI dl) (nI d) (fun u v4 v6 => ag (u, v4, v6)) x.1 x.2.1 x.2.2) f (u, v4, v6) := ⟨_, rfl⟩
    show ∃ u', fM9_asks_b40 N ag31 (nI k) (nI s) (nI dl) (nI d) (fun u v4 v6 => zf_loop (fun ag x => fM9_asks_b40 N ag31 (nI k) (nI s) (nI dl) (nI d) (fun u v4 v6 => ag (u, v4, v6)) x.1 x.2.1 x.2.2) f (u, v4, v6)) u g (nI e) = _ ∧ _
    rw [← hAG]
    have hi : zf_in (nI e) 100 = true := pz_in (by omega) (by decide)
    have step : ∀ (u1 : zs_T) (g1 : Int32), pa_ag u u1 → zf_z (zs_i u1 18) = true → zf_z (zs_i u1 19) = true → zf_z g1 = true → ∃ u', AG u1 g1 (nI (e + 1)) = ag31 u' (pa_g g1 (pz_ok (zs_a u 11) (zs_a u 14) (pa_st u1) ((List.range' (e + 1) r).filter (fun e => zs_a u 12 e == nI s && zs_a u 13 e == nI d)))) (nI (d + 1)) ∧ pa_ag u u' ∧ pa_st u' = pz_run (zs_a u 11) (zs_a u 14) (pa_st u1) ((List.range' (e + 1) r).filter (fun e => zs_a u 12 e == nI s && zs_a u 13 e == nI d)) := by
      intro u1 g1 hag z1 z2 z3
      obtain ⟨u', c1, c2, c3⟩ := ih (e + 1) f u1 g1 (by omega) (by omega) z1 z2 z3
      rw [hag.2.2.1 11 (by decide), hag.2.2.1 12 (by decide), hag.2.2.1 13 (by decide), hag.2.2.1 14 (by decide)] at c1 c3
      exact ⟨u', by rw [hAG]; exact c1, hag.tr c2, c3⟩
    unfold fM9_asks_b40
    rw [if_neg (nI_ge (by omega) (by omega)), if_pos hi, if_pos hi, pz_cl (show e < 2 ^ 31 by omega), pz_succ, List.range'_succ]
    by_cases s1 : zs_a u 12 e = nI s
    · by_cases s2 : zs_a u 13 e = nI d
      · rw [if_pos s1, if_pos s2, List.filter_cons_of_pos (by simp [s1, s2])]
        obtain ⟨u1, d1, d2, d3⟩ := pa_do (u := u) (e := e) (by omega)
        have hz := pz_do_z (W := zs_a u 11) (T := zs_a u 14) (s := pa_st u) (e := e) h1 h2
        rw [← d3] at hz
        rw [pa_fit (by omega) h1, zf_bp_s, d1]
        simp only [zf_bv_s]
        by_cases s3 : g = 0
        · rw [if_pos s3]
          obtain ⟨u', c1, c2, c3⟩ := step u1 0 d2 hz.1 hz.2 rfl
          refine ⟨u', ?_, c2, ?_⟩
          · rw [c1, s3]
            congr 1
            simp [pa_g]
          · rw [c3, d3]; rfl
        · rw [if_neg s3]
          have hg1 : g = 1 := by
            simp only [zf_z, Bool.or_eq_true, beq_iff_eq] at h3
            exact h3.resolve_left s3
          by_cases s4 : pz_fit (zs_a u 11) (zs_a u 14) (pa_st u) e = true
          · rw [if_pos s4, if_neg (by decide)]
            obtain ⟨u', c1, c2, c3⟩ := step u1 1 d2 hz.1 hz.2 rfl
            refine ⟨u', ?_, c2, ?_⟩
            · rw [c1, hg1, pz_ok, s4, Bool.true_and, d3]
            · rw [c3, d3]; rfl
          · rw [if_neg s4, if_pos rfl]
            obtain ⟨u', c1, c2, c3⟩ := step u1 0 d2 hz.1 hz.2 rfl
            refine ⟨u', ?_, c2, ?_⟩
            · rw [c1, hg1, pz_ok]
              congr 1
              simp [pa_g, s4]
            · rw [c3, d3]; rfl
      · rw [if_pos s1, if_neg s2, List.filter_cons_of_neg (by simp [s2])]
        exact step u g zg_ag.rf h1 h2 h3
    · rw [if_neg s1, List.filter_cons_of_neg (by simp [s1])]
      exact step u g zg_ag.rf h1 h2 h3
theorem pa_out {N k s dl : Nat} (hN : 200 ≤ N) (hk : k ≤ 100) (hs : s < 80) (hd : dl ≤ 150) : ∀ (r d f : Nat) (u : zs_T) (g : Int32), d + r = dl + 1 → 1 ≤ d → r < f → zf_z (zs_i u 18) = true → zf_z (zs_i u 19) = true → zf_z g = true → ∃ u', zf_loop (fun ag x => fM9_asks_b31 N (nI k) (nI s) (nI dl) (fun u v4 v5 => ag (u, v4, v5)) x.1 x.2.1 x.2.2) f (u, g, nI d) = some (pa_g g (pz_ok (zs_a u 11) (zs_a u 14) (pa_st u) ((List.range' d r).flatMap (pz_day (zs_a u 12) (zs_a u 13) k s))), u') ∧ pa_ag u u' ∧ pa_st u' = pz_run (zs_a u 11) (zs_a u 14) (pa_st u) ((List.range' d r).flatMap (pz_day (zs_a u 12) (zs_a u 13) k s)) := by
  intro r
  induction r with
  | zero =>
    intro d f u g he h0 hf h1 h2 h3
    obtain ⟨f, rfl⟩ : ∃ f', f = f' + 1 := ⟨f - 1, by omega⟩
    rw [zf_loop_s]
    refine ⟨u, ?_, zg_ag.rf, rfl⟩
    show fM9_asks_b31 N (nI k) (nI s) (nI dl) _ u g (nI d) = _
    unfold fM9_asks_b31
    rw [if_pos (nI_lt (by omega) (by omega)), if_pos h3]
    rfl
  | succ r ih =>
    intro d f u g he h0 hf h1 h2 h3
    obtain ⟨f, rfl⟩ : ∃ f', f = f' + 1 := ⟨f - 1, by omega⟩
    rw [zf_loop_s]
    show ∃ u', fM9_asks_b31 N (nI k) (nI s) (nI dl) (fun u v4 v5 => zf_loop (fun ag x => fM9_asks_b31 N (nI k) (nI s) (nI dl) (fun u v4 v5 => ag (u, v4, v5)) x.1 x.2.1 x.2.2) f (u, v4, v5)) u g (nI d) = _ ∧ _
    obtain ⟨AG, hAG⟩ : ∃ A : zs_T → Int32 → Int32 → Option (Int32 × zs_T), A = fun u v4 v5 => zf_loop (fun ag x => fM9_asks_b31 N (nI k) (nI s) (nI dl) (fun u v4 v5 => ag (u, v4, v5)) x.1 x.2.1 x.2.2) f (u, v4, v5) := ⟨_, rfl⟩
    rw [← hAG]
    unfold fM9_asks_b31
    rw [if_neg (nI_nlt (by omega) (by omega))]
    obtain ⟨u1, c1, c2, c3⟩ := pa_in (N := N) (dl := dl) hk hs (show d ≤ 150 by omega) AG k 0 N u g (by omega) (by omega) h1 h2 h3
    rw [show (0 : Int32) = nI 0 from rfl, c1]
    have hl : (List.range' 0 k).filter (fun e => zs_a u 12 e == nI s && zs_a u 13 e == nI d) = pz_day (zs_a u 12) (zs_a u 13) k s d := by
      unfold pz_day; rw [List.range_eq_range']
    rw [hl] at c1 c3 ⊢
    have hz := pz_run_z (W := zs_a u 11) (T := zs_a u 14) (pz_day (zs_a u 12) (zs_a u 13) k s d) (s := pa_st u) h1 h2
    rw [← c3] at hz
    have h3' : zf_z (pa_g g (pz_ok (zs_a u 11) (zs_a u 14) (pa_st u) (pz_day (zs_a u 12) (zs_a u 13) k s d))) = true := by
      unfold pa_g
      split
      · exact h3
      · rfl
    obtain ⟨u', b1, b2, b3⟩ := ih (d + 1) f u1 _ (by omega) (by omega) (by omega) hz.1 hz.2 h3'
    rw [c2.2.2.1 11 (by decide), c2.2.2.1 12 (by decide), c2.2.2.1 13 (by decide), c2.2.2.1 14 (by decide)] at b1 b3
    rw [List.range'_succ, List.flatMap_cons, pz_ok_app, pz_run_app, ← pa_g_g, ← c3]
    exact ⟨u', by rw [hAG]; exact b1, c2.tr b2, b3⟩
/-- asks: the answer, and the sheep's state, of the first k entries up to a day -/
theorem pa_asks {N k s d : Nat} {u : zs_T} (hN : 200 ≤ N) (hk : k ≤ 100) (hs : s < 80) (hd : d ≤ 150) (hz : zf_z (zs_a u 10 s) = true) : ∃ u', fM9_asks N u (nI k) (nI s) (nI d) = some (if pz_ok (zs_a u 11) (zs_a u 14) (rb_st u s) (pz_evs (zs_a u 12) (zs_a u 13) k s d) = true then 1 else 0, u') ∧ pa_ag u u' ∧ pa_st u' = pz_run (zs_a u 11) (zs_a u 14) (rb_st u s) (pz_evs (zs_a u 12) (zs_a u 13) k s d) := by
  unfold fM9_asks
  have hi : zf_in (nI s) 80 = true := pz_in hs (by decide)
  rw [pz_cl (show s < 2 ^ 31 by omega), if_pos hi, if_pos hi]
  rw [if_pos (show zf_z (zs_a (zs_si u 18 0) 10 s) = true from hz)]
  obtain ⟨u', b1, b2, b3⟩ := pa_out (N := N) (s := s) hN hk hs hd d 1 N (zs_si (zs_si (zs_si u 18 0) 19 (zs_a u 10 s)) 20 (zs_a u 8 s)) 1 (by omega) (by omega) (by omega) rfl hz rfl
  exact ⟨u', b1, (((zg_ag.rf.si (by decide)).si (by decide)).si (by decide)).tr b2, b3⟩
