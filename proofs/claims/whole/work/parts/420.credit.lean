/-! credit -/
theorem rb_E_sc {S n : Nat} {x m x' m' : zs_T} (h : rb_E S n x m) (hx : rb_xs x x') (hm : rb_ms m m') : rb_E S n x' m' := by
  obtain ⟨xi, xl, xa, xb⟩ := hx
  obtain ⟨mi, ml, ma, mb⟩ := hm
  refine rb_E_of h ?_ ?_
  · exact ⟨xi _ (by decide), xi _ (by decide), xi _ (by decide), xa _ (by decide), xa _ (by decide), xa _ (by decide), xa _ (by decide), xa _ (by decide), xa _ (by decide), xa _ (by decide), xa _ (by decide)⟩
  · exact ⟨mi _ (by decide), mi _ (by decide), mi _ (by decide), ma _ (by decide), ma _ (by decide), ma _ (by decide), ma _ (by decide), ma _ (by decide), ma _ (by decide), ma _ (by decide)⟩
theorem rb_R_sc {x m x' m' : zs_T} (h : rb_R x m) (hx : rb_xs x x') (hm : rb_ms m m') : rb_R x' m' := rb_R_of h (hx.2.2.1 _ (by decide)) (fun j h1 h2 => hm.1 j (by simp; omega))
theorem pn_s_ms {m m' : zs_T} (h : rb_ms m m') (n d s : Nat) : pn_s m' n d s = pn_s m n d s := by
  unfold pn_s rb_st
  rw [h.2.2.1 11 (by decide), h.2.2.1 12 (by decide), h.2.2.1 13 (by decide), h.2.2.1 14 (by decide), h.2.2.1 10 (by decide), h.2.2.1 8 (by decide)]
def qU (m : zs_T) (k d s : Nat) : Nat := pn_U (zs_a m 11) (zs_a m 12) (zs_a m 13) (zs_a m 14) k s (rb_st m s) d
def qH (m : zs_T) (k d s o : Nat) : Nat := pn_H (zs_a m 11) (zs_a m 12) (zs_a m 13) (zs_a m 14) k s (rb_st m s) o d
theorem qU_ms {m m' : zs_T} (h : rb_ms m m') (n d s : Nat) : qU m' n d s = qU m n d s := by
  unfold qU rb_st
  rw [h.2.2.1 11 (by decide), h.2.2.1 12 (by decide), h.2.2.1 13 (by decide), h.2.2.1 14 (by decide), h.2.2.1 10 (by decide), h.2.2.1 8 (by decide)]
theorem qH_ms {m m' : zs_T} (h : rb_ms m m') (n d s o : Nat) : qH m' n d s o = qH m n d s o := by
  unfold qH rb_st
  rw [h.2.2.1 11 (by decide), h.2.2.1 12 (by decide), h.2.2.1 13 (by decide), h.2.2.1 14 (by decide), h.2.2.1 10 (by decide), h.2.2.1 8 (by decide)]
theorem qU_s (m : zs_T) (k d s : Nat) : qU m k (d + 1) s = qU m k d s + (if (pn_s m k (d + 1) s).1 = 0 then 0 else 1) := rfl
theorem qH_s (m : zs_T) (k d s o : Nat) : qH m k (d + 1) s o = qH m k d s o + (if nI o = (pn_s m k (d + 1) s).2.2 then 1 else 0) := rfl
theorem qU_le (m : zs_T) (k s : Nat) : ∀ d, qU m k d s ≤ d
  | 0 => Nat.le_refl _
  | d + 1 => by
    have := qU_le m k s d
    rw [qU_s]
    split <;> omega
/-- replay in these words -/
theorem q_rep {N n S k s last : Nat} {x m : zs_T} (hN : 200 ≤ N) (hE : rb_E S n x m) (hk : k ≤ n) (hs : s < S) (hl : last ≤ 150) : ∃ x', fX7_replay N x (nI s) (nI k) (nI last) = some (1, x') ∧ px_ag x x' ∧ px_R x' (pn_s m k last s, qU m k last s, last + 1, fun o => qH m k last s o) := px_replay hN hE hk hs hl
theorem q_ask {N n S k s d : Nat} {x m : zs_T} (hN : 200 ≤ N) (hE : rb_E S n x m) (hk : k ≤ n) (hs : s < S) (hd : d ≤ 150) : ∃ m', fM9_asks N m (nI k) (nI s) (nI d) = some (1, m') ∧ pa_ag m m' ∧ zs_i m' 18 = (pn_s m k d s).1 ∧ zs_i m' 19 = (pn_s m k d s).2.1 ∧ zs_i m' 20 = (pn_s m k d s).2.2 := by
  obtain ⟨m', a1, a2, a3⟩ := pa_asks2 hN hE hk hs hd
  exact ⟨m', a1, a2, congrArg Prod.fst a3, congrArg (fun z => z.2.1) a3, congrArg (fun z => z.2.2) a3⟩
theorem q_own {n S k s d : Nat} {x m : zs_T} (hE : rb_E S n x m) (hk : k ≤ n) (hs : s < S) (hd : d ≤ 150) : ∃ o : Nat, o < 12 ∧ (pn_s m k d s).2.2 = nI o := by
  obtain ⟨x', -, -, h⟩ := q_rep (N := 200) (Nat.le_refl _) hE hk hs hd
  have h9 := h.2.2.2.2.2.1
  obtain ⟨o, h1, h2⟩ := pz_of h9.1
  have h3 : (pn_s m k d s).2.2.toInt < 12 := h9.2
  rw [h2, pz_nI h1] at h3
  exact ⟨o, by omega, h2⟩
def qm (x : Int32) : Nat := x.toInt.toNat
theorem qm_nI {x : Int32} (h : 0 ≤ x.toInt) : x = nI (qm x) := by
  obtain ⟨n, h1, rfl⟩ := pz_of h
  unfold qm
  rw [pz_nI h1]
  rfl
theorem qm_le {x : Int32} {b : Nat} (h : x.toInt ≤ b) : qm x ≤ b := by unfold qm; omega
def qC (m : zs_T) (k d s : Nat) : Nat := if d = 0 then 0 else if zs_i m 17 = -1 then 0 else if (pn_s m k (qm (zs_i m 17)) s).1 = 0 then 0 else qm (zs_a m 9 s) * max (1000 - qm (zs_i m 2) * (d - qU m k d s)) (min (qm (zs_i m 3)) 1000) / 1000
theorem qC_ms {m m' : zs_T} (h : rb_ms m m') (k d s : Nat) : qC m' k d s = qC m k d s := by
  unfold qC
  rw [pn_s_ms h, qU_ms h, h.1 17 (by decide), h.1 2 (by decide), h.1 3 (by decide), h.2.2.1 9 (by decide)]
theorem q_sh {L M a : Nat} (hL : L ≤ 9999) (hM : M ≤ 9999) (ha : a ≤ 150) : zr_imax (1000 - nI L * nI a) (zr_imin (nI M) 1000) = nI (max (1000 - L * a) (min M 1000)) := by
  have hb : L * a ≤ 9999 * 150 := Nat.mul_le_mul hL ha
  have e1 : zr_imin (nI M) 1000 = nI (min M 1000) := by
    unfold zr_imin
    by_cases q : 1000 < M
    · rw [if_pos (show (1000 : Int32) < nI M from nI_lt (a := 1000) q (by omega)), Nat.min_eq_right (by omega)]; rfl
    · rw [if_neg (show ¬ (1000 : Int32) < nI M from nI_nlt (a := 1000) (by omega) (by omega)), Nat.min_eq_left (by omega)]
  rw [e1, pk_mul]
  have hmin : min M 1000 ≤ 1000 := Nat.min_le_right _ _
  unfold zr_imax
  by_cases q : L * a ≤ 1000
  · rw [show (1000 : Int32) - nI (L * a) = nI (1000 - L * a) from pk_sub q]
    by_cases q2 : 1000 - L * a < min M 1000
    · rw [if_pos (nI_lt q2 (by omega)), Nat.max_eq_right (by omega)]
    · rw [if_neg (nI_nlt (by omega) (by omega)), Nat.max_eq_left (by omega)]
  · have e2 : ((1000 : Int32) - nI (L * a)).toInt = 1000 - (L * a : Nat) := by
      rw [pz_sub]
      · rw [pz_nI (by omega)]; rfl
      · rw [pz_nI (by omega)]; show _ ≤ (1000 : Int) - (L * a : Nat); omega
      · rw [pz_nI (by omega)]; show (1000 : Int) - (L * a : Nat) < _; omega
    rw [if_pos (by rw [pz_lt, e2, pz_nI (by omega)]; omega), Nat.max_eq_right (by omega)]
theorem q_cr {C L M a : Nat} (hC : C ≤ 5000) : C * max (1000 - L * a) (min M 1000) / 1000 ≤ 5000 ∧ nI C * nI (max (1000 - L * a) (min M 1000)) / 1000 = nI (C * max (1000 - L * a) (min M 1000) / 1000) := by
  have h1 : max (1000 - L * a) (min M 1000) ≤ 1000 := Nat.max_le.mpr ⟨by omega, Nat.min_le_right _ _⟩
  have h2 : C * max (1000 - L * a) (min M 1000) ≤ 5000 * 1000 := Nat.mul_le_mul hC h1
  refine ⟨by omega, ?_⟩
  rw [pk_mul]
  exact pk_div (by omega) (by decide) (by decide)
theorem qC_le {S n : Nat} {x m : zs_T} (hE : rb_E S n x m) {s : Nat} (hs : s < S) (k d : Nat) : qC m k d s ≤ 5000 := by
  have h := (hE.2.2.2.1 s hs).2.2.2.2
  unfold qC
  split
  · omega
  · split
    · omega
    · split
      · omega
      · exact (q_cr (qm_le h)).1
theorem q_md {S n : Nat} {x m : zs_T} (hE : rb_E S n x m) (h : ¬ zs_i m 17 = -1) : zs_i m 17 = nI (qm (zs_i m 17)) ∧ qm (zs_i m 17) ≤ 150 := by
  have h1 := hE.2.2.1.2.resolve_left h
  exact ⟨qm_nI (by omega), qm_le h1.2⟩
theorem q_credX {N n S k s d : Nat} {x m : zs_T} (hN : 200 ≤ N) (hE : rb_E S n x m) (hR : rb_R x m) (hk : k ≤ n) (hs : s < S) (hd : d ≤ 150) : ∃ x', fX0_creditOf N x (nI k) (nI s) (nI d) = some (nI (qC m k d s), x') ∧ px_ag x x' := by
  have hS := hE.1.2.2
  have hz : zf_in (nI s) 80 = true := pz_in (by omega) (by decide)
  obtain ⟨b1, b2, b3⟩ := hE.2.2.2.1 s hs
  unfold fX0_creditOf qC
  by_cases p0 : d = 0
  · subst p0
    rw [if_pos (show nI 0 < 1 by decide), if_pos rfl]
    exact ⟨x, rfl, zg_ag.rf⟩
  · rw [if_neg (show ¬ nI d < 1 from nI_nlt (b := 1) (by omega) (by omega)), if_neg p0, hE.2.2.1.1]
    by_cases p1 : zs_i m 17 = -1
    · rw [if_pos p1, if_pos p1]
      exact ⟨x, rfl, zg_ag.rf⟩
    · obtain ⟨g1, g2⟩ := q_md hE p1
      rw [if_neg p1, if_neg p1, if_pos hz, pz_cl (show s < 2 ^ 31 by omega), b3.1]
      by_cases p2 : zs_a m 9 s = 0
      · rw [if_pos p2, p2, show qm 0 = 0 from rfl, Nat.zero_mul, Nat.zero_div, ite_self]
        exact ⟨x, rfl, zg_ag.rf⟩
      · rw [if_neg p2]
        obtain ⟨x1, c1, c2, c3⟩ := q_rep hN hE hk hs g2
        rw [← g1] at c1
        have e15 : zs_i x1 15 = (pn_s m k (qm (zs_i m 17)) s).1 := congrArg Prod.fst c3.1
        rw [c1, zf_bi_s, e15]
        by_cases p3 : (pn_s m k (qm (zs_i m 17)) s).1 = 0
        · rw [if_pos p3, if_pos p3]
          exact ⟨x1, rfl, c2⟩
        · rw [if_neg p3, if_neg p3]
          obtain ⟨x2, d1, d2, d3⟩ := q_rep hN (rb_E_ag hE c2 zg_ag.rf) hk hs hd
          have e17 : zs_i x2 17 = nI (qU m k d s) := d3.2.1
          have hag := c2.tr d2
          rw [d1, zf_bi_s, if_pos hz, e17, hag.2.2.1 19 (by decide), hag.2.2.1 1 (by decide), b3.1, show (0 : Int32).toNatClampNeg = 0 from rfl, show (1 : Int32).toNatClampNeg = 1 from rfl, hR.1.1, hR.1.2.1, pk_sub (qU_le m k s d)]
          have r2 := hR.2 2 (by decide) (by decide)
          have r3 := hR.2 3 (by decide) (by decide)
          refine ⟨x2, ?_, hag⟩
          congr 2
          have hU := qU_le m k s d
          have f1 := q_sh (L := qm (zs_i m 2)) (M := qm (zs_i m 3)) (a := d - qU m k d s) (qm_le r2.2) (qm_le r3.2) (by omega)
          rw [← qm_nI r2.1, ← qm_nI r3.1] at f1
          have f2 := (q_cr (C := qm (zs_a m 9 s)) (L := qm (zs_i m 2)) (M := qm (zs_i m 3)) (a := d - qU m k d s) (qm_le b3.2.2)).2
          rw [← qm_nI b3.2.1] at f2
          rw [f1, f2]
theorem q_awayl {N n S k s d : Nat} {x m : zs_T} (hN : 200 ≤ N) (hE : rb_E S n x m) (hk : k ≤ n) (hs : s < S) (hd : d ≤ 150) (hdm : zs_i m 10 = nI d) : ∀ (r i f : Nat) (u : zs_T), i + r = d → r < f → pa_ag m u → ∃ m', zf_loop (fun ag x => fM9_creditOf_b42 N (nI k) (nI s) (fun u v3 v4 => ag (u, v3, v4)) x.1 x.2.1 x.2.2) f (u, nI (i - qU m k i s), nI (i + 1)) = fM9_creditOf_j81 N m' (nI s) (nI (d - qU m k d s)) ∧ pa_ag m m' := by
  intro r
  induction r with
  | zero =>
    intro i f u hi hf ha
    obtain ⟨f, rfl⟩ : ∃ f', f = f' + 1 := ⟨f - 1, by omega⟩
    rw [zf_loop_s]
    refine ⟨u, ?_, ha⟩
    show fM9_creditOf_b42 N (nI k) (nI s) _ u (nI (i - qU m k i s)) (nI (i + 1)) = _
    unfold fM9_creditOf_b42
    rw [ha.1 10 (by decide), hdm, if_pos (nI_lt (by omega) (by omega)), show i = d by omega]
  | succ r ih =>
    intro i f u hi hf ha
    obtain ⟨f, rfl⟩ : ∃ f', f = f' + 1 := ⟨f - 1, by omega⟩
    rw [zf_loop_s]
    obtain ⟨AG, hAG⟩ : ∃ A : zs_T → Int32 → Int32 → Option (Int32 × zs_T), A = fun u v3 v4 => zf_loop (fun ag x => fM9_creditOf_b42 N (nI k) (nI s) (fun u v3 v4 => ag (u, v3, v4)) x.1 x.2.1 x.2.2) f (u, v3, v4) := ⟨_, rfl⟩
    show ∃ m', fM9_creditOf_b42 N (nI k) (nI s) (fun u v3 v4 => zf_loop (fun ag x => fM9_creditOf_b42 N (nI k) (nI s) (fun u v3 v4 => ag (u, v3, v4)) x.1 x.2.1 x.2.2) f (u, v3, v4)) u (nI (i - qU m k i s)) (nI (i + 1)) = _ ∧ _
    rw [← hAG]
    unfold fM9_creditOf_b42
    obtain ⟨m', b1, b2, b3, b4, b5⟩ := q_ask hN (rb_E_ag hE (zg_ag.rf (u := x)) ha) (k := k) (s := s) (d := i + 1) hk hs (by omega)
    rw [pn_s_ag ha] at b3
    rw [ha.1 10 (by decide), hdm, if_neg (nI_nlt (by omega) (by omega)), b1, zf_bi_s, b3, pz_succ, pz_succ, show nI (i - qU m k i s) + 0 = nI (i - qU m k i s + 0) from nI_add _ 0]
    obtain ⟨m2, c1, c2⟩ := ih (i + 1) f m' (by omega) (by omega) (ha.tr b2)
    refine ⟨m2, ?_, c2⟩
    rw [← c1]
    have hnext : AG m' (nI (i + 1 - qU m k (i + 1) s)) (nI (i + 1 + 1)) = zf_loop (fun ag x => fM9_creditOf_b42 N (nI k) (nI s) (fun u v3 v4 => ag (u, v3, v4)) x.1 x.2.1 x.2.2) f (m', nI (i + 1 - qU m k (i + 1) s), nI (i + 1 + 1)) := by rw [hAG]
    rw [← hnext]
    have hU := qU_le m k s i
    by_cases p1 : (pn_s m k (i + 1) s).1 = 0
    · rw [if_pos p1]
      congr 2
      rw [qU_s, if_pos p1]; omega
    · rw [if_neg p1]
      congr 2
      rw [qU_s, if_neg p1]; omega
theorem q_credM {N n S k s d : Nat} {x m : zs_T} (hN : 200 ≤ N) (hE : rb_E S n x m) (hR : rb_R x m) (hk : k ≤ n) (hs : s < S) (hd : d ≤ 150) (hdm : zs_i m 10 = nI d) : ∃ m', fM9_creditOf N m (nI k) (nI s) = some (nI (qC m k d s), m') ∧ pa_ag m m' := by
  have hS := hE.1.2.2
  have hz : zf_in (nI s) 80 = true := pz_in (by omega) (by decide)
  obtain ⟨b1, b2, b3⟩ := hE.2.2.2.1 s hs
  unfold fM9_creditOf qC
  rw [hdm]
  by_cases p0 : d = 0
  · subst p0
    rw [if_pos (show nI 0 = 0 by decide), if_pos rfl]
    exact ⟨m, rfl, zg_ag.rf⟩
  · rw [if_neg (nI_ne0 (by omega) (by omega)), if_neg p0]
    by_cases p1 : zs_i m 17 = -1
    · rw [if_pos p1, if_pos p1]
      exact ⟨m, rfl, zg_ag.rf⟩
    · obtain ⟨g1, g2⟩ := q_md hE p1
      rw [if_neg p1, if_neg p1]
      obtain ⟨m1, c1, c2, c3, -, -⟩ := q_ask hN hE hk hs g2
      rw [← g1] at c1
      rw [c1, zf_bi_s, c3]
      by_cases p3 : (pn_s m k (qm (zs_i m 17)) s).1 = 0
      · rw [if_pos p3, if_pos p3]
        exact ⟨m1, rfl, c2⟩
      · rw [if_neg p3, if_neg p3]
        obtain ⟨m2, d1, d2⟩ := q_awayl hN hE hk hs hd hdm d 0 N m1 (by omega) (by omega) c2
        have d3 : zf_loop (fun ag x => fM9_creditOf_b42 N (nI k) (nI s) (fun u v3 v4 => ag (u, v3, v4)) x.1 x.2.1 x.2.2) N (m1, 0, 1) = fM9_creditOf_j81 N m2 (nI s) (nI (d - qU m k d s)) := d1
        rw [d3]
        have r2 := hR.2 2 (by decide) (by decide)
        have r3 := hR.2 3 (by decide) (by decide)
        have hU := qU_le m k s d
        have f1 := q_sh (L := qm (zs_i m 2)) (M := qm (zs_i m 3)) (a := d - qU m k d s) (qm_le r2.2) (qm_le r3.2) (by omega)
        rw [← qm_nI r2.1, ← qm_nI r3.1] at f1
        have f2 := (q_cr (C := qm (zs_a m 9 s)) (L := qm (zs_i m 2)) (M := qm (zs_i m 3)) (a := d - qU m k d s) (qm_le b3.2.2)).2
        rw [← qm_nI b3.2.1] at f2
        refine ⟨m2, ?_, d2⟩
        rw [← f2, ← f1]
        have j101 : ∀ t0 : Int32, fM9_creditOf_j101 N m2 (nI s) (nI (d - qU m k d s)) t0 = some (zs_a m 9 s * (zr_imax (1000 - zs_i m 2 * nI (d - qU m k d s)) t0) / 1000, m2) := by
          intro t0
          unfold fM9_creditOf_j101 zr_imax
          rw [if_pos hz, if_pos hz, pz_cl (show s < 2 ^ 31 by omega), d2.1 2 (by decide), d2.2.2.1 9 (by decide)]
          by_cases q : t0 ≤ 1000 - zs_i m 2 * nI (d - qU m k d s)
          · rw [if_pos q, if_neg (by rw [pz_lt]; rw [pz_le] at q; omega)]
          · rw [if_neg q, if_pos (by rw [pz_lt]; rw [pz_le] at q; omega)]
        unfold fM9_creditOf_j81
        rw [j101, j101, d2.1 3 (by decide)]
        unfold zr_imin
        by_cases q : zs_i m 3 ≤ 1000
        · rw [if_pos q, if_neg (by rw [pz_lt]; rw [pz_le] at q; omega)]
        · rw [if_neg q, if_pos (by rw [pz_lt]; rw [pz_le] at q; omega)]
theorem sb_credit {N k : Nat} {x m : zs_T} (hN : 200 ≤ N) (hI : rb_I k x m) (a1 a2 : Int32) : zl_credit N x m (rb_I (k + 1)) a1 a2 := by
  have hM := rb_mono k x m hI
  obtain ⟨c, hh, d, w, S, n, hT, hR, hA, hP, hE, hL⟩ := id hM
  obtain ⟨q1, q2, q3, q4⟩ := id hE
  obtain ⟨d1, d2, d3⟩ := hA.2.2.2.2.1
  unfold zl_credit fX8_credit fM9_credit
  rw [pf_know q2.1 q2.2.2, pf_mk q2.2.1 q2.2.2, pf_has4 q1.1 q1.2.2, pf_ms q1.2.1 q1.2.2, pf_b01, pf_b01, pf_b01, pf_b01, d1]
  by_cases p : (0 ≤ a1.toInt ∧ a1.toInt ≤ n) ∧ (0 ≤ a2.toInt ∧ a2.toInt < S)
  · obtain ⟨p1, p3⟩ := p
    obtain ⟨i, hi, rfl⟩ := pz_of p1.1
    obtain ⟨s, hs, rfl⟩ := pz_of p3.1
    rw [if_pos p1, if_pos p3, if_pos p1, if_pos p3]
    rw [pz_nI hi] at p1
    rw [pz_nI hs] at p3
    obtain ⟨x', b1, b2⟩ := q_credX hN hE hR (k := i) (s := s) (d := d) (by omega) (by omega) d3
    obtain ⟨m', c1, c2⟩ := q_credM hN hE hR (k := i) (s := s) (d := d) (by omega) (by omega) d3 d2
    rw [b1, c1, zf_bi_s, zf_bi_s]
    exact ⟨_, x', m', rfl, rfl, rb_I_ag hM (px_xs b2) (pa_ms c2)⟩
  · refine ⟨-1, x, m, ?_, ?_, hM⟩
    · repeat' split
      all_goals first | rfl | (exfalso; omega)
    · repeat' split
      all_goals first | rfl | (exfalso; omega)
