/-- a loop that comes to its end -/
theorem pl_lp {σ ρ : Type} (body : (σ → Option ρ) → σ → Option ρ) (Inv : σ → Prop) (μ : σ → Nat) (Post : ρ → Prop) (hs : ∀ (ag : σ → Option ρ) (s : σ), Inv s → (∀ s', Inv s' → μ s' < μ s → ∃ z, ag s' = some z ∧ Post z) → ∃ z, body ag s = some z ∧ Post z) : ∀ (n : Nat) (s : σ), Inv s → μ s < n → ∃ z, zf_loop body n s = some z ∧ Post z
  | 0, _, _, h => absurd h (Nat.not_lt_zero _)
  | n + 1, s, hI, hn => by
    rw [zf_loop_s]
    exact hs _ s hI (fun s' h1 h2 => pl_lp body Inv μ Post hs n s' h1 (by omega))
theorem pb_byte (s : Nat) (hs : s ≤ 24) (v : Int32) : (v.toUInt32 >>> ((nI s).toUInt32 &&& Int32.toUInt32 31)).toInt32 &&& 255 = (v >>> (nI s &&& 31)).toInt8.toInt32 &&& 255 := by
  rw [bp_b]
  apply b_ext
  intro i hi
  rw [b_and, b_and, b_255, b_ushr s (by omega), b_sshr s (by omega) v hi]
  by_cases h : i < 8
  · rw [if_pos (by omega)]
  · simp [h]
theorem pb_i8 (w : Int32) : w.toInt8.toInt32.toInt8.toInt32 = w.toInt8.toInt32 := by
  apply Int32.toBitVec_inj.mp
  rw [Int8.toBitVec_toInt32, Int32.toBitVec_toInt8, Int8.toBitVec_toInt32, Int32.toBitVec_toInt8]
  congr 1
  apply BitVec.eq_of_getLsbD_eq
  intro i hi
  simp only [BitVec.getLsbD_signExtend]
  simp [hi, show i < 32 by omega]
/-- one step of append beside one of types -/
theorem pb_step {c s : Nat} {x m : zs_T} (v : Int32) (hs : s ≤ 24) (h : rb_T c x m) (hc : c < 40) : rb_T (c + 1) (zs_si (zs_sa x 0 (upd (zs_a x 0) c ((v.toUInt32 >>> ((nI s).toUInt32 &&& Int32.toUInt32 31)).toInt32 &&& 255))) 2 (nI (c + 1))) (zs_si (zs_sa m 0 (upd (zs_a m 0) c (vp_nar .byte ((v >>> (nI s &&& 31)).toInt8.toInt32)))) 0 (nI (c + 1))) := by
  obtain ⟨h1, h2, h3, h4⟩ := h
  refine ⟨rfl, rfl, by omega, fun j hj => ?_⟩
  show upd (zs_a x 0) c _ j = upd (zs_a m 0) c _ j &&& 255 ∧ (upd (zs_a m 0) c _ j).toInt8.toInt32 = upd (zs_a m 0) c _ j
  simp only [pz_upd, pk_vb]
  by_cases e : j = c
  · simp only [if_pos e]; exact ⟨pb_byte s hs v, pb_i8 _⟩
  · simp only [if_neg e]; exact h4 j hj
/-- what feed keeps -/
abbrev rb_xf (x x' : zs_T) : Prop := zg_ag [2] [] [0] [] x x'
abbrev rb_mf (m m' : zs_T) : Prop := zg_ag [0] [] [0] [] m m'
theorem pb_app {N c : Nat} {x m : zs_T} (v : Int32) (hN : 10 ≤ N) (h : rb_T c x m) (hc : c + 4 ≤ 40) : ∃ x' m', fX6_append N x v = some x' ∧ fM9_types N m v = some m' ∧ rb_T (c + 4) x' m' ∧ rb_xf x x' ∧ rb_mf m m' := by
  obtain ⟨M, rfl⟩ : ∃ M, N = M + 5 := ⟨N - 5, by omega⟩
  have sx : ∀ (n s c : Nat) (x : zs_T), zs_i x 2 = nI c → c < 40 → s ≤ 24 → zf_loop (fun ag x => fX6_append_b3 (M + 5) v (fun u v2 => ag (u, v2)) x.1 x.2) (n + 1) (x, nI s) = zf_loop (fun ag x => fX6_append_b3 (M + 5) v (fun u v2 => ag (u, v2)) x.1 x.2) n (zs_si (zs_sa x 0 (upd (zs_a x 0) c ((v.toUInt32 >>> ((nI s).toUInt32 &&& Int32.toUInt32 31)).toInt32 &&& 255))) 2 (nI (c + 1)), nI s + (-8)) := by
    intro n s c x h1 h2 h3
    rw [zf_loop_s]
    show fX6_append_b3 (M + 5) v (fun u v2 => _) x (nI s) = _
    unfold fX6_append_b3
    simp only [zs_i_si, zs_i_sl, zs_i_sa, zs_i_sb, zs_l_si, zs_l_sl, zs_l_sa, zs_l_sb, zs_a_si, zs_a_sl, zs_a_sa', zs_a_sb, zs_b_si, zs_b_sl, zs_b_sa, zs_b_sb, h1, pz_cl (show c < 2 ^ 31 by omega), pz_succ]
    rw [if_neg (by rw [pz_lt, pz_nI (by omega)]; show ¬ (s : Int) < 0; omega), if_neg (by rw [pz_le, pz_nI (by omega)]; show ¬ (40 : Int) ≤ c; omega), if_pos (pz_in h2 (by decide))]
  have sm : ∀ (n k s c : Nat) (m : zs_T), zs_i m 0 = nI c → c < 40 → k ≤ 3 → 8 * k = s → zf_loop (fun ag x => fM9_types_b2 (M + 5) v (fun u v2 => ag (u, v2)) x.1 x.2) (n + 1) (m, nI k) = zf_loop (fun ag x => fM9_types_b2 (M + 5) v (fun u v2 => ag (u, v2)) x.1 x.2) n (zs_si (zs_sa m 0 (upd (zs_a m 0) c (vp_nar .byte ((v >>> (nI s &&& 31)).toInt8.toInt32)))) 0 (nI (c + 1)), nI k + (-1)) := by
    intro n k s c m h1 h2 h3 h4
    rw [zf_loop_s]
    show fM9_types_b2 (M + 5) v (fun u v2 => _) m (nI k) = _
    unfold fM9_types_b2
    simp only [zs_i_si, zs_i_sl, zs_i_sa, zs_i_sb, zs_l_si, zs_l_sl, zs_l_sa, zs_l_sb, zs_a_si, zs_a_sl, zs_a_sa', zs_a_sb, zs_b_si, zs_b_sl, zs_b_sa, zs_b_sb, h1, pz_cl (show c < 2 ^ 31 by omega), pz_succ]
    rw [if_neg (by rw [pz_lt, pz_nI (by omega)]; show ¬ (k : Int) < 0; omega), if_pos (pz_in h2 (by decide)), show (8 : Int32) * nI k = nI s from by rw [← h4]; exact pk_mul 8 k]
  obtain ⟨h1, h2, -⟩ := id h
  have t1 := pb_step v (s := 24) (by decide) h (by omega)
  have t2 := pb_step v (s := 16) (by decide) t1 (by omega)
  have t3 := pb_step v (s := 8) (by decide) t2 (by omega)
  have t4 := pb_step v (s := 0) (by decide) t3 (by omega)
  refine ⟨_, _, ?_, ?_, t4, ?_, ?_⟩
  · unfold fX6_append
    rw [show (24 : Int32) = nI 24 from rfl, sx _ 24 c _ h1 (by omega) (by decide), show nI 24 + (-8) = nI 16 from rfl, sx _ 16 (c + 1) _ t1.1 (by omega) (by decide), show nI 16 + (-8) = nI 8 from rfl, sx _ 8 (c + 2) _ t2.1 (by omega) (by decide), show nI 8 + (-8) = nI 0 from rfl, sx _ 0 (c + 3) _ t3.1 (by omega) (by decide), zf_loop_s]
    rfl
  · unfold fM9_types
    rw [show (3 : Int32) = nI 3 from rfl, sm _ 3 24 c _ h2 (by omega) (by decide) rfl, show nI 3 + (-1) = nI 2 from rfl, sm _ 2 16 (c + 1) _ t1.2.1 (by omega) (by decide) rfl, show nI 2 + (-1) = nI 1 from rfl, sm _ 1 8 (c + 2) _ t2.2.1 (by omega) (by decide) rfl, show nI 1 + (-1) = nI 0 from rfl, sm _ 0 0 (c + 3) _ t3.2.1 (by omega) (by decide) rfl, zf_loop_s]
    rfl
  · exact (((((((zg_ag.rf.sa (by decide)).si (by decide)).sa (by decide)).si (by decide)).sa (by decide)).si (by decide)).sa (by decide)).si (by decide)
  · exact (((((((zg_ag.rf.sa (by decide)).si (by decide)).sa (by decide)).si (by decide)).sa (by decide)).si (by decide)).sa (by decide)).si (by decide)
theorem rb_I_feed {k c' : Nat} {x m x' m' : zs_T} (h : rb_I k x m) (hx : rb_xf x x') (hm : rb_mf m m') (hT : rb_T c' x' m') : rb_I k x' m' := by
  obtain ⟨c, hh, d, w, S, n, -, hR, hA, hP, hE, hL⟩ := h
  obtain ⟨xi, xl, xa, xb⟩ := hx
  obtain ⟨mi, ml, ma, mb⟩ := hm
  refine ⟨c', hh, d, w, S, n, hT, rb_R_of hR (xa _ (by decide)) (fun j h1 h2 => mi j (by simp; omega)), rb_A_of hA ?_ ?_, rb_P_of hP (xi _ (by decide)) (xa _ (by decide)) (mi _ (by decide)) (ma _ (by decide)), rb_E_of hE ?_ ?_, rb_L_of hL ?_ ?_⟩
  · exact ⟨xi _ (by decide), xi _ (by decide), xi _ (by decide), xi _ (by decide), xi _ (by decide), xi _ (by decide), xl _ (by decide), xa _ (by decide), xa _ (by decide), xa _ (by decide)⟩
  · exact ⟨mi _ (by decide), mi _ (by decide), mi _ (by decide), mi _ (by decide), mi _ (by decide), mi _ (by decide), ml _ (by decide), ma _ (by decide), ma _ (by decide), ma _ (by decide)⟩
  · exact ⟨xi _ (by decide), xi _ (by decide), xi _ (by decide), xa _ (by decide), xa _ (by decide), xa _ (by decide), xa _ (by decide), xa _ (by decide), xa _ (by decide), xa _ (by decide), xa _ (by decide)⟩
  · exact ⟨mi _ (by decide), mi _ (by decide), mi _ (by decide), ma _ (by decide), ma _ (by decide), ma _ (by decide), ma _ (by decide), ma _ (by decide), ma _ (by decide), ma _ (by decide)⟩
  · exact ⟨xa _ (by decide), xb _ (by decide), xa _ (by decide), xb _ (by decide), xb _ (by decide), xl _ (by decide)⟩
  · exact ⟨ma _ (by decide), ma _ (by decide), ma _ (by decide), mb _ (by decide), mb _ (by decide), ml _ (by decide)⟩
theorem sb_feed {N k : Nat} {x m : zs_T} (hN : 10 ≤ N) (hI : rb_I k x m) (a1 a2 a3 a4 a5 : Int32) : zl_feed N x m (rb_I (k + 1)) a1 a2 a3 a4 a5 := by
  have hM := rb_mono k x m hI
  obtain ⟨c, hh, d, w, S, n, hT, -⟩ := id hM
  obtain ⟨q1, q2, q3, -⟩ := id hT
  unfold zl_feed fX8_feed fM9_feed
  rw [q1, q2, show nI c + 20 = nI (c + 20) from nI_add c 20]
  by_cases p : c + 20 ≤ 40
  · have hp : nI (c + 20) ≤ 40 := nI_le p (by decide)
    simp only [if_pos hp]
    obtain ⟨x1, m1, b1, c1, d1, e1, f1⟩ := pb_app a1 hN hT (by omega)
    obtain ⟨x2, m2, b2, c2, d2, e2, f2⟩ := pb_app a2 hN d1 (by omega)
    obtain ⟨x3, m3, b3, c3, d3, e3, f3⟩ := pb_app a3 hN d2 (by omega)
    obtain ⟨x4, m4, b4, c4, d4, e4, f4⟩ := pb_app a4 hN d3 (by omega)
    obtain ⟨x5, m5, b5, c5, d5, e5, f5⟩ := pb_app a5 hN d4 (by omega)
    simp only [b1, b2, b3, b4, b5, c1, c2, c3, c4, c5, zf_bv]
    refine ⟨nI (c + 4 + 4 + 4 + 4 + 4), x5, m5, by rw [d5.1], by rw [d5.2.1], rb_I_feed hM ((((e1.tr e2).tr e3).tr e4).tr e5) ((((f1.tr f2).tr f3).tr f4).tr f5) d5⟩
  · have hp : ¬ nI (c + 20) ≤ 40 := by
      rw [pz_le, pz_nI (by omega)]; show ¬ ((c + 20 : Nat) : Int) ≤ 40; omega
    simp only [if_neg hp]
    exact ⟨-1, x, m, rfl, rfl, hM⟩
