/-! close: paying in, the next year -/
theorem y_ss (a b c : Int64) : a - b - c = a - (b + c) := by
  rw [Int64.sub_eq_add_neg, Int64.sub_eq_add_neg, Int64.sub_eq_add_neg, Int64.neg_add, Int64.sub_eq_add_neg, Int64.add_assoc]
theorem y_as (a b c : Int64) : a + (b - c) = a + b - c := by
  rw [Int64.sub_eq_add_neg, Int64.sub_eq_add_neg, Int64.add_assoc]
theorem y_pos {N : Nat} {P : Nat → Nat} {sum : Int64} (hN : 200 ≤ N) (hb : qh P 12 ≤ 400000) (h0 : 0 < qh P 12) : ∀ (r i f1 f2 : Nat) (u v : zs_T) (paid : Int64), i + r = 12 → r < f1 → r < f2 → cP u 20 P → cP v 16 P → zs_l u 2 = sum → zs_l u 1 = zs_l v 1 → (∀ o, o < 12 → zs_b u 2 o = zs_b v 1 o) → ∃ u' v', zf_loop (fun ag x => fX1_payIn_b8 N (fun u v2 v4 => ag (u, v2, v4)) x.1 x.2.1 x.2.2) f1 (u, sum - paid, nI i) = some u' ∧ zf_loop (fun ag x => fM9_pays_b116 N (lN (qh P 12)) sum (fun u v5 v7 => ag (u, v5, v7)) x.1 x.2.1 x.2.2) f2 (v, paid, nI i) = some v' ∧ zg_ag [] [1] [] [2] u u' ∧ zg_ag [] [1] [] [1] v v' ∧ zs_l u' 1 = zs_l v' 1 ∧ ∀ o, o < 12 → zs_b u' 2 o = zs_b v' 1 o := by
  intro r
  induction r with
  | zero =>
    intro i f1 f2 u v paid hi hf1 hf2 hPu hPv hs h1 hB
    obtain ⟨f1, rfl⟩ : ∃ f', f1 = f' + 1 := ⟨f1 - 1, by omega⟩
    obtain ⟨f2, rfl⟩ : ∃ f', f2 = f' + 1 := ⟨f2 - 1, by omega⟩
    obtain rfl : i = 12 := by omega
    rw [zf_loop_s, zf_loop_s]
    refine ⟨zs_sl u 1 (zs_l u 1 + (sum - paid)), zs_sl v 1 (zs_l v 1 + sum - paid), rfl, rfl, zg_ag.rf.sl (by decide), zg_ag.rf.sl (by decide), ?_, hB⟩
    show zs_l u 1 + (sum - paid) = zs_l v 1 + sum - paid
    rw [h1, y_as]
  | succ r ih =>
    intro i f1 f2 u v paid hi hf1 hf2 hPu hPv hs h1 hB
    obtain ⟨f1, rfl⟩ : ∃ f', f1 = f' + 1 := ⟨f1 - 1, by omega⟩
    obtain ⟨f2, rfl⟩ : ∃ f', f2 = f' + 1 := ⟨f2 - 1, by omega⟩
    rw [zf_loop_s, zf_loop_s]
    obtain ⟨A1, hA1⟩ : ∃ A : zs_T → Int64 → Int32 → Option zs_T, A = fun u v2 v4 => zf_loop (fun ag x => fX1_payIn_b8 N (fun u v2 v4 => ag (u, v2, v4)) x.1 x.2.1 x.2.2) f1 (u, v2, v4) := ⟨_, rfl⟩
    obtain ⟨A2, hA2⟩ : ∃ A : zs_T → Int64 → Int32 → Option zs_T, A = fun u v5 v7 => zf_loop (fun ag x => fM9_pays_b116 N (lN (qh P 12)) sum (fun u v5 v7 => ag (u, v5, v7)) x.1 x.2.1 x.2.2) f2 (u, v5, v7) := ⟨_, rfl⟩
    have hz : zf_in (nI i) 12 = true := pz_in (by omega) (by decide)
    have hPi := qh_ge P (show i < 12 by omega)
    have eX : fX1_payIn_b8 N A1 u (sum - paid) (nI i) = A1 (zs_sb u 2 (vp_updL (zs_b u 2) i (zs_b u 2 i - sum * lN (P i) / lN (qh P 12)))) (sum - (paid + sum * lN (P i) / lN (qh P 12))) (nI (i + 1)) := by
      unfold fX1_payIn_b8
      rw [if_neg (show ¬ (12 : Int32) ≤ nI i from nI_ge (b := 12) (by omega) (by omega)), c_sh hN (show i < 12 by omega) hPu hb, zf_bp_s, if_neg (show ¬ qh P 12 = 0 by omega), if_pos hz, if_pos hz, pz_cl (show i < 2 ^ 31 by omega), pz_succ, y_ss, hs]
    have eM : fM9_pays_b116 N (lN (qh P 12)) sum A2 v paid (nI i) = A2 (zs_sb v 1 (vp_updL (zs_b v 1) i (zs_b v 1 i - sum * lN (P i) / lN (qh P 12)))) (paid + sum * lN (P i) / lN (qh P 12)) (nI (i + 1)) := by
      unfold fM9_pays_b116
      rw [if_neg (show ¬ (12 : Int32) ≤ nI i from nI_ge (b := 12) (by omega) (by omega)), c_cmp (show qh P 12 < 2 ^ 31 by omega), if_neg (show ¬ qh P 12 = 0 by omega), if_neg (by decide), if_pos hz, if_pos hz, if_pos hz, if_pos (c_ne (by omega) (by omega)), pz_cl (show i < 2 ^ 31 by omega), hPv i (by omega), nI_l (show P i < 2 ^ 31 by omega), pz_succ]
    obtain ⟨u', v', c1, c2, c3, c4, c5, c6⟩ := ih (i + 1) f1 f2 (zs_sb u 2 (vp_updL (zs_b u 2) i (zs_b u 2 i - sum * lN (P i) / lN (qh P 12)))) (zs_sb v 1 (vp_updL (zs_b v 1) i (zs_b v 1 i - sum * lN (P i) / lN (qh P 12)))) (paid + sum * lN (P i) / lN (qh P 12)) (by omega) (by omega) (by omega) hPu hPv hs h1 (fun o ho => by
      show vp_updL (zs_b u 2) i _ o = vp_updL (zs_b v 1) i _ o
      rw [pz_updL, pz_updL, hB i (by omega), hB o ho])
    refine ⟨u', v', ?_, ?_, (zg_ag.rf.sb (by decide)).tr c3, (zg_ag.rf.sb (by decide)).tr c4, c5, c6⟩
    · show fX1_payIn_b8 N (fun u v2 v4 => zf_loop (fun ag x => fX1_payIn_b8 N (fun u v2 v4 => ag (u, v2, v4)) x.1 x.2.1 x.2.2) f1 (u, v2, v4)) u (sum - paid) (nI i) = _
      rw [← hA1, eX, hA1]
      exact c1
    · show fM9_pays_b116 N (lN (qh P 12)) sum (fun u v5 v7 => zf_loop (fun ag x => fM9_pays_b116 N (lN (qh P 12)) sum (fun u v5 v7 => ag (u, v5, v7)) x.1 x.2.1 x.2.2) f2 (u, v5, v7)) v paid (nI i) = _
      rw [← hA2, eM, hA2]
      exact c2
theorem y_zero {N : Nat} {P : Nat → Nat} {sum : Int64} (hN : 200 ≤ N) (h0 : qh P 12 = 0) : ∀ (r i f1 : Nat) (u : zs_T), i + r = 12 → r < f1 → cP u 20 P → ∃ u', zf_loop (fun ag x => fX1_payIn_b8 N (fun u v2 v4 => ag (u, v2, v4)) x.1 x.2.1 x.2.2) f1 (u, sum, nI i) = some u' ∧ zg_ag [] [1] [] [2] u u' ∧ zs_l u' 1 = zs_l u 1 + sum ∧ ∀ o, zs_b u' 2 o = zs_b u 2 o := by
  intro r
  induction r with
  | zero =>
    intro i f1 u hi hf1 hPu
    obtain ⟨f1, rfl⟩ : ∃ f', f1 = f' + 1 := ⟨f1 - 1, by omega⟩
    obtain rfl : i = 12 := by omega
    rw [zf_loop_s]
    exact ⟨zs_sl u 1 (zs_l u 1 + sum), rfl, zg_ag.rf.sl (by decide), rfl, fun _ => rfl⟩
  | succ r ih =>
    intro i f1 u hi hf1 hPu
    obtain ⟨f1, rfl⟩ : ∃ f', f1 = f' + 1 := ⟨f1 - 1, by omega⟩
    rw [zf_loop_s]
    obtain ⟨A1, hA1⟩ : ∃ A : zs_T → Int64 → Int32 → Option zs_T, A = fun u v2 v4 => zf_loop (fun ag x => fX1_payIn_b8 N (fun u v2 v4 => ag (u, v2, v4)) x.1 x.2.1 x.2.2) f1 (u, v2, v4) := ⟨_, rfl⟩
    have hz : zf_in (nI i) 12 = true := pz_in (by omega) (by decide)
    have eX : fX1_payIn_b8 N A1 u sum (nI i) = A1 (zs_sb u 2 (vp_updL (zs_b u 2) i (zs_b u 2 i))) sum (nI (i + 1)) := by
      unfold fX1_payIn_b8
      rw [if_neg (show ¬ (12 : Int32) ≤ nI i from nI_ge (b := 12) (by omega) (by omega)), c_sh hN (show i < 12 by omega) hPu (by omega), zf_bp_s, if_pos h0, if_pos hz, if_pos hz, pz_cl (show i < 2 ^ 31 by omega), pz_succ, Int64.sub_zero, Int64.sub_zero]
    obtain ⟨u', c1, c3, c4, c5⟩ := ih (i + 1) f1 (zs_sb u 2 (vp_updL (zs_b u 2) i (zs_b u 2 i))) (by omega) (by omega) hPu
    refine ⟨u', ?_, (zg_ag.rf.sb (by decide)).tr c3, c4, fun o => ?_⟩
    · show fX1_payIn_b8 N (fun u v2 v4 => zf_loop (fun ag x => fX1_payIn_b8 N (fun u v2 v4 => ag (u, v2, v4)) x.1 x.2.1 x.2.2) f1 (u, v2, v4)) u sum (nI i) = _
      rw [← hA1, eX, hA1]
      exact c1
    · rw [c5 o]
      show vp_updL (zs_b u 2) i (zs_b u 2 i) o = _
      rw [pz_updL]
      by_cases q : o = i
      · rw [if_pos q, q]
      · rw [if_neg q]
theorem y_in {N : Nat} {P : Nat → Nat} {u v : zs_T} (hN : 200 ≤ N) (hb : qh P 12 ≤ 400000) (hPu : cP u 20 P) (hPv : cP v 16 P) (h1 : zs_l u 1 = zs_l v 1) (hB : ∀ o, o < 12 → zs_b u 2 o = zs_b v 1 o) : ∃ u' v', fX1_payIn N u = some u' ∧ fM9_pays_j110 N v (lN (qh P 12)) (zs_l u 2) = some v' ∧ zg_ag [] [1] [] [2] u u' ∧ zg_ag [] [1] [] [1] v v' ∧ zs_l u' 1 = zs_l v' 1 ∧ ∀ o, o < 12 → zs_b u' 2 o = zs_b v' 1 o := by
  rcases Nat.eq_zero_or_pos (qh P 12) with z | z
  · obtain ⟨u', c1, c3, c4, c5⟩ := y_zero (sum := zs_l u 2) hN z 12 0 N u (by omega) (by omega) hPu
    refine ⟨u', zs_sl v 1 (zs_l v 1 + zs_l u 2 - 0), c1, ?_, c3, zg_ag.rf.sl (by decide), ?_, fun o ho => ?_⟩
    · obtain ⟨M, rfl⟩ : ∃ M, N = M + 1 := ⟨N - 1, by omega⟩
      show zf_loop (fun ag x => fM9_pays_b116 (M + 1) (lN (qh P 12)) (zs_l u 2) (fun u v5 v7 => ag (u, v5, v7)) x.1 x.2.1 x.2.2) (M + 1) (v, 0, 0) = _
      rw [zf_loop_s]
      show fM9_pays_b116 (M + 1) (lN (qh P 12)) (zs_l u 2) _ v 0 0 = _
      unfold fM9_pays_b116
      rw [if_neg (show ¬ (12 : Int32) ≤ 0 by decide), c_cmp (show qh P 12 < 2 ^ 31 by omega), if_pos z, if_pos (by decide)]
      rfl
    · rw [c4]
      show _ = zs_l v 1 + zs_l u 2 - 0
      rw [Int64.sub_zero, h1]
    · rw [c5 o]
      exact hB o ho
  · obtain ⟨u', v', c1, c2, c3⟩ := y_pos (sum := zs_l u 2) hN hb z 12 0 N N u v 0 (by omega) (by omega) (by omega) hPu hPv rfl h1 hB
    rw [Int64.sub_zero] at c1
    exact ⟨u', v', c1, c2, c3⟩
/-- the sheep as the next year begins -/
theorem y_year {N n S d : Nat} {x m : zs_T} (hN : 200 ≤ N) (hE : rb_E S n x m) (hd : d ≤ 150) (hdm : zs_i m 10 = nI d) : ∀ (r i f1 f2 : Nat) (u v : zs_T), i + r = S → r < f1 → r < f2 → zg_ag [14, 15, 16, 17, 18] [] [11, 12, 18] [] x u → zg_ag [18, 19, 20] [] [8, 9, 10] [] m v → (∀ s, s < i → (zs_a u 11 s = zs_a v 8 s ∧ 0 ≤ (zs_a v 8 s).toInt ∧ (zs_a v 8 s).toInt < 12) ∧ (zs_a u 12 s = zs_a v 10 s ∧ zf_z (zs_a v 10 s) = true) ∧ zs_a v 9 s = 0) → (∀ s, i ≤ s → zs_a u 11 s = zs_a x 11 s ∧ zs_a u 12 s = zs_a x 12 s ∧ zs_a v 8 s = zs_a m 8 s ∧ zs_a v 10 s = zs_a m 10 s) → ∃ u' v', zf_loop (fun ag x => fX4_beginYear_b2 N (nI d) (fun u v3 => ag (u, v3)) x.1 x.2) f1 (u, nI i) = some (zs_si u' 13 0) ∧ zf_loop (fun ag x => fM9_begins_b2 N (fun u v1 => ag (u, v1)) x.1 x.2) f2 (v, nI i) = fM9_begins_j57 N v' ∧ zg_ag [14, 15, 16, 17, 18] [] [11, 12, 18] [] x u' ∧ zg_ag [18, 19, 20] [] [8, 9, 10] [] m v' ∧ (∀ s, s < S → (zs_a u' 11 s = zs_a v' 8 s ∧ 0 ≤ (zs_a v' 8 s).toInt ∧ (zs_a v' 8 s).toInt < 12) ∧ (zs_a u' 12 s = zs_a v' 10 s ∧ zf_z (zs_a v' 10 s) = true) ∧ zs_a v' 9 s = 0) ∧ ∀ s, S ≤ s → zs_a u' 12 s = zs_a x 12 s := by
  obtain ⟨q1, q2, q3, q4, q5, q6, q7, q8⟩ := id hE
  have hS := q1.2.2
  intro r
  induction r with
  | zero =>
    intro i f1 f2 u v hi hf1 hf2 hx hm hlo hhi
    obtain ⟨f1, rfl⟩ : ∃ f', f1 = f' + 1 := ⟨f1 - 1, by omega⟩
    obtain ⟨f2, rfl⟩ : ∃ f', f2 = f' + 1 := ⟨f2 - 1, by omega⟩
    obtain rfl : i = S := by omega
    rw [zf_loop_s, zf_loop_s]
    refine ⟨u, v, ?_, ?_, hx, hm, hlo, fun s hs => (hhi s hs).2.1⟩
    · show fX4_beginYear_b2 N (nI d) _ u (nI i) = _
      unfold fX4_beginYear_b2
      rw [hx.1 12 (by decide), q1.1, if_pos (nI_le (by omega) (by omega))]
    · show fM9_begins_b2 N _ v (nI i) = _
      unfold fM9_begins_b2
      rw [hm.1 15 (by decide), q1.2.1, if_pos (nI_le (by omega) (by omega))]
  | succ r ih =>
    intro i f1 f2 u v hi hf1 hf2 hx hm hlo hhi
    obtain ⟨f1, rfl⟩ : ∃ f', f1 = f' + 1 := ⟨f1 - 1, by omega⟩
    obtain ⟨f2, rfl⟩ : ∃ f', f2 = f' + 1 := ⟨f2 - 1, by omega⟩
    rw [zf_loop_s, zf_loop_s]
    obtain ⟨A1, hA1⟩ : ∃ A : zs_T → Int32 → Option zs_T, A = fun u v3 => zf_loop (fun ag x => fX4_beginYear_b2 N (nI d) (fun u v3 => ag (u, v3)) x.1 x.2) f1 (u, v3) := ⟨_, rfl⟩
    obtain ⟨A2, hA2⟩ : ∃ A : zs_T → Int32 → Option zs_T, A = fun u v1 => zf_loop (fun ag x => fM9_begins_b2 N (fun u v1 => ag (u, v1)) x.1 x.2) f2 (u, v1) := ⟨_, rfl⟩
    have hz : zf_in (nI i) 80 = true := pz_in (by omega) (by decide)
    obtain ⟨h11, h12, h8, h10⟩ := hhi i (Nat.le_refl _)
    obtain ⟨b1, b2, b3⟩ := q4 i (by omega)
    have hpE : px_E n S (zs_a m 11) (zs_a m 12) (zs_a m 13) (zs_a m 14) u := by
      have := pe_E hE
      unfold px_E at this ⊢
      rw [hx.1 13 (by decide), hx.2.2.1 13 (by decide), hx.2.2.1 14 (by decide), hx.2.2.1 15 (by decide), hx.2.2.1 16 (by decide)]
      exact this
    obtain ⟨r0, u1, c1, c2, c3, -⟩ := px_replay0 (k := n) (s := i) (last := d) hN hpE (by rw [hx.2.2.1 17 (by decide)]; exact q7) (Nat.le_refl _) (show i < 80 by omega) hd (by rw [h11, b1.1]; exact b1.2) (by rw [h12, b2.1]; exact b2.2)
    have est : ((0 : Int32), zs_a u 12 i, zs_a u 11 i) = rb_st m i := by rw [h11, h12, b1.1, b2.1]; rfl
    rw [est] at c3
    obtain ⟨c4, c5⟩ := c3 (pe_ok hE (Nat.le_refl _) (by omega) hd)
    subst c4
    have e14 : zs_i u1 14 = (pn_s m n d i).2.2 := congrArg (fun z => z.2.2) c5.1
    have e16 : zs_i u1 16 = (pn_s m n d i).2.1 := congrArg (fun z => z.2.1) c5.1
    obtain ⟨v1, d1, d2, d3⟩ := pa_asks (N := N) (k := n) (s := i) (d := d) (u := v) hN q2.2.2 (by omega) hd (by rw [h10]; exact b2.2)
    have est2 : rb_st v i = rb_st m i := by unfold rb_st; rw [h8, h10]
    rw [est2, hm.2.2.1 11 (by decide), hm.2.2.1 12 (by decide), hm.2.2.1 13 (by decide), hm.2.2.1 14 (by decide)] at d1 d3
    have d3' : pa_st v1 = pn_s m n d i := d3
    rw [if_pos (pe_ok hE (Nat.le_refl _) (by omega) hd)] at d1
    have e20 : zs_i v1 20 = (pn_s m n d i).2.2 := congrArg (fun z => z.2.2) d3'
    have e19 : zs_i v1 19 = (pn_s m n d i).2.1 := congrArg (fun z => z.2.1) d3'
    obtain ⟨ow, g1, g2⟩ := q_own hE (k := n) (s := i) (d := d) (Nat.le_refl _) (by omega) hd
    have hzd := (pn_z hE (show i < S by omega) d).2
    have eX : fX4_beginYear_b2 N (nI d) A1 u (nI i) = A1 (zs_sa (zs_sa u1 11 (upd (zs_a u1 11) i (pn_s m n d i).2.2)) 12 (upd (zs_a u1 12) i (pn_s m n d i).2.1)) (nI (i + 1)) := by
      unfold fX4_beginYear_b2
      rw [hx.1 12 (by decide), q1.1, if_neg (nI_ge (by omega) (by omega)), hx.1 13 (by decide), q2.1, c1, zf_bi_s, if_pos hz, if_pos hz, pz_cl (show i < 2 ^ 31 by omega), pz_succ]
      rw [show zs_i (zs_sa u1 11 (upd (zs_a u1 11) i (zs_i u1 14))) 16 = (pn_s m n d i).2.1 from e16, if_pos hzd, e14]
      rfl
    have eM : fM9_begins_b2 N A2 v (nI i) = A2 (zs_sa (zs_sa (zs_sa v1 8 (upd (zs_a v1 8) i (pn_s m n d i).2.2)) 10 (upd (zs_a v1 10) i (pn_s m n d i).2.1)) 9 (upd (zs_a v1 9) i 0)) (nI (i + 1)) := by
      unfold fM9_begins_b2
      rw [hm.1 15 (by decide), q1.2.1, if_neg (nI_ge (by omega) (by omega)), hm.1 16 (by decide), q2.2.1, hm.1 10 (by decide), hdm, d1, zf_bi_s, if_pos hz, if_pos hz, if_pos hz, pz_cl (show i < 2 ^ 31 by omega), pz_succ]
      rw [show zs_i (zs_sa v1 8 (upd (zs_a v1 8) i (zs_i v1 20))) 19 = (pn_s m n d i).2.1 from e19, if_pos hzd, e20]
      rfl
    have agu : zg_ag [14, 15, 16, 17, 18] [] [11, 12, 18] [] x (zs_sa (zs_sa u1 11 (upd (zs_a u1 11) i (pn_s m n d i).2.2)) 12 (upd (zs_a u1 12) i (pn_s m n d i).2.1)) := ((hx.tr (c2.mono (by decide) (by decide) (by decide) (by decide))).sa (by decide)).sa (by decide)
    have agv : zg_ag [18, 19, 20] [] [8, 9, 10] [] m (zs_sa (zs_sa (zs_sa v1 8 (upd (zs_a v1 8) i (pn_s m n d i).2.2)) 10 (upd (zs_a v1 10) i (pn_s m n d i).2.1)) 9 (upd (zs_a v1 9) i 0)) := (((hm.tr (d2.mono (by decide) (by decide) (by decide) (by decide))).sa (by decide)).sa (by decide)).sa (by decide)
    have u11 : zs_a u1 11 = zs_a u 11 := c2.2.2.1 11 (by decide)
    have u12 : zs_a u1 12 = zs_a u 12 := c2.2.2.1 12 (by decide)
    have v8 : zs_a v1 8 = zs_a v 8 := d2.2.2.1 8 (by decide)
    have v9 : zs_a v1 9 = zs_a v 9 := d2.2.2.1 9 (by decide)
    have v10 : zs_a v1 10 = zs_a v 10 := d2.2.2.1 10 (by decide)
    obtain ⟨u', v', k1, k2, k3⟩ := ih (i + 1) f1 f2 _ _ (by omega) (by omega) (by omega) agu agv (fun s hs => by
      show (upd (zs_a u1 11) i (pn_s m n d i).2.2 s = upd (zs_a v1 8) i (pn_s m n d i).2.2 s ∧ 0 ≤ (upd (zs_a v1 8) i (pn_s m n d i).2.2 s).toInt ∧ (upd (zs_a v1 8) i (pn_s m n d i).2.2 s).toInt < 12) ∧ (upd (zs_a u1 12) i (pn_s m n d i).2.1 s = upd (zs_a v1 10) i (pn_s m n d i).2.1 s ∧ zf_z (upd (zs_a v1 10) i (pn_s m n d i).2.1 s) = true) ∧ upd (zs_a v1 9) i 0 s = 0
      rw [u11, u12, v8, v9, v10]
      simp only [pz_upd]
      by_cases z : s = i
      · simp only [if_pos z]
        rw [g2, pz_nI (by omega)]
        exact ⟨⟨trivial, by omega, by omega⟩, ⟨trivial, hzd⟩, trivial⟩
      · simp only [if_neg z]
        exact hlo s (by omega)) (fun s hs => by
      show upd (zs_a u1 11) i (pn_s m n d i).2.2 s = zs_a x 11 s ∧ upd (zs_a u1 12) i (pn_s m n d i).2.1 s = zs_a x 12 s ∧ upd (zs_a v1 8) i (pn_s m n d i).2.2 s = zs_a m 8 s ∧ upd (zs_a v1 10) i (pn_s m n d i).2.1 s = zs_a m 10 s
      rw [u11, u12, v8, v10]
      simp only [pz_upd]
      simp only [if_neg (show ¬ s = i by omega)]
      exact hhi s (by omega))
    refine ⟨u', v', ?_, ?_, k3⟩
    · show fX4_beginYear_b2 N (nI d) (fun u v3 => zf_loop (fun ag x => fX4_beginYear_b2 N (nI d) (fun u v3 => ag (u, v3)) x.1 x.2) f1 (u, v3)) u (nI i) = _
      rw [← hA1, eX, hA1]
      exact k1
    · show fM9_begins_b2 N (fun u v1 => zf_loop (fun ag x => fM9_begins_b2 N (fun u v1 => ag (u, v1)) x.1 x.2) f2 (u, v1)) v (nI i) = _
      rw [← hA2, eM, hA2]
      exact k2
