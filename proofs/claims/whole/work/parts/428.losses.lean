/-! close: cheeses counted, work owed, losses paid -/
theorem c_X97 {N : Nat} {Ch La : Nat → Nat} {v3 : Int32} : ∀ (r i f : Nat) (u : zs_T), i + r = 12 → r < f → (∀ o, o < 12 → zs_a u 21 o = nI (La o) ∧ La o < 2 ^ 31) → (∀ o, o < 12 → zs_b u 0 o = if o < i then lN (Ch o + La o) else lN (Ch o)) → ∃ u', zf_loop (fun ag x => fX1_partCheeses_b97 N v3 (fun u v4 => ag (u, v4)) x.1 x.2) f (u, nI i) = some (v3, u') ∧ zg_ag [] [] [] [0] u u' ∧ ∀ o, o < 12 → zs_b u' 0 o = lN (Ch o + La o) := by
  intro r
  induction r with
  | zero =>
    intro i f u hi hf h21 h0
    obtain ⟨f, rfl⟩ : ∃ f', f = f' + 1 := ⟨f - 1, by omega⟩
    obtain rfl : i = 12 := by omega
    rw [zf_loop_s]
    refine ⟨u, ?_, zg_ag.rf, fun o ho => by rw [h0 o ho, if_pos ho]⟩
    show fX1_partCheeses_b97 N v3 _ u (nI 12) = _
    unfold fX1_partCheeses_b97
    rw [if_pos (show (12 : Int32) ≤ nI 12 by decide)]
  | succ r ih =>
    intro i f u hi hf h21 h0
    obtain ⟨f, rfl⟩ : ∃ f', f = f' + 1 := ⟨f - 1, by omega⟩
    rw [zf_loop_s]
    obtain ⟨AG, hAG⟩ : ∃ A : zs_T → Int32 → Option (Int32 × zs_T), A = fun u v4 => zf_loop (fun ag x => fX1_partCheeses_b97 N v3 (fun u v4 => ag (u, v4)) x.1 x.2) f (u, v4) := ⟨_, rfl⟩
    show ∃ u', fX1_partCheeses_b97 N v3 (fun u v4 => zf_loop (fun ag x => fX1_partCheeses_b97 N v3 (fun u v4 => ag (u, v4)) x.1 x.2) f (u, v4)) u (nI i) = _ ∧ _
    rw [← hAG]
    have hz : zf_in (nI i) 12 = true := pz_in (by omega) (by decide)
    obtain ⟨e1, e2⟩ := h21 i (by omega)
    unfold fX1_partCheeses_b97
    rw [if_neg (show ¬ (12 : Int32) ≤ nI i from nI_ge (b := 12) (by omega) (by omega)), if_pos hz, if_pos hz, if_pos hz, pz_cl (show i < 2 ^ 31 by omega), e1, nI_l e2, h0 i (by omega), if_neg (Nat.lt_irrefl i), lN_add, pz_succ]
    obtain ⟨u', b1, b2, b3⟩ := ih (i + 1) f (zs_sb u 0 (vp_updL (zs_b u 0) i (lN (Ch i + La i)))) (by omega) (by omega) h21 (fun o ho => by
      show vp_updL (zs_b u 0) i _ o = _
      rw [pz_updL]
      by_cases q : o = i
      · rw [if_pos q, if_pos (by omega), q]
      · rw [if_neg q, h0 o ho]
        by_cases q2 : o < i
        · rw [if_pos q2, if_pos (by omega)]
        · rw [if_neg q2, if_neg (by omega)])
    exact ⟨u', by rw [hAG]; exact b1, (zg_ag.rf.sb (by decide)).tr b2, b3⟩
theorem c_owel {N : Nat} {P : Nat → Nat} {B : Nat → Int64} {W : Int32} (hb : qh P 12 ≤ 400000) : ∀ (r i f : Nat) (u : zs_T), i + r = 12 → r < f → cP u 20 P → (∀ o, o < 12 → zs_b u 1 o = if o < i then B o + cw W (P o) else B o) → ∃ u', zf_loop (fun ag x => fX1_oweWork_b2 N W (fun u v4 => ag (u, v4)) x.1 x.2) f (u, nI i) = some u' ∧ zg_ag [] [] [] [1] u u' ∧ ∀ o, o < 12 → zs_b u' 1 o = B o + cw W (P o) := by
  intro r
  induction r with
  | zero =>
    intro i f u hi hf hP h0
    obtain ⟨f, rfl⟩ : ∃ f', f = f' + 1 := ⟨f - 1, by omega⟩
    obtain rfl : i = 12 := by omega
    rw [zf_loop_s]
    refine ⟨u, ?_, zg_ag.rf, fun o ho => by rw [h0 o ho, if_pos ho]⟩
    show fX1_oweWork_b2 N W _ u (nI 12) = _
    unfold fX1_oweWork_b2
    rw [if_pos (show (12 : Int32) ≤ nI 12 by decide)]
  | succ r ih =>
    intro i f u hi hf hP h0
    obtain ⟨f, rfl⟩ : ∃ f', f = f' + 1 := ⟨f - 1, by omega⟩
    rw [zf_loop_s]
    obtain ⟨AG, hAG⟩ : ∃ A : zs_T → Int32 → Option zs_T, A = fun u v4 => zf_loop (fun ag x => fX1_oweWork_b2 N W (fun u v4 => ag (u, v4)) x.1 x.2) f (u, v4) := ⟨_, rfl⟩
    show ∃ u', fX1_oweWork_b2 N W (fun u v4 => zf_loop (fun ag x => fX1_oweWork_b2 N W (fun u v4 => ag (u, v4)) x.1 x.2) f (u, v4)) u (nI i) = _ ∧ _
    rw [← hAG]
    have hz : zf_in (nI i) 12 = true := pz_in (by omega) (by decide)
    have hPi := qh_ge P (show i < 12 by omega)
    unfold fX1_oweWork_b2
    rw [if_neg (show ¬ (12 : Int32) ≤ nI i from nI_ge (b := 12) (by omega) (by omega)), if_pos hz, if_pos hz, if_pos hz, pz_cl (show i < 2 ^ 31 by omega), hP i (by omega), nI_l (show P i < 2 ^ 31 by omega), h0 i (by omega), if_neg (Nat.lt_irrefl i), pz_succ, show (W.toInt64 * lN (P i) + 999) / 1000 = cw W (P i) from rfl]
    obtain ⟨u', b1, b2, b3⟩ := ih (i + 1) f (zs_sb u 1 (vp_updL (zs_b u 1) i (B i + cw W (P i)))) (by omega) (by omega) hP (fun o ho => by
      show vp_updL (zs_b u 1) i _ o = _
      rw [pz_updL]
      by_cases q : o = i
      · rw [if_pos q, if_pos (by omega), q]
      · rw [if_neg q, h0 o ho]
        by_cases q2 : o < i
        · rw [if_pos q2, if_pos (by omega)]
        · rw [if_neg q2, if_neg (by omega)])
    exact ⟨u', by rw [hAG]; exact b1, (zg_ag.rf.sb (by decide)).tr b2, b3⟩
/-- all that the cheeses change, on both sides -/
theorem c_cheese {N c k : Nat} {P : Nat → Nat} {u v : zs_T} {t : List Nat} (hN : 200 ≤ N) (hk : k < 512) (hc : c ≤ 1000) (hb : qh P 12 ≤ 400000) (hPu : cP u 20 P) (hPv : cP v 16 P) (hAu : tA (zs_a u 22) t) (hAv : tA (zs_a v 17) t) (hperm : t.Perm (List.range 12)) (hCh : ∀ o, o < 12 → zs_b u 0 o = (zs_a v 18 o).toInt64 ∧ 0 ≤ (zs_a v 18 o).toInt ∧ (zs_a v 18 o).toInt ≤ 1000 * k) : ∃ (L : Nat) (u' v' : zs_T) (t' : List Nat), fX1_partCheeses N u (nI c) = some (nI L, u') ∧ zf_loop (fun ag x => fM9_close_b66 N (nI c) (lN (qh P 12)) (fun u v4 v5 => ag (u, v4, v5)) x.1 x.2.1 x.2.2) N (v, nI c, 0) = fM9_close_j229 N v' (lN (qh P 12)) (nI L) ∧ zg_ag [] [] [21, 22] [0] u u' ∧ zg_ag [] [] [17, 18, 19] [0] v v' ∧ tA (zs_a u' 22) t' ∧ tA (zs_a v' 17) t' ∧ t'.Perm (List.range 12) ∧ ∀ o, o < 12 → zs_a u' 21 o = zs_a v' 19 o ∧ zs_b u' 0 o = (zs_a v' 18 o).toInt64 ∧ 0 ≤ (zs_a v' 18 o).toInt ∧ (zs_a v' 18 o).toInt ≤ 1000 * (k + 1 : Nat) ∧ zs_b v' 0 o = zs_b v 0 o + cw (zs_i v 4) (P o) := by
  obtain ⟨Ch, hCe⟩ : ∃ Ch : Nat → Nat, Ch = fun o => qm (zs_a v 18 o) := ⟨_, rfl⟩
  have hC1 : ∀ o, o < 12 → zs_a v 18 o = nI (Ch o) ∧ Ch o ≤ 1000 * k ∧ zs_b u 0 o = lN (Ch o) := by
    intro o ho
    obtain ⟨h1, h2, h3⟩ := hCh o ho
    have h4 := qm_nI h2
    have h5 : qm (zs_a v 18 o) ≤ 1000 * k := qm_le (by omega)
    rw [hCe]
    refine ⟨h4, h5, ?_⟩
    rw [h1, h4, nI_l (show qm (zs_a v 18 o) < 2 ^ 31 by omega)]
  obtain ⟨u1, a1, a2, a3⟩ := c_X5 (N := N) (c := c) hN hc hb 12 0 N u (by omega) (by omega) hPu (fun o ho => by omega)
  obtain ⟨v1, b1, b2, b3⟩ := c_M66 (N := N) (c := c) (Ch := Ch) (B := zs_b v 0) (W := zs_i v 4) hN hc hb 12 0 N v (by omega) (by omega) hPv rfl (fun o ho => by rw [if_neg (by omega), Nat.add_zero]; exact (hC1 o ho).1) (fun o ho => by omega) (fun o ho => by rw [if_neg (by omega)])
  rw [show c - qs c (qh P 12) P 0 = c from Nat.sub_zero c] at a1 b1
  have a1' : fX1_partCheeses N u (nI c) = fX1_partCheeses_j44 N u1 (nI (c - qs c (qh P 12) P 12)) := a1
  have b1' : zf_loop (fun ag x => fM9_close_b66 N (nI c) (lN (qh P 12)) (fun u v4 v5 => ag (u, v4, v5)) x.1 x.2.1 x.2.2) N (v, nI c, 0) = zf_loop (fun ag x => fM9_close_b164 N (lN (qh P 12)) (fun u v4 => ag (u, v4)) x.1 x.2) N (v1, nI (c - qs c (qh P 12) P 12)) := b1
  rw [a1', b1']
  have hP1 : cP u1 20 P := fun o ho => by rw [a2.2.2.1 20 (by decide)]; exact hPu o ho
  have hP2 : cP v1 16 P := fun o ho => by rw [b2.2.2.1 16 (by decide)]; exact hPv o ho
  have hA1 : tA (zs_a u1 22) t := by rw [a2.2.2.1 22 (by decide)]; exact hAu
  have hA2 : tA (zs_a v1 17) t := by rw [b2.2.2.1 17 (by decide)]; exact hAv
  have key : ∃ (L : Nat) (u2 v2 : zs_T) (t' : List Nat) (La : Nat → Nat), fX1_partCheeses_j44 N u1 (nI (c - qs c (qh P 12) P 12)) = fX1_partCheeses_j94 N u2 (nI L) ∧ zf_loop (fun ag x => fM9_close_b164 N (lN (qh P 12)) (fun u v4 => ag (u, v4)) x.1 x.2) N (v1, nI (c - qs c (qh P 12) P 12)) = fM9_close_j229 N v2 (lN (qh P 12)) (nI L) ∧ zg_ag [] [] [21, 22] [] u1 u2 ∧ zg_ag [] [] [17, 18, 19] [] v1 v2 ∧ tA (zs_a u2 22) t' ∧ tA (zs_a v2 17) t' ∧ t'.Perm (List.range 12) ∧ (∀ o, o < 12 → zs_a u2 21 o = nI (La o) ∧ zs_a v2 19 o = nI (La o) ∧ zs_a v2 18 o = nI (Ch o + La o)) ∧ qh La 12 ≤ 1000 := by
    have hsh : qh (fun o => c * P o / qh P 12) 12 = qs c (qh P 12) P 12 := by
      have : ∀ i, qh (fun o => c * P o / qh P 12) i = qs c (qh P 12) P i := by
        intro i
        induction i with
        | zero => rfl
        | succ i ih => show qh (fun o => c * P o / qh P 12) i + c * P i / qh P 12 = _; rw [ih]; rfl
      exact this 12
    have hle := c_le (c := c) P (Nat.le_refl 12)
    rcases Nat.eq_zero_or_pos (qh P 12) with z | z
    · have hP0 : ∀ o, o < 12 → P o = 0 := fun o ho => by have := qh_ge P ho; omega
      have hlen : t.length = 12 := by rw [hperm.length_eq, List.length_range]
      have hlt : ∀ a ∈ t, a < 12 := fun a ha => List.mem_range.mp (hperm.mem_iff.mp ha)
      refine ⟨c - qs c (qh P 12) P 12, u1, v1, t, fun o => c * P o / qh P 12, ?_, ?_, zg_ag.rf, zg_ag.rf, hA1, hA2, hperm, fun o ho => ⟨a3 o ho, (b3 o ho).1, (b3 o ho).2.1⟩, by omega⟩
      · obtain ⟨M, rfl⟩ : ∃ M, N = M + 1 := ⟨N - 1, by omega⟩
        have hnone : fX1_takeTurn (M + 1) u1 = some (-1, u1) := t_noneX (fun o ho => by rw [hP1 o ho, hP0 o ho]) hA1 hlen hlt 12 0 (M + 1) (by omega) (by omega)
        show zf_loop (fun ag x => fX1_partCheeses_b47 (M + 1) (fun u v3 v4 => ag (u, v3, v4)) x.1 x.2.1 x.2.2) (M + 1) (u1, nI (c - qs c (qh P 12) P 12), 0) = _
        rw [zf_loop_s]
        show fX1_partCheeses_b47 (M + 1) _ u1 (nI (c - qs c (qh P 12) P 12)) 0 = _
        unfold fX1_partCheeses_b47
        rw [hnone, zf_bi_s, if_neg (show ¬ (12 : Int32) ≤ 0 by decide), if_pos rfl]
        unfold fX1_partCheeses_j71
        rw [ite_self]
      · obtain ⟨M, rfl⟩ : ∃ M, N = M + 1 := ⟨N - 1, by omega⟩
        rw [zf_loop_s]
        show fM9_close_b164 (M + 1) (lN (qh P 12)) _ v1 (nI (c - qs c (qh P 12) P 12)) = _
        unfold fM9_close_b164
        rw [c_cmp (show qh P 12 < 2 ^ 31 by omega), if_pos z, if_pos (show (0 : Int32) ≤ 0 by decide), ite_self]
    · have hL : c - qs c (qh P 12) P 12 ≤ 12 := by
        have hmul : ∀ i, c * qh P i ≤ (qs c (qh P 12) P i + i) * qh P 12 := by
          intro i
          induction i with
          | zero => show c * 0 ≤ _; omega
          | succ i ih =>
            have h1 : c * P i ≤ (c * P i / qh P 12 + 1) * qh P 12 := by
              have := Nat.lt_div_mul_add (a := c * P i) z
              rw [Nat.add_mul, Nat.one_mul]
              omega
            show c * (qh P i + P i) ≤ (qs c (qh P 12) P i + c * P i / qh P 12 + (i + 1)) * qh P 12
            rw [Nat.mul_add, show qs c (qh P 12) P i + c * P i / qh P 12 + (i + 1) = (qs c (qh P 12) P i + i) + (c * P i / qh P 12 + 1) by omega, Nat.add_mul]
            exact Nat.add_le_add ih h1
        have h12 := Nat.le_of_mul_le_mul_right (hmul 12) z
        omega
      obtain ⟨u2, v2, t', La', c1, c2, c3, c4, c5, c6, c7, c8, c9⟩ := t_turn (Ch := Ch) hN hb z (c - qs c (qh P 12) P 12) 0 N N u1 v1 t (fun o => c * P o / qh P 12) (by omega) (by omega) (by omega) hP1 hP2 hA1 hA2 hperm (fun o ho => ⟨a3 o ho, (b3 o ho).1, (b3 o ho).2.1⟩)
      refine ⟨0, u2, v2, t', La', c1, c2, c3, c4, c5, c6, c7, c8, ?_⟩
      omega
  obtain ⟨L, u2, v2, t', La, c1, c2, c3, c4, c5, c6, c7, c8, c9⟩ := key
  rw [c1, c2]
  have hLa : ∀ o, o < 12 → La o ≤ 1000 := fun o ho => by have := qh_ge La ho; omega
  obtain ⟨u3, d1, d2, d3⟩ := c_X97 (N := N) (Ch := Ch) (La := La) (v3 := nI L) 12 0 N u2 (by omega) (by omega) (fun o ho => ⟨(c8 o ho).1, by have := hLa o ho; omega⟩) (fun o ho => by
    rw [if_neg (by omega), c3.2.2.2 0 (by decide), a2.2.2.2 0 (by decide)]
    exact (hC1 o ho).2.2)
  refine ⟨L, u3, v2, t', d1, rfl, ?_, ?_, ?_, c6, c7, fun o ho => ?_⟩
  · exact ((a2.mono (by decide) (by decide) (by decide) (by decide)).tr (c3.mono (by decide) (by decide) (by decide) (by decide))).tr (d2.mono (by decide) (by decide) (by decide) (by decide))
  · exact (b2.mono (by decide) (by decide) (by decide) (by decide)).tr (c4.mono (by decide) (by decide) (by decide) (by decide))
  · rw [d2.2.2.1 22 (by decide)]; exact c5
  · obtain ⟨r1, r2, r3⟩ := c8 o ho
    have h1 := (hC1 o ho).2.1
    have h2 := hLa o ho
    refine ⟨?_, ?_, ?_, ?_, ?_⟩
    · rw [d2.2.2.1 21 (by decide), r1, r2]
    · rw [d3 o ho, r3, nI_l (show Ch o + La o < 2 ^ 31 by omega)]
    · rw [r3, pz_nI (by omega)]; omega
    · rw [r3, pz_nI (by omega)]; omega
    · rw [c4.2.2.2 0 (by decide)]; exact (b3 o ho).2.2
abbrev cX (x u : zs_T) : Prop := zg_ag [8, 9, 10, 11, 14, 15, 16, 17, 18] [1, 2] [2, 7, 8, 9, 10, 18, 20, 21, 22] [0, 1, 2] x u
abbrev cM (m v : zs_T) : Prop := zg_ag [1, 13, 14, 18, 19, 20] [1] [1, 5, 6, 15, 16, 17, 18, 19] [0, 1] m v
theorem rb_E_c {S n : Nat} {x m x' m' : zs_T} (h : rb_E S n x m) (hx : cX x x') (hm : cM m m') : rb_E S n x' m' := by
  obtain ⟨xi, xl, xa, xb⟩ := hx
  obtain ⟨mi, ml, ma, mb⟩ := hm
  refine rb_E_of h ?_ ?_
  · exact ⟨xi _ (by decide), xi _ (by decide), xi _ (by decide), xa _ (by decide), xa _ (by decide), xa _ (by decide), xa _ (by decide), xa _ (by decide), xa _ (by decide), xa _ (by decide), xa _ (by decide)⟩
  · exact ⟨mi _ (by decide), mi _ (by decide), mi _ (by decide), ma _ (by decide), ma _ (by decide), ma _ (by decide), ma _ (by decide), ma _ (by decide), ma _ (by decide), ma _ (by decide)⟩
theorem l_was {N n S s d : Nat} {x m : zs_T} (hN : 200 ≤ N) (hE : rb_E S n x m) (hs : s < S) (hd : d ≤ 150) (hdm : zs_i m 10 = nI d) : ∀ (r i f : Nat) (u : zs_T), i + r = d → r < f → pa_ag m u → ∃ m', zf_loop (fun ag x => fM9_wasUp_b4 N (nI s) (fun u v2 v3 => ag (u, v2, v3)) x.1 x.2.1 x.2.2) f (u, (if qU m n i s = 0 then 0 else 1), nI (i + 1)) = some ((if qU m n d s = 0 then 0 else 1), m') ∧ pa_ag m m' := by
  intro r
  induction r with
  | zero =>
    intro i f u hi hf ha
    obtain ⟨f, rfl⟩ : ∃ f', f = f' + 1 := ⟨f - 1, by omega⟩
    obtain rfl : i = d := by omega
    rw [zf_loop_s]
    refine ⟨u, ?_, ha⟩
    show fM9_wasUp_b4 N (nI s) _ u (if qU m n i s = 0 then 0 else 1) (nI (i + 1)) = _
    unfold fM9_wasUp_b4
    rw [ha.1 10 (by decide), hdm, if_pos (nI_lt (by omega) (by omega)), if_pos (by by_cases q : qU m n i s = 0 <;> simp [q, zf_z])]
  | succ r ih =>
    intro i f u hi hf ha
    obtain ⟨f, rfl⟩ : ∃ f', f = f' + 1 := ⟨f - 1, by omega⟩
    rw [zf_loop_s]
    obtain ⟨AG, hAG⟩ : ∃ A : zs_T → Int32 → Int32 → Option (Int32 × zs_T), A = fun u v2 v3 => zf_loop (fun ag x => fM9_wasUp_b4 N (nI s) (fun u v2 v3 => ag (u, v2, v3)) x.1 x.2.1 x.2.2) f (u, v2, v3) := ⟨_, rfl⟩
    show ∃ m', fM9_wasUp_b4 N (nI s) (fun u v2 v3 => zf_loop (fun ag x => fM9_wasUp_b4 N (nI s) (fun u v2 v3 => ag (u, v2, v3)) x.1 x.2.1 x.2.2) f (u, v2, v3)) u (if qU m n i s = 0 then 0 else 1) (nI (i + 1)) = _ ∧ _
    rw [← hAG]
    have hE' := rb_E_ag hE (zg_ag.rf (u := x)) ha
    obtain ⟨m', b1, b2, b3, b4, b5⟩ := q_ask hN hE' (k := n) (s := s) (d := i + 1) (Nat.le_refl _) hs (by omega)
    rw [pn_s_ag ha] at b3
    obtain ⟨m2, c1, c2⟩ := ih (i + 1) f m' (by omega) (by omega) (ha.tr b2)
    refine ⟨m2, ?_, c2⟩
    have hnext : AG m' (if qU m n (i + 1) s = 0 then 0 else 1) (nI (i + 1 + 1)) = some ((if qU m n d s = 0 then 0 else 1), m2) := by rw [hAG]; exact c1
    rw [← hnext]
    unfold fM9_wasUp_b4
    rw [ha.1 10 (by decide), hdm, if_neg (nI_nlt (by omega) (by omega)), hE'.2.1.2.1, b1, zf_bi_s, b3, pz_succ, qU_s]
    by_cases q : qU m n i s = 0
    · rw [if_pos q, if_pos rfl, q]
      by_cases q2 : (pn_s m n (i + 1) s).1 = 0
      · rw [if_pos q2, if_pos q2, if_pos rfl]
      · rw [if_neg q2, if_neg q2, if_neg (by omega)]
    · rw [if_neg q, if_neg (by decide), if_neg (by omega)]
theorem l_pay {N n S d : Nat} {x m : zs_T} {V : Int32} {al : Int64} (hN : 200 ≤ N) (hE : rb_E S n x m) (hd : d ≤ 150) (hdm : zs_i m 10 = nI d) (hV : zs_i m 5 = V) : ∀ (r i f1 f2 : Nat) (u v : zs_T), i + r = S → r < f1 → r < f2 → cX x u → cM m v → (∀ o, o < 12 → zs_b u 2 o = zs_b v 1 o) → ∃ u' v', zf_loop (fun ag x => fX1_payLosses_b8 N (nI d) V (fun u v5 => ag (u, v5)) x.1 x.2) f1 (u, nI i) = some u' ∧ zf_loop (fun ag x => fM9_pays_b5 N al (fun u v3 v5 => ag (u, v3, v5)) x.1 x.2.1 x.2.2) f2 (v, zs_l u 2, nI i) = fM9_pays_j110 N v' al (zs_l u' 2) ∧ zg_ag [14, 15, 16, 17, 18] [2] [18] [2] u u' ∧ zg_ag [18, 19, 20] [] [] [1] v v' ∧ ∀ o, o < 12 → zs_b u' 2 o = zs_b v' 1 o := by
  have hS := hE.1.2.2
  intro r
  induction r with
  | zero =>
    intro i f1 f2 u v hi hf1 hf2 hx hm hB
    obtain ⟨f1, rfl⟩ : ∃ f', f1 = f' + 1 := ⟨f1 - 1, by omega⟩
    obtain ⟨f2, rfl⟩ : ∃ f', f2 = f' + 1 := ⟨f2 - 1, by omega⟩
    rw [zf_loop_s, zf_loop_s]
    refine ⟨u, v, ?_, ?_, zg_ag.rf, zg_ag.rf, hB⟩
    · show fX1_payLosses_b8 N (nI d) V _ u (nI i) = _
      unfold fX1_payLosses_b8
      rw [hx.1 12 (by decide), hE.1.1, if_pos (nI_le (by omega) (by omega))]
    · show fM9_pays_b5 N al _ v (zs_l u 2) (nI i) = _
      unfold fM9_pays_b5
      rw [hm.1 15 (by decide), hE.1.2.1, if_pos (nI_le (by omega) (by omega))]
  | succ r ih =>
    intro i f1 f2 u v hi hf1 hf2 hx hm hB
    obtain ⟨f1, rfl⟩ : ∃ f', f1 = f' + 1 := ⟨f1 - 1, by omega⟩
    obtain ⟨f2, rfl⟩ : ∃ f', f2 = f' + 1 := ⟨f2 - 1, by omega⟩
    have hE' := rb_E_c hE hx hm
    have hz : zf_in (nI i) 80 = true := pz_in (by omega) (by decide)
    have hdv : zs_i v 10 = nI d := (hm.1 10 (by decide)).trans hdm
    rw [zf_loop_s, zf_loop_s]
    obtain ⟨A1, hA1⟩ : ∃ A : zs_T → Int32 → Option zs_T, A = fun u v5 => zf_loop (fun ag x => fX1_payLosses_b8 N (nI d) V (fun u v5 => ag (u, v5)) x.1 x.2) f1 (u, v5) := ⟨_, rfl⟩
    obtain ⟨A2, hA2⟩ : ∃ A : zs_T → Int64 → Int32 → Option zs_T, A = fun u v3 v5 => zf_loop (fun ag x => fM9_pays_b5 N al (fun u v3 v5 => ag (u, v3, v5)) x.1 x.2.1 x.2.2) f2 (u, v3, v5) := ⟨_, rfl⟩
    have fin : ∀ (u1 v1 : zs_T), zg_ag [14, 15, 16, 17, 18] [2] [18] [2] u u1 → zg_ag [18, 19, 20] [] [] [1] v v1 → (∀ o, o < 12 → zs_b u1 2 o = zs_b v1 1 o) → fX1_payLosses_b8 N (nI d) V A1 u (nI i) = A1 u1 (nI (i + 1)) → fM9_pays_b5 N al A2 v (zs_l u 2) (nI i) = A2 v1 (zs_l u1 2) (nI (i + 1)) → ∃ u' v', fX1_payLosses_b8 N (nI d) V A1 u (nI i) = some u' ∧ fM9_pays_b5 N al A2 v (zs_l u 2) (nI i) = fM9_pays_j110 N v' al (zs_l u' 2) ∧ zg_ag [14, 15, 16, 17, 18] [2] [18] [2] u u' ∧ zg_ag [18, 19, 20] [] [] [1] v v' ∧ ∀ o, o < 12 → zs_b u' 2 o = zs_b v' 1 o := by
      intro u1 v1 g1 g2 g3 g4 g5
      obtain ⟨u', v', c1, c2, c3, c4, c5⟩ := ih (i + 1) f1 f2 u1 v1 (by omega) (by omega) (by omega) (hx.tr (g1.mono (by decide) (by decide) (by decide) (by decide))) (hm.tr (g2.mono (by decide) (by decide) (by decide) (by decide))) g3
      exact ⟨u', v', by rw [g4, hA1]; exact c1, by rw [g5, hA2]; exact c2, g1.tr c3, g2.tr c4, c5⟩
    have goal : ∃ u' v', fX1_payLosses_b8 N (nI d) V A1 u (nI i) = some u' ∧ fM9_pays_b5 N al A2 v (zs_l u 2) (nI i) = fM9_pays_j110 N v' al (zs_l u' 2) ∧ zg_ag [14, 15, 16, 17, 18] [2] [18] [2] u u' ∧ zg_ag [18, 19, 20] [] [] [1] v v' ∧ ∀ o, o < 12 → zs_b u' 2 o = zs_b v' 1 o := by
      have eX : zs_i u 12 = nI S := hE'.1.1
      have eM : zs_i v 15 = nI S := hE'.1.2.1
      have e12 : zs_a u 12 i = zs_a v 10 i := (hE'.2.2.2.1 i (by omega)).2.1.1
      by_cases p0 : zs_a v 10 i = 0
      · obtain ⟨u1, b1, b2, b3⟩ := q_rep hN hE' (k := n) (s := i) (last := d) (Nat.le_refl _) (by omega) hd
        obtain ⟨v1, c1, c2⟩ := l_was hN hE' (show i < S by omega) hd hdv d 0 N v (by omega) (by omega) zg_ag.rf
        have c1' : fM9_wasUp N v (nI i) = some ((if qU v n d i = 0 then 0 else 1), v1) := c1
        obtain ⟨v2, d1, d2, d3, d4, d5⟩ := q_ask hN (rb_E_ag hE' (zg_ag.rf (u := u)) c2) (k := n) (s := i) (d := d) (Nat.le_refl _) (by omega) hd
        rw [pn_s_ag c2] at d3 d4 d5
        have e17 : zs_i u1 17 = nI (qU v n d i) := b3.2.1
        have e15 : zs_i u1 15 = (pn_s v n d i).1 := congrArg Prod.fst b3.1
        have e16 : zs_i u1 16 = (pn_s v n d i).2.1 := congrArg (fun z => z.2.1) b3.1
        have e14 : zs_i u1 14 = (pn_s v n d i).2.2 := congrArg (fun z => z.2.2) b3.1
        obtain ⟨ow, g1, g2⟩ := q_own hE' (k := n) (s := i) (d := d) (Nat.le_refl _) (by omega) hd
        have hzo : zf_in (nI ow) 12 = true := pz_in g1 (by decide)
        have hU := qU_le v n i d
        have agu : zg_ag [14, 15, 16, 17, 18] [2] [18] [2] u u1 := b2.mono (by decide) (by decide) (by decide) (by decide)
        have agv : zg_ag [18, 19, 20] [] [] [1] v v2 := (c2.tr d2).mono (by decide) (by decide) (by decide) (by decide)
        have l2 : zs_l u1 2 = zs_l u 2 := b2.2.1 2 (by decide)
        have hB1 : ∀ o, o < 12 → zs_b u1 2 o = zs_b v2 1 o := fun o ho => by
          rw [b2.2.2.2 2 (by decide), (c2.tr d2).2.2.2 1 (by decide)]; exact hB o ho
        have v25 : zs_i v2 5 = V := ((c2.tr d2).1 5 (by decide)).trans ((hm.1 5 (by decide)).trans hV)
        have hXs : fX1_payLosses_b8 N (nI d) V A1 u (nI i) = (if zs_i u1 17 ≤ 0 then fX1_payLosses_j61 N A1 u1 (nI d) V (nI i) else (if zs_i u1 15 = 0 then fX1_payLosses_j62 N A1 u1 (nI d) V (nI i) 1 else fX1_payLosses_j61 N A1 u1 (nI d) V (nI i))) := by
          unfold fX1_payLosses_b8
          rw [eX, if_neg (nI_ge (by omega) (by omega)), if_pos hz, pz_cl (show i < 2 ^ 31 by omega), e12, if_pos p0, hE'.2.1.1, b1, zf_bi_s]
        have hMs : fM9_pays_b5 N al A2 v (zs_l u 2) (nI i) = (if zs_i v2 19 = 0 then (if (if qU v n d i = 0 then (0 : Int32) else 1) = 0 then A2 v2 (zs_l u 2) (nI i + 1) else (if zs_i v2 18 = 0 then fM9_pays_j72 N A2 v2 al (zs_l u 2) (nI i) else A2 v2 (zs_l u 2) (nI i + 1))) else fM9_pays_j72 N A2 v2 al (zs_l u 2) (nI i)) := by
          unfold fM9_pays_b5
          rw [eM, if_neg (nI_ge (by omega) (by omega)), if_pos hz, pz_cl (show i < 2 ^ 31 by omega), if_pos p0, c1', zf_bi_s, c2.1 16 (by decide), c2.1 10 (by decide), hE'.2.1.2.1, hdv, d1, zf_bi_s]
        have skip : fX1_payLosses_b8 N (nI d) V A1 u (nI i) = A1 u1 (nI (i + 1)) → fM9_pays_b5 N al A2 v (zs_l u 2) (nI i) = A2 v2 (zs_l u 2) (nI (i + 1)) → ∃ u' v', fX1_payLosses_b8 N (nI d) V A1 u (nI i) = some u' ∧ fM9_pays_b5 N al A2 v (zs_l u 2) (nI i) = fM9_pays_j110 N v' al (zs_l u' 2) ∧ zg_ag [14, 15, 16, 17, 18] [2] [18] [2] u u' ∧ zg_ag [18, 19, 20] [] [] [1] v v' ∧ ∀ o, o < 12 → zs_b u' 2 o = zs_b v' 1 o := fun h1 h2 => fin u1 v2 agu agv hB1 h1 (by rw [l2]; exact h2)
        have pX : fX1_payLosses_j76 N A1 u1 (nI d) V (nI i) = A1 (zs_sl (zs_sb u1 2 (vp_updL (zs_b u1 2) ow (zs_b u1 2 ow + V.toInt64))) 2 (zs_l u1 2 + V.toInt64)) (nI (i + 1)) := by
          unfold fX1_payLosses_j76
          rw [e14, g2, if_pos hzo, if_pos hzo, pz_cl (show ow < 2 ^ 31 by omega), pz_succ]
          rfl
        have pM : fM9_pays_j72 N A2 v2 al (zs_l u 2) (nI i) = A2 (zs_sb v2 1 (vp_updL (zs_b v2 1) ow (zs_b v2 1 ow + V.toInt64))) (zs_l u1 2 + V.toInt64) (nI (i + 1)) := by
          unfold fM9_pays_j72
          rw [d5, g2, if_pos hzo, if_pos hzo, pz_cl (show ow < 2 ^ 31 by omega), pz_succ, v25, l2, show zs_i (zs_sb v2 1 (vp_updL (zs_b v2 1) ow (zs_b v2 1 ow + V.toInt64))) 5 = V from v25]
        have pay : fX1_payLosses_b8 N (nI d) V A1 u (nI i) = fX1_payLosses_j76 N A1 u1 (nI d) V (nI i) → fM9_pays_b5 N al A2 v (zs_l u 2) (nI i) = fM9_pays_j72 N A2 v2 al (zs_l u 2) (nI i) → ∃ u' v', fX1_payLosses_b8 N (nI d) V A1 u (nI i) = some u' ∧ fM9_pays_b5 N al A2 v (zs_l u 2) (nI i) = fM9_pays_j110 N v' al (zs_l u' 2) ∧ zg_ag [14, 15, 16, 17, 18] [2] [18] [2] u u' ∧ zg_ag [18, 19, 20] [] [] [1] v v' ∧ ∀ o, o < 12 → zs_b u' 2 o = zs_b v' 1 o := by
          intro h1 h2
          refine fin _ _ ((agu.sb (by decide)).sl (by decide)) (agv.sb (by decide)) (fun o ho => ?_) (h1.trans pX) (h2.trans pM)
          show vp_updL (zs_b u1 2) ow (zs_b u1 2 ow + V.toInt64) o = vp_updL (zs_b v2 1) ow (zs_b v2 1 ow + V.toInt64) o
          rw [pz_updL, pz_updL, hB1 ow g1, hB1 o ho]
        rw [e17, e15] at hXs
        rw [d3, d4, pz_succ] at hMs
        unfold fX1_payLosses_j61 fX1_payLosses_j62 at hXs
        rw [e16, pz_succ] at hXs
        by_cases p1 : (pn_s v n d i).2.1 = 0
        · rw [if_pos p1, if_pos p1, if_pos rfl, if_neg (show ¬ (1 : Int32) = 0 by decide)] at hXs
          rw [if_pos p1] at hMs
          by_cases p2 : qU v n d i = 0
          · rw [if_pos (show nI (qU v n d i) ≤ 0 by rw [p2]; decide)] at hXs
            rw [if_pos p2, if_pos rfl] at hMs
            exact skip hXs hMs
          · rw [if_neg (nI_nle (by omega) (by omega))] at hXs
            rw [if_neg p2, if_neg (show ¬ (1 : Int32) = 0 by decide)] at hMs
            by_cases p3 : (pn_s v n d i).1 = 0
            · rw [if_pos p3] at hXs hMs
              exact pay hXs hMs
            · rw [if_neg p3] at hXs hMs
              exact skip hXs hMs
        · rw [if_neg p1] at hMs
          rw [if_neg p1, if_neg p1, ite_self, ite_self] at hXs
          exact pay hXs hMs
      · refine fin u v zg_ag.rf zg_ag.rf hB ?_ ?_
        · unfold fX1_payLosses_b8
          rw [eX, if_neg (nI_ge (by omega) (by omega)), if_pos hz, pz_cl (show i < 2 ^ 31 by omega), e12, if_neg p0, pz_succ]
        · unfold fM9_pays_b5
          rw [eM, if_neg (nI_ge (by omega) (by omega)), if_pos hz, pz_cl (show i < 2 ^ 31 by omega), if_neg p0, pz_succ]
    rw [hA1, hA2] at goal
    exact goal
