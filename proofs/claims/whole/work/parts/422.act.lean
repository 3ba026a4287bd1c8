/-! act -/
theorem nI_m1 (n : Nat) : nI (n + 1) + (-1) = nI n := by
  rw [nI_succ, Int32.add_assoc]
  exact Int32.add_zero _
theorem pi_loop {N n p : Nat} {A D : Nat → Int32} (hn : n < 100) (hp : p ≤ n) (hlo : ∀ i, i < p → ∃ e, e < 100 ∧ A i = nI e ∧ D e ≤ D n) (hhi : ∀ i, p ≤ i → i < n → ∃ e, e < 100 ∧ A i = nI e ∧ ¬ D e ≤ D n) : ∀ (r f : Nat) (u : zs_T), p + r ≤ n → r < f → zs_a u 15 = D → (∀ i, i ≤ n → zs_a u 17 i = if i ≤ p + r then A i else A (i - 1)) → ∃ u', zf_loop (fun ag x => fX4_putInOrder_b5 N (nI n) (fun u v2 => ag (u, v2)) x.1 x.2) f (u, nI (p + r)) = some (nI p, u') ∧ zg_ag [] [] [17] [] u u' ∧ ∀ i, i ≤ n → zs_a u' 17 i = if i < p then A i else if i = p then nI n else A (i - 1) := by
  have hzn : zf_in (nI n) 100 = true := pz_in hn (by decide)
  have hzp : zf_in (nI p) 100 = true := pz_in (by omega) (by decide)
  intro r
  induction r with
  | zero =>
    intro f u hr hf hD hA
    obtain ⟨f, rfl⟩ : ∃ f', f = f' + 1 := ⟨f - 1, by omega⟩
    rw [zf_loop_s, Nat.add_zero]
    have hj : fX4_putInOrder_j51 N u (nI n) (nI p) = some (nI p, zs_sa u 17 (upd (zs_a u 17) p (nI n))) := by
      unfold fX4_putInOrder_j51
      rw [if_pos hzp, pz_cl (show p < 2 ^ 31 by omega)]
    refine ⟨zs_sa u 17 (upd (zs_a u 17) p (nI n)), ?_, zg_ag.rf.sa (by decide), fun i hi => ?_⟩
    · obtain ⟨AG, hAG⟩ : ∃ A : zs_T → Int32 → Option (Int32 × zs_T), A = fun u v2 => zf_loop (fun ag x => fX4_putInOrder_b5 N (nI n) (fun u v2 => ag (u, v2)) x.1 x.2) f (u, v2) := ⟨_, rfl⟩
      show fX4_putInOrder_b5 N (nI n) (fun u v2 => zf_loop (fun ag x => fX4_putInOrder_b5 N (nI n) (fun u v2 => ag (u, v2)) x.1 x.2) f (u, v2)) u (nI p) = _
      rw [← hAG]
      unfold fX4_putInOrder_b5
      rw [hj]
      rcases Nat.eq_zero_or_pos p with z | z
      · subst z
        rw [if_pos (show nI 0 ≤ 0 by decide)]
      · obtain ⟨q, rfl⟩ : ∃ q, p = q + 1 := ⟨p - 1, by omega⟩
        obtain ⟨e, e1, e2, e3⟩ := hlo q (by omega)
        have hze : zf_in (nI e) 100 = true := pz_in e1 (by decide)
        have hzq : zf_in (nI q) 100 = true := pz_in (by omega) (by decide)
        rw [if_neg (nI_nle (by omega) (by omega)), nI_pred, if_pos hzq, pz_cl (show q < 2 ^ 31 by omega), hA q (by omega), if_pos (show q ≤ q + 1 + 0 by omega), e2, if_pos hze, if_pos hzn, pz_cl (show e < 2 ^ 31 by omega), pz_cl (show n < 2 ^ 31 by omega), hD, if_pos e3]
    · show upd (zs_a u 17) p (nI n) i = _
      rw [pz_upd, hA i hi]
      by_cases q1 : i = p
      · rw [if_pos q1, if_neg (by omega), if_pos q1]
      · rw [if_neg q1]
        by_cases q2 : i < p
        · rw [if_pos (by omega), if_pos q2]
        · rw [if_neg (by omega), if_neg q2, if_neg q1]
  | succ r ih =>
    intro f u hr hf hD hA
    obtain ⟨f, rfl⟩ : ∃ f', f = f' + 1 := ⟨f - 1, by omega⟩
    rw [zf_loop_s]
    obtain ⟨AG, hAG⟩ : ∃ A : zs_T → Int32 → Option (Int32 × zs_T), A = fun u v2 => zf_loop (fun ag x => fX4_putInOrder_b5 N (nI n) (fun u v2 => ag (u, v2)) x.1 x.2) f (u, v2) := ⟨_, rfl⟩
    show ∃ u', fX4_putInOrder_b5 N (nI n) (fun u v2 => zf_loop (fun ag x => fX4_putInOrder_b5 N (nI n) (fun u v2 => ag (u, v2)) x.1 x.2) f (u, v2)) u (nI (p + r + 1)) = _ ∧ _
    rw [← hAG]
    obtain ⟨e, e1, e2, e3⟩ := hhi (p + r) (by omega) (by omega)
    have hze : zf_in (nI e) 100 = true := pz_in e1 (by decide)
    have hzq : zf_in (nI (p + r)) 100 = true := pz_in (by omega) (by decide)
    have hzq1 : zf_in (nI (p + r + 1)) 100 = true := pz_in (by omega) (by decide)
    unfold fX4_putInOrder_b5
    rw [if_neg (nI_nle (by omega) (by omega)), nI_pred, if_pos hzq, if_pos hzq, if_pos hzq1, pz_cl (show p + r < 2 ^ 31 by omega), pz_cl (show p + r + 1 < 2 ^ 31 by omega), hA (p + r) (by omega), if_pos (show p + r ≤ p + (r + 1) by omega), e2, if_pos hze, if_pos hzn, pz_cl (show e < 2 ^ 31 by omega), pz_cl (show n < 2 ^ 31 by omega), hD, if_neg e3, nI_m1]
    obtain ⟨u', b1, b2, b3⟩ := ih f (zs_sa u 17 (upd (zs_a u 17) (p + r + 1) (nI e))) (by omega) (by omega) hD (fun i hi => by
      show upd (zs_a u 17) (p + r + 1) (nI e) i = _
      rw [pz_upd, hA i hi]
      by_cases q1 : i = p + r + 1
      · rw [if_pos q1, if_neg (by omega), q1, Nat.add_sub_cancel, e2]
      · rw [if_neg q1]
        by_cases q2 : i ≤ p + r
        · rw [if_pos (by omega), if_pos q2]
        · rw [if_neg (by omega), if_neg q2])
    exact ⟨u', by rw [hAG]; exact b1, (zg_ag.rf.sa (by decide)).tr b2, b3⟩
theorem tb_loop {N n p : Nat} {A F : Nat → Int32} (hn : n < 100) (hF : ∀ i, i ≤ n → F i = if i < p then A i else if i = p then nI n else A (i - 1)) : ∀ (r v f : Nat) (u : zs_T), v + r = n → p ≤ v → r < f → zs_i u 13 = nI n → (∀ i, i ≤ n → zs_a u 17 i = if i < v then A i else F i) → ∃ u', zf_loop (fun ag x => fX4_takeBack_b12 N (fun u v2 => ag (u, v2)) x.1 x.2) f (u, nI v) = some u' ∧ zg_ag [] [] [17] [] u u' ∧ ∀ i, i < n → zs_a u' 17 i = A i := by
  intro r
  induction r with
  | zero =>
    intro v f u hr hp hf h13 hA
    obtain ⟨f, rfl⟩ : ∃ f', f = f' + 1 := ⟨f - 1, by omega⟩
    rw [zf_loop_s]
    refine ⟨u, ?_, zg_ag.rf, fun i hi => by rw [hA i (by omega), if_pos (by omega)]⟩
    show fX4_takeBack_b12 N _ u (nI v) = _
    unfold fX4_takeBack_b12
    rw [h13, if_pos (nI_le (by omega) (by omega))]
  | succ r ih =>
    intro v f u hr hp hf h13 hA
    obtain ⟨f, rfl⟩ : ∃ f', f = f' + 1 := ⟨f - 1, by omega⟩
    rw [zf_loop_s]
    obtain ⟨AG, hAG⟩ : ∃ A : zs_T → Int32 → Option zs_T, A = fun u v2 => zf_loop (fun ag x => fX4_takeBack_b12 N (fun u v2 => ag (u, v2)) x.1 x.2) f (u, v2) := ⟨_, rfl⟩
    show ∃ u', fX4_takeBack_b12 N (fun u v2 => zf_loop (fun ag x => fX4_takeBack_b12 N (fun u v2 => ag (u, v2)) x.1 x.2) f (u, v2)) u (nI v) = _ ∧ _
    rw [← hAG]
    have hz : zf_in (nI v) 100 = true := pz_in (by omega) (by decide)
    have hz1 : zf_in (nI (v + 1)) 100 = true := pz_in (by omega) (by decide)
    unfold fX4_takeBack_b12
    rw [h13, if_neg (nI_ge (by omega) (by omega)), pz_succ, if_pos hz1, if_pos hz, pz_cl (show v < 2 ^ 31 by omega), pz_cl (show v + 1 < 2 ^ 31 by omega), hA (v + 1) (by omega), if_neg (by omega), hF (v + 1) (by omega), if_neg (by omega), if_neg (by omega), Nat.add_sub_cancel]
    obtain ⟨u', b1, b2, b3⟩ := ih (v + 1) f (zs_sa u 17 (upd (zs_a u 17) v (A v))) (by omega) (by omega) (by omega) h13 (fun i hi => by
      show upd (zs_a u 17) v (A v) i = _
      rw [pz_upd, hA i hi]
      by_cases q1 : i = v
      · rw [if_pos q1, if_pos (by omega), q1]
      · rw [if_neg q1]
        by_cases q2 : i < v
        · rw [if_pos q2, if_pos (by omega)]
        · rw [if_neg q2, if_neg (by omega)])
    exact ⟨u', by rw [hAG]; exact b1, (zg_ag.rf.sa (by decide)).tr b2, b3⟩
-- congruences
theorem pz_can_c {D D' : Nat → Int32} {n : Nat} (h : ∀ e, e < n → D' e = D e) (d : Nat) : pz_can D' n d = pz_can D n d := by
  unfold pz_can
  congr 1
  funext d'
  apply List.filter_congr
  intro e he
  rw [h e (List.mem_range.mp he)]
theorem pz_evs_c {O O' D D' : Nat → Int32} {n : Nat} (h : ∀ e, e < n → O' e = O e ∧ D' e = D e) (s d : Nat) : pz_evs O' D' n s d = pz_evs O D n s d := by
  unfold pz_evs
  congr 1
  funext d'
  unfold pz_day
  apply List.filter_congr
  intro e he
  rw [(h e (List.mem_range.mp he)).1, (h e (List.mem_range.mp he)).2]
theorem pz_ok_c {W W' T T' : Nat → Int32} : ∀ (l : List Nat) (s : pz_S), (∀ e ∈ l, W' e = W e ∧ T' e = T e) → pz_ok W' T' s l = pz_ok W T s l
  | [], _, _ => rfl
  | e :: l, s, h => by
    have he := h e List.mem_cons_self
    rw [pz_ok, pz_ok, show pz_fit W' T' s e = pz_fit W T s e by unfold pz_fit; rw [he.1, he.2], show pz_do W' T' s e = pz_do W T s e by unfold pz_do; rw [he.1, he.2], pz_ok_c l _ (fun e' h' => h e' (List.mem_cons_of_mem _ h'))]
theorem pz_evs_lt {O D : Nat → Int32} {k s d e : Nat} (h : e ∈ pz_evs O D k s d) (hd : d ≤ 150) : e < k ∧ O e = nI s := by
  unfold pz_evs at h
  obtain ⟨d', h1, h2⟩ := List.mem_flatMap.mp h
  rw [List.mem_range'_1] at h1
  have := pn_dn h2 (by omega)
  exact ⟨this.1, this.2.1⟩
theorem pz_evs_ne {O D : Nat → Int32} {n s : Nat} (h : ¬ O n = nI s) (d : Nat) : pz_evs O D (n + 1) s d = pz_evs O D n s d := by
  unfold pz_evs
  congr 1
  funext d'
  unfold pz_day
  rw [List.range_succ, List.filter_append, List.filter_cons_of_neg (by simp [h]), List.filter_nil, List.append_nil]
/-- the pair is related if it is the same up to n -/
theorem rb_E_pt {S n : Nat} {x m x' m' : zs_T} (h : rb_E S n x m) (h1 : zs_i x' 12 = zs_i x 12 ∧ zs_i x' 13 = zs_i x 13 ∧ zs_i x' 19 = zs_i x 19 ∧ zs_a x' 11 = zs_a x 11 ∧ zs_a x' 12 = zs_a x 12 ∧ zs_a x' 19 = zs_a x 19) (h2 : ∀ e, e < n → zs_a x' 13 e = zs_a x 13 e ∧ zs_a x' 14 e = zs_a x 14 e ∧ zs_a x' 15 e = zs_a x 15 e ∧ zs_a x' 16 e = zs_a x 16 e ∧ zs_a x' 17 e = zs_a x 17 e) (h3 : zs_i m' 15 = zs_i m 15 ∧ zs_i m' 16 = zs_i m 16 ∧ zs_i m' 17 = zs_i m 17 ∧ zs_a m' 8 = zs_a m 8 ∧ zs_a m' 9 = zs_a m 9 ∧ zs_a m' 10 = zs_a m 10) (h4 : ∀ e, e < n → zs_a m' 11 e = zs_a m 11 e ∧ zs_a m' 12 e = zs_a m 12 e ∧ zs_a m' 13 e = zs_a m 13 e ∧ zs_a m' 14 e = zs_a m 14 e) : rb_E S n x' m' := by
  obtain ⟨a1, a2, a3, a4, a5, a6⟩ := h1
  obtain ⟨b1, b2, b3, b4, b5, b6⟩ := h3
  obtain ⟨q1, q2, q3, q4, q5, q6, q7, q8⟩ := id h
  have hlen := pc_len (D := zs_a m 13) (n := n) (fun e he => (q6 e he).2.2.1.2)
  unfold rb_E
  rw [a1, a2, a3, b1, b2, b3]
  refine ⟨q1, q2, q3, fun s hs => ?_, fun s hs hs2 => ?_, fun e he => ?_, fun i e he => ?_, fun k hk s hs => ?_⟩
  · unfold rb_E1; rw [a4, a5, a6, b4, b5, b6]; exact q4 s hs
  · rw [a5, a6]; exact q5 s hs hs2
  · obtain ⟨c1, c2, c3, c4, c5⟩ := h2 e he
    obtain ⟨e1, e2, e3, e4⟩ := h4 e he
    unfold rb_E2; rw [c1, c2, c3, c4, e1, e2, e3, e4]; exact q6 e he
  · rw [pz_can_c (fun e he => (h4 e he).2.2.1)] at he
    have hi : i < n := by
      have := (List.getElem?_eq_some_iff.mp he).1
      omega
    rw [(h2 i hi).2.2.2.2]
    exact q7 i e he
  · have hst : rb_st m' s = rb_st m s := by unfold rb_st; rw [b4, b6]
    rw [hst, pz_evs_c (O := zs_a m 12) (D := zs_a m 13) (fun e he => ⟨(h4 e (by omega)).2.1, (h4 e (by omega)).2.2.1⟩), pz_ok_c (W := zs_a m 11) (T := zs_a m 14) _ _ (fun e he => by
      have := (pz_evs_lt he (by omega)).1
      exact ⟨(h4 e (by omega)).1, (h4 e (by omega)).2.2.2⟩)]
    exact q8 k hk s hs
