def pj_x (x : zs_T) (n : Nat) (w s d b : Int32) : zs_T := zs_sa (zs_sa (zs_sa (zs_sa x 13 (upd (zs_a x 13) n w)) 14 (upd (zs_a x 14) n s)) 15 (upd (zs_a x 15) n d)) 16 (upd (zs_a x 16) n b)
def pj_m3 (m : zs_T) (n : Nat) (w s d : Int32) : zs_T := zs_sa (zs_sa (zs_sa m 11 (upd (zs_a m 11) n w)) 12 (upd (zs_a m 12) n s)) 13 (upd (zs_a m 13) n d)
def pj_m (m : zs_T) (n : Nat) (w s d b : Int32) : zs_T := zs_sa (pj_m3 m n w s d) 14 (upd (zs_a m 14) n b)
theorem pj_enter {N n : Nat} {x : zs_T} (h : zs_i x 13 = nI n) (hn : n < 100) (v1 v2 v3 v4 : Int32) : fX4_enter N x v1 v2 v3 v4 = (zf_bi (fX4_putInOrder N (pj_x x n v1 v2 v3 v4) (nI n)) fun r1 u2 => (zf_bi (fX7_replay N (zs_si u2 13 ((zs_i u2 13) + 1)) v2 ((zs_i u2 13) + 1) 150) fun r3 u4 => (if r3 = 0 then (zf_bv (fX4_takeBack N u4 r1) fun u6 => some ((-1), u6)) else some (nI n, u4)))) := by
  have hz : zf_in (nI n) 100 = true := pz_in hn (by decide)
  unfold fX4_enter
  rw [h, pz_cl (show n < 2 ^ 31 by omega), if_pos hz, if_pos hz, if_pos hz, if_pos hz]
  rfl
theorem pj_j46 {N n : Nat} {m : zs_T} (h : zs_i m 16 = nI n) (hn : n < 100) (v1 v2 v3 v4 : Int32) : fM9_act_j46 N m v1 v2 v3 v4 = (zf_bi (fM9_asks N (pj_m m n v1 v2 v3 (if v1 = 3 then v4 else -1)) (nI n + 1) v2 150) fun r3 u4 => (if r3 = 0 then some ((-1), u4) else some ((zs_i u4 16) + 1 - 1, zs_si u4 16 ((zs_i u4 16) + 1)))) := by
  have hz : zf_in (nI n) 100 = true := pz_in hn (by decide)
  have e : fM9_act_j46 N m v1 v2 v3 v4 = (if zs_i m 16 = 100 then some ((-1), m) else (if zf_in (zs_i m 16) 100 then (if zf_in (zs_i m 16) 100 then (if zf_in (zs_i m 16) 100 then (if v1 = 3 then fM9_act_j106 N (pj_m3 m (zs_i m 16).toNatClampNeg v1 v2 v3) v2 v4 (zs_i m 16) else fM9_act_j106 N (pj_m3 m (zs_i m 16).toNatClampNeg v1 v2 v3) v2 (-1) (zs_i m 16)) else none) else none) else none)) := rfl
  have j : ∀ b : Int32, fM9_act_j106 N (pj_m3 m n v1 v2 v3) v2 b (nI n) = (zf_bi (fM9_asks N (pj_m m n v1 v2 v3 b) (nI n + 1) v2 150) fun r3 u4 => (if r3 = 0 then some ((-1), u4) else some ((zs_i u4 16) + 1 - 1, zs_si u4 16 ((zs_i u4 16) + 1)))) := by
    intro b
    unfold fM9_act_j106
    rw [if_pos hz, pz_cl (show n < 2 ^ 31 by omega), show zs_i (zs_sa (pj_m3 m n v1 v2 v3) 14 (upd (zs_a (pj_m3 m n v1 v2 v3) 14) n b)) 16 = nI n from h]
    rfl
  rw [e, h, if_neg (show ¬ nI n = 100 from fun z => by have := (nI_eq (a := n) (b := 100) (by omega) (by decide)).mp z; omega), if_pos hz, if_pos hz, if_pos hz, pz_cl (show n < 2 ^ 31 by omega), j, j]
  by_cases q : v1 = 3
  · rw [if_pos q, if_pos q]
  · rw [if_neg q, if_neg q]
set_option maxHeartbeats 1000000 in
theorem pj_act {N S n s d : Nat} {x m : zs_T} {w b : Int32} (hN : 200 ≤ N) (hE : rb_E S n x m) (hn : n < 100) (hs : s < S) (hd1 : 1 ≤ d) (hd : d ≤ 150) (hw : 0 ≤ w.toInt ∧ w.toInt < 4) (hb : w = 3 → 0 ≤ b.toInt ∧ b.toInt < 12) : ∃ r x' m', fX4_enter N x w (nI s) (nI d) b = some (r, x') ∧ (zf_bi (fM9_asks N (pj_m m n w (nI s) (nI d) b) (nI n + 1) (nI s) 150) fun r3 u4 => (if r3 = 0 then some (((-1) : Int32), u4) else some ((zs_i u4 16) + 1 - 1, zs_si u4 16 ((zs_i u4 16) + 1)))) = some (r, m') ∧ (rb_E S (n + 1) x' m' ∨ rb_E S n x' m') ∧ zg_ag [13, 14, 15, 16, 17, 18] [] [13, 14, 15, 16, 17, 18] [] x x' ∧ zg_ag [16, 18, 19, 20] [] [11, 12, 13, 14] [] m m' := by
  obtain ⟨q1, q2, q3, q4, q5, q6, q7, q8⟩ := id hE
  have hS := q1.2.2
  obtain ⟨b1, b2, b3⟩ := q4 s hs
  have hlen := pc_len (D := zs_a m 13) (n := n) (fun e he => (q6 e he).2.2.1.2)
  have hsp := pc_split (zs_a m 13) n d hd
  obtain ⟨l1, hl1⟩ : ∃ l, l = pz_can (zs_a m 13) n d := ⟨_, rfl⟩
  obtain ⟨l2, hl2⟩ : ∃ l, l = (List.range' (d + 1) (150 - d)).flatMap (pc_all (zs_a m 13) n) := ⟨_, rfl⟩
  rw [← hl1, ← hl2] at hsp
  rw [hsp] at hlen q7
  rw [List.length_append] at hlen
  have m1 : ∀ e ∈ l1, e < n ∧ ∃ d', d' ≤ d ∧ zs_a m 13 e = nI d' := by
    intro e he
    rw [hl1, pc_can_eq] at he
    obtain ⟨d', h1, h2⟩ := List.mem_flatMap.mp he
    rw [List.mem_range'_1] at h1
    have := pc_mem h2 (by omega)
    exact ⟨this.1, d', by omega, this.2.1⟩
  have m2 : ∀ e ∈ l2, e < n ∧ ∃ d', d < d' ∧ d' ≤ 150 ∧ zs_a m 13 e = nI d' := by
    intro e he
    rw [hl2] at he
    obtain ⟨d', h1, h2⟩ := List.mem_flatMap.mp he
    rw [List.mem_range'_1] at h1
    have := pc_mem h2 (by omega)
    exact ⟨this.1, d', by omega, by omega, this.2.1⟩
  have hDe : ∀ e, e < n → zs_a (pj_x x n w (nI s) (nI d) b) 15 e = zs_a m 13 e := by
    intro e he
    show upd (zs_a x 15) n (nI d) e = _
    rw [pz_upd, if_neg (by omega)]
    exact (q6 e he).2.2.1.1
  have hDn : zs_a (pj_x x n w (nI s) (nI d) b) 15 n = nI d := by
    show upd (zs_a x 15) n (nI d) n = _
    rw [pz_upd, if_pos rfl]
  obtain ⟨u2, c1, c2, c3⟩ := pi_loop (N := N) (n := n) (p := l1.length) (A := zs_a x 17) (D := zs_a (pj_x x n w (nI s) (nI d) b) 15) hn (by omega) (fun i hi => by
    have hi2 : (l1 ++ l2)[i]? = some l1[i] := by rw [List.getElem?_append_left hi, List.getElem?_eq_getElem hi]
    obtain ⟨e1, d', e2, e3⟩ := m1 l1[i] (List.getElem_mem hi)
    refine ⟨l1[i], by omega, q7 i _ hi2, ?_⟩
    rw [hDe _ e1, hDn, e3]
    exact nI_le e2 (by omega)) (fun i h1 h2 => by
    have hi2 : (l1 ++ l2)[i]? = some (l2[i - l1.length]'(by omega)) := by rw [List.getElem?_append_right h1, List.getElem?_eq_getElem (by omega)]
    obtain ⟨e1, d', e2, e4, e3⟩ := m2 (l2[i - l1.length]'(by omega)) (List.getElem_mem _)
    refine ⟨_, by omega, q7 i _ hi2, ?_⟩
    rw [hDe _ e1, hDn, e3]
    exact nI_ge e2 (by omega)) (n - l1.length) N (pj_x x n w (nI s) (nI d) b) (by omega) (by omega) rfl (fun i hi => by
      rw [if_pos (by omega)]; rfl)
  rw [show l1.length + (n - l1.length) = n by omega] at c1
  have c1' : fX4_putInOrder N (pj_x x n w (nI s) (nI d) b) (nI n) = some (nI l1.length, u2) := by
    unfold fX4_putInOrder
    rw [show zs_i (pj_x x n w (nI s) (nI d) b) 13 = nI n from q2.1]
    exact c1
  have u13 : zs_i u2 13 = nI n := (c2.1 13 (by decide)).trans q2.1
  have hpE : px_E (n + 1) S (upd (zs_a m 11) n w) (upd (zs_a m 12) n (nI s)) (upd (zs_a m 13) n (nI d)) (upd (zs_a m 14) n b) (zs_si u2 13 (nI (n + 1))) := by
    refine ⟨rfl, by omega, fun e he => ?_⟩
    have g13 : zs_a (zs_si u2 13 (nI (n + 1))) 13 = upd (zs_a x 13) n w := c2.2.2.1 13 (by decide)
    have g14 : zs_a (zs_si u2 13 (nI (n + 1))) 14 = upd (zs_a x 14) n (nI s) := c2.2.2.1 14 (by decide)
    have g15 : zs_a (zs_si u2 13 (nI (n + 1))) 15 = upd (zs_a x 15) n (nI d) := c2.2.2.1 15 (by decide)
    have g16 : zs_a (zs_si u2 13 (nI (n + 1))) 16 = upd (zs_a x 16) n b := c2.2.2.1 16 (by decide)
    rw [g13, g14, g15, g16]
    simp only [pz_upd]
    by_cases q : e = n
    · simp only [if_pos q]
      refine ⟨by simp, hw, ?_, hb⟩
      rw [pz_nI (by omega)]
      omega
    · simp only [if_neg q]
      obtain ⟨f1, f2, f3, f4⟩ := q6 e (by omega)
      exact ⟨⟨f1.1, f2.1, f3.1, f4.1⟩, f1.2, f3.2, f4.2⟩
  have hcan : pz_can (upd (zs_a m 13) n (nI d)) (n + 1) 150 = l1 ++ n :: l2 := by
    have hc : ∀ e, e < n → upd (zs_a m 13) n (nI d) e = zs_a m 13 e := fun e he => by rw [pz_upd, if_neg (by omega)]
    rw [pc_ins (D := upd (zs_a m 13) n (nI d)) (n := n) (d := d) (by rw [pz_upd, if_pos rfl]) hd1 hd, pz_can_c hc, ← hl1, hl2]
    congr 2
    rw [List.flatMap_def, List.flatMap_def]
    congr 1
    apply List.map_congr_left
    intro d' _
    unfold pc_all
    apply List.filter_congr
    intro e he
    rw [hc e (List.mem_range.mp he)]
  have hord : ∀ i e, (pz_can (upd (zs_a m 13) n (nI d)) (n + 1) 150)[i]? = some e → zs_a u2 17 i = nI e := by
    intro i e he
    rw [hcan] at he
    have hin : i ≤ n := by
      have := (List.getElem?_eq_some_iff.mp he).1
      rw [List.length_append, List.length_cons] at this
      omega
    rw [c3 i hin]
    by_cases h1 : i < l1.length
    · rw [if_pos h1]
      rw [List.getElem?_append_left h1] at he
      exact q7 i e (by rw [List.getElem?_append_left h1]; exact he)
    · rw [if_neg h1]
      rw [List.getElem?_append_right (by omega)] at he
      by_cases h2 : i = l1.length
      · rw [if_pos h2]
        rw [h2, Nat.sub_self, List.getElem?_cons_zero] at he
        rw [Option.some.inj he]
      · rw [if_neg h2]
        obtain ⟨j, hj⟩ : ∃ j, i = l1.length + (j + 1) := ⟨i - l1.length - 1, by omega⟩
        rw [hj, Nat.add_sub_cancel_left, List.getElem?_cons_succ] at he
        refine q7 (i - 1) e ?_
        rw [List.getElem?_append_right (by omega), show i - 1 - l1.length = j by omega]
        exact he
  have z11 : zs_a (zs_si u2 13 (nI (n + 1))) 11 = zs_a x 11 := c2.2.2.1 11 (by decide)
  have z12 : zs_a (zs_si u2 13 (nI (n + 1))) 12 = zs_a x 12 := c2.2.2.1 12 (by decide)
  obtain ⟨r, u4, d1, d2, d3, d4⟩ := px_replay0 (k := n + 1) (s := s) (last := 150) hN hpE hord (Nat.le_refl _) (show s < 80 by omega) (Nat.le_refl _) (by rw [z11, b1.1]; exact b1.2) (by rw [z12, b2.1]; exact b2.2)
  have est : ((0 : Int32), zs_a (zs_si u2 13 (nI (n + 1))) 12 s, zs_a (zs_si u2 13 (nI (n + 1))) 11 s) = rb_st m s := by rw [z11, z12, b1.1, b2.1]; rfl
  rw [est] at d3 d4
  have d1' : fX7_replay N (zs_si u2 13 (nI n + 1)) (nI s) (nI n + 1) 150 = some (r, u4) := by rw [pz_succ]; exact d1
  obtain ⟨m4, e1, e2, e3⟩ := pa_asks (N := N) (k := n + 1) (s := s) (d := 150) (u := pj_m m n w (nI s) (nI d) b) hN (by omega) (by omega) (Nat.le_refl _) b2.2
  have e1' : fM9_asks N (pj_m m n w (nI s) (nI d) b) (nI n + 1) (nI s) 150 = some (if pz_ok (upd (zs_a m 11) n w) (upd (zs_a m 14) n b) (rb_st m s) (pz_evs (upd (zs_a m 12) n (nI s)) (upd (zs_a m 13) n (nI d)) (n + 1) s 150) = true then 1 else 0, m4) := by rw [pz_succ]; exact e1
  have m16 : zs_i m4 16 = nI n := (e2.1 16 (by decide)).trans q2.2.1
  have hx4 : zg_ag [] [] [13, 14, 15, 16, 17, 18] [] x (pj_x x n w (nI s) (nI d) b) := (((zg_ag.rf.sa (by decide)).sa (by decide)).sa (by decide)).sa (by decide)
  have hm4 : zg_ag [] [] [11, 12, 13, 14] [] m (pj_m m n w (nI s) (nI d) b) := (((zg_ag.rf.sa (by decide)).sa (by decide)).sa (by decide)).sa (by decide)
  have agx : zg_ag [13, 14, 15, 16, 17, 18] [] [13, 14, 15, 16, 17, 18] [] x u4 := ((((hx4.mono (by decide) (by decide) (by decide) (by decide)).tr (c2.mono (by decide) (by decide) (by decide) (by decide))).si (by decide)).tr (d2.mono (by decide) (by decide) (by decide) (by decide)))
  have agm : zg_ag [16, 18, 19, 20] [] [11, 12, 13, 14] [] m m4 := (hm4.mono (by decide) (by decide) (by decide) (by decide)).tr (e2.mono (by decide) (by decide) (by decide) (by decide))
  rw [pj_enter q2.1 hn, c1', zf_bi_s, u13, d1', zf_bi_s, e1', zf_bi_s, m16]
  by_cases hok : pz_ok (upd (zs_a m 11) n w) (upd (zs_a m 14) n b) (rb_st m s) (pz_evs (upd (zs_a m 12) n (nI s)) (upd (zs_a m 13) n (nI d)) (n + 1) s 150) = true
  · rw [(d3 hok).1, if_pos hok, if_neg (by decide), if_neg (by decide), pz_succ, nI_pred]
    refine ⟨nI n, u4, zs_si m4 16 (nI (n + 1)), rfl, rfl, Or.inl ?_, agx, agm.si (by decide)⟩
    have k12 : zs_a (zs_si m4 16 (nI (n + 1))) 12 = upd (zs_a m 12) n (nI s) := e2.2.2.1 12 (by decide)
    have k11 : zs_a (zs_si m4 16 (nI (n + 1))) 11 = upd (zs_a m 11) n w := e2.2.2.1 11 (by decide)
    have k13 : zs_a (zs_si m4 16 (nI (n + 1))) 13 = upd (zs_a m 13) n (nI d) := e2.2.2.1 13 (by decide)
    have k14 : zs_a (zs_si m4 16 (nI (n + 1))) 14 = upd (zs_a m 14) n b := e2.2.2.1 14 (by decide)
    have k8 : zs_a (zs_si m4 16 (nI (n + 1))) 8 = zs_a m 8 := agm.2.2.1 8 (by decide)
    have k9 : zs_a (zs_si m4 16 (nI (n + 1))) 9 = zs_a m 9 := agm.2.2.1 9 (by decide)
    have k10 : zs_a (zs_si m4 16 (nI (n + 1))) 10 = zs_a m 10 := agm.2.2.1 10 (by decide)
    have hst : ∀ s, rb_st (zs_si m4 16 (nI (n + 1))) s = rb_st m s := fun s => by unfold rb_st; rw [k8, k10]
    refine ⟨⟨(agx.1 12 (by decide)).trans q1.1, (agm.1 15 (by decide)).trans q1.2.1, hS⟩, ⟨d2.1 13 (by decide), rfl, by omega⟩, ?_, fun s' hs' => ?_, fun s' h1 h2 => ?_, fun e he => ?_, fun i e he => ?_, fun k hk s' hs' => ?_⟩
    · rw [show zs_i (zs_si m4 16 (nI (n + 1))) 17 = zs_i m 17 from agm.1 17 (by decide), agx.1 19 (by decide)]
      exact q3
    · unfold rb_E1
      rw [k8, k9, k10, agx.2.2.1 11 (by decide), agx.2.2.1 12 (by decide), agx.2.2.1 19 (by decide)]
      exact q4 s' hs'
    · rw [agx.2.2.1 12 (by decide), agx.2.2.1 19 (by decide)]
      exact q5 s' h1 h2
    · obtain ⟨⟨f1, f2, f3, f4⟩, f5, f6, f7⟩ := (hpE.ag d2).2.2 e he
      unfold rb_E2
      rw [k11, k12, k13, k14]
      refine ⟨⟨f1, f5⟩, ⟨f2, ?_⟩, ⟨f3, f6⟩, ⟨f4, f7⟩⟩
      rw [pz_upd]
      by_cases q : e = n
      · rw [if_pos q, pz_nI (by omega)]; omega
      · rw [if_neg q]; exact (q6 e (by omega)).2.1.2
    · rw [k13] at he
      rw [d2.2.2.1 17 (by decide)]
      exact hord i e he
    · rw [hst, k11, k12, k13, k14]
      rcases Nat.lt_or_ge n k with h1 | h1
      · obtain rfl : k = n + 1 := by omega
        by_cases h2 : s' = s
        · rw [h2]; exact hok
        · have hne : ¬ upd (zs_a m 12) n (nI s) n = nI s' := by
            rw [pz_upd, if_pos rfl]
            exact fun z => h2 ((nI_eq (by omega) (by omega)).mp z).symm
          rw [pz_evs_ne hne, pz_evs_c (O := zs_a m 12) (D := zs_a m 13) (fun e he => ⟨by rw [pz_upd, if_neg (by omega)], by rw [pz_upd, if_neg (by omega)]⟩), pz_ok_c (W := zs_a m 11) (T := zs_a m 14) _ _ (fun e he => by
            have := (pz_evs_lt he (Nat.le_refl _)).1
            exact ⟨by rw [pz_upd, if_neg (by omega)], by rw [pz_upd, if_neg (by omega)]⟩)]
          exact q8 n (Nat.le_refl _) s' hs'
      · rw [pz_evs_c (O := zs_a m 12) (D := zs_a m 13) (fun e he => ⟨by rw [pz_upd, if_neg (by omega)], by rw [pz_upd, if_neg (by omega)]⟩), pz_ok_c (W := zs_a m 11) (T := zs_a m 14) _ _ (fun e he => by
          have := (pz_evs_lt he (Nat.le_refl _)).1
          exact ⟨by rw [pz_upd, if_neg (by omega)], by rw [pz_upd, if_neg (by omega)]⟩)]
        exact q8 k h1 s' hs'
  · have hok2 : pz_ok (upd (zs_a m 11) n w) (upd (zs_a m 14) n b) (rb_st m s) (pz_evs (upd (zs_a m 12) n (nI s)) (upd (zs_a m 13) n (nI d)) (n + 1) s 150) = false := by simpa using hok
    rw [d4 hok2, if_neg hok, if_pos rfl, if_pos rfl]
    have u413 : zs_i u4 13 = nI (n + 1) := d2.1 13 (by decide)
    obtain ⟨u5, f1, f2, f3⟩ := tb_loop (N := N) (n := n) (p := l1.length) (A := zs_a x 17) (F := zs_a u2 17) hn c3 (n - l1.length) l1.length N (zs_si u4 13 (nI n)) (by omega) (Nat.le_refl _) (by omega) rfl (fun i hi => by
      rw [show zs_a (zs_si u4 13 (nI n)) 17 = zs_a u2 17 from d2.2.2.1 17 (by decide)]
      by_cases h1 : i < l1.length
      · rw [if_pos h1, c3 i hi, if_pos h1]
      · rw [if_neg h1])
    have f1' : fX4_takeBack N u4 (nI l1.length) = some u5 := by
      unfold fX4_takeBack
      rw [u413, nI_pred]
      exact f1
    have agx5 : zg_ag [13, 14, 15, 16, 17, 18] [] [13, 14, 15, 16, 17, 18] [] x u5 := (agx.si (by decide)).tr (f2.mono (by decide) (by decide) (by decide) (by decide))
    rw [f1', zf_bv_s]
    refine ⟨-1, u5, m4, rfl, rfl, Or.inr ?_, agx5, agm⟩
    refine rb_E_pt hE ⟨agx5.1 12 (by decide), ?_, agx5.1 19 (by decide), agx5.2.2.1 11 (by decide), agx5.2.2.1 12 (by decide), agx5.2.2.1 19 (by decide)⟩ (fun e he => ?_) ⟨agm.1 15 (by decide), ?_, agm.1 17 (by decide), agm.2.2.1 8 (by decide), agm.2.2.1 9 (by decide), agm.2.2.1 10 (by decide)⟩ (fun e he => ?_)
    · rw [q2.1]; exact f2.1 13 (by decide)
    · have t : ∀ j, j ≠ 17 → j ≠ 18 → zs_a u5 j = zs_a (pj_x x n w (nI s) (nI d) b) j := fun j h1 h2 => (f2.2.2.1 j (by simp; omega)).trans ((d2.2.2.1 j (by simp; omega)).trans (c2.2.2.1 j (by simp; omega)))
      rw [t 13 (by decide) (by decide), t 14 (by decide) (by decide), t 15 (by decide) (by decide), t 16 (by decide) (by decide)]
      refine ⟨?_, ?_, ?_, ?_, f3 e he⟩
      · show upd (zs_a x 13) n w e = _; rw [pz_upd, if_neg (by omega)]
      · show upd (zs_a x 14) n (nI s) e = _; rw [pz_upd, if_neg (by omega)]
      · show upd (zs_a x 15) n (nI d) e = _; rw [pz_upd, if_neg (by omega)]
      · show upd (zs_a x 16) n b e = _; rw [pz_upd, if_neg (by omega)]
    · rw [m16, q2.2.1]
    · rw [e2.2.2.1 11 (by decide), e2.2.2.1 12 (by decide), e2.2.2.1 13 (by decide), e2.2.2.1 14 (by decide)]
      refine ⟨?_, ?_, ?_, ?_⟩
      · show upd (zs_a m 11) n w e = _; rw [pz_upd, if_neg (by omega)]
      · show upd (zs_a m 12) n (nI s) e = _; rw [pz_upd, if_neg (by omega)]
      · show upd (zs_a m 13) n (nI d) e = _; rw [pz_upd, if_neg (by omega)]
      · show upd (zs_a m 14) n b e = _; rw [pz_upd, if_neg (by omega)]
theorem rb_I_act {k S n : Nat} {x m x' m' : zs_T} (h : rb_I k x m) (hx : zg_ag [13, 14, 15, 16, 17, 18] [] [13, 14, 15, 16, 17, 18] [] x x') (hm : zg_ag [16, 18, 19, 20] [] [11, 12, 13, 14] [] m m') (hE : rb_E S n x' m') : rb_I k x' m' := by
  obtain ⟨c, hh, d, w, S', n', hT, hR, hA, hP, -, hL⟩ := h
  obtain ⟨xi, xl, xa, xb⟩ := hx
  obtain ⟨mi, ml, ma, mb⟩ := hm
  refine ⟨c, hh, d, w, S, n, rb_T_of hT (xi _ (by decide)) (xa _ (by decide)) (mi _ (by decide)) (ma _ (by decide)), rb_R_of hR (xa _ (by decide)) (fun j h1 h2 => mi j (by simp; omega)), rb_A_of hA ?_ ?_, rb_P_of hP (xi _ (by decide)) (xa _ (by decide)) (mi _ (by decide)) (ma _ (by decide)), hE, rb_L_of hL ?_ ?_⟩
  · exact ⟨xi _ (by decide), xi _ (by decide), xi _ (by decide), xi _ (by decide), xi _ (by decide), xi _ (by decide), xl _ (by decide), xa _ (by decide), xa _ (by decide), xa _ (by decide)⟩
  · exact ⟨mi _ (by decide), mi _ (by decide), mi _ (by decide), mi _ (by decide), mi _ (by decide), mi _ (by decide), ml _ (by decide), ma _ (by decide), ma _ (by decide), ma _ (by decide)⟩
  · exact ⟨xa _ (by decide), xb _ (by decide), xa _ (by decide), xb _ (by decide), xb _ (by decide), xl _ (by decide)⟩
  · exact ⟨ma _ (by decide), ma _ (by decide), ma _ (by decide), mb _ (by decide), mb _ (by decide), ml _ (by decide)⟩
theorem sb_act {N k : Nat} {x m : zs_T} (hN : 200 ≤ N) (hI : rb_I k x m) (a1 a2 a3 a4 : Int32) : zl_act N x m (rb_I (k + 1)) a1 a2 a3 a4 := by
  have hM := rb_mono k x m hI
  obtain ⟨c, hh, d, w, S, n, hT, hR, hA, hP, hE, hL⟩ := id hM
  obtain ⟨q1, q2, q3, q4⟩ := id hE
  unfold zl_act fX8_act fM9_act
  rw [pf_within, pf_within, pf_isOwner, pf_has4 q1.1 q1.2.2, pf_ms q1.2.1 q1.2.2, pf_b01, pf_b01, pf_b01, pf_b01, pf_b01]
  have hx48 : n = 100 → fX8_act_j48 N x a1 a2 a3 a4 = some (-1, x) := by
    intro h
    unfold fX8_act_j48
    rw [q2.1, h, if_neg (show ¬ nI 100 < 100 by decide)]
  have hm46 : n = 100 → fM9_act_j46 N m a1 a2 a3 a4 = some (-1, m) := by
    intro h
    unfold fM9_act_j46
    rw [q2.2.1, h, if_pos (show nI 100 = 100 from rfl)]
  have hxe : n < 100 → fX8_act_j48 N x a1 a2 a3 a4 = fX4_enter N x a1 a2 a3 (if a1 = 3 then a4 else -1) := by
    intro h
    unfold fX8_act_j48
    rw [q2.1, if_pos (show nI n < 100 from nI_lt (b := 100) h (by decide))]
    have hb : ∀ o : Option (Int32 × zs_T), (zf_bi o fun r u => some (r, u)) = o := by
      intro o
      cases o with
      | none => rfl
      | some p => rfl
    rw [hb, hb]
    by_cases q : a1 = 3
    · rw [if_pos q, if_pos q]
    · rw [if_neg q, if_neg q]
  have hme : n < 100 → fM9_act_j46 N m a1 a2 a3 a4 = _ := fun h => pj_j46 (N := N) q2.2.1 h a1 a2 a3 a4
  simp only [pz_le, pz_lt, Int32.reduceToInt]
  by_cases p : (0 ≤ a1.toInt ∧ a1.toInt ≤ 3) ∧ (0 ≤ a2.toInt ∧ a2.toInt < S) ∧ (1 ≤ a3.toInt ∧ a3.toInt ≤ 150) ∧ (a1 = 3 → 0 ≤ a4.toInt ∧ a4.toInt ≤ 11)
  · obtain ⟨p1, p2, p3, p4⟩ := p
    have eX : (if 0 ≤ a1.toInt ∧ a1.toInt ≤ 3 then if 0 ≤ a2.toInt ∧ a2.toInt < (S : Int) then if 1 ≤ a3.toInt ∧ a3.toInt ≤ 150 then if a1 = 3 then if 0 ≤ a4.toInt ∧ a4.toInt ≤ 11 then fX8_act_j48 N x a1 a2 a3 a4 else some (-1, x) else fX8_act_j48 N x a1 a2 a3 a4 else some (-1, x) else some (-1, x) else some (-1, x)) = fX8_act_j48 N x a1 a2 a3 a4 := by
      rw [if_pos p1, if_pos p2, if_pos p3]
      by_cases q : a1 = 3
      · rw [if_pos q, if_pos (p4 q)]
      · rw [if_neg q]
    have eM : (if a1.toInt < 0 then some (-1, m) else if 3 < a1.toInt then some (-1, m) else if 0 ≤ a2.toInt ∧ a2.toInt < (S : Int) then if a3.toInt < 1 then some (-1, m) else if 150 < a3.toInt then some (-1, m) else if a1 = 3 then if a4.toInt < 0 then some (-1, m) else if 12 ≤ a4.toInt then some (-1, m) else fM9_act_j46 N m a1 a2 a3 a4 else fM9_act_j46 N m a1 a2 a3 a4 else some (-1, m)) = fM9_act_j46 N m a1 a2 a3 a4 := by
      rw [if_neg (by omega), if_neg (by omega), if_pos p2, if_neg (by omega), if_neg (by omega)]
      by_cases q : a1 = 3
      · have := p4 q
        rw [if_pos q, if_neg (by omega), if_neg (by omega)]
      · rw [if_neg q]
    rw [eX, eM]
    rcases Nat.lt_or_ge n 100 with h | h
    · rw [hxe h, hme h]
      obtain ⟨s, hs, rfl⟩ := pz_of p2.1
      obtain ⟨dd, hdd, rfl⟩ := pz_of (show 0 ≤ a3.toInt by omega)
      rw [pz_nI hs] at p2
      rw [pz_nI hdd] at p3
      obtain ⟨r, x', m', g1, g2, g3, g4, g5⟩ := pj_act (N := N) (w := a1) (b := if a1 = 3 then a4 else -1) hN hE h (show s < S by omega) (show 1 ≤ dd by omega) (show dd ≤ 150 by omega) ⟨p1.1, by omega⟩ (fun q => by rw [if_pos q]; have := p4 q; omega)
      refine ⟨r, x', m', g1, g2, ?_⟩
      rcases g3 with z | z
      · exact rb_I_act hM g4 g5 z
      · exact rb_I_act hM g4 g5 z
    · have h2 : n = 100 := by have := q2.2.2; omega
      rw [hx48 h2, hm46 h2]
      exact ⟨-1, x, m, rfl, rfl, hM⟩
  · refine ⟨-1, x, m, ?_, ?_, hM⟩
    · repeat' split
      all_goals first | rfl | (exfalso; apply p; refine ⟨by omega, by omega, by omega, fun q => ?_⟩; first | omega | (exact absurd q (by assumption)))
    · repeat' split
      all_goals first | rfl | (exfalso; apply p; refine ⟨by omega, by omega, by omega, fun q => ?_⟩; first | omega | (exact absurd q (by assumption)))
